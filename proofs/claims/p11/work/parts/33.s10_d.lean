theorem zwX12_bounded_0 : ((cX12_bounded.data.toList.drop 0).take 19).map UInt8.toNat = [30, 184, 1, 147, 20, 1, 151, 148, 158, 0, 9, 20, 1, 140, 167, 0, 4, 30, 173] := by decide +kernel
theorem dX12_bounded_0 : decode cX12_bounded 0 = .ok (.lload_n 0, 1) := z_o30 (z_wat (q := 0) (j := 0) zwX12_bounded_0 rfl)
theorem dX12_bounded_1 : decode cX12_bounded 1 = .ok (.invokestatic 403, 3) := z_o184 (z_wat (q := 0) (j := 1) zwX12_bounded_0 rfl) (z_wat (q := 0) (j := 2) zwX12_bounded_0 rfl) (z_wat (q := 0) (j := 3) zwX12_bounded_0 rfl) rfl
theorem dX12_bounded_4 : decode cX12_bounded 4 = .ok (.ldc2_w 407, 3) := z_o20 (z_wat (q := 0) (j := 4) zwX12_bounded_0 rfl) (z_wat (q := 0) (j := 5) zwX12_bounded_0 rfl) (z_wat (q := 0) (j := 6) zwX12_bounded_0 rfl) rfl
theorem dX12_bounded_7 : decode cX12_bounded 7 = .ok (.lcmp, 1) := z_o148 (z_wat (q := 0) (j := 7) zwX12_bounded_0 rfl)
theorem dX12_bounded_8 : decode cX12_bounded 8 = .ok (.ifCond .le 9, 3) := z_o158 (z_wat (q := 0) (j := 8) zwX12_bounded_0 rfl) (z_wat (q := 0) (j := 9) zwX12_bounded_0 rfl) (z_wat (q := 0) (j := 10) zwX12_bounded_0 rfl) rfl
theorem dX12_bounded_11 : decode cX12_bounded 11 = .ok (.ldc2_w 396, 3) := z_o20 (z_wat (q := 0) (j := 11) zwX12_bounded_0 rfl) (z_wat (q := 0) (j := 12) zwX12_bounded_0 rfl) (z_wat (q := 0) (j := 13) zwX12_bounded_0 rfl) rfl
theorem dX12_bounded_14 : decode cX12_bounded 14 = .ok (.goto 4, 3) := z_o167 (z_wat (q := 0) (j := 14) zwX12_bounded_0 rfl) (z_wat (q := 0) (j := 15) zwX12_bounded_0 rfl) (z_wat (q := 0) (j := 16) zwX12_bounded_0 rfl) rfl
theorem dX12_bounded_17 : decode cX12_bounded 17 = .ok (.lload_n 0, 1) := z_o30 (z_wat (q := 0) (j := 17) zwX12_bounded_0 rfl)
theorem dX12_bounded_18 : decode cX12_bounded 18 = .ok (.lreturn, 1) := z_o173 (z_wat (q := 0) (j := 18) zwX12_bounded_0 rfl)
theorem zwX12_made_0 : ((cX12_made.data.toList.drop 0).take 34).map UInt8.toNat = [26, 170, 0, 0, 0, 0, 0, 236, 0, 0, 0, 1, 0, 0, 0, 12, 0, 0, 0, 63, 0, 0, 0, 78, 0, 0, 0, 93, 0, 0, 0, 108, 0, 0] := by decide +kernel
theorem dX12_made_0 : decode cX12_made 0 = .ok (.iload_n 0, 1) := z_o26 (z_wat (q := 0) (j := 0) zwX12_made_0 rfl)
theorem dX12_made_1 : decode cX12_made 1 = .ok (.tableswitch 236 1 12 #[63, 78, 93, 108, 123, 138, 153, 160, 167, 199, 236, 215], 63) := by decide +kernel
theorem zwX12_made_64 : ((cX12_made.data.toList.drop 64).take 34).map UInt8.toNat = [31, 33, 148, 156, 0, 7, 4, 167, 0, 4, 3, 184, 1, 153, 173, 31, 33, 148, 157, 0, 7, 4, 167, 0, 4, 3, 184, 1, 153, 173, 31, 33, 148, 154] := by decide +kernel
theorem dX12_made_64 : decode cX12_made 64 = .ok (.lload_n 1, 1) := z_o31 (z_wat (q := 64) (j := 0) zwX12_made_64 rfl)
theorem dX12_made_65 : decode cX12_made 65 = .ok (.lload_n 3, 1) := z_o33 (z_wat (q := 64) (j := 1) zwX12_made_64 rfl)
theorem dX12_made_66 : decode cX12_made 66 = .ok (.lcmp, 1) := z_o148 (z_wat (q := 64) (j := 2) zwX12_made_64 rfl)
theorem dX12_made_67 : decode cX12_made 67 = .ok (.ifCond .ge 7, 3) := z_o156 (z_wat (q := 64) (j := 3) zwX12_made_64 rfl) (z_wat (q := 64) (j := 4) zwX12_made_64 rfl) (z_wat (q := 64) (j := 5) zwX12_made_64 rfl) rfl
theorem dX12_made_70 : decode cX12_made 70 = .ok (.iconst 1, 1) := z_o4 (z_wat (q := 64) (j := 6) zwX12_made_64 rfl)
theorem dX12_made_71 : decode cX12_made 71 = .ok (.goto 4, 3) := z_o167 (z_wat (q := 64) (j := 7) zwX12_made_64 rfl) (z_wat (q := 64) (j := 8) zwX12_made_64 rfl) (z_wat (q := 64) (j := 9) zwX12_made_64 rfl) rfl
theorem dX12_made_74 : decode cX12_made 74 = .ok (.iconst 0, 1) := z_o3 (z_wat (q := 64) (j := 10) zwX12_made_64 rfl)
theorem dX12_made_75 : decode cX12_made 75 = .ok (.invokestatic 409, 3) := z_o184 (z_wat (q := 64) (j := 11) zwX12_made_64 rfl) (z_wat (q := 64) (j := 12) zwX12_made_64 rfl) (z_wat (q := 64) (j := 13) zwX12_made_64 rfl) rfl
theorem dX12_made_78 : decode cX12_made 78 = .ok (.lreturn, 1) := z_o173 (z_wat (q := 64) (j := 14) zwX12_made_64 rfl)
theorem dX12_made_79 : decode cX12_made 79 = .ok (.lload_n 1, 1) := z_o31 (z_wat (q := 64) (j := 15) zwX12_made_64 rfl)
theorem dX12_made_80 : decode cX12_made 80 = .ok (.lload_n 3, 1) := z_o33 (z_wat (q := 64) (j := 16) zwX12_made_64 rfl)
theorem dX12_made_81 : decode cX12_made 81 = .ok (.lcmp, 1) := z_o148 (z_wat (q := 64) (j := 17) zwX12_made_64 rfl)
theorem dX12_made_82 : decode cX12_made 82 = .ok (.ifCond .gt 7, 3) := z_o157 (z_wat (q := 64) (j := 18) zwX12_made_64 rfl) (z_wat (q := 64) (j := 19) zwX12_made_64 rfl) (z_wat (q := 64) (j := 20) zwX12_made_64 rfl) rfl
theorem dX12_made_85 : decode cX12_made 85 = .ok (.iconst 1, 1) := z_o4 (z_wat (q := 64) (j := 21) zwX12_made_64 rfl)
theorem dX12_made_86 : decode cX12_made 86 = .ok (.goto 4, 3) := z_o167 (z_wat (q := 64) (j := 22) zwX12_made_64 rfl) (z_wat (q := 64) (j := 23) zwX12_made_64 rfl) (z_wat (q := 64) (j := 24) zwX12_made_64 rfl) rfl
theorem dX12_made_89 : decode cX12_made 89 = .ok (.iconst 0, 1) := z_o3 (z_wat (q := 64) (j := 25) zwX12_made_64 rfl)
theorem dX12_made_90 : decode cX12_made 90 = .ok (.invokestatic 409, 3) := z_o184 (z_wat (q := 64) (j := 26) zwX12_made_64 rfl) (z_wat (q := 64) (j := 27) zwX12_made_64 rfl) (z_wat (q := 64) (j := 28) zwX12_made_64 rfl) rfl
theorem dX12_made_93 : decode cX12_made 93 = .ok (.lreturn, 1) := z_o173 (z_wat (q := 64) (j := 29) zwX12_made_64 rfl)
theorem dX12_made_94 : decode cX12_made 94 = .ok (.lload_n 1, 1) := z_o31 (z_wat (q := 64) (j := 30) zwX12_made_64 rfl)
theorem dX12_made_95 : decode cX12_made 95 = .ok (.lload_n 3, 1) := z_o33 (z_wat (q := 64) (j := 31) zwX12_made_64 rfl)
theorem zwX12_made_96 : ((cX12_made.data.toList.drop 96).take 34).map UInt8.toNat = [148, 154, 0, 7, 4, 167, 0, 4, 3, 184, 1, 153, 173, 31, 33, 148, 153, 0, 7, 4, 167, 0, 4, 3, 184, 1, 153, 173, 31, 33, 148, 155, 0, 7] := by decide +kernel
theorem dX12_made_96 : decode cX12_made 96 = .ok (.lcmp, 1) := z_o148 (z_wat (q := 96) (j := 0) zwX12_made_96 rfl)
theorem dX12_made_97 : decode cX12_made 97 = .ok (.ifCond .ne 7, 3) := z_o154 (z_wat (q := 96) (j := 1) zwX12_made_96 rfl) (z_wat (q := 96) (j := 2) zwX12_made_96 rfl) (z_wat (q := 96) (j := 3) zwX12_made_96 rfl) rfl
theorem dX12_made_100 : decode cX12_made 100 = .ok (.iconst 1, 1) := z_o4 (z_wat (q := 96) (j := 4) zwX12_made_96 rfl)
theorem dX12_made_101 : decode cX12_made 101 = .ok (.goto 4, 3) := z_o167 (z_wat (q := 96) (j := 5) zwX12_made_96 rfl) (z_wat (q := 96) (j := 6) zwX12_made_96 rfl) (z_wat (q := 96) (j := 7) zwX12_made_96 rfl) rfl
theorem dX12_made_104 : decode cX12_made 104 = .ok (.iconst 0, 1) := z_o3 (z_wat (q := 96) (j := 8) zwX12_made_96 rfl)
theorem dX12_made_105 : decode cX12_made 105 = .ok (.invokestatic 409, 3) := z_o184 (z_wat (q := 96) (j := 9) zwX12_made_96 rfl) (z_wat (q := 96) (j := 10) zwX12_made_96 rfl) (z_wat (q := 96) (j := 11) zwX12_made_96 rfl) rfl
theorem dX12_made_108 : decode cX12_made 108 = .ok (.lreturn, 1) := z_o173 (z_wat (q := 96) (j := 12) zwX12_made_96 rfl)
theorem dX12_made_109 : decode cX12_made 109 = .ok (.lload_n 1, 1) := z_o31 (z_wat (q := 96) (j := 13) zwX12_made_96 rfl)
theorem dX12_made_110 : decode cX12_made 110 = .ok (.lload_n 3, 1) := z_o33 (z_wat (q := 96) (j := 14) zwX12_made_96 rfl)
theorem dX12_made_111 : decode cX12_made 111 = .ok (.lcmp, 1) := z_o148 (z_wat (q := 96) (j := 15) zwX12_made_96 rfl)
theorem dX12_made_112 : decode cX12_made 112 = .ok (.ifCond .eq 7, 3) := z_o153 (z_wat (q := 96) (j := 16) zwX12_made_96 rfl) (z_wat (q := 96) (j := 17) zwX12_made_96 rfl) (z_wat (q := 96) (j := 18) zwX12_made_96 rfl) rfl
theorem dX12_made_115 : decode cX12_made 115 = .ok (.iconst 1, 1) := z_o4 (z_wat (q := 96) (j := 19) zwX12_made_96 rfl)
theorem dX12_made_116 : decode cX12_made 116 = .ok (.goto 4, 3) := z_o167 (z_wat (q := 96) (j := 20) zwX12_made_96 rfl) (z_wat (q := 96) (j := 21) zwX12_made_96 rfl) (z_wat (q := 96) (j := 22) zwX12_made_96 rfl) rfl
theorem dX12_made_119 : decode cX12_made 119 = .ok (.iconst 0, 1) := z_o3 (z_wat (q := 96) (j := 23) zwX12_made_96 rfl)
theorem dX12_made_120 : decode cX12_made 120 = .ok (.invokestatic 409, 3) := z_o184 (z_wat (q := 96) (j := 24) zwX12_made_96 rfl) (z_wat (q := 96) (j := 25) zwX12_made_96 rfl) (z_wat (q := 96) (j := 26) zwX12_made_96 rfl) rfl
theorem dX12_made_123 : decode cX12_made 123 = .ok (.lreturn, 1) := z_o173 (z_wat (q := 96) (j := 27) zwX12_made_96 rfl)
theorem dX12_made_124 : decode cX12_made 124 = .ok (.lload_n 1, 1) := z_o31 (z_wat (q := 96) (j := 28) zwX12_made_96 rfl)
theorem dX12_made_125 : decode cX12_made 125 = .ok (.lload_n 3, 1) := z_o33 (z_wat (q := 96) (j := 29) zwX12_made_96 rfl)
theorem dX12_made_126 : decode cX12_made 126 = .ok (.lcmp, 1) := z_o148 (z_wat (q := 96) (j := 30) zwX12_made_96 rfl)
theorem dX12_made_127 : decode cX12_made 127 = .ok (.ifCond .lt 7, 3) := z_o155 (z_wat (q := 96) (j := 31) zwX12_made_96 rfl) (z_wat (q := 96) (j := 32) zwX12_made_96 rfl) (z_wat (q := 96) (j := 33) zwX12_made_96 rfl) rfl
theorem zwX12_made_128 : ((cX12_made.data.toList.drop 128).take 34).map UInt8.toNat = [0, 7, 4, 167, 0, 4, 3, 184, 1, 153, 173, 31, 33, 148, 158, 0, 7, 4, 167, 0, 4, 3, 184, 1, 153, 173, 31, 33, 97, 184, 1, 157, 173, 31] := by decide +kernel
theorem dX12_made_130 : decode cX12_made 130 = .ok (.iconst 1, 1) := z_o4 (z_wat (q := 128) (j := 2) zwX12_made_128 rfl)
theorem dX12_made_131 : decode cX12_made 131 = .ok (.goto 4, 3) := z_o167 (z_wat (q := 128) (j := 3) zwX12_made_128 rfl) (z_wat (q := 128) (j := 4) zwX12_made_128 rfl) (z_wat (q := 128) (j := 5) zwX12_made_128 rfl) rfl
theorem dX12_made_134 : decode cX12_made 134 = .ok (.iconst 0, 1) := z_o3 (z_wat (q := 128) (j := 6) zwX12_made_128 rfl)
theorem dX12_made_135 : decode cX12_made 135 = .ok (.invokestatic 409, 3) := z_o184 (z_wat (q := 128) (j := 7) zwX12_made_128 rfl) (z_wat (q := 128) (j := 8) zwX12_made_128 rfl) (z_wat (q := 128) (j := 9) zwX12_made_128 rfl) rfl
theorem dX12_made_138 : decode cX12_made 138 = .ok (.lreturn, 1) := z_o173 (z_wat (q := 128) (j := 10) zwX12_made_128 rfl)
theorem dX12_made_139 : decode cX12_made 139 = .ok (.lload_n 1, 1) := z_o31 (z_wat (q := 128) (j := 11) zwX12_made_128 rfl)
theorem dX12_made_140 : decode cX12_made 140 = .ok (.lload_n 3, 1) := z_o33 (z_wat (q := 128) (j := 12) zwX12_made_128 rfl)
theorem dX12_made_141 : decode cX12_made 141 = .ok (.lcmp, 1) := z_o148 (z_wat (q := 128) (j := 13) zwX12_made_128 rfl)
theorem dX12_made_142 : decode cX12_made 142 = .ok (.ifCond .le 7, 3) := z_o158 (z_wat (q := 128) (j := 14) zwX12_made_128 rfl) (z_wat (q := 128) (j := 15) zwX12_made_128 rfl) (z_wat (q := 128) (j := 16) zwX12_made_128 rfl) rfl
theorem dX12_made_145 : decode cX12_made 145 = .ok (.iconst 1, 1) := z_o4 (z_wat (q := 128) (j := 17) zwX12_made_128 rfl)
theorem dX12_made_146 : decode cX12_made 146 = .ok (.goto 4, 3) := z_o167 (z_wat (q := 128) (j := 18) zwX12_made_128 rfl) (z_wat (q := 128) (j := 19) zwX12_made_128 rfl) (z_wat (q := 128) (j := 20) zwX12_made_128 rfl) rfl
theorem dX12_made_149 : decode cX12_made 149 = .ok (.iconst 0, 1) := z_o3 (z_wat (q := 128) (j := 21) zwX12_made_128 rfl)
theorem dX12_made_150 : decode cX12_made 150 = .ok (.invokestatic 409, 3) := z_o184 (z_wat (q := 128) (j := 22) zwX12_made_128 rfl) (z_wat (q := 128) (j := 23) zwX12_made_128 rfl) (z_wat (q := 128) (j := 24) zwX12_made_128 rfl) rfl
theorem dX12_made_153 : decode cX12_made 153 = .ok (.lreturn, 1) := z_o173 (z_wat (q := 128) (j := 25) zwX12_made_128 rfl)
theorem dX12_made_154 : decode cX12_made 154 = .ok (.lload_n 1, 1) := z_o31 (z_wat (q := 128) (j := 26) zwX12_made_128 rfl)
theorem dX12_made_155 : decode cX12_made 155 = .ok (.lload_n 3, 1) := z_o33 (z_wat (q := 128) (j := 27) zwX12_made_128 rfl)
theorem dX12_made_156 : decode cX12_made 156 = .ok (.ladd, 1) := z_o97 (z_wat (q := 128) (j := 28) zwX12_made_128 rfl)
theorem dX12_made_157 : decode cX12_made 157 = .ok (.invokestatic 413, 3) := z_o184 (z_wat (q := 128) (j := 29) zwX12_made_128 rfl) (z_wat (q := 128) (j := 30) zwX12_made_128 rfl) (z_wat (q := 128) (j := 31) zwX12_made_128 rfl) rfl
theorem zwX12_made_160 : ((cX12_made.data.toList.drop 160).take 34).map UInt8.toNat = [173, 31, 33, 101, 184, 1, 157, 173, 31, 9, 148, 153, 0, 25, 33, 184, 1, 147, 20, 1, 151, 31, 184, 1, 147, 109, 148, 158, 0, 9, 20, 1, 140, 167] := by decide +kernel
theorem dX12_made_160 : decode cX12_made 160 = .ok (.lreturn, 1) := z_o173 (z_wat (q := 160) (j := 0) zwX12_made_160 rfl)
theorem dX12_made_161 : decode cX12_made 161 = .ok (.lload_n 1, 1) := z_o31 (z_wat (q := 160) (j := 1) zwX12_made_160 rfl)
theorem dX12_made_162 : decode cX12_made 162 = .ok (.lload_n 3, 1) := z_o33 (z_wat (q := 160) (j := 2) zwX12_made_160 rfl)
theorem dX12_made_163 : decode cX12_made 163 = .ok (.lsub, 1) := z_o101 (z_wat (q := 160) (j := 3) zwX12_made_160 rfl)
theorem dX12_made_164 : decode cX12_made 164 = .ok (.invokestatic 413, 3) := z_o184 (z_wat (q := 160) (j := 4) zwX12_made_160 rfl) (z_wat (q := 160) (j := 5) zwX12_made_160 rfl) (z_wat (q := 160) (j := 6) zwX12_made_160 rfl) rfl
theorem dX12_made_167 : decode cX12_made 167 = .ok (.lreturn, 1) := z_o173 (z_wat (q := 160) (j := 7) zwX12_made_160 rfl)
theorem dX12_made_168 : decode cX12_made 168 = .ok (.lload_n 1, 1) := z_o31 (z_wat (q := 160) (j := 8) zwX12_made_160 rfl)
theorem dX12_made_169 : decode cX12_made 169 = .ok (.lconst 0, 1) := z_o9 (z_wat (q := 160) (j := 9) zwX12_made_160 rfl)
theorem dX12_made_170 : decode cX12_made 170 = .ok (.lcmp, 1) := z_o148 (z_wat (q := 160) (j := 10) zwX12_made_160 rfl)
theorem dX12_made_171 : decode cX12_made 171 = .ok (.ifCond .eq 25, 3) := z_o153 (z_wat (q := 160) (j := 11) zwX12_made_160 rfl) (z_wat (q := 160) (j := 12) zwX12_made_160 rfl) (z_wat (q := 160) (j := 13) zwX12_made_160 rfl) rfl
theorem dX12_made_174 : decode cX12_made 174 = .ok (.lload_n 3, 1) := z_o33 (z_wat (q := 160) (j := 14) zwX12_made_160 rfl)
theorem dX12_made_175 : decode cX12_made 175 = .ok (.invokestatic 403, 3) := z_o184 (z_wat (q := 160) (j := 15) zwX12_made_160 rfl) (z_wat (q := 160) (j := 16) zwX12_made_160 rfl) (z_wat (q := 160) (j := 17) zwX12_made_160 rfl) rfl
theorem dX12_made_178 : decode cX12_made 178 = .ok (.ldc2_w 407, 3) := z_o20 (z_wat (q := 160) (j := 18) zwX12_made_160 rfl) (z_wat (q := 160) (j := 19) zwX12_made_160 rfl) (z_wat (q := 160) (j := 20) zwX12_made_160 rfl) rfl
theorem dX12_made_181 : decode cX12_made 181 = .ok (.lload_n 1, 1) := z_o31 (z_wat (q := 160) (j := 21) zwX12_made_160 rfl)
theorem dX12_made_182 : decode cX12_made 182 = .ok (.invokestatic 403, 3) := z_o184 (z_wat (q := 160) (j := 22) zwX12_made_160 rfl) (z_wat (q := 160) (j := 23) zwX12_made_160 rfl) (z_wat (q := 160) (j := 24) zwX12_made_160 rfl) rfl
theorem dX12_made_185 : decode cX12_made 185 = .ok (.ldiv, 1) := z_o109 (z_wat (q := 160) (j := 25) zwX12_made_160 rfl)
theorem dX12_made_186 : decode cX12_made 186 = .ok (.lcmp, 1) := z_o148 (z_wat (q := 160) (j := 26) zwX12_made_160 rfl)
theorem dX12_made_187 : decode cX12_made 187 = .ok (.ifCond .le 9, 3) := z_o158 (z_wat (q := 160) (j := 27) zwX12_made_160 rfl) (z_wat (q := 160) (j := 28) zwX12_made_160 rfl) (z_wat (q := 160) (j := 29) zwX12_made_160 rfl) rfl
theorem dX12_made_190 : decode cX12_made 190 = .ok (.ldc2_w 396, 3) := z_o20 (z_wat (q := 160) (j := 30) zwX12_made_160 rfl) (z_wat (q := 160) (j := 31) zwX12_made_160 rfl) (z_wat (q := 160) (j := 32) zwX12_made_160 rfl) rfl
theorem zwX12_made_192 : ((cX12_made.data.toList.drop 192).take 34).map UInt8.toNat = [140, 167, 0, 6, 31, 33, 105, 173, 33, 9, 148, 154, 0, 9, 20, 1, 140, 167, 0, 6, 31, 33, 109, 173, 31, 9, 148, 153, 0, 13, 33, 9, 148, 153] := by decide +kernel
theorem dX12_made_193 : decode cX12_made 193 = .ok (.goto 6, 3) := z_o167 (z_wat (q := 192) (j := 1) zwX12_made_192 rfl) (z_wat (q := 192) (j := 2) zwX12_made_192 rfl) (z_wat (q := 192) (j := 3) zwX12_made_192 rfl) rfl
theorem dX12_made_196 : decode cX12_made 196 = .ok (.lload_n 1, 1) := z_o31 (z_wat (q := 192) (j := 4) zwX12_made_192 rfl)
theorem dX12_made_197 : decode cX12_made 197 = .ok (.lload_n 3, 1) := z_o33 (z_wat (q := 192) (j := 5) zwX12_made_192 rfl)
theorem dX12_made_198 : decode cX12_made 198 = .ok (.lmul, 1) := z_o105 (z_wat (q := 192) (j := 6) zwX12_made_192 rfl)
theorem dX12_made_199 : decode cX12_made 199 = .ok (.lreturn, 1) := z_o173 (z_wat (q := 192) (j := 7) zwX12_made_192 rfl)
theorem dX12_made_200 : decode cX12_made 200 = .ok (.lload_n 3, 1) := z_o33 (z_wat (q := 192) (j := 8) zwX12_made_192 rfl)
theorem dX12_made_201 : decode cX12_made 201 = .ok (.lconst 0, 1) := z_o9 (z_wat (q := 192) (j := 9) zwX12_made_192 rfl)
theorem dX12_made_202 : decode cX12_made 202 = .ok (.lcmp, 1) := z_o148 (z_wat (q := 192) (j := 10) zwX12_made_192 rfl)
theorem dX12_made_203 : decode cX12_made 203 = .ok (.ifCond .ne 9, 3) := z_o154 (z_wat (q := 192) (j := 11) zwX12_made_192 rfl) (z_wat (q := 192) (j := 12) zwX12_made_192 rfl) (z_wat (q := 192) (j := 13) zwX12_made_192 rfl) rfl
theorem dX12_made_206 : decode cX12_made 206 = .ok (.ldc2_w 396, 3) := z_o20 (z_wat (q := 192) (j := 14) zwX12_made_192 rfl) (z_wat (q := 192) (j := 15) zwX12_made_192 rfl) (z_wat (q := 192) (j := 16) zwX12_made_192 rfl) rfl
theorem dX12_made_209 : decode cX12_made 209 = .ok (.goto 6, 3) := z_o167 (z_wat (q := 192) (j := 17) zwX12_made_192 rfl) (z_wat (q := 192) (j := 18) zwX12_made_192 rfl) (z_wat (q := 192) (j := 19) zwX12_made_192 rfl) rfl
theorem dX12_made_212 : decode cX12_made 212 = .ok (.lload_n 1, 1) := z_o31 (z_wat (q := 192) (j := 20) zwX12_made_192 rfl)
theorem dX12_made_213 : decode cX12_made 213 = .ok (.lload_n 3, 1) := z_o33 (z_wat (q := 192) (j := 21) zwX12_made_192 rfl)
theorem dX12_made_214 : decode cX12_made 214 = .ok (.ldiv, 1) := z_o109 (z_wat (q := 192) (j := 22) zwX12_made_192 rfl)
theorem dX12_made_215 : decode cX12_made 215 = .ok (.lreturn, 1) := z_o173 (z_wat (q := 192) (j := 23) zwX12_made_192 rfl)
theorem dX12_made_216 : decode cX12_made 216 = .ok (.lload_n 1, 1) := z_o31 (z_wat (q := 192) (j := 24) zwX12_made_192 rfl)
theorem dX12_made_217 : decode cX12_made 217 = .ok (.lconst 0, 1) := z_o9 (z_wat (q := 192) (j := 25) zwX12_made_192 rfl)
theorem dX12_made_218 : decode cX12_made 218 = .ok (.lcmp, 1) := z_o148 (z_wat (q := 192) (j := 26) zwX12_made_192 rfl)
theorem dX12_made_219 : decode cX12_made 219 = .ok (.ifCond .eq 13, 3) := z_o153 (z_wat (q := 192) (j := 27) zwX12_made_192 rfl) (z_wat (q := 192) (j := 28) zwX12_made_192 rfl) (z_wat (q := 192) (j := 29) zwX12_made_192 rfl) rfl
theorem dX12_made_222 : decode cX12_made 222 = .ok (.lload_n 3, 1) := z_o33 (z_wat (q := 192) (j := 30) zwX12_made_192 rfl)
theorem dX12_made_223 : decode cX12_made 223 = .ok (.lconst 0, 1) := z_o9 (z_wat (q := 192) (j := 31) zwX12_made_192 rfl)
theorem zwX12_made_224 : ((cX12_made.data.toList.drop 224).take 34).map UInt8.toNat = [148, 153, 0, 7, 4, 167, 0, 4, 3, 184, 1, 153, 173, 31, 9, 148, 154, 0, 9, 33, 9, 148, 153, 0, 7, 4, 167, 0, 4, 3, 184, 1, 153, 173] := by decide +kernel
theorem dX12_made_224 : decode cX12_made 224 = .ok (.lcmp, 1) := z_o148 (z_wat (q := 224) (j := 0) zwX12_made_224 rfl)
theorem dX12_made_225 : decode cX12_made 225 = .ok (.ifCond .eq 7, 3) := z_o153 (z_wat (q := 224) (j := 1) zwX12_made_224 rfl) (z_wat (q := 224) (j := 2) zwX12_made_224 rfl) (z_wat (q := 224) (j := 3) zwX12_made_224 rfl) rfl
theorem dX12_made_228 : decode cX12_made 228 = .ok (.iconst 1, 1) := z_o4 (z_wat (q := 224) (j := 4) zwX12_made_224 rfl)
theorem dX12_made_229 : decode cX12_made 229 = .ok (.goto 4, 3) := z_o167 (z_wat (q := 224) (j := 5) zwX12_made_224 rfl) (z_wat (q := 224) (j := 6) zwX12_made_224 rfl) (z_wat (q := 224) (j := 7) zwX12_made_224 rfl) rfl
theorem dX12_made_232 : decode cX12_made 232 = .ok (.iconst 0, 1) := z_o3 (z_wat (q := 224) (j := 8) zwX12_made_224 rfl)
theorem dX12_made_233 : decode cX12_made 233 = .ok (.invokestatic 409, 3) := z_o184 (z_wat (q := 224) (j := 9) zwX12_made_224 rfl) (z_wat (q := 224) (j := 10) zwX12_made_224 rfl) (z_wat (q := 224) (j := 11) zwX12_made_224 rfl) rfl
theorem dX12_made_236 : decode cX12_made 236 = .ok (.lreturn, 1) := z_o173 (z_wat (q := 224) (j := 12) zwX12_made_224 rfl)
theorem dX12_made_237 : decode cX12_made 237 = .ok (.lload_n 1, 1) := z_o31 (z_wat (q := 224) (j := 13) zwX12_made_224 rfl)
theorem dX12_made_238 : decode cX12_made 238 = .ok (.lconst 0, 1) := z_o9 (z_wat (q := 224) (j := 14) zwX12_made_224 rfl)
theorem dX12_made_239 : decode cX12_made 239 = .ok (.lcmp, 1) := z_o148 (z_wat (q := 224) (j := 15) zwX12_made_224 rfl)
theorem dX12_made_240 : decode cX12_made 240 = .ok (.ifCond .ne 9, 3) := z_o154 (z_wat (q := 224) (j := 16) zwX12_made_224 rfl) (z_wat (q := 224) (j := 17) zwX12_made_224 rfl) (z_wat (q := 224) (j := 18) zwX12_made_224 rfl) rfl
theorem dX12_made_243 : decode cX12_made 243 = .ok (.lload_n 3, 1) := z_o33 (z_wat (q := 224) (j := 19) zwX12_made_224 rfl)
theorem dX12_made_244 : decode cX12_made 244 = .ok (.lconst 0, 1) := z_o9 (z_wat (q := 224) (j := 20) zwX12_made_224 rfl)
theorem dX12_made_245 : decode cX12_made 245 = .ok (.lcmp, 1) := z_o148 (z_wat (q := 224) (j := 21) zwX12_made_224 rfl)
theorem dX12_made_246 : decode cX12_made 246 = .ok (.ifCond .eq 7, 3) := z_o153 (z_wat (q := 224) (j := 22) zwX12_made_224 rfl) (z_wat (q := 224) (j := 23) zwX12_made_224 rfl) (z_wat (q := 224) (j := 24) zwX12_made_224 rfl) rfl
theorem dX12_made_249 : decode cX12_made 249 = .ok (.iconst 1, 1) := z_o4 (z_wat (q := 224) (j := 25) zwX12_made_224 rfl)
theorem dX12_made_250 : decode cX12_made 250 = .ok (.goto 4, 3) := z_o167 (z_wat (q := 224) (j := 26) zwX12_made_224 rfl) (z_wat (q := 224) (j := 27) zwX12_made_224 rfl) (z_wat (q := 224) (j := 28) zwX12_made_224 rfl) rfl
theorem dX12_made_253 : decode cX12_made 253 = .ok (.iconst 0, 1) := z_o3 (z_wat (q := 224) (j := 29) zwX12_made_224 rfl)
theorem dX12_made_254 : decode cX12_made 254 = .ok (.invokestatic 409, 3) := z_o184 (z_wat (q := 224) (j := 30) zwX12_made_224 rfl) (z_wat (q := 224) (j := 31) zwX12_made_224 rfl) (z_wat (q := 224) (j := 32) zwX12_made_224 rfl) rfl
theorem zwX12_made_256 : ((cX12_made.data.toList.drop 256).take 2).map UInt8.toNat = [153, 173] := by decide +kernel
theorem dX12_made_257 : decode cX12_made 257 = .ok (.lreturn, 1) := z_o173 (z_wat (q := 256) (j := 1) zwX12_made_256 rfl)
theorem zwX3_holdsTrue_0 : ((cX3_holdsTrue.data.toList.drop 0).take 34).map UInt8.toNat = [26, 171, 0, 0, 0, 0, 0, 163, 0, 0, 0, 7, 0, 0, 0, 10, 0, 0, 0, 67, 0, 0, 0, 20, 0, 0, 0, 85, 0, 0, 0, 40, 0, 0] := by decide +kernel
theorem dX3_holdsTrue_0 : decode cX3_holdsTrue 0 = .ok (.iload_n 0, 1) := z_o26 (z_wat (q := 0) (j := 0) zwX3_holdsTrue_0 rfl)
theorem dX3_holdsTrue_1 : decode cX3_holdsTrue 1 = .ok (.lookupswitch 163 #[(10, 67), (20, 85), (40, 103), (41, 115), (42, 127), (43, 139), (44, 151)], 67) := by decide +kernel
theorem zwX3_holdsTrue_64 : ((cX3_holdsTrue.data.toList.drop 64).take 34).map UInt8.toNat = [0, 0, 0, 151, 31, 9, 148, 154, 0, 9, 33, 9, 148, 153, 0, 7, 4, 167, 0, 4, 3, 172, 31, 9, 148, 153, 0, 13, 33, 9, 148, 153, 0, 7] := by decide +kernel
theorem dX3_holdsTrue_68 : decode cX3_holdsTrue 68 = .ok (.lload_n 1, 1) := z_o31 (z_wat (q := 64) (j := 4) zwX3_holdsTrue_64 rfl)
theorem dX3_holdsTrue_69 : decode cX3_holdsTrue 69 = .ok (.lconst 0, 1) := z_o9 (z_wat (q := 64) (j := 5) zwX3_holdsTrue_64 rfl)
theorem dX3_holdsTrue_70 : decode cX3_holdsTrue 70 = .ok (.lcmp, 1) := z_o148 (z_wat (q := 64) (j := 6) zwX3_holdsTrue_64 rfl)
theorem dX3_holdsTrue_71 : decode cX3_holdsTrue 71 = .ok (.ifCond .ne 9, 3) := z_o154 (z_wat (q := 64) (j := 7) zwX3_holdsTrue_64 rfl) (z_wat (q := 64) (j := 8) zwX3_holdsTrue_64 rfl) (z_wat (q := 64) (j := 9) zwX3_holdsTrue_64 rfl) rfl
theorem dX3_holdsTrue_74 : decode cX3_holdsTrue 74 = .ok (.lload_n 3, 1) := z_o33 (z_wat (q := 64) (j := 10) zwX3_holdsTrue_64 rfl)
theorem dX3_holdsTrue_75 : decode cX3_holdsTrue 75 = .ok (.lconst 0, 1) := z_o9 (z_wat (q := 64) (j := 11) zwX3_holdsTrue_64 rfl)
theorem dX3_holdsTrue_76 : decode cX3_holdsTrue 76 = .ok (.lcmp, 1) := z_o148 (z_wat (q := 64) (j := 12) zwX3_holdsTrue_64 rfl)
theorem dX3_holdsTrue_77 : decode cX3_holdsTrue 77 = .ok (.ifCond .eq 7, 3) := z_o153 (z_wat (q := 64) (j := 13) zwX3_holdsTrue_64 rfl) (z_wat (q := 64) (j := 14) zwX3_holdsTrue_64 rfl) (z_wat (q := 64) (j := 15) zwX3_holdsTrue_64 rfl) rfl
theorem dX3_holdsTrue_80 : decode cX3_holdsTrue 80 = .ok (.iconst 1, 1) := z_o4 (z_wat (q := 64) (j := 16) zwX3_holdsTrue_64 rfl)
theorem dX3_holdsTrue_81 : decode cX3_holdsTrue 81 = .ok (.goto 4, 3) := z_o167 (z_wat (q := 64) (j := 17) zwX3_holdsTrue_64 rfl) (z_wat (q := 64) (j := 18) zwX3_holdsTrue_64 rfl) (z_wat (q := 64) (j := 19) zwX3_holdsTrue_64 rfl) rfl
theorem dX3_holdsTrue_84 : decode cX3_holdsTrue 84 = .ok (.iconst 0, 1) := z_o3 (z_wat (q := 64) (j := 20) zwX3_holdsTrue_64 rfl)
theorem dX3_holdsTrue_85 : decode cX3_holdsTrue 85 = .ok (.ireturn, 1) := z_o172 (z_wat (q := 64) (j := 21) zwX3_holdsTrue_64 rfl)
theorem dX3_holdsTrue_86 : decode cX3_holdsTrue 86 = .ok (.lload_n 1, 1) := z_o31 (z_wat (q := 64) (j := 22) zwX3_holdsTrue_64 rfl)
theorem dX3_holdsTrue_87 : decode cX3_holdsTrue 87 = .ok (.lconst 0, 1) := z_o9 (z_wat (q := 64) (j := 23) zwX3_holdsTrue_64 rfl)
theorem dX3_holdsTrue_88 : decode cX3_holdsTrue 88 = .ok (.lcmp, 1) := z_o148 (z_wat (q := 64) (j := 24) zwX3_holdsTrue_64 rfl)
theorem dX3_holdsTrue_89 : decode cX3_holdsTrue 89 = .ok (.ifCond .eq 13, 3) := z_o153 (z_wat (q := 64) (j := 25) zwX3_holdsTrue_64 rfl) (z_wat (q := 64) (j := 26) zwX3_holdsTrue_64 rfl) (z_wat (q := 64) (j := 27) zwX3_holdsTrue_64 rfl) rfl
theorem dX3_holdsTrue_92 : decode cX3_holdsTrue 92 = .ok (.lload_n 3, 1) := z_o33 (z_wat (q := 64) (j := 28) zwX3_holdsTrue_64 rfl)
theorem dX3_holdsTrue_93 : decode cX3_holdsTrue 93 = .ok (.lconst 0, 1) := z_o9 (z_wat (q := 64) (j := 29) zwX3_holdsTrue_64 rfl)
theorem dX3_holdsTrue_94 : decode cX3_holdsTrue 94 = .ok (.lcmp, 1) := z_o148 (z_wat (q := 64) (j := 30) zwX3_holdsTrue_64 rfl)
theorem dX3_holdsTrue_95 : decode cX3_holdsTrue 95 = .ok (.ifCond .eq 7, 3) := z_o153 (z_wat (q := 64) (j := 31) zwX3_holdsTrue_64 rfl) (z_wat (q := 64) (j := 32) zwX3_holdsTrue_64 rfl) (z_wat (q := 64) (j := 33) zwX3_holdsTrue_64 rfl) rfl
theorem zwX3_holdsTrue_96 : ((cX3_holdsTrue.data.toList.drop 96).take 34).map UInt8.toNat = [0, 7, 4, 167, 0, 4, 3, 172, 31, 33, 148, 156, 0, 7, 4, 167, 0, 4, 3, 172, 31, 33, 148, 157, 0, 7, 4, 167, 0, 4, 3, 172, 31, 33] := by decide +kernel
theorem dX3_holdsTrue_98 : decode cX3_holdsTrue 98 = .ok (.iconst 1, 1) := z_o4 (z_wat (q := 96) (j := 2) zwX3_holdsTrue_96 rfl)
theorem dX3_holdsTrue_99 : decode cX3_holdsTrue 99 = .ok (.goto 4, 3) := z_o167 (z_wat (q := 96) (j := 3) zwX3_holdsTrue_96 rfl) (z_wat (q := 96) (j := 4) zwX3_holdsTrue_96 rfl) (z_wat (q := 96) (j := 5) zwX3_holdsTrue_96 rfl) rfl
theorem dX3_holdsTrue_102 : decode cX3_holdsTrue 102 = .ok (.iconst 0, 1) := z_o3 (z_wat (q := 96) (j := 6) zwX3_holdsTrue_96 rfl)
theorem dX3_holdsTrue_103 : decode cX3_holdsTrue 103 = .ok (.ireturn, 1) := z_o172 (z_wat (q := 96) (j := 7) zwX3_holdsTrue_96 rfl)
theorem dX3_holdsTrue_104 : decode cX3_holdsTrue 104 = .ok (.lload_n 1, 1) := z_o31 (z_wat (q := 96) (j := 8) zwX3_holdsTrue_96 rfl)
theorem dX3_holdsTrue_105 : decode cX3_holdsTrue 105 = .ok (.lload_n 3, 1) := z_o33 (z_wat (q := 96) (j := 9) zwX3_holdsTrue_96 rfl)
theorem dX3_holdsTrue_106 : decode cX3_holdsTrue 106 = .ok (.lcmp, 1) := z_o148 (z_wat (q := 96) (j := 10) zwX3_holdsTrue_96 rfl)
theorem dX3_holdsTrue_107 : decode cX3_holdsTrue 107 = .ok (.ifCond .ge 7, 3) := z_o156 (z_wat (q := 96) (j := 11) zwX3_holdsTrue_96 rfl) (z_wat (q := 96) (j := 12) zwX3_holdsTrue_96 rfl) (z_wat (q := 96) (j := 13) zwX3_holdsTrue_96 rfl) rfl
theorem dX3_holdsTrue_110 : decode cX3_holdsTrue 110 = .ok (.iconst 1, 1) := z_o4 (z_wat (q := 96) (j := 14) zwX3_holdsTrue_96 rfl)
theorem dX3_holdsTrue_111 : decode cX3_holdsTrue 111 = .ok (.goto 4, 3) := z_o167 (z_wat (q := 96) (j := 15) zwX3_holdsTrue_96 rfl) (z_wat (q := 96) (j := 16) zwX3_holdsTrue_96 rfl) (z_wat (q := 96) (j := 17) zwX3_holdsTrue_96 rfl) rfl
theorem dX3_holdsTrue_114 : decode cX3_holdsTrue 114 = .ok (.iconst 0, 1) := z_o3 (z_wat (q := 96) (j := 18) zwX3_holdsTrue_96 rfl)
theorem dX3_holdsTrue_115 : decode cX3_holdsTrue 115 = .ok (.ireturn, 1) := z_o172 (z_wat (q := 96) (j := 19) zwX3_holdsTrue_96 rfl)
theorem dX3_holdsTrue_116 : decode cX3_holdsTrue 116 = .ok (.lload_n 1, 1) := z_o31 (z_wat (q := 96) (j := 20) zwX3_holdsTrue_96 rfl)
theorem dX3_holdsTrue_117 : decode cX3_holdsTrue 117 = .ok (.lload_n 3, 1) := z_o33 (z_wat (q := 96) (j := 21) zwX3_holdsTrue_96 rfl)
theorem dX3_holdsTrue_118 : decode cX3_holdsTrue 118 = .ok (.lcmp, 1) := z_o148 (z_wat (q := 96) (j := 22) zwX3_holdsTrue_96 rfl)
theorem dX3_holdsTrue_119 : decode cX3_holdsTrue 119 = .ok (.ifCond .gt 7, 3) := z_o157 (z_wat (q := 96) (j := 23) zwX3_holdsTrue_96 rfl) (z_wat (q := 96) (j := 24) zwX3_holdsTrue_96 rfl) (z_wat (q := 96) (j := 25) zwX3_holdsTrue_96 rfl) rfl
theorem dX3_holdsTrue_122 : decode cX3_holdsTrue 122 = .ok (.iconst 1, 1) := z_o4 (z_wat (q := 96) (j := 26) zwX3_holdsTrue_96 rfl)
theorem dX3_holdsTrue_123 : decode cX3_holdsTrue 123 = .ok (.goto 4, 3) := z_o167 (z_wat (q := 96) (j := 27) zwX3_holdsTrue_96 rfl) (z_wat (q := 96) (j := 28) zwX3_holdsTrue_96 rfl) (z_wat (q := 96) (j := 29) zwX3_holdsTrue_96 rfl) rfl
theorem dX3_holdsTrue_126 : decode cX3_holdsTrue 126 = .ok (.iconst 0, 1) := z_o3 (z_wat (q := 96) (j := 30) zwX3_holdsTrue_96 rfl)
theorem dX3_holdsTrue_127 : decode cX3_holdsTrue 127 = .ok (.ireturn, 1) := z_o172 (z_wat (q := 96) (j := 31) zwX3_holdsTrue_96 rfl)
theorem zwX3_holdsTrue_128 : ((cX3_holdsTrue.data.toList.drop 128).take 34).map UInt8.toNat = [31, 33, 148, 154, 0, 7, 4, 167, 0, 4, 3, 172, 31, 33, 148, 153, 0, 7, 4, 167, 0, 4, 3, 172, 31, 33, 148, 155, 0, 7, 4, 167, 0, 4] := by decide +kernel
theorem dX3_holdsTrue_128 : decode cX3_holdsTrue 128 = .ok (.lload_n 1, 1) := z_o31 (z_wat (q := 128) (j := 0) zwX3_holdsTrue_128 rfl)
theorem dX3_holdsTrue_129 : decode cX3_holdsTrue 129 = .ok (.lload_n 3, 1) := z_o33 (z_wat (q := 128) (j := 1) zwX3_holdsTrue_128 rfl)
theorem dX3_holdsTrue_130 : decode cX3_holdsTrue 130 = .ok (.lcmp, 1) := z_o148 (z_wat (q := 128) (j := 2) zwX3_holdsTrue_128 rfl)
theorem dX3_holdsTrue_131 : decode cX3_holdsTrue 131 = .ok (.ifCond .ne 7, 3) := z_o154 (z_wat (q := 128) (j := 3) zwX3_holdsTrue_128 rfl) (z_wat (q := 128) (j := 4) zwX3_holdsTrue_128 rfl) (z_wat (q := 128) (j := 5) zwX3_holdsTrue_128 rfl) rfl
theorem dX3_holdsTrue_134 : decode cX3_holdsTrue 134 = .ok (.iconst 1, 1) := z_o4 (z_wat (q := 128) (j := 6) zwX3_holdsTrue_128 rfl)
theorem dX3_holdsTrue_135 : decode cX3_holdsTrue 135 = .ok (.goto 4, 3) := z_o167 (z_wat (q := 128) (j := 7) zwX3_holdsTrue_128 rfl) (z_wat (q := 128) (j := 8) zwX3_holdsTrue_128 rfl) (z_wat (q := 128) (j := 9) zwX3_holdsTrue_128 rfl) rfl
theorem dX3_holdsTrue_138 : decode cX3_holdsTrue 138 = .ok (.iconst 0, 1) := z_o3 (z_wat (q := 128) (j := 10) zwX3_holdsTrue_128 rfl)
theorem dX3_holdsTrue_139 : decode cX3_holdsTrue 139 = .ok (.ireturn, 1) := z_o172 (z_wat (q := 128) (j := 11) zwX3_holdsTrue_128 rfl)
theorem dX3_holdsTrue_140 : decode cX3_holdsTrue 140 = .ok (.lload_n 1, 1) := z_o31 (z_wat (q := 128) (j := 12) zwX3_holdsTrue_128 rfl)
theorem dX3_holdsTrue_141 : decode cX3_holdsTrue 141 = .ok (.lload_n 3, 1) := z_o33 (z_wat (q := 128) (j := 13) zwX3_holdsTrue_128 rfl)
theorem dX3_holdsTrue_142 : decode cX3_holdsTrue 142 = .ok (.lcmp, 1) := z_o148 (z_wat (q := 128) (j := 14) zwX3_holdsTrue_128 rfl)
theorem dX3_holdsTrue_143 : decode cX3_holdsTrue 143 = .ok (.ifCond .eq 7, 3) := z_o153 (z_wat (q := 128) (j := 15) zwX3_holdsTrue_128 rfl) (z_wat (q := 128) (j := 16) zwX3_holdsTrue_128 rfl) (z_wat (q := 128) (j := 17) zwX3_holdsTrue_128 rfl) rfl
theorem dX3_holdsTrue_146 : decode cX3_holdsTrue 146 = .ok (.iconst 1, 1) := z_o4 (z_wat (q := 128) (j := 18) zwX3_holdsTrue_128 rfl)
theorem dX3_holdsTrue_147 : decode cX3_holdsTrue 147 = .ok (.goto 4, 3) := z_o167 (z_wat (q := 128) (j := 19) zwX3_holdsTrue_128 rfl) (z_wat (q := 128) (j := 20) zwX3_holdsTrue_128 rfl) (z_wat (q := 128) (j := 21) zwX3_holdsTrue_128 rfl) rfl
theorem dX3_holdsTrue_150 : decode cX3_holdsTrue 150 = .ok (.iconst 0, 1) := z_o3 (z_wat (q := 128) (j := 22) zwX3_holdsTrue_128 rfl)
theorem dX3_holdsTrue_151 : decode cX3_holdsTrue 151 = .ok (.ireturn, 1) := z_o172 (z_wat (q := 128) (j := 23) zwX3_holdsTrue_128 rfl)
theorem dX3_holdsTrue_152 : decode cX3_holdsTrue 152 = .ok (.lload_n 1, 1) := z_o31 (z_wat (q := 128) (j := 24) zwX3_holdsTrue_128 rfl)
theorem dX3_holdsTrue_153 : decode cX3_holdsTrue 153 = .ok (.lload_n 3, 1) := z_o33 (z_wat (q := 128) (j := 25) zwX3_holdsTrue_128 rfl)
theorem dX3_holdsTrue_154 : decode cX3_holdsTrue 154 = .ok (.lcmp, 1) := z_o148 (z_wat (q := 128) (j := 26) zwX3_holdsTrue_128 rfl)
theorem dX3_holdsTrue_155 : decode cX3_holdsTrue 155 = .ok (.ifCond .lt 7, 3) := z_o155 (z_wat (q := 128) (j := 27) zwX3_holdsTrue_128 rfl) (z_wat (q := 128) (j := 28) zwX3_holdsTrue_128 rfl) (z_wat (q := 128) (j := 29) zwX3_holdsTrue_128 rfl) rfl
theorem dX3_holdsTrue_158 : decode cX3_holdsTrue 158 = .ok (.iconst 1, 1) := z_o4 (z_wat (q := 128) (j := 30) zwX3_holdsTrue_128 rfl)
theorem dX3_holdsTrue_159 : decode cX3_holdsTrue 159 = .ok (.goto 4, 3) := z_o167 (z_wat (q := 128) (j := 31) zwX3_holdsTrue_128 rfl) (z_wat (q := 128) (j := 32) zwX3_holdsTrue_128 rfl) (z_wat (q := 128) (j := 33) zwX3_holdsTrue_128 rfl) rfl
theorem zwX3_holdsTrue_160 : ((cX3_holdsTrue.data.toList.drop 160).take 16).map UInt8.toNat = [0, 4, 3, 172, 31, 33, 148, 158, 0, 7, 4, 167, 0, 4, 3, 172] := by decide +kernel
theorem dX3_holdsTrue_162 : decode cX3_holdsTrue 162 = .ok (.iconst 0, 1) := z_o3 (z_wat (q := 160) (j := 2) zwX3_holdsTrue_160 rfl)
theorem dX3_holdsTrue_163 : decode cX3_holdsTrue 163 = .ok (.ireturn, 1) := z_o172 (z_wat (q := 160) (j := 3) zwX3_holdsTrue_160 rfl)
theorem dX3_holdsTrue_164 : decode cX3_holdsTrue 164 = .ok (.lload_n 1, 1) := z_o31 (z_wat (q := 160) (j := 4) zwX3_holdsTrue_160 rfl)
theorem dX3_holdsTrue_165 : decode cX3_holdsTrue 165 = .ok (.lload_n 3, 1) := z_o33 (z_wat (q := 160) (j := 5) zwX3_holdsTrue_160 rfl)
theorem dX3_holdsTrue_166 : decode cX3_holdsTrue 166 = .ok (.lcmp, 1) := z_o148 (z_wat (q := 160) (j := 6) zwX3_holdsTrue_160 rfl)
theorem dX3_holdsTrue_167 : decode cX3_holdsTrue 167 = .ok (.ifCond .le 7, 3) := z_o158 (z_wat (q := 160) (j := 7) zwX3_holdsTrue_160 rfl) (z_wat (q := 160) (j := 8) zwX3_holdsTrue_160 rfl) (z_wat (q := 160) (j := 9) zwX3_holdsTrue_160 rfl) rfl
theorem dX3_holdsTrue_170 : decode cX3_holdsTrue 170 = .ok (.iconst 1, 1) := z_o4 (z_wat (q := 160) (j := 10) zwX3_holdsTrue_160 rfl)
theorem dX3_holdsTrue_171 : decode cX3_holdsTrue 171 = .ok (.goto 4, 3) := z_o167 (z_wat (q := 160) (j := 11) zwX3_holdsTrue_160 rfl) (z_wat (q := 160) (j := 12) zwX3_holdsTrue_160 rfl) (z_wat (q := 160) (j := 13) zwX3_holdsTrue_160 rfl) rfl
theorem dX3_holdsTrue_174 : decode cX3_holdsTrue 174 = .ok (.iconst 0, 1) := z_o3 (z_wat (q := 160) (j := 14) zwX3_holdsTrue_160 rfl)
theorem dX3_holdsTrue_175 : decode cX3_holdsTrue 175 = .ok (.ireturn, 1) := z_o172 (z_wat (q := 160) (j := 15) zwX3_holdsTrue_160 rfl)
theorem zwX3_joined_0 : ((cX3_joined.data.toList.drop 0).take 34).map UInt8.toNat = [26, 171, 0, 0, 0, 0, 0, 79, 0, 0, 0, 4, 0, 0, 0, 50, 0, 0, 0, 43, 0, 0, 0, 51, 0, 0, 0, 50, 0, 0, 0, 60, 0, 0] := by decide +kernel
theorem dX3_joined_0 : decode cX3_joined 0 = .ok (.iload_n 0, 1) := z_o26 (z_wat (q := 0) (j := 0) zwX3_joined_0 rfl)
theorem dX3_joined_1 : decode cX3_joined 1 = .ok (.lookupswitch 79 #[(50, 43), (51, 50), (60, 57), (61, 63)], 43) := by decide +kernel
theorem zwX3_joined_32 : ((cX3_joined.data.toList.drop 32).take 34).map UInt8.toNat = [0, 0, 0, 57, 0, 0, 0, 61, 0, 0, 0, 63, 31, 33, 97, 184, 0, 142, 173, 31, 33, 101, 184, 0, 142, 173, 31, 33, 184, 0, 146, 173, 33, 9] := by decide +kernel
theorem dX3_joined_44 : decode cX3_joined 44 = .ok (.lload_n 1, 1) := z_o31 (z_wat (q := 32) (j := 12) zwX3_joined_32 rfl)
theorem dX3_joined_45 : decode cX3_joined 45 = .ok (.lload_n 3, 1) := z_o33 (z_wat (q := 32) (j := 13) zwX3_joined_32 rfl)
theorem dX3_joined_46 : decode cX3_joined 46 = .ok (.ladd, 1) := z_o97 (z_wat (q := 32) (j := 14) zwX3_joined_32 rfl)
theorem dX3_joined_47 : decode cX3_joined 47 = .ok (.invokestatic 142, 3) := z_o184 (z_wat (q := 32) (j := 15) zwX3_joined_32 rfl) (z_wat (q := 32) (j := 16) zwX3_joined_32 rfl) (z_wat (q := 32) (j := 17) zwX3_joined_32 rfl) rfl
theorem dX3_joined_50 : decode cX3_joined 50 = .ok (.lreturn, 1) := z_o173 (z_wat (q := 32) (j := 18) zwX3_joined_32 rfl)
theorem dX3_joined_51 : decode cX3_joined 51 = .ok (.lload_n 1, 1) := z_o31 (z_wat (q := 32) (j := 19) zwX3_joined_32 rfl)
theorem dX3_joined_52 : decode cX3_joined 52 = .ok (.lload_n 3, 1) := z_o33 (z_wat (q := 32) (j := 20) zwX3_joined_32 rfl)
theorem dX3_joined_53 : decode cX3_joined 53 = .ok (.lsub, 1) := z_o101 (z_wat (q := 32) (j := 21) zwX3_joined_32 rfl)
theorem dX3_joined_54 : decode cX3_joined 54 = .ok (.invokestatic 142, 3) := z_o184 (z_wat (q := 32) (j := 22) zwX3_joined_32 rfl) (z_wat (q := 32) (j := 23) zwX3_joined_32 rfl) (z_wat (q := 32) (j := 24) zwX3_joined_32 rfl) rfl
theorem dX3_joined_57 : decode cX3_joined 57 = .ok (.lreturn, 1) := z_o173 (z_wat (q := 32) (j := 25) zwX3_joined_32 rfl)
theorem dX3_joined_58 : decode cX3_joined 58 = .ok (.lload_n 1, 1) := z_o31 (z_wat (q := 32) (j := 26) zwX3_joined_32 rfl)
theorem dX3_joined_59 : decode cX3_joined 59 = .ok (.lload_n 3, 1) := z_o33 (z_wat (q := 32) (j := 27) zwX3_joined_32 rfl)
theorem dX3_joined_60 : decode cX3_joined 60 = .ok (.invokestatic 146, 3) := z_o184 (z_wat (q := 32) (j := 28) zwX3_joined_32 rfl) (z_wat (q := 32) (j := 29) zwX3_joined_32 rfl) (z_wat (q := 32) (j := 30) zwX3_joined_32 rfl) rfl
theorem dX3_joined_63 : decode cX3_joined 63 = .ok (.lreturn, 1) := z_o173 (z_wat (q := 32) (j := 31) zwX3_joined_32 rfl)
theorem zwX3_joined_64 : ((cX3_joined.data.toList.drop 64).take 31).map UInt8.toNat = [33, 9, 148, 154, 0, 9, 20, 0, 74, 167, 0, 6, 31, 33, 109, 173, 26, 31, 33, 184, 0, 150, 153, 0, 7, 10, 167, 0, 4, 9, 173] := by decide +kernel
theorem dX3_joined_64 : decode cX3_joined 64 = .ok (.lload_n 3, 1) := z_o33 (z_wat (q := 64) (j := 0) zwX3_joined_64 rfl)
theorem dX3_joined_65 : decode cX3_joined 65 = .ok (.lconst 0, 1) := z_o9 (z_wat (q := 64) (j := 1) zwX3_joined_64 rfl)
theorem dX3_joined_66 : decode cX3_joined 66 = .ok (.lcmp, 1) := z_o148 (z_wat (q := 64) (j := 2) zwX3_joined_64 rfl)
theorem dX3_joined_67 : decode cX3_joined 67 = .ok (.ifCond .ne 9, 3) := z_o154 (z_wat (q := 64) (j := 3) zwX3_joined_64 rfl) (z_wat (q := 64) (j := 4) zwX3_joined_64 rfl) (z_wat (q := 64) (j := 5) zwX3_joined_64 rfl) rfl
theorem dX3_joined_70 : decode cX3_joined 70 = .ok (.ldc2_w 74, 3) := z_o20 (z_wat (q := 64) (j := 6) zwX3_joined_64 rfl) (z_wat (q := 64) (j := 7) zwX3_joined_64 rfl) (z_wat (q := 64) (j := 8) zwX3_joined_64 rfl) rfl
theorem dX3_joined_73 : decode cX3_joined 73 = .ok (.goto 6, 3) := z_o167 (z_wat (q := 64) (j := 9) zwX3_joined_64 rfl) (z_wat (q := 64) (j := 10) zwX3_joined_64 rfl) (z_wat (q := 64) (j := 11) zwX3_joined_64 rfl) rfl
theorem dX3_joined_76 : decode cX3_joined 76 = .ok (.lload_n 1, 1) := z_o31 (z_wat (q := 64) (j := 12) zwX3_joined_64 rfl)
theorem dX3_joined_77 : decode cX3_joined 77 = .ok (.lload_n 3, 1) := z_o33 (z_wat (q := 64) (j := 13) zwX3_joined_64 rfl)
theorem dX3_joined_78 : decode cX3_joined 78 = .ok (.ldiv, 1) := z_o109 (z_wat (q := 64) (j := 14) zwX3_joined_64 rfl)
theorem dX3_joined_79 : decode cX3_joined 79 = .ok (.lreturn, 1) := z_o173 (z_wat (q := 64) (j := 15) zwX3_joined_64 rfl)
theorem dX3_joined_80 : decode cX3_joined 80 = .ok (.iload_n 0, 1) := z_o26 (z_wat (q := 64) (j := 16) zwX3_joined_64 rfl)
theorem dX3_joined_81 : decode cX3_joined 81 = .ok (.lload_n 1, 1) := z_o31 (z_wat (q := 64) (j := 17) zwX3_joined_64 rfl)
theorem dX3_joined_82 : decode cX3_joined 82 = .ok (.lload_n 3, 1) := z_o33 (z_wat (q := 64) (j := 18) zwX3_joined_64 rfl)
theorem dX3_joined_83 : decode cX3_joined 83 = .ok (.invokestatic 150, 3) := z_o184 (z_wat (q := 64) (j := 19) zwX3_joined_64 rfl) (z_wat (q := 64) (j := 20) zwX3_joined_64 rfl) (z_wat (q := 64) (j := 21) zwX3_joined_64 rfl) rfl
theorem dX3_joined_86 : decode cX3_joined 86 = .ok (.ifCond .eq 7, 3) := z_o153 (z_wat (q := 64) (j := 22) zwX3_joined_64 rfl) (z_wat (q := 64) (j := 23) zwX3_joined_64 rfl) (z_wat (q := 64) (j := 24) zwX3_joined_64 rfl) rfl
theorem dX3_joined_89 : decode cX3_joined 89 = .ok (.lconst 1, 1) := z_o10 (z_wat (q := 64) (j := 25) zwX3_joined_64 rfl)
theorem dX3_joined_90 : decode cX3_joined 90 = .ok (.goto 4, 3) := z_o167 (z_wat (q := 64) (j := 26) zwX3_joined_64 rfl) (z_wat (q := 64) (j := 27) zwX3_joined_64 rfl) (z_wat (q := 64) (j := 28) zwX3_joined_64 rfl) rfl
theorem dX3_joined_93 : decode cX3_joined 93 = .ok (.lconst 0, 1) := z_o9 (z_wat (q := 64) (j := 29) zwX3_joined_64 rfl)
theorem dX3_joined_94 : decode cX3_joined 94 = .ok (.lreturn, 1) := z_o173 (z_wat (q := 64) (j := 30) zwX3_joined_64 rfl)
theorem zwX3_times_0 : ((cX3_times.data.toList.drop 0).take 30).map UInt8.toNat = [32, 9, 148, 153, 0, 23, 30, 184, 0, 158, 20, 0, 154, 32, 184, 0, 158, 109, 148, 158, 0, 7, 20, 0, 74, 173, 30, 32, 105, 173] := by decide +kernel
theorem dX3_times_0 : decode cX3_times 0 = .ok (.lload_n 2, 1) := z_o32 (z_wat (q := 0) (j := 0) zwX3_times_0 rfl)
theorem dX3_times_1 : decode cX3_times 1 = .ok (.lconst 0, 1) := z_o9 (z_wat (q := 0) (j := 1) zwX3_times_0 rfl)
theorem dX3_times_2 : decode cX3_times 2 = .ok (.lcmp, 1) := z_o148 (z_wat (q := 0) (j := 2) zwX3_times_0 rfl)
theorem dX3_times_3 : decode cX3_times 3 = .ok (.ifCond .eq 23, 3) := z_o153 (z_wat (q := 0) (j := 3) zwX3_times_0 rfl) (z_wat (q := 0) (j := 4) zwX3_times_0 rfl) (z_wat (q := 0) (j := 5) zwX3_times_0 rfl) rfl
theorem dX3_times_6 : decode cX3_times 6 = .ok (.lload_n 0, 1) := z_o30 (z_wat (q := 0) (j := 6) zwX3_times_0 rfl)
theorem dX3_times_7 : decode cX3_times 7 = .ok (.invokestatic 158, 3) := z_o184 (z_wat (q := 0) (j := 7) zwX3_times_0 rfl) (z_wat (q := 0) (j := 8) zwX3_times_0 rfl) (z_wat (q := 0) (j := 9) zwX3_times_0 rfl) rfl
theorem dX3_times_10 : decode cX3_times 10 = .ok (.ldc2_w 154, 3) := z_o20 (z_wat (q := 0) (j := 10) zwX3_times_0 rfl) (z_wat (q := 0) (j := 11) zwX3_times_0 rfl) (z_wat (q := 0) (j := 12) zwX3_times_0 rfl) rfl
theorem dX3_times_13 : decode cX3_times 13 = .ok (.lload_n 2, 1) := z_o32 (z_wat (q := 0) (j := 13) zwX3_times_0 rfl)
theorem dX3_times_14 : decode cX3_times 14 = .ok (.invokestatic 158, 3) := z_o184 (z_wat (q := 0) (j := 14) zwX3_times_0 rfl) (z_wat (q := 0) (j := 15) zwX3_times_0 rfl) (z_wat (q := 0) (j := 16) zwX3_times_0 rfl) rfl
theorem dX3_times_17 : decode cX3_times 17 = .ok (.ldiv, 1) := z_o109 (z_wat (q := 0) (j := 17) zwX3_times_0 rfl)
theorem dX3_times_18 : decode cX3_times 18 = .ok (.lcmp, 1) := z_o148 (z_wat (q := 0) (j := 18) zwX3_times_0 rfl)
theorem dX3_times_19 : decode cX3_times 19 = .ok (.ifCond .le 7, 3) := z_o158 (z_wat (q := 0) (j := 19) zwX3_times_0 rfl) (z_wat (q := 0) (j := 20) zwX3_times_0 rfl) (z_wat (q := 0) (j := 21) zwX3_times_0 rfl) rfl
theorem dX3_times_22 : decode cX3_times 22 = .ok (.ldc2_w 74, 3) := z_o20 (z_wat (q := 0) (j := 22) zwX3_times_0 rfl) (z_wat (q := 0) (j := 23) zwX3_times_0 rfl) (z_wat (q := 0) (j := 24) zwX3_times_0 rfl) rfl
theorem dX3_times_25 : decode cX3_times 25 = .ok (.lreturn, 1) := z_o173 (z_wat (q := 0) (j := 25) zwX3_times_0 rfl)
theorem dX3_times_26 : decode cX3_times 26 = .ok (.lload_n 0, 1) := z_o30 (z_wat (q := 0) (j := 26) zwX3_times_0 rfl)
theorem dX3_times_27 : decode cX3_times 27 = .ok (.lload_n 2, 1) := z_o32 (z_wat (q := 0) (j := 27) zwX3_times_0 rfl)
theorem dX3_times_28 : decode cX3_times 28 = .ok (.lmul, 1) := z_o105 (z_wat (q := 0) (j := 28) zwX3_times_0 rfl)
theorem dX3_times_29 : decode cX3_times 29 = .ok (.lreturn, 1) := z_o173 (z_wat (q := 0) (j := 29) zwX3_times_0 rfl)
theorem zwX3_turnTo_0 : ((cX3_turnTo.data.toList.drop 0).take 34).map UInt8.toNat = [42, 27, 181, 0, 24, 42, 42, 180, 0, 31, 27, 182, 0, 51, 181, 0, 28, 3, 61, 28, 16, 20, 162, 0, 16, 42, 180, 0, 15, 28, 3, 84, 132, 2] := by decide +kernel
theorem dX3_turnTo_0 : decode cX3_turnTo 0 = .ok (.aload_n 0, 1) := z_o42 (z_wat (q := 0) (j := 0) zwX3_turnTo_0 rfl)
theorem dX3_turnTo_1 : decode cX3_turnTo 1 = .ok (.iload_n 1, 1) := z_o27 (z_wat (q := 0) (j := 1) zwX3_turnTo_0 rfl)
theorem dX3_turnTo_2 : decode cX3_turnTo 2 = .ok (.putfield 24, 3) := z_o181 (z_wat (q := 0) (j := 2) zwX3_turnTo_0 rfl) (z_wat (q := 0) (j := 3) zwX3_turnTo_0 rfl) (z_wat (q := 0) (j := 4) zwX3_turnTo_0 rfl) rfl
theorem dX3_turnTo_5 : decode cX3_turnTo 5 = .ok (.aload_n 0, 1) := z_o42 (z_wat (q := 0) (j := 5) zwX3_turnTo_0 rfl)
theorem dX3_turnTo_6 : decode cX3_turnTo 6 = .ok (.aload_n 0, 1) := z_o42 (z_wat (q := 0) (j := 6) zwX3_turnTo_0 rfl)
theorem dX3_turnTo_7 : decode cX3_turnTo 7 = .ok (.getfield 31, 3) := z_o180 (z_wat (q := 0) (j := 7) zwX3_turnTo_0 rfl) (z_wat (q := 0) (j := 8) zwX3_turnTo_0 rfl) (z_wat (q := 0) (j := 9) zwX3_turnTo_0 rfl) rfl
theorem dX3_turnTo_10 : decode cX3_turnTo 10 = .ok (.iload_n 1, 1) := z_o27 (z_wat (q := 0) (j := 10) zwX3_turnTo_0 rfl)
theorem dX3_turnTo_11 : decode cX3_turnTo 11 = .ok (.invokevirtual 51, 3) := z_o182 (z_wat (q := 0) (j := 11) zwX3_turnTo_0 rfl) (z_wat (q := 0) (j := 12) zwX3_turnTo_0 rfl) (z_wat (q := 0) (j := 13) zwX3_turnTo_0 rfl) rfl
theorem dX3_turnTo_14 : decode cX3_turnTo 14 = .ok (.putfield 28, 3) := z_o181 (z_wat (q := 0) (j := 14) zwX3_turnTo_0 rfl) (z_wat (q := 0) (j := 15) zwX3_turnTo_0 rfl) (z_wat (q := 0) (j := 16) zwX3_turnTo_0 rfl) rfl
theorem dX3_turnTo_17 : decode cX3_turnTo 17 = .ok (.iconst 0, 1) := z_o3 (z_wat (q := 0) (j := 17) zwX3_turnTo_0 rfl)
theorem dX3_turnTo_18 : decode cX3_turnTo 18 = .ok (.istore_n 2, 1) := z_o61 (z_wat (q := 0) (j := 18) zwX3_turnTo_0 rfl)
theorem dX3_turnTo_19 : decode cX3_turnTo 19 = .ok (.iload_n 2, 1) := z_o28 (z_wat (q := 0) (j := 19) zwX3_turnTo_0 rfl)
theorem dX3_turnTo_20 : decode cX3_turnTo 20 = .ok (.bipush 20, 2) := z_o16 (z_wat (q := 0) (j := 20) zwX3_turnTo_0 rfl) (z_wat (q := 0) (j := 21) zwX3_turnTo_0 rfl) rfl
theorem dX3_turnTo_22 : decode cX3_turnTo 22 = .ok (.if_icmp .ge 16, 3) := z_o162 (z_wat (q := 0) (j := 22) zwX3_turnTo_0 rfl) (z_wat (q := 0) (j := 23) zwX3_turnTo_0 rfl) (z_wat (q := 0) (j := 24) zwX3_turnTo_0 rfl) rfl
theorem dX3_turnTo_25 : decode cX3_turnTo 25 = .ok (.aload_n 0, 1) := z_o42 (z_wat (q := 0) (j := 25) zwX3_turnTo_0 rfl)
theorem dX3_turnTo_26 : decode cX3_turnTo 26 = .ok (.getfield 15, 3) := z_o180 (z_wat (q := 0) (j := 26) zwX3_turnTo_0 rfl) (z_wat (q := 0) (j := 27) zwX3_turnTo_0 rfl) (z_wat (q := 0) (j := 28) zwX3_turnTo_0 rfl) rfl
theorem dX3_turnTo_29 : decode cX3_turnTo 29 = .ok (.iload_n 2, 1) := z_o28 (z_wat (q := 0) (j := 29) zwX3_turnTo_0 rfl)
theorem dX3_turnTo_30 : decode cX3_turnTo 30 = .ok (.iconst 0, 1) := z_o3 (z_wat (q := 0) (j := 30) zwX3_turnTo_0 rfl)
theorem dX3_turnTo_31 : decode cX3_turnTo 31 = .ok (.bastore, 1) := z_o84 (z_wat (q := 0) (j := 31) zwX3_turnTo_0 rfl)
theorem zwX3_turnTo_32 : ((cX3_turnTo.data.toList.drop 32).take 7).map UInt8.toNat = [132, 2, 1, 167, 255, 240, 177] := by decide +kernel
theorem dX3_turnTo_32 : decode cX3_turnTo 32 = .ok (.iinc 2 1, 3) := z_o132 (z_wat (q := 32) (j := 0) zwX3_turnTo_32 rfl) (z_wat (q := 32) (j := 1) zwX3_turnTo_32 rfl) (z_wat (q := 32) (j := 2) zwX3_turnTo_32 rfl) rfl
theorem dX3_turnTo_35 : decode cX3_turnTo 35 = .ok (.goto (-16), 3) := z_o167 (z_wat (q := 32) (j := 3) zwX3_turnTo_32 rfl) (z_wat (q := 32) (j := 4) zwX3_turnTo_32 rfl) (z_wat (q := 32) (j := 5) zwX3_turnTo_32 rfl) rfl
theorem dX3_turnTo_38 : decode cX3_turnTo 38 = .ok (.return_, 1) := z_o177 (z_wat (q := 32) (j := 6) zwX3_turnTo_32 rfl)
theorem zwX3_within_0 : ((cX3_within.data.toList.drop 0).take 24).map UInt8.toNat = [30, 20, 0, 154, 148, 157, 0, 11, 30, 20, 0, 156, 148, 156, 0, 9, 20, 0, 74, 167, 0, 4, 30, 173] := by decide +kernel
theorem dX3_within_0 : decode cX3_within 0 = .ok (.lload_n 0, 1) := z_o30 (z_wat (q := 0) (j := 0) zwX3_within_0 rfl)
theorem dX3_within_1 : decode cX3_within 1 = .ok (.ldc2_w 154, 3) := z_o20 (z_wat (q := 0) (j := 1) zwX3_within_0 rfl) (z_wat (q := 0) (j := 2) zwX3_within_0 rfl) (z_wat (q := 0) (j := 3) zwX3_within_0 rfl) rfl
theorem dX3_within_4 : decode cX3_within 4 = .ok (.lcmp, 1) := z_o148 (z_wat (q := 0) (j := 4) zwX3_within_0 rfl)
theorem dX3_within_5 : decode cX3_within 5 = .ok (.ifCond .gt 11, 3) := z_o157 (z_wat (q := 0) (j := 5) zwX3_within_0 rfl) (z_wat (q := 0) (j := 6) zwX3_within_0 rfl) (z_wat (q := 0) (j := 7) zwX3_within_0 rfl) rfl
theorem dX3_within_8 : decode cX3_within 8 = .ok (.lload_n 0, 1) := z_o30 (z_wat (q := 0) (j := 8) zwX3_within_0 rfl)
theorem dX3_within_9 : decode cX3_within 9 = .ok (.ldc2_w 156, 3) := z_o20 (z_wat (q := 0) (j := 9) zwX3_within_0 rfl) (z_wat (q := 0) (j := 10) zwX3_within_0 rfl) (z_wat (q := 0) (j := 11) zwX3_within_0 rfl) rfl
theorem dX3_within_12 : decode cX3_within 12 = .ok (.lcmp, 1) := z_o148 (z_wat (q := 0) (j := 12) zwX3_within_0 rfl)
theorem dX3_within_13 : decode cX3_within 13 = .ok (.ifCond .ge 9, 3) := z_o156 (z_wat (q := 0) (j := 13) zwX3_within_0 rfl) (z_wat (q := 0) (j := 14) zwX3_within_0 rfl) (z_wat (q := 0) (j := 15) zwX3_within_0 rfl) rfl
theorem dX3_within_16 : decode cX3_within 16 = .ok (.ldc2_w 74, 3) := z_o20 (z_wat (q := 0) (j := 16) zwX3_within_0 rfl) (z_wat (q := 0) (j := 17) zwX3_within_0 rfl) (z_wat (q := 0) (j := 18) zwX3_within_0 rfl) rfl
theorem dX3_within_19 : decode cX3_within 19 = .ok (.goto 4, 3) := z_o167 (z_wat (q := 0) (j := 19) zwX3_within_0 rfl) (z_wat (q := 0) (j := 20) zwX3_within_0 rfl) (z_wat (q := 0) (j := 21) zwX3_within_0 rfl) rfl
theorem dX3_within_22 : decode cX3_within 22 = .ok (.lload_n 0, 1) := z_o30 (z_wat (q := 0) (j := 22) zwX3_within_0 rfl)
theorem dX3_within_23 : decode cX3_within 23 = .ok (.lreturn, 1) := z_o173 (z_wat (q := 0) (j := 23) zwX3_within_0 rfl)
theorem zwX5_gather_0 : ((cX5_gather.data.toList.drop 0).take 34).map UInt8.toNat = [3, 62, 29, 17, 0, 144, 162, 0, 16, 42, 180, 0, 21, 29, 9, 80, 132, 3, 1, 167, 255, 239, 3, 62, 29, 16, 80, 162, 0, 59, 43, 29, 28, 182] := by decide +kernel
theorem dX5_gather_0 : decode cX5_gather 0 = .ok (.iconst 0, 1) := z_o3 (z_wat (q := 0) (j := 0) zwX5_gather_0 rfl)
theorem dX5_gather_1 : decode cX5_gather 1 = .ok (.istore_n 3, 1) := z_o62 (z_wat (q := 0) (j := 1) zwX5_gather_0 rfl)
theorem dX5_gather_2 : decode cX5_gather 2 = .ok (.iload_n 3, 1) := z_o29 (z_wat (q := 0) (j := 2) zwX5_gather_0 rfl)
theorem dX5_gather_3 : decode cX5_gather 3 = .ok (.sipush 144, 3) := z_o17 (z_wat (q := 0) (j := 3) zwX5_gather_0 rfl) (z_wat (q := 0) (j := 4) zwX5_gather_0 rfl) (z_wat (q := 0) (j := 5) zwX5_gather_0 rfl) rfl
theorem dX5_gather_6 : decode cX5_gather 6 = .ok (.if_icmp .ge 16, 3) := z_o162 (z_wat (q := 0) (j := 6) zwX5_gather_0 rfl) (z_wat (q := 0) (j := 7) zwX5_gather_0 rfl) (z_wat (q := 0) (j := 8) zwX5_gather_0 rfl) rfl
theorem dX5_gather_9 : decode cX5_gather 9 = .ok (.aload_n 0, 1) := z_o42 (z_wat (q := 0) (j := 9) zwX5_gather_0 rfl)
theorem dX5_gather_10 : decode cX5_gather 10 = .ok (.getfield 21, 3) := z_o180 (z_wat (q := 0) (j := 10) zwX5_gather_0 rfl) (z_wat (q := 0) (j := 11) zwX5_gather_0 rfl) (z_wat (q := 0) (j := 12) zwX5_gather_0 rfl) rfl
theorem dX5_gather_13 : decode cX5_gather 13 = .ok (.iload_n 3, 1) := z_o29 (z_wat (q := 0) (j := 13) zwX5_gather_0 rfl)
theorem dX5_gather_14 : decode cX5_gather 14 = .ok (.lconst 0, 1) := z_o9 (z_wat (q := 0) (j := 14) zwX5_gather_0 rfl)
theorem dX5_gather_15 : decode cX5_gather 15 = .ok (.lastore, 1) := z_o80 (z_wat (q := 0) (j := 15) zwX5_gather_0 rfl)
theorem dX5_gather_16 : decode cX5_gather 16 = .ok (.iinc 3 1, 3) := z_o132 (z_wat (q := 0) (j := 16) zwX5_gather_0 rfl) (z_wat (q := 0) (j := 17) zwX5_gather_0 rfl) (z_wat (q := 0) (j := 18) zwX5_gather_0 rfl) rfl
theorem dX5_gather_19 : decode cX5_gather 19 = .ok (.goto (-17), 3) := z_o167 (z_wat (q := 0) (j := 19) zwX5_gather_0 rfl) (z_wat (q := 0) (j := 20) zwX5_gather_0 rfl) (z_wat (q := 0) (j := 21) zwX5_gather_0 rfl) rfl
theorem dX5_gather_22 : decode cX5_gather 22 = .ok (.iconst 0, 1) := z_o3 (z_wat (q := 0) (j := 22) zwX5_gather_0 rfl)
theorem dX5_gather_23 : decode cX5_gather 23 = .ok (.istore_n 3, 1) := z_o62 (z_wat (q := 0) (j := 23) zwX5_gather_0 rfl)
theorem dX5_gather_24 : decode cX5_gather 24 = .ok (.iload_n 3, 1) := z_o29 (z_wat (q := 0) (j := 24) zwX5_gather_0 rfl)
theorem dX5_gather_25 : decode cX5_gather 25 = .ok (.bipush 80, 2) := z_o16 (z_wat (q := 0) (j := 25) zwX5_gather_0 rfl) (z_wat (q := 0) (j := 26) zwX5_gather_0 rfl) rfl
theorem dX5_gather_27 : decode cX5_gather 27 = .ok (.if_icmp .ge 59, 3) := z_o162 (z_wat (q := 0) (j := 27) zwX5_gather_0 rfl) (z_wat (q := 0) (j := 28) zwX5_gather_0 rfl) (z_wat (q := 0) (j := 29) zwX5_gather_0 rfl) rfl
theorem dX5_gather_30 : decode cX5_gather 30 = .ok (.aload_n 1, 1) := z_o43 (z_wat (q := 0) (j := 30) zwX5_gather_0 rfl)
theorem dX5_gather_31 : decode cX5_gather 31 = .ok (.iload_n 3, 1) := z_o29 (z_wat (q := 0) (j := 31) zwX5_gather_0 rfl)
theorem zwX5_gather_32 : ((cX5_gather.data.toList.drop 32).take 34).map UInt8.toNat = [28, 182, 0, 45, 153, 0, 44, 3, 54, 4, 21, 4, 17, 0, 144, 162, 0, 33, 42, 180, 0, 21, 21, 4, 92, 47, 42, 180, 0, 18, 29, 17, 0, 144] := by decide +kernel
theorem dX5_gather_32 : decode cX5_gather 32 = .ok (.iload_n 2, 1) := z_o28 (z_wat (q := 32) (j := 0) zwX5_gather_32 rfl)
theorem dX5_gather_33 : decode cX5_gather 33 = .ok (.invokevirtual 45, 3) := z_o182 (z_wat (q := 32) (j := 1) zwX5_gather_32 rfl) (z_wat (q := 32) (j := 2) zwX5_gather_32 rfl) (z_wat (q := 32) (j := 3) zwX5_gather_32 rfl) rfl
theorem dX5_gather_36 : decode cX5_gather 36 = .ok (.ifCond .eq 44, 3) := z_o153 (z_wat (q := 32) (j := 4) zwX5_gather_32 rfl) (z_wat (q := 32) (j := 5) zwX5_gather_32 rfl) (z_wat (q := 32) (j := 6) zwX5_gather_32 rfl) rfl
theorem dX5_gather_39 : decode cX5_gather 39 = .ok (.iconst 0, 1) := z_o3 (z_wat (q := 32) (j := 7) zwX5_gather_32 rfl)
theorem dX5_gather_40 : decode cX5_gather 40 = .ok (.istore 4, 2) := z_o54 (z_wat (q := 32) (j := 8) zwX5_gather_32 rfl) (z_wat (q := 32) (j := 9) zwX5_gather_32 rfl)
theorem dX5_gather_42 : decode cX5_gather 42 = .ok (.iload 4, 2) := z_o21 (z_wat (q := 32) (j := 10) zwX5_gather_32 rfl) (z_wat (q := 32) (j := 11) zwX5_gather_32 rfl)
theorem dX5_gather_44 : decode cX5_gather 44 = .ok (.sipush 144, 3) := z_o17 (z_wat (q := 32) (j := 12) zwX5_gather_32 rfl) (z_wat (q := 32) (j := 13) zwX5_gather_32 rfl) (z_wat (q := 32) (j := 14) zwX5_gather_32 rfl) rfl
theorem dX5_gather_47 : decode cX5_gather 47 = .ok (.if_icmp .ge 33, 3) := z_o162 (z_wat (q := 32) (j := 15) zwX5_gather_32 rfl) (z_wat (q := 32) (j := 16) zwX5_gather_32 rfl) (z_wat (q := 32) (j := 17) zwX5_gather_32 rfl) rfl
theorem dX5_gather_50 : decode cX5_gather 50 = .ok (.aload_n 0, 1) := z_o42 (z_wat (q := 32) (j := 18) zwX5_gather_32 rfl)
theorem dX5_gather_51 : decode cX5_gather 51 = .ok (.getfield 21, 3) := z_o180 (z_wat (q := 32) (j := 19) zwX5_gather_32 rfl) (z_wat (q := 32) (j := 20) zwX5_gather_32 rfl) (z_wat (q := 32) (j := 21) zwX5_gather_32 rfl) rfl
theorem dX5_gather_54 : decode cX5_gather 54 = .ok (.iload 4, 2) := z_o21 (z_wat (q := 32) (j := 22) zwX5_gather_32 rfl) (z_wat (q := 32) (j := 23) zwX5_gather_32 rfl)
theorem dX5_gather_56 : decode cX5_gather 56 = .ok (.dup2, 1) := z_o92 (z_wat (q := 32) (j := 24) zwX5_gather_32 rfl)
theorem dX5_gather_57 : decode cX5_gather 57 = .ok (.laload, 1) := z_o47 (z_wat (q := 32) (j := 25) zwX5_gather_32 rfl)
theorem dX5_gather_58 : decode cX5_gather 58 = .ok (.aload_n 0, 1) := z_o42 (z_wat (q := 32) (j := 26) zwX5_gather_32 rfl)
theorem dX5_gather_59 : decode cX5_gather 59 = .ok (.getfield 18, 3) := z_o180 (z_wat (q := 32) (j := 27) zwX5_gather_32 rfl) (z_wat (q := 32) (j := 28) zwX5_gather_32 rfl) (z_wat (q := 32) (j := 29) zwX5_gather_32 rfl) rfl
theorem dX5_gather_62 : decode cX5_gather 62 = .ok (.iload_n 3, 1) := z_o29 (z_wat (q := 32) (j := 30) zwX5_gather_32 rfl)
theorem dX5_gather_63 : decode cX5_gather 63 = .ok (.sipush 144, 3) := z_o17 (z_wat (q := 32) (j := 31) zwX5_gather_32 rfl) (z_wat (q := 32) (j := 32) zwX5_gather_32 rfl) (z_wat (q := 32) (j := 33) zwX5_gather_32 rfl) rfl
theorem zwX5_gather_64 : ((cX5_gather.data.toList.drop 64).take 34).map UInt8.toNat = [0, 144, 104, 21, 4, 96, 46, 133, 97, 80, 132, 4, 1, 167, 255, 221, 132, 3, 1, 167, 255, 197, 42, 9, 181, 0, 34, 3, 62, 29, 42, 180, 0, 41] := by decide +kernel
theorem dX5_gather_66 : decode cX5_gather 66 = .ok (.imul, 1) := z_o104 (z_wat (q := 64) (j := 2) zwX5_gather_64 rfl)
theorem dX5_gather_67 : decode cX5_gather 67 = .ok (.iload 4, 2) := z_o21 (z_wat (q := 64) (j := 3) zwX5_gather_64 rfl) (z_wat (q := 64) (j := 4) zwX5_gather_64 rfl)
theorem dX5_gather_69 : decode cX5_gather 69 = .ok (.iadd, 1) := z_o96 (z_wat (q := 64) (j := 5) zwX5_gather_64 rfl)
theorem dX5_gather_70 : decode cX5_gather 70 = .ok (.iaload, 1) := z_o46 (z_wat (q := 64) (j := 6) zwX5_gather_64 rfl)
theorem dX5_gather_71 : decode cX5_gather 71 = .ok (.i2l, 1) := z_o133 (z_wat (q := 64) (j := 7) zwX5_gather_64 rfl)
theorem dX5_gather_72 : decode cX5_gather 72 = .ok (.ladd, 1) := z_o97 (z_wat (q := 64) (j := 8) zwX5_gather_64 rfl)
theorem dX5_gather_73 : decode cX5_gather 73 = .ok (.lastore, 1) := z_o80 (z_wat (q := 64) (j := 9) zwX5_gather_64 rfl)
theorem dX5_gather_74 : decode cX5_gather 74 = .ok (.iinc 4 1, 3) := z_o132 (z_wat (q := 64) (j := 10) zwX5_gather_64 rfl) (z_wat (q := 64) (j := 11) zwX5_gather_64 rfl) (z_wat (q := 64) (j := 12) zwX5_gather_64 rfl) rfl
theorem dX5_gather_77 : decode cX5_gather 77 = .ok (.goto (-35), 3) := z_o167 (z_wat (q := 64) (j := 13) zwX5_gather_64 rfl) (z_wat (q := 64) (j := 14) zwX5_gather_64 rfl) (z_wat (q := 64) (j := 15) zwX5_gather_64 rfl) rfl
theorem dX5_gather_80 : decode cX5_gather 80 = .ok (.iinc 3 1, 3) := z_o132 (z_wat (q := 64) (j := 16) zwX5_gather_64 rfl) (z_wat (q := 64) (j := 17) zwX5_gather_64 rfl) (z_wat (q := 64) (j := 18) zwX5_gather_64 rfl) rfl
theorem dX5_gather_83 : decode cX5_gather 83 = .ok (.goto (-59), 3) := z_o167 (z_wat (q := 64) (j := 19) zwX5_gather_64 rfl) (z_wat (q := 64) (j := 20) zwX5_gather_64 rfl) (z_wat (q := 64) (j := 21) zwX5_gather_64 rfl) rfl
theorem dX5_gather_86 : decode cX5_gather 86 = .ok (.aload_n 0, 1) := z_o42 (z_wat (q := 64) (j := 22) zwX5_gather_64 rfl)
theorem dX5_gather_87 : decode cX5_gather 87 = .ok (.lconst 0, 1) := z_o9 (z_wat (q := 64) (j := 23) zwX5_gather_64 rfl)
theorem dX5_gather_88 : decode cX5_gather 88 = .ok (.putfield 34, 3) := z_o181 (z_wat (q := 64) (j := 24) zwX5_gather_64 rfl) (z_wat (q := 64) (j := 25) zwX5_gather_64 rfl) (z_wat (q := 64) (j := 26) zwX5_gather_64 rfl) rfl
theorem dX5_gather_91 : decode cX5_gather 91 = .ok (.iconst 0, 1) := z_o3 (z_wat (q := 64) (j := 27) zwX5_gather_64 rfl)
theorem dX5_gather_92 : decode cX5_gather 92 = .ok (.istore_n 3, 1) := z_o62 (z_wat (q := 64) (j := 28) zwX5_gather_64 rfl)
theorem dX5_gather_93 : decode cX5_gather 93 = .ok (.iload_n 3, 1) := z_o29 (z_wat (q := 64) (j := 29) zwX5_gather_64 rfl)
theorem dX5_gather_94 : decode cX5_gather 94 = .ok (.aload_n 0, 1) := z_o42 (z_wat (q := 64) (j := 30) zwX5_gather_64 rfl)
theorem dX5_gather_95 : decode cX5_gather 95 = .ok (.getfield 41, 3) := z_o180 (z_wat (q := 64) (j := 31) zwX5_gather_64 rfl) (z_wat (q := 64) (j := 32) zwX5_gather_64 rfl) (z_wat (q := 64) (j := 33) zwX5_gather_64 rfl) rfl
theorem zwX5_gather_96 : ((cX5_gather.data.toList.drop 96).take 34).map UInt8.toNat = [0, 41, 162, 0, 37, 42, 29, 182, 0, 51, 42, 89, 180, 0, 34, 42, 180, 0, 31, 29, 47, 42, 180, 0, 11, 29, 46, 133, 105, 97, 181, 0, 34, 132] := by decide +kernel
theorem dX5_gather_98 : decode cX5_gather 98 = .ok (.if_icmp .ge 37, 3) := z_o162 (z_wat (q := 96) (j := 2) zwX5_gather_96 rfl) (z_wat (q := 96) (j := 3) zwX5_gather_96 rfl) (z_wat (q := 96) (j := 4) zwX5_gather_96 rfl) rfl
theorem dX5_gather_101 : decode cX5_gather 101 = .ok (.aload_n 0, 1) := z_o42 (z_wat (q := 96) (j := 5) zwX5_gather_96 rfl)
theorem dX5_gather_102 : decode cX5_gather 102 = .ok (.iload_n 3, 1) := z_o29 (z_wat (q := 96) (j := 6) zwX5_gather_96 rfl)
theorem dX5_gather_103 : decode cX5_gather 103 = .ok (.invokevirtual 51, 3) := z_o182 (z_wat (q := 96) (j := 7) zwX5_gather_96 rfl) (z_wat (q := 96) (j := 8) zwX5_gather_96 rfl) (z_wat (q := 96) (j := 9) zwX5_gather_96 rfl) rfl
theorem dX5_gather_106 : decode cX5_gather 106 = .ok (.aload_n 0, 1) := z_o42 (z_wat (q := 96) (j := 10) zwX5_gather_96 rfl)
theorem dX5_gather_107 : decode cX5_gather 107 = .ok (.dup, 1) := z_o89 (z_wat (q := 96) (j := 11) zwX5_gather_96 rfl)
theorem dX5_gather_108 : decode cX5_gather 108 = .ok (.getfield 34, 3) := z_o180 (z_wat (q := 96) (j := 12) zwX5_gather_96 rfl) (z_wat (q := 96) (j := 13) zwX5_gather_96 rfl) (z_wat (q := 96) (j := 14) zwX5_gather_96 rfl) rfl
theorem dX5_gather_111 : decode cX5_gather 111 = .ok (.aload_n 0, 1) := z_o42 (z_wat (q := 96) (j := 15) zwX5_gather_96 rfl)
theorem dX5_gather_112 : decode cX5_gather 112 = .ok (.getfield 31, 3) := z_o180 (z_wat (q := 96) (j := 16) zwX5_gather_96 rfl) (z_wat (q := 96) (j := 17) zwX5_gather_96 rfl) (z_wat (q := 96) (j := 18) zwX5_gather_96 rfl) rfl
theorem dX5_gather_115 : decode cX5_gather 115 = .ok (.iload_n 3, 1) := z_o29 (z_wat (q := 96) (j := 19) zwX5_gather_96 rfl)
theorem dX5_gather_116 : decode cX5_gather 116 = .ok (.laload, 1) := z_o47 (z_wat (q := 96) (j := 20) zwX5_gather_96 rfl)
theorem dX5_gather_117 : decode cX5_gather 117 = .ok (.aload_n 0, 1) := z_o42 (z_wat (q := 96) (j := 21) zwX5_gather_96 rfl)
theorem dX5_gather_118 : decode cX5_gather 118 = .ok (.getfield 11, 3) := z_o180 (z_wat (q := 96) (j := 22) zwX5_gather_96 rfl) (z_wat (q := 96) (j := 23) zwX5_gather_96 rfl) (z_wat (q := 96) (j := 24) zwX5_gather_96 rfl) rfl
theorem dX5_gather_121 : decode cX5_gather 121 = .ok (.iload_n 3, 1) := z_o29 (z_wat (q := 96) (j := 25) zwX5_gather_96 rfl)
theorem dX5_gather_122 : decode cX5_gather 122 = .ok (.iaload, 1) := z_o46 (z_wat (q := 96) (j := 26) zwX5_gather_96 rfl)
theorem dX5_gather_123 : decode cX5_gather 123 = .ok (.i2l, 1) := z_o133 (z_wat (q := 96) (j := 27) zwX5_gather_96 rfl)
theorem dX5_gather_124 : decode cX5_gather 124 = .ok (.lmul, 1) := z_o105 (z_wat (q := 96) (j := 28) zwX5_gather_96 rfl)
theorem dX5_gather_125 : decode cX5_gather 125 = .ok (.ladd, 1) := z_o97 (z_wat (q := 96) (j := 29) zwX5_gather_96 rfl)
theorem dX5_gather_126 : decode cX5_gather 126 = .ok (.putfield 34, 3) := z_o181 (z_wat (q := 96) (j := 30) zwX5_gather_96 rfl) (z_wat (q := 96) (j := 31) zwX5_gather_96 rfl) (z_wat (q := 96) (j := 32) zwX5_gather_96 rfl) rfl
theorem zwX5_gather_128 : ((cX5_gather.data.toList.drop 128).take 12).map UInt8.toNat = [34, 132, 3, 1, 167, 255, 217, 42, 182, 0, 55, 177] := by decide +kernel
theorem dX5_gather_129 : decode cX5_gather 129 = .ok (.iinc 3 1, 3) := z_o132 (z_wat (q := 128) (j := 1) zwX5_gather_128 rfl) (z_wat (q := 128) (j := 2) zwX5_gather_128 rfl) (z_wat (q := 128) (j := 3) zwX5_gather_128 rfl) rfl
theorem dX5_gather_132 : decode cX5_gather 132 = .ok (.goto (-39), 3) := z_o167 (z_wat (q := 128) (j := 4) zwX5_gather_128 rfl) (z_wat (q := 128) (j := 5) zwX5_gather_128 rfl) (z_wat (q := 128) (j := 6) zwX5_gather_128 rfl) rfl
theorem dX5_gather_135 : decode cX5_gather 135 = .ok (.aload_n 0, 1) := z_o42 (z_wat (q := 128) (j := 7) zwX5_gather_128 rfl)
theorem dX5_gather_136 : decode cX5_gather 136 = .ok (.invokevirtual 55, 3) := z_o182 (z_wat (q := 128) (j := 8) zwX5_gather_128 rfl) (z_wat (q := 128) (j := 9) zwX5_gather_128 rfl) (z_wat (q := 128) (j := 10) zwX5_gather_128 rfl) rfl
theorem dX5_gather_139 : decode cX5_gather 139 = .ok (.return_, 1) := z_o177 (z_wat (q := 128) (j := 11) zwX5_gather_128 rfl)
