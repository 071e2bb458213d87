theorem dX12_know_0 : decode cX12_know 0 = .ok (.iconst 0, 1) := by decide +kernel
theorem dX12_know_1 : decode cX12_know 1 = .ok (.istore_n 2, 1) := by decide +kernel
theorem dX12_know_2 : decode cX12_know 2 = .ok (.iload_n 2, 1) := by decide +kernel
theorem dX12_know_3 : decode cX12_know 3 = .ok (.bipush 80, 2) := by decide +kernel
theorem dX12_know_5 : decode cX12_know 5 = .ok (.if_icmp .ge 25, 3) := by decide +kernel
theorem dX12_know_8 : decode cX12_know 8 = .ok (.aload_n 0, 1) := by decide +kernel
theorem dX12_know_9 : decode cX12_know 9 = .ok (.getfield 25, 3) := by decide +kernel
theorem dX12_know_12 : decode cX12_know 12 = .ok (.iload_n 2, 1) := by decide +kernel
theorem dX12_know_13 : decode cX12_know 13 = .ok (.iload_n 2, 1) := by decide +kernel
theorem dX12_know_14 : decode cX12_know 14 = .ok (.iload_n 1, 1) := by decide +kernel
theorem dX12_know_15 : decode cX12_know 15 = .ok (.if_icmp .ge 7, 3) := by decide +kernel
theorem dX12_know_22 : decode cX12_know 22 = .ok (.iconst 0, 1) := by decide +kernel
theorem dX12_know_23 : decode cX12_know 23 = .ok (.bastore, 1) := by decide +kernel
theorem dX12_know_24 : decode cX12_know 24 = .ok (.iinc 2 1, 3) := by decide +kernel
theorem dX12_know_27 : decode cX12_know 27 = .ok (.goto (-25), 3) := by decide +kernel
theorem dX12_know_30 : decode cX12_know 30 = .ok (.iload_n 1, 1) := by decide +kernel
theorem dX12_know_31 : decode cX12_know 31 = .ok (.iconst 1, 1) := by decide +kernel
theorem dX12_know_32 : decode cX12_know 32 = .ok (.isub, 1) := by decide +kernel
theorem dX12_know_33 : decode cX12_know 33 = .ok (.istore_n 2, 1) := by decide +kernel
theorem dX12_know_34 : decode cX12_know 34 = .ok (.iload_n 2, 1) := by decide +kernel
theorem dX12_know_35 : decode cX12_know 35 = .ok (.ifCond .lt 41, 3) := by decide +kernel
theorem dX12_know_76 : decode cX12_know 76 = .ok (.iconst 0, 1) := by decide +kernel
theorem dX12_know_77 : decode cX12_know 77 = .ok (.istore_n 2, 1) := by decide +kernel
theorem dX12_know_78 : decode cX12_know 78 = .ok (.iload_n 2, 1) := by decide +kernel
theorem dX12_know_79 : decode cX12_know 79 = .ok (.bipush 12, 2) := by decide +kernel
theorem dX12_know_81 : decode cX12_know 81 = .ok (.if_icmp .ge 16, 3) := by decide +kernel
theorem dX12_know_84 : decode cX12_know 84 = .ok (.aload_n 0, 1) := by decide +kernel
theorem dX12_know_85 : decode cX12_know 85 = .ok (.getfield 32, 3) := by decide +kernel
theorem dX12_know_88 : decode cX12_know 88 = .ok (.iload_n 2, 1) := by decide +kernel
theorem dX12_know_89 : decode cX12_know 89 = .ok (.iload_n 2, 1) := by decide +kernel
theorem dX12_know_90 : decode cX12_know 90 = .ok (.iastore, 1) := by decide +kernel
theorem dX12_know_91 : decode cX12_know 91 = .ok (.iinc 2 1, 3) := by decide +kernel
theorem dX12_know_94 : decode cX12_know 94 = .ok (.goto (-16), 3) := by decide +kernel
theorem dX12_know_97 : decode cX12_know 97 = .ok (.iconst 1, 1) := by decide +kernel
theorem dX12_know_98 : decode cX12_know 98 = .ok (.istore_n 2, 1) := by decide +kernel
theorem dX12_know_99 : decode cX12_know 99 = .ok (.iload_n 2, 1) := by decide +kernel
theorem dX12_know_100 : decode cX12_know 100 = .ok (.ifCond .eq 151, 3) := by decide +kernel
theorem dX12_know_103 : decode cX12_know 103 = .ok (.iconst 0, 1) := by decide +kernel
theorem dX12_know_104 : decode cX12_know 104 = .ok (.istore_n 2, 1) := by decide +kernel
theorem dX12_know_105 : decode cX12_know 105 = .ok (.iconst 0, 1) := by decide +kernel
theorem dX12_know_106 : decode cX12_know 106 = .ok (.istore_n 3, 1) := by decide +kernel
theorem dX12_know_107 : decode cX12_know 107 = .ok (.iload_n 3, 1) := by decide +kernel
theorem dX12_know_108 : decode cX12_know 108 = .ok (.aload_n 0, 1) := by decide +kernel
theorem dX12_know_109 : decode cX12_know 109 = .ok (.getfield 154, 3) := by decide +kernel
theorem dX12_know_112 : decode cX12_know 112 = .ok (.if_icmp .ge 136, 3) := by decide +kernel
theorem dX12_know_248 : decode cX12_know 248 = .ok (.goto (-149), 3) := by decide +kernel
theorem dX12_know_251 : decode cX12_know 251 = .ok (.aload_n 0, 1) := by decide +kernel
theorem dX12_know_252 : decode cX12_know 252 = .ok (.invokevirtual 161, 3) := by decide +kernel
theorem dX12_know_255 : decode cX12_know 255 = .ok (.aload_n 0, 1) := by decide +kernel
theorem dX12_know_256 : decode cX12_know 256 = .ok (.invokevirtual 164, 3) := by decide +kernel
theorem dX12_know_259 : decode cX12_know 259 = .ok (.return_, 1) := by decide +kernel
theorem dX12_orders_0 : decode cX12_orders 0 = .ok (.iconst 0, 1) := by decide +kernel
theorem dX12_orders_1 : decode cX12_orders 1 = .ok (.istore_n 1, 1) := by decide +kernel
theorem dX12_orders_2 : decode cX12_orders 2 = .ok (.iload_n 1, 1) := by decide +kernel
theorem dX12_orders_3 : decode cX12_orders 3 = .ok (.sipush 144, 3) := by decide +kernel
theorem dX12_orders_6 : decode cX12_orders 6 = .ok (.if_icmp .ge 16, 3) := by decide +kernel
theorem dX12_orders_9 : decode cX12_orders 9 = .ok (.aload_n 0, 1) := by decide +kernel
theorem dX12_orders_10 : decode cX12_orders 10 = .ok (.getfield 35, 3) := by decide +kernel
theorem dX12_orders_13 : decode cX12_orders 13 = .ok (.iload_n 1, 1) := by decide +kernel
theorem dX12_orders_14 : decode cX12_orders 14 = .ok (.iconst 0, 1) := by decide +kernel
theorem dX12_orders_15 : decode cX12_orders 15 = .ok (.bastore, 1) := by decide +kernel
theorem dX12_orders_16 : decode cX12_orders 16 = .ok (.iinc 1 1, 3) := by decide +kernel
theorem dX12_orders_19 : decode cX12_orders 19 = .ok (.goto (-17), 3) := by decide +kernel
theorem dX12_orders_22 : decode cX12_orders 22 = .ok (.iconst 0, 1) := by decide +kernel
theorem dX12_orders_23 : decode cX12_orders 23 = .ok (.istore_n 1, 1) := by decide +kernel
theorem dX12_orders_24 : decode cX12_orders 24 = .ok (.iload_n 1, 1) := by decide +kernel
theorem dX12_orders_25 : decode cX12_orders 25 = .ok (.aload_n 0, 1) := by decide +kernel
theorem dX12_orders_26 : decode cX12_orders 26 = .ok (.getfield 154, 3) := by decide +kernel
theorem dX12_orders_29 : decode cX12_orders 29 = .ok (.if_icmp .ge 60, 3) := by decide +kernel
theorem dX12_orders_89 : decode cX12_orders 89 = .ok (.iconst 0, 1) := by decide +kernel
theorem dX12_orders_90 : decode cX12_orders 90 = .ok (.istore_n 1, 1) := by decide +kernel
theorem dX12_orders_91 : decode cX12_orders 91 = .ok (.iload_n 1, 1) := by decide +kernel
theorem dX12_orders_92 : decode cX12_orders 92 = .ok (.bipush 12, 2) := by decide +kernel
theorem dX12_orders_94 : decode cX12_orders 94 = .ok (.if_icmp .ge 95, 3) := by decide +kernel
theorem dX12_orders_97 : decode cX12_orders 97 = .ok (.iconst 0, 1) := by decide +kernel
theorem dX12_orders_98 : decode cX12_orders 98 = .ok (.istore_n 2, 1) := by decide +kernel
theorem dX12_orders_99 : decode cX12_orders 99 = .ok (.iload_n 2, 1) := by decide +kernel
theorem dX12_orders_100 : decode cX12_orders 100 = .ok (.bipush 12, 2) := by decide +kernel
theorem dX12_orders_102 : decode cX12_orders 102 = .ok (.if_icmp .ge 81, 3) := by decide +kernel
theorem dX12_orders_105 : decode cX12_orders 105 = .ok (.iconst 0, 1) := by decide +kernel
theorem dX12_orders_106 : decode cX12_orders 106 = .ok (.istore_n 3, 1) := by decide +kernel
theorem dX12_orders_107 : decode cX12_orders 107 = .ok (.iload_n 3, 1) := by decide +kernel
theorem dX12_orders_108 : decode cX12_orders 108 = .ok (.bipush 12, 2) := by decide +kernel
theorem dX12_orders_110 : decode cX12_orders 110 = .ok (.if_icmp .ge 67, 3) := by decide +kernel
theorem dX12_orders_113 : decode cX12_orders 113 = .ok (.aload_n 0, 1) := by decide +kernel
theorem dX12_orders_114 : decode cX12_orders 114 = .ok (.getfield 35, 3) := by decide +kernel
theorem dX12_orders_117 : decode cX12_orders 117 = .ok (.bipush 12, 2) := by decide +kernel
theorem dX12_orders_119 : decode cX12_orders 119 = .ok (.iload_n 2, 1) := by decide +kernel
theorem dX12_orders_120 : decode cX12_orders 120 = .ok (.imul, 1) := by decide +kernel
theorem dX12_orders_121 : decode cX12_orders 121 = .ok (.iload_n 3, 1) := by decide +kernel
theorem dX12_orders_122 : decode cX12_orders 122 = .ok (.iadd, 1) := by decide +kernel
theorem dX12_orders_123 : decode cX12_orders 123 = .ok (.aload_n 0, 1) := by decide +kernel
theorem dX12_orders_124 : decode cX12_orders 124 = .ok (.getfield 35, 3) := by decide +kernel
theorem dX12_orders_127 : decode cX12_orders 127 = .ok (.bipush 12, 2) := by decide +kernel
theorem dX12_orders_129 : decode cX12_orders 129 = .ok (.iload_n 2, 1) := by decide +kernel
theorem dX12_orders_130 : decode cX12_orders 130 = .ok (.imul, 1) := by decide +kernel
theorem dX12_orders_131 : decode cX12_orders 131 = .ok (.iload_n 3, 1) := by decide +kernel
theorem dX12_orders_132 : decode cX12_orders 132 = .ok (.iadd, 1) := by decide +kernel
theorem dX12_orders_133 : decode cX12_orders 133 = .ok (.baload, 1) := by decide +kernel
theorem dX12_orders_134 : decode cX12_orders 134 = .ok (.ifCond .ne 31, 3) := by decide +kernel
theorem dX12_orders_137 : decode cX12_orders 137 = .ok (.aload_n 0, 1) := by decide +kernel
theorem dX12_orders_138 : decode cX12_orders 138 = .ok (.getfield 35, 3) := by decide +kernel
theorem dX12_orders_141 : decode cX12_orders 141 = .ok (.bipush 12, 2) := by decide +kernel
theorem dX12_orders_143 : decode cX12_orders 143 = .ok (.iload_n 2, 1) := by decide +kernel
theorem dX12_orders_144 : decode cX12_orders 144 = .ok (.imul, 1) := by decide +kernel
theorem dX12_orders_145 : decode cX12_orders 145 = .ok (.iload_n 1, 1) := by decide +kernel
theorem dX12_orders_146 : decode cX12_orders 146 = .ok (.iadd, 1) := by decide +kernel
theorem dX12_orders_147 : decode cX12_orders 147 = .ok (.baload, 1) := by decide +kernel
theorem dX12_orders_148 : decode cX12_orders 148 = .ok (.ifCond .eq 21, 3) := by decide +kernel
theorem dX12_orders_169 : decode cX12_orders 169 = .ok (.iconst 0, 1) := by decide +kernel
theorem dX12_orders_170 : decode cX12_orders 170 = .ok (.bastore, 1) := by decide +kernel
theorem dX12_orders_171 : decode cX12_orders 171 = .ok (.iinc 3 1, 3) := by decide +kernel
theorem dX12_orders_174 : decode cX12_orders 174 = .ok (.goto (-67), 3) := by decide +kernel
theorem dX12_orders_177 : decode cX12_orders 177 = .ok (.iinc 2 1, 3) := by decide +kernel
theorem dX12_orders_180 : decode cX12_orders 180 = .ok (.goto (-81), 3) := by decide +kernel
theorem dX12_orders_183 : decode cX12_orders 183 = .ok (.iinc 1 1, 3) := by decide +kernel
theorem dX12_orders_186 : decode cX12_orders 186 = .ok (.goto (-95), 3) := by decide +kernel
theorem dX12_orders_189 : decode cX12_orders 189 = .ok (.aload_n 0, 1) := by decide +kernel
theorem dX12_orders_190 : decode cX12_orders 190 = .ok (.iconst 0, 1) := by decide +kernel
theorem dX12_orders_191 : decode cX12_orders 191 = .ok (.putfield 167, 3) := by decide +kernel
theorem dX12_orders_194 : decode cX12_orders 194 = .ok (.iconst 0, 1) := by decide +kernel
theorem dX12_orders_195 : decode cX12_orders 195 = .ok (.istore_n 1, 1) := by decide +kernel
theorem dX12_orders_196 : decode cX12_orders 196 = .ok (.iload_n 1, 1) := by decide +kernel
theorem dX12_orders_197 : decode cX12_orders 197 = .ok (.bipush 12, 2) := by decide +kernel
theorem dX12_orders_199 : decode cX12_orders 199 = .ok (.if_icmp .ge 33, 3) := by decide +kernel
theorem dX12_orders_202 : decode cX12_orders 202 = .ok (.aload_n 0, 1) := by decide +kernel
theorem dX12_orders_203 : decode cX12_orders 203 = .ok (.aload_n 0, 1) := by decide +kernel
theorem dX12_orders_204 : decode cX12_orders 204 = .ok (.getfield 35, 3) := by decide +kernel
theorem dX12_orders_207 : decode cX12_orders 207 = .ok (.bipush 13, 2) := by decide +kernel
theorem dX12_orders_209 : decode cX12_orders 209 = .ok (.iload_n 1, 1) := by decide +kernel
theorem dX12_orders_210 : decode cX12_orders 210 = .ok (.imul, 1) := by decide +kernel
theorem dX12_orders_211 : decode cX12_orders 211 = .ok (.baload, 1) := by decide +kernel
theorem dX12_orders_212 : decode cX12_orders 212 = .ok (.ifCond .eq 7, 3) := by decide +kernel
theorem dX12_orders_219 : decode cX12_orders 219 = .ok (.aload_n 0, 1) := by decide +kernel
theorem dX12_orders_220 : decode cX12_orders 220 = .ok (.getfield 167, 3) := by decide +kernel
theorem dX12_orders_223 : decode cX12_orders 223 = .ok (.putfield 167, 3) := by decide +kernel
theorem dX12_orders_226 : decode cX12_orders 226 = .ok (.iinc 1 1, 3) := by decide +kernel
theorem dX12_orders_229 : decode cX12_orders 229 = .ok (.goto (-33), 3) := by decide +kernel
theorem dX12_orders_232 : decode cX12_orders 232 = .ok (.iconst 0, 1) := by decide +kernel
theorem dX12_orders_233 : decode cX12_orders 233 = .ok (.istore_n 1, 1) := by decide +kernel
theorem dX12_orders_234 : decode cX12_orders 234 = .ok (.iload_n 1, 1) := by decide +kernel
theorem dX12_orders_235 : decode cX12_orders 235 = .ok (.bipush 12, 2) := by decide +kernel
theorem dX12_orders_237 : decode cX12_orders 237 = .ok (.if_icmp .ge 16, 3) := by decide +kernel
theorem dX12_orders_240 : decode cX12_orders 240 = .ok (.aload_n 0, 1) := by decide +kernel
theorem dX12_orders_241 : decode cX12_orders 241 = .ok (.getfield 38, 3) := by decide +kernel
theorem dX12_orders_244 : decode cX12_orders 244 = .ok (.iload_n 1, 1) := by decide +kernel
theorem dX12_orders_245 : decode cX12_orders 245 = .ok (.iconst 0, 1) := by decide +kernel
theorem dX12_orders_246 : decode cX12_orders 246 = .ok (.iastore, 1) := by decide +kernel
theorem dX12_orders_247 : decode cX12_orders 247 = .ok (.iinc 1 1, 3) := by decide +kernel
theorem dX12_orders_250 : decode cX12_orders 250 = .ok (.goto (-16), 3) := by decide +kernel
theorem dX12_orders_253 : decode cX12_orders 253 = .ok (.iconst 0, 1) := by decide +kernel
theorem dX12_orders_254 : decode cX12_orders 254 = .ok (.istore_n 1, 1) := by decide +kernel
theorem dX12_orders_255 : decode cX12_orders 255 = .ok (.iload_n 1, 1) := by decide +kernel
theorem dX12_orders_256 : decode cX12_orders 256 = .ok (.bipush 12, 2) := by decide +kernel
theorem dX12_orders_258 : decode cX12_orders 258 = .ok (.if_icmp .ge 87, 3) := by decide +kernel
theorem dX12_orders_261 : decode cX12_orders 261 = .ok (.aload_n 0, 1) := by decide +kernel
theorem dX12_orders_262 : decode cX12_orders 262 = .ok (.getfield 167, 3) := by decide +kernel
theorem dX12_orders_265 : decode cX12_orders 265 = .ok (.ifCond .ne 80, 3) := by decide +kernel
theorem dX12_orders_268 : decode cX12_orders 268 = .ok (.iconst 0, 1) := by decide +kernel
theorem dX12_orders_269 : decode cX12_orders 269 = .ok (.istore_n 2, 1) := by decide +kernel
theorem dX12_orders_270 : decode cX12_orders 270 = .ok (.iload_n 2, 1) := by decide +kernel
theorem dX12_orders_271 : decode cX12_orders 271 = .ok (.bipush 12, 2) := by decide +kernel
theorem dX12_orders_273 : decode cX12_orders 273 = .ok (.if_icmp .ge 66, 3) := by decide +kernel
theorem dX12_orders_276 : decode cX12_orders 276 = .ok (.iconst 0, 1) := by decide +kernel
theorem dX12_orders_277 : decode cX12_orders 277 = .ok (.istore_n 3, 1) := by decide +kernel
theorem dX12_orders_278 : decode cX12_orders 278 = .ok (.iload_n 3, 1) := by decide +kernel
theorem dX12_orders_279 : decode cX12_orders 279 = .ok (.bipush 12, 2) := by decide +kernel
theorem dX12_orders_281 : decode cX12_orders 281 = .ok (.if_icmp .ge 52, 3) := by decide +kernel
theorem dX12_orders_284 : decode cX12_orders 284 = .ok (.aload_n 0, 1) := by decide +kernel
theorem dX12_orders_285 : decode cX12_orders 285 = .ok (.getfield 35, 3) := by decide +kernel
theorem dX12_orders_288 : decode cX12_orders 288 = .ok (.bipush 12, 2) := by decide +kernel
theorem dX12_orders_290 : decode cX12_orders 290 = .ok (.iload_n 2, 1) := by decide +kernel
theorem dX12_orders_291 : decode cX12_orders 291 = .ok (.imul, 1) := by decide +kernel
theorem dX12_orders_292 : decode cX12_orders 292 = .ok (.iload_n 3, 1) := by decide +kernel
theorem dX12_orders_293 : decode cX12_orders 293 = .ok (.iadd, 1) := by decide +kernel
theorem dX12_orders_294 : decode cX12_orders 294 = .ok (.baload, 1) := by decide +kernel
theorem dX12_orders_295 : decode cX12_orders 295 = .ok (.ifCond .eq 32, 3) := by decide +kernel
theorem dX12_orders_327 : decode cX12_orders 327 = .ok (.iinc 3 1, 3) := by decide +kernel
theorem dX12_orders_330 : decode cX12_orders 330 = .ok (.goto (-52), 3) := by decide +kernel
theorem dX12_orders_333 : decode cX12_orders 333 = .ok (.iinc 2 1, 3) := by decide +kernel
theorem dX12_orders_336 : decode cX12_orders 336 = .ok (.goto (-66), 3) := by decide +kernel
theorem dX12_orders_339 : decode cX12_orders 339 = .ok (.iinc 1 1, 3) := by decide +kernel
theorem dX12_orders_342 : decode cX12_orders 342 = .ok (.goto (-87), 3) := by decide +kernel
theorem dX12_orders_345 : decode cX12_orders 345 = .ok (.return_, 1) := by decide +kernel
theorem dX12_quarrel_0 : decode cX12_quarrel 0 = .ok (.aload_n 0, 1) := by decide +kernel
theorem dX12_quarrel_1 : decode cX12_quarrel 1 = .ok (.iconst 0, 1) := by decide +kernel
theorem dX12_quarrel_2 : decode cX12_quarrel 2 = .ok (.putfield 145, 3) := by decide +kernel
theorem dX12_quarrel_5 : decode cX12_quarrel 5 = .ok (.aload_n 0, 1) := by decide +kernel
theorem dX12_quarrel_6 : decode cX12_quarrel 6 = .ok (.iload_n 1, 1) := by decide +kernel
theorem dX12_quarrel_7 : decode cX12_quarrel 7 = .ok (.invokevirtual 170, 3) := by decide +kernel
theorem dX12_quarrel_10 : decode cX12_quarrel 10 = .ok (.ifCond .ne 5, 3) := by decide +kernel
theorem dX12_quarrel_13 : decode cX12_quarrel 13 = .ok (.iconst (-1), 1) := by decide +kernel
theorem dX12_quarrel_14 : decode cX12_quarrel 14 = .ok (.ireturn, 1) := by decide +kernel
theorem dX12_quarrel_15 : decode cX12_quarrel 15 = .ok (.aload_n 0, 1) := by decide +kernel
theorem dX12_quarrel_16 : decode cX12_quarrel 16 = .ok (.iload_n 1, 1) := by decide +kernel
theorem dX12_quarrel_17 : decode cX12_quarrel 17 = .ok (.invokevirtual 173, 3) := by decide +kernel
theorem dX12_quarrel_20 : decode cX12_quarrel 20 = .ok (.aload_n 0, 1) := by decide +kernel
theorem dX12_quarrel_21 : decode cX12_quarrel 21 = .ok (.getfield 167, 3) := by decide +kernel
theorem dX12_quarrel_24 : decode cX12_quarrel 24 = .ok (.ireturn, 1) := by decide +kernel
theorem dX12_spans_0 : decode cX12_spans 0 = .ok (.iconst 0, 1) := by decide +kernel
theorem dX12_spans_1 : decode cX12_spans 1 = .ok (.istore_n 1, 1) := by decide +kernel
theorem dX12_spans_2 : decode cX12_spans 2 = .ok (.iload_n 1, 1) := by decide +kernel
theorem dX12_spans_3 : decode cX12_spans 3 = .ok (.bipush 12, 2) := by decide +kernel
theorem dX12_spans_5 : decode cX12_spans 5 = .ok (.if_icmp .ge 25, 3) := by decide +kernel
theorem dX12_spans_8 : decode cX12_spans 8 = .ok (.aload_n 0, 1) := by decide +kernel
theorem dX12_spans_9 : decode cX12_spans 9 = .ok (.getfield 41, 3) := by decide +kernel
theorem dX12_spans_12 : decode cX12_spans 12 = .ok (.iload_n 1, 1) := by decide +kernel
theorem dX12_spans_13 : decode cX12_spans 13 = .ok (.iconst 0, 1) := by decide +kernel
theorem dX12_spans_14 : decode cX12_spans 14 = .ok (.iastore, 1) := by decide +kernel
theorem dX12_spans_15 : decode cX12_spans 15 = .ok (.aload_n 0, 1) := by decide +kernel
theorem dX12_spans_16 : decode cX12_spans 16 = .ok (.getfield 44, 3) := by decide +kernel
theorem dX12_spans_19 : decode cX12_spans 19 = .ok (.iload_n 1, 1) := by decide +kernel
theorem dX12_spans_20 : decode cX12_spans 20 = .ok (.sipush 9999, 3) := by decide +kernel
theorem dX12_spans_23 : decode cX12_spans 23 = .ok (.iastore, 1) := by decide +kernel
theorem dX12_spans_24 : decode cX12_spans 24 = .ok (.iinc 1 1, 3) := by decide +kernel
theorem dX12_spans_27 : decode cX12_spans 27 = .ok (.goto (-25), 3) := by decide +kernel
theorem dX12_spans_30 : decode cX12_spans 30 = .ok (.iconst 0, 1) := by decide +kernel
theorem dX12_spans_31 : decode cX12_spans 31 = .ok (.istore_n 1, 1) := by decide +kernel
theorem dX12_spans_32 : decode cX12_spans 32 = .ok (.iload_n 1, 1) := by decide +kernel
theorem dX12_spans_33 : decode cX12_spans 33 = .ok (.aload_n 0, 1) := by decide +kernel
theorem dX12_spans_34 : decode cX12_spans 34 = .ok (.getfield 154, 3) := by decide +kernel
theorem dX12_spans_37 : decode cX12_spans 37 = .ok (.if_icmp .ge 115, 3) := by decide +kernel
theorem dX12_spans_152 : decode cX12_spans 152 = .ok (.iconst 0, 1) := by decide +kernel
theorem dX12_spans_153 : decode cX12_spans 153 = .ok (.istore_n 1, 1) := by decide +kernel
theorem dX12_spans_154 : decode cX12_spans 154 = .ok (.iload_n 1, 1) := by decide +kernel
theorem dX12_spans_155 : decode cX12_spans 155 = .ok (.bipush 12, 2) := by decide +kernel
theorem dX12_spans_157 : decode cX12_spans 157 = .ok (.if_icmp .ge 126, 3) := by decide +kernel
theorem dX12_spans_160 : decode cX12_spans 160 = .ok (.iconst 0, 1) := by decide +kernel
theorem dX12_spans_161 : decode cX12_spans 161 = .ok (.istore_n 2, 1) := by decide +kernel
theorem dX12_spans_162 : decode cX12_spans 162 = .ok (.iload_n 2, 1) := by decide +kernel
theorem dX12_spans_163 : decode cX12_spans 163 = .ok (.bipush 12, 2) := by decide +kernel
theorem dX12_spans_165 : decode cX12_spans 165 = .ok (.if_icmp .ge 112, 3) := by decide +kernel
theorem dX12_spans_168 : decode cX12_spans 168 = .ok (.iconst 0, 1) := by decide +kernel
theorem dX12_spans_169 : decode cX12_spans 169 = .ok (.istore_n 3, 1) := by decide +kernel
theorem dX12_spans_170 : decode cX12_spans 170 = .ok (.iload_n 3, 1) := by decide +kernel
theorem dX12_spans_171 : decode cX12_spans 171 = .ok (.bipush 12, 2) := by decide +kernel
theorem dX12_spans_173 : decode cX12_spans 173 = .ok (.if_icmp .ge 98, 3) := by decide +kernel
theorem dX12_spans_176 : decode cX12_spans 176 = .ok (.aload_n 0, 1) := by decide +kernel
theorem dX12_spans_177 : decode cX12_spans 177 = .ok (.getfield 35, 3) := by decide +kernel
theorem dX12_spans_180 : decode cX12_spans 180 = .ok (.bipush 12, 2) := by decide +kernel
theorem dX12_spans_182 : decode cX12_spans 182 = .ok (.iload_n 2, 1) := by decide +kernel
theorem dX12_spans_183 : decode cX12_spans 183 = .ok (.imul, 1) := by decide +kernel
theorem dX12_spans_184 : decode cX12_spans 184 = .ok (.iload_n 3, 1) := by decide +kernel
theorem dX12_spans_185 : decode cX12_spans 185 = .ok (.iadd, 1) := by decide +kernel
theorem dX12_spans_186 : decode cX12_spans 186 = .ok (.baload, 1) := by decide +kernel
theorem dX12_spans_187 : decode cX12_spans 187 = .ok (.ifCond .ne 6, 3) := by decide +kernel
theorem dX12_spans_190 : decode cX12_spans 190 = .ok (.goto 75, 3) := by decide +kernel
theorem dX12_spans_265 : decode cX12_spans 265 = .ok (.iinc 3 1, 3) := by decide +kernel
theorem dX12_spans_268 : decode cX12_spans 268 = .ok (.goto (-98), 3) := by decide +kernel
theorem dX12_spans_271 : decode cX12_spans 271 = .ok (.iinc 2 1, 3) := by decide +kernel
theorem dX12_spans_274 : decode cX12_spans 274 = .ok (.goto (-112), 3) := by decide +kernel
theorem dX12_spans_277 : decode cX12_spans 277 = .ok (.iinc 1 1, 3) := by decide +kernel
theorem dX12_spans_280 : decode cX12_spans 280 = .ok (.goto (-126), 3) := by decide +kernel
theorem dX12_spans_283 : decode cX12_spans 283 = .ok (.aload_n 0, 1) := by decide +kernel
theorem dX12_spans_284 : decode cX12_spans 284 = .ok (.getfield 167, 3) := by decide +kernel
theorem dX12_spans_287 : decode cX12_spans 287 = .ok (.iconst 1, 1) := by decide +kernel
theorem dX12_spans_288 : decode cX12_spans 288 = .ok (.if_icmp .ne 4, 3) := by decide +kernel
theorem dX12_spans_292 : decode cX12_spans 292 = .ok (.iconst 0, 1) := by decide +kernel
theorem dX12_spans_293 : decode cX12_spans 293 = .ok (.istore_n 1, 1) := by decide +kernel
theorem dX12_spans_294 : decode cX12_spans 294 = .ok (.iload_n 1, 1) := by decide +kernel
theorem dX12_spans_295 : decode cX12_spans 295 = .ok (.bipush 12, 2) := by decide +kernel
theorem dX12_spans_297 : decode cX12_spans 297 = .ok (.if_icmp .ge 36, 3) := by decide +kernel
theorem dX12_spans_300 : decode cX12_spans 300 = .ok (.aload_n 0, 1) := by decide +kernel
theorem dX12_spans_301 : decode cX12_spans 301 = .ok (.aload_n 0, 1) := by decide +kernel
theorem dX12_spans_302 : decode cX12_spans 302 = .ok (.getfield 41, 3) := by decide +kernel
theorem dX12_spans_305 : decode cX12_spans 305 = .ok (.iload_n 1, 1) := by decide +kernel
theorem dX12_spans_306 : decode cX12_spans 306 = .ok (.iaload, 1) := by decide +kernel
theorem dX12_spans_307 : decode cX12_spans 307 = .ok (.aload_n 0, 1) := by decide +kernel
theorem dX12_spans_308 : decode cX12_spans 308 = .ok (.getfield 44, 3) := by decide +kernel
theorem dX12_spans_311 : decode cX12_spans 311 = .ok (.iload_n 1, 1) := by decide +kernel
theorem dX12_spans_312 : decode cX12_spans 312 = .ok (.iaload, 1) := by decide +kernel
theorem dX12_spans_313 : decode cX12_spans 313 = .ok (.if_icmp .le 7, 3) := by decide +kernel
theorem dX12_spans_320 : decode cX12_spans 320 = .ok (.aload_n 0, 1) := by decide +kernel
theorem dX12_spans_321 : decode cX12_spans 321 = .ok (.getfield 167, 3) := by decide +kernel
theorem dX12_spans_324 : decode cX12_spans 324 = .ok (.putfield 167, 3) := by decide +kernel
theorem dX12_spans_327 : decode cX12_spans 327 = .ok (.iinc 1 1, 3) := by decide +kernel
theorem dX12_spans_330 : decode cX12_spans 330 = .ok (.goto (-36), 3) := by decide +kernel
theorem dX12_spans_333 : decode cX12_spans 333 = .ok (.return_, 1) := by decide +kernel
