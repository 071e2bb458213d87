theorem zwX0_hasFirst_0 : ((cX0_hasFirst.data.toList.drop 0).take 18).map UInt8.toNat = [27, 155, 0, 15, 27, 42, 180, 0, 24, 163, 0, 7, 4, 167, 0, 4, 3, 172] := by decide +kernel
theorem dX0_hasFirst_0 : decode cX0_hasFirst 0 = .ok (.iload_n 1, 1) := z_o27 (z_wat (q := 0) (j := 0) zwX0_hasFirst_0 rfl)
theorem dX0_hasFirst_1 : decode cX0_hasFirst 1 = .ok (.ifCond .lt 15, 3) := z_o155 (z_wat (q := 0) (j := 1) zwX0_hasFirst_0 rfl) (z_wat (q := 0) (j := 2) zwX0_hasFirst_0 rfl) (z_wat (q := 0) (j := 3) zwX0_hasFirst_0 rfl) rfl
theorem dX0_hasFirst_4 : decode cX0_hasFirst 4 = .ok (.iload_n 1, 1) := z_o27 (z_wat (q := 0) (j := 4) zwX0_hasFirst_0 rfl)
theorem dX0_hasFirst_5 : decode cX0_hasFirst 5 = .ok (.aload_n 0, 1) := z_o42 (z_wat (q := 0) (j := 5) zwX0_hasFirst_0 rfl)
theorem dX0_hasFirst_6 : decode cX0_hasFirst 6 = .ok (.getfield 24, 3) := z_o180 (z_wat (q := 0) (j := 6) zwX0_hasFirst_0 rfl) (z_wat (q := 0) (j := 7) zwX0_hasFirst_0 rfl) (z_wat (q := 0) (j := 8) zwX0_hasFirst_0 rfl) rfl
theorem dX0_hasFirst_9 : decode cX0_hasFirst 9 = .ok (.if_icmp .gt 7, 3) := z_o163 (z_wat (q := 0) (j := 9) zwX0_hasFirst_0 rfl) (z_wat (q := 0) (j := 10) zwX0_hasFirst_0 rfl) (z_wat (q := 0) (j := 11) zwX0_hasFirst_0 rfl) rfl
theorem dX0_hasFirst_12 : decode cX0_hasFirst 12 = .ok (.iconst 1, 1) := z_o4 (z_wat (q := 0) (j := 12) zwX0_hasFirst_0 rfl)
theorem dX0_hasFirst_13 : decode cX0_hasFirst 13 = .ok (.goto 4, 3) := z_o167 (z_wat (q := 0) (j := 13) zwX0_hasFirst_0 rfl) (z_wat (q := 0) (j := 14) zwX0_hasFirst_0 rfl) (z_wat (q := 0) (j := 15) zwX0_hasFirst_0 rfl) rfl
theorem dX0_hasFirst_16 : decode cX0_hasFirst 16 = .ok (.iconst 0, 1) := z_o3 (z_wat (q := 0) (j := 16) zwX0_hasFirst_0 rfl)
theorem dX0_hasFirst_17 : decode cX0_hasFirst 17 = .ok (.ireturn, 1) := z_o172 (z_wat (q := 0) (j := 17) zwX0_hasFirst_0 rfl)
theorem zwX0_hasLayer_0 : ((cX0_hasLayer.data.toList.drop 0).take 18).map UInt8.toNat = [27, 155, 0, 15, 27, 42, 180, 0, 28, 162, 0, 7, 4, 167, 0, 4, 3, 172] := by decide +kernel
theorem dX0_hasLayer_0 : decode cX0_hasLayer 0 = .ok (.iload_n 1, 1) := z_o27 (z_wat (q := 0) (j := 0) zwX0_hasLayer_0 rfl)
theorem dX0_hasLayer_1 : decode cX0_hasLayer 1 = .ok (.ifCond .lt 15, 3) := z_o155 (z_wat (q := 0) (j := 1) zwX0_hasLayer_0 rfl) (z_wat (q := 0) (j := 2) zwX0_hasLayer_0 rfl) (z_wat (q := 0) (j := 3) zwX0_hasLayer_0 rfl) rfl
theorem dX0_hasLayer_4 : decode cX0_hasLayer 4 = .ok (.iload_n 1, 1) := z_o27 (z_wat (q := 0) (j := 4) zwX0_hasLayer_0 rfl)
theorem dX0_hasLayer_5 : decode cX0_hasLayer 5 = .ok (.aload_n 0, 1) := z_o42 (z_wat (q := 0) (j := 5) zwX0_hasLayer_0 rfl)
theorem dX0_hasLayer_6 : decode cX0_hasLayer 6 = .ok (.getfield 28, 3) := z_o180 (z_wat (q := 0) (j := 6) zwX0_hasLayer_0 rfl) (z_wat (q := 0) (j := 7) zwX0_hasLayer_0 rfl) (z_wat (q := 0) (j := 8) zwX0_hasLayer_0 rfl) rfl
theorem dX0_hasLayer_9 : decode cX0_hasLayer 9 = .ok (.if_icmp .ge 7, 3) := z_o162 (z_wat (q := 0) (j := 9) zwX0_hasLayer_0 rfl) (z_wat (q := 0) (j := 10) zwX0_hasLayer_0 rfl) (z_wat (q := 0) (j := 11) zwX0_hasLayer_0 rfl) rfl
theorem dX0_hasLayer_12 : decode cX0_hasLayer 12 = .ok (.iconst 1, 1) := z_o4 (z_wat (q := 0) (j := 12) zwX0_hasLayer_0 rfl)
theorem dX0_hasLayer_13 : decode cX0_hasLayer 13 = .ok (.goto 4, 3) := z_o167 (z_wat (q := 0) (j := 13) zwX0_hasLayer_0 rfl) (z_wat (q := 0) (j := 14) zwX0_hasLayer_0 rfl) (z_wat (q := 0) (j := 15) zwX0_hasLayer_0 rfl) rfl
theorem dX0_hasLayer_16 : decode cX0_hasLayer 16 = .ok (.iconst 0, 1) := z_o3 (z_wat (q := 0) (j := 16) zwX0_hasLayer_0 rfl)
theorem dX0_hasLayer_17 : decode cX0_hasLayer 17 = .ok (.ireturn, 1) := z_o172 (z_wat (q := 0) (j := 17) zwX0_hasLayer_0 rfl)
theorem zwX0_isFull_0 : ((cX0_isFull.data.toList.drop 0).take 15).map UInt8.toNat = [42, 180, 0, 24, 16, 80, 161, 0, 7, 4, 167, 0, 4, 3, 172] := by decide +kernel
theorem dX0_isFull_0 : decode cX0_isFull 0 = .ok (.aload_n 0, 1) := z_o42 (z_wat (q := 0) (j := 0) zwX0_isFull_0 rfl)
theorem dX0_isFull_1 : decode cX0_isFull 1 = .ok (.getfield 24, 3) := z_o180 (z_wat (q := 0) (j := 1) zwX0_isFull_0 rfl) (z_wat (q := 0) (j := 2) zwX0_isFull_0 rfl) (z_wat (q := 0) (j := 3) zwX0_isFull_0 rfl) rfl
theorem dX0_isFull_4 : decode cX0_isFull 4 = .ok (.bipush 80, 2) := z_o16 (z_wat (q := 0) (j := 4) zwX0_isFull_0 rfl) (z_wat (q := 0) (j := 5) zwX0_isFull_0 rfl) rfl
theorem dX0_isFull_6 : decode cX0_isFull 6 = .ok (.if_icmp .lt 7, 3) := z_o161 (z_wat (q := 0) (j := 6) zwX0_isFull_0 rfl) (z_wat (q := 0) (j := 7) zwX0_isFull_0 rfl) (z_wat (q := 0) (j := 8) zwX0_isFull_0 rfl) rfl
theorem dX0_isFull_9 : decode cX0_isFull 9 = .ok (.iconst 1, 1) := z_o4 (z_wat (q := 0) (j := 9) zwX0_isFull_0 rfl)
theorem dX0_isFull_10 : decode cX0_isFull 10 = .ok (.goto 4, 3) := z_o167 (z_wat (q := 0) (j := 10) zwX0_isFull_0 rfl) (z_wat (q := 0) (j := 11) zwX0_isFull_0 rfl) (z_wat (q := 0) (j := 12) zwX0_isFull_0 rfl) rfl
theorem dX0_isFull_13 : decode cX0_isFull 13 = .ok (.iconst 0, 1) := z_o3 (z_wat (q := 0) (j := 13) zwX0_isFull_0 rfl)
theorem dX0_isFull_14 : decode cX0_isFull 14 = .ok (.ireturn, 1) := z_o172 (z_wat (q := 0) (j := 14) zwX0_isFull_0 rfl)
theorem zwX2_draw_0 : ((cX2_draw.data.toList.drop 0).take 34).map UInt8.toNat = [27, 155, 0, 32, 27, 42, 180, 0, 9, 162, 0, 24, 28, 155, 0, 20, 28, 42, 180, 0, 15, 162, 0, 12, 42, 180, 0, 34, 16, 10, 161, 0, 5, 2] := by decide +kernel
theorem dX2_draw_0 : decode cX2_draw 0 = .ok (.iload_n 1, 1) := z_o27 (z_wat (q := 0) (j := 0) zwX2_draw_0 rfl)
theorem dX2_draw_1 : decode cX2_draw 1 = .ok (.ifCond .lt 32, 3) := z_o155 (z_wat (q := 0) (j := 1) zwX2_draw_0 rfl) (z_wat (q := 0) (j := 2) zwX2_draw_0 rfl) (z_wat (q := 0) (j := 3) zwX2_draw_0 rfl) rfl
theorem dX2_draw_4 : decode cX2_draw 4 = .ok (.iload_n 1, 1) := z_o27 (z_wat (q := 0) (j := 4) zwX2_draw_0 rfl)
theorem dX2_draw_5 : decode cX2_draw 5 = .ok (.aload_n 0, 1) := z_o42 (z_wat (q := 0) (j := 5) zwX2_draw_0 rfl)
theorem dX2_draw_6 : decode cX2_draw 6 = .ok (.getfield 9, 3) := z_o180 (z_wat (q := 0) (j := 6) zwX2_draw_0 rfl) (z_wat (q := 0) (j := 7) zwX2_draw_0 rfl) (z_wat (q := 0) (j := 8) zwX2_draw_0 rfl) rfl
theorem dX2_draw_9 : decode cX2_draw 9 = .ok (.if_icmp .ge 24, 3) := z_o162 (z_wat (q := 0) (j := 9) zwX2_draw_0 rfl) (z_wat (q := 0) (j := 10) zwX2_draw_0 rfl) (z_wat (q := 0) (j := 11) zwX2_draw_0 rfl) rfl
theorem dX2_draw_12 : decode cX2_draw 12 = .ok (.iload_n 2, 1) := z_o28 (z_wat (q := 0) (j := 12) zwX2_draw_0 rfl)
theorem dX2_draw_13 : decode cX2_draw 13 = .ok (.ifCond .lt 20, 3) := z_o155 (z_wat (q := 0) (j := 13) zwX2_draw_0 rfl) (z_wat (q := 0) (j := 14) zwX2_draw_0 rfl) (z_wat (q := 0) (j := 15) zwX2_draw_0 rfl) rfl
theorem dX2_draw_16 : decode cX2_draw 16 = .ok (.iload_n 2, 1) := z_o28 (z_wat (q := 0) (j := 16) zwX2_draw_0 rfl)
theorem dX2_draw_17 : decode cX2_draw 17 = .ok (.aload_n 0, 1) := z_o42 (z_wat (q := 0) (j := 17) zwX2_draw_0 rfl)
theorem dX2_draw_18 : decode cX2_draw 18 = .ok (.getfield 15, 3) := z_o180 (z_wat (q := 0) (j := 18) zwX2_draw_0 rfl) (z_wat (q := 0) (j := 19) zwX2_draw_0 rfl) (z_wat (q := 0) (j := 20) zwX2_draw_0 rfl) rfl
theorem dX2_draw_21 : decode cX2_draw 21 = .ok (.if_icmp .ge 12, 3) := z_o162 (z_wat (q := 0) (j := 21) zwX2_draw_0 rfl) (z_wat (q := 0) (j := 22) zwX2_draw_0 rfl) (z_wat (q := 0) (j := 23) zwX2_draw_0 rfl) rfl
theorem dX2_draw_24 : decode cX2_draw 24 = .ok (.aload_n 0, 1) := z_o42 (z_wat (q := 0) (j := 24) zwX2_draw_0 rfl)
theorem dX2_draw_25 : decode cX2_draw 25 = .ok (.getfield 34, 3) := z_o180 (z_wat (q := 0) (j := 25) zwX2_draw_0 rfl) (z_wat (q := 0) (j := 26) zwX2_draw_0 rfl) (z_wat (q := 0) (j := 27) zwX2_draw_0 rfl) rfl
theorem dX2_draw_28 : decode cX2_draw 28 = .ok (.bipush 10, 2) := z_o16 (z_wat (q := 0) (j := 28) zwX2_draw_0 rfl) (z_wat (q := 0) (j := 29) zwX2_draw_0 rfl) rfl
theorem dX2_draw_30 : decode cX2_draw 30 = .ok (.if_icmp .lt 5, 3) := z_o161 (z_wat (q := 0) (j := 30) zwX2_draw_0 rfl) (z_wat (q := 0) (j := 31) zwX2_draw_0 rfl) (z_wat (q := 0) (j := 32) zwX2_draw_0 rfl) rfl
theorem zwX2_draw_32 : ((cX2_draw.data.toList.drop 32).take 34).map UInt8.toNat = [5, 2, 172, 3, 62, 29, 42, 180, 0, 34, 162, 0, 31, 42, 180, 0, 18, 29, 46, 27, 160, 0, 15, 42, 180, 0, 22, 29, 46, 28, 160, 0, 5, 2] := by decide +kernel
theorem dX2_draw_33 : decode cX2_draw 33 = .ok (.iconst (-1), 1) := z_o2 (z_wat (q := 32) (j := 1) zwX2_draw_32 rfl)
theorem dX2_draw_34 : decode cX2_draw 34 = .ok (.ireturn, 1) := z_o172 (z_wat (q := 32) (j := 2) zwX2_draw_32 rfl)
theorem dX2_draw_35 : decode cX2_draw 35 = .ok (.iconst 0, 1) := z_o3 (z_wat (q := 32) (j := 3) zwX2_draw_32 rfl)
theorem dX2_draw_36 : decode cX2_draw 36 = .ok (.istore_n 3, 1) := z_o62 (z_wat (q := 32) (j := 4) zwX2_draw_32 rfl)
theorem dX2_draw_37 : decode cX2_draw 37 = .ok (.iload_n 3, 1) := z_o29 (z_wat (q := 32) (j := 5) zwX2_draw_32 rfl)
theorem dX2_draw_38 : decode cX2_draw 38 = .ok (.aload_n 0, 1) := z_o42 (z_wat (q := 32) (j := 6) zwX2_draw_32 rfl)
theorem dX2_draw_39 : decode cX2_draw 39 = .ok (.getfield 34, 3) := z_o180 (z_wat (q := 32) (j := 7) zwX2_draw_32 rfl) (z_wat (q := 32) (j := 8) zwX2_draw_32 rfl) (z_wat (q := 32) (j := 9) zwX2_draw_32 rfl) rfl
theorem dX2_draw_42 : decode cX2_draw 42 = .ok (.if_icmp .ge 31, 3) := z_o162 (z_wat (q := 32) (j := 10) zwX2_draw_32 rfl) (z_wat (q := 32) (j := 11) zwX2_draw_32 rfl) (z_wat (q := 32) (j := 12) zwX2_draw_32 rfl) rfl
theorem dX2_draw_45 : decode cX2_draw 45 = .ok (.aload_n 0, 1) := z_o42 (z_wat (q := 32) (j := 13) zwX2_draw_32 rfl)
theorem dX2_draw_46 : decode cX2_draw 46 = .ok (.getfield 18, 3) := z_o180 (z_wat (q := 32) (j := 14) zwX2_draw_32 rfl) (z_wat (q := 32) (j := 15) zwX2_draw_32 rfl) (z_wat (q := 32) (j := 16) zwX2_draw_32 rfl) rfl
theorem dX2_draw_49 : decode cX2_draw 49 = .ok (.iload_n 3, 1) := z_o29 (z_wat (q := 32) (j := 17) zwX2_draw_32 rfl)
theorem dX2_draw_50 : decode cX2_draw 50 = .ok (.iaload, 1) := z_o46 (z_wat (q := 32) (j := 18) zwX2_draw_32 rfl)
theorem dX2_draw_51 : decode cX2_draw 51 = .ok (.iload_n 1, 1) := z_o27 (z_wat (q := 32) (j := 19) zwX2_draw_32 rfl)
theorem dX2_draw_52 : decode cX2_draw 52 = .ok (.if_icmp .ne 15, 3) := z_o160 (z_wat (q := 32) (j := 20) zwX2_draw_32 rfl) (z_wat (q := 32) (j := 21) zwX2_draw_32 rfl) (z_wat (q := 32) (j := 22) zwX2_draw_32 rfl) rfl
theorem dX2_draw_55 : decode cX2_draw 55 = .ok (.aload_n 0, 1) := z_o42 (z_wat (q := 32) (j := 23) zwX2_draw_32 rfl)
theorem dX2_draw_56 : decode cX2_draw 56 = .ok (.getfield 22, 3) := z_o180 (z_wat (q := 32) (j := 24) zwX2_draw_32 rfl) (z_wat (q := 32) (j := 25) zwX2_draw_32 rfl) (z_wat (q := 32) (j := 26) zwX2_draw_32 rfl) rfl
theorem dX2_draw_59 : decode cX2_draw 59 = .ok (.iload_n 3, 1) := z_o29 (z_wat (q := 32) (j := 27) zwX2_draw_32 rfl)
theorem dX2_draw_60 : decode cX2_draw 60 = .ok (.iaload, 1) := z_o46 (z_wat (q := 32) (j := 28) zwX2_draw_32 rfl)
theorem dX2_draw_61 : decode cX2_draw 61 = .ok (.iload_n 2, 1) := z_o28 (z_wat (q := 32) (j := 29) zwX2_draw_32 rfl)
theorem dX2_draw_62 : decode cX2_draw 62 = .ok (.if_icmp .ne 5, 3) := z_o160 (z_wat (q := 32) (j := 30) zwX2_draw_32 rfl) (z_wat (q := 32) (j := 31) zwX2_draw_32 rfl) (z_wat (q := 32) (j := 32) zwX2_draw_32 rfl) rfl
theorem zwX2_draw_64 : ((cX2_draw.data.toList.drop 64).take 34).map UInt8.toNat = [5, 2, 172, 132, 3, 1, 167, 255, 223, 42, 180, 0, 18, 42, 180, 0, 34, 27, 79, 42, 180, 0, 22, 42, 180, 0, 34, 28, 79, 3, 62, 29, 16, 12] := by decide +kernel
theorem dX2_draw_65 : decode cX2_draw 65 = .ok (.iconst (-1), 1) := z_o2 (z_wat (q := 64) (j := 1) zwX2_draw_64 rfl)
theorem dX2_draw_66 : decode cX2_draw 66 = .ok (.ireturn, 1) := z_o172 (z_wat (q := 64) (j := 2) zwX2_draw_64 rfl)
theorem dX2_draw_67 : decode cX2_draw 67 = .ok (.iinc 3 1, 3) := z_o132 (z_wat (q := 64) (j := 3) zwX2_draw_64 rfl) (z_wat (q := 64) (j := 4) zwX2_draw_64 rfl) (z_wat (q := 64) (j := 5) zwX2_draw_64 rfl) rfl
theorem dX2_draw_70 : decode cX2_draw 70 = .ok (.goto (-33), 3) := z_o167 (z_wat (q := 64) (j := 6) zwX2_draw_64 rfl) (z_wat (q := 64) (j := 7) zwX2_draw_64 rfl) (z_wat (q := 64) (j := 8) zwX2_draw_64 rfl) rfl
theorem dX2_draw_73 : decode cX2_draw 73 = .ok (.aload_n 0, 1) := z_o42 (z_wat (q := 64) (j := 9) zwX2_draw_64 rfl)
theorem dX2_draw_74 : decode cX2_draw 74 = .ok (.getfield 18, 3) := z_o180 (z_wat (q := 64) (j := 10) zwX2_draw_64 rfl) (z_wat (q := 64) (j := 11) zwX2_draw_64 rfl) (z_wat (q := 64) (j := 12) zwX2_draw_64 rfl) rfl
theorem dX2_draw_77 : decode cX2_draw 77 = .ok (.aload_n 0, 1) := z_o42 (z_wat (q := 64) (j := 13) zwX2_draw_64 rfl)
theorem dX2_draw_78 : decode cX2_draw 78 = .ok (.getfield 34, 3) := z_o180 (z_wat (q := 64) (j := 14) zwX2_draw_64 rfl) (z_wat (q := 64) (j := 15) zwX2_draw_64 rfl) (z_wat (q := 64) (j := 16) zwX2_draw_64 rfl) rfl
theorem dX2_draw_81 : decode cX2_draw 81 = .ok (.iload_n 1, 1) := z_o27 (z_wat (q := 64) (j := 17) zwX2_draw_64 rfl)
theorem dX2_draw_82 : decode cX2_draw 82 = .ok (.iastore, 1) := z_o79 (z_wat (q := 64) (j := 18) zwX2_draw_64 rfl)
theorem dX2_draw_83 : decode cX2_draw 83 = .ok (.aload_n 0, 1) := z_o42 (z_wat (q := 64) (j := 19) zwX2_draw_64 rfl)
theorem dX2_draw_84 : decode cX2_draw 84 = .ok (.getfield 22, 3) := z_o180 (z_wat (q := 64) (j := 20) zwX2_draw_64 rfl) (z_wat (q := 64) (j := 21) zwX2_draw_64 rfl) (z_wat (q := 64) (j := 22) zwX2_draw_64 rfl) rfl
theorem dX2_draw_87 : decode cX2_draw 87 = .ok (.aload_n 0, 1) := z_o42 (z_wat (q := 64) (j := 23) zwX2_draw_64 rfl)
theorem dX2_draw_88 : decode cX2_draw 88 = .ok (.getfield 34, 3) := z_o180 (z_wat (q := 64) (j := 24) zwX2_draw_64 rfl) (z_wat (q := 64) (j := 25) zwX2_draw_64 rfl) (z_wat (q := 64) (j := 26) zwX2_draw_64 rfl) rfl
theorem dX2_draw_91 : decode cX2_draw 91 = .ok (.iload_n 2, 1) := z_o28 (z_wat (q := 64) (j := 27) zwX2_draw_64 rfl)
theorem dX2_draw_92 : decode cX2_draw 92 = .ok (.iastore, 1) := z_o79 (z_wat (q := 64) (j := 28) zwX2_draw_64 rfl)
theorem dX2_draw_93 : decode cX2_draw 93 = .ok (.iconst 0, 1) := z_o3 (z_wat (q := 64) (j := 29) zwX2_draw_64 rfl)
theorem dX2_draw_94 : decode cX2_draw 94 = .ok (.istore_n 3, 1) := z_o62 (z_wat (q := 64) (j := 30) zwX2_draw_64 rfl)
theorem dX2_draw_95 : decode cX2_draw 95 = .ok (.iload_n 3, 1) := z_o29 (z_wat (q := 64) (j := 31) zwX2_draw_64 rfl)
theorem zwX2_draw_96 : ((cX2_draw.data.toList.drop 96).take 34).map UInt8.toNat = [16, 12, 162, 0, 24, 42, 180, 0, 31, 42, 180, 0, 34, 16, 12, 104, 29, 96, 3, 79, 132, 3, 1, 167, 255, 232, 42, 89, 180, 0, 34, 4, 96, 181] := by decide +kernel
theorem dX2_draw_96 : decode cX2_draw 96 = .ok (.bipush 12, 2) := z_o16 (z_wat (q := 96) (j := 0) zwX2_draw_96 rfl) (z_wat (q := 96) (j := 1) zwX2_draw_96 rfl) rfl
theorem dX2_draw_98 : decode cX2_draw 98 = .ok (.if_icmp .ge 24, 3) := z_o162 (z_wat (q := 96) (j := 2) zwX2_draw_96 rfl) (z_wat (q := 96) (j := 3) zwX2_draw_96 rfl) (z_wat (q := 96) (j := 4) zwX2_draw_96 rfl) rfl
theorem dX2_draw_101 : decode cX2_draw 101 = .ok (.aload_n 0, 1) := z_o42 (z_wat (q := 96) (j := 5) zwX2_draw_96 rfl)
theorem dX2_draw_102 : decode cX2_draw 102 = .ok (.getfield 31, 3) := z_o180 (z_wat (q := 96) (j := 6) zwX2_draw_96 rfl) (z_wat (q := 96) (j := 7) zwX2_draw_96 rfl) (z_wat (q := 96) (j := 8) zwX2_draw_96 rfl) rfl
theorem dX2_draw_105 : decode cX2_draw 105 = .ok (.aload_n 0, 1) := z_o42 (z_wat (q := 96) (j := 9) zwX2_draw_96 rfl)
theorem dX2_draw_106 : decode cX2_draw 106 = .ok (.getfield 34, 3) := z_o180 (z_wat (q := 96) (j := 10) zwX2_draw_96 rfl) (z_wat (q := 96) (j := 11) zwX2_draw_96 rfl) (z_wat (q := 96) (j := 12) zwX2_draw_96 rfl) rfl
theorem dX2_draw_109 : decode cX2_draw 109 = .ok (.bipush 12, 2) := z_o16 (z_wat (q := 96) (j := 13) zwX2_draw_96 rfl) (z_wat (q := 96) (j := 14) zwX2_draw_96 rfl) rfl
theorem dX2_draw_111 : decode cX2_draw 111 = .ok (.imul, 1) := z_o104 (z_wat (q := 96) (j := 15) zwX2_draw_96 rfl)
theorem dX2_draw_112 : decode cX2_draw 112 = .ok (.iload_n 3, 1) := z_o29 (z_wat (q := 96) (j := 16) zwX2_draw_96 rfl)
theorem dX2_draw_113 : decode cX2_draw 113 = .ok (.iadd, 1) := z_o96 (z_wat (q := 96) (j := 17) zwX2_draw_96 rfl)
theorem dX2_draw_114 : decode cX2_draw 114 = .ok (.iconst 0, 1) := z_o3 (z_wat (q := 96) (j := 18) zwX2_draw_96 rfl)
theorem dX2_draw_115 : decode cX2_draw 115 = .ok (.iastore, 1) := z_o79 (z_wat (q := 96) (j := 19) zwX2_draw_96 rfl)
theorem dX2_draw_116 : decode cX2_draw 116 = .ok (.iinc 3 1, 3) := z_o132 (z_wat (q := 96) (j := 20) zwX2_draw_96 rfl) (z_wat (q := 96) (j := 21) zwX2_draw_96 rfl) (z_wat (q := 96) (j := 22) zwX2_draw_96 rfl) rfl
theorem dX2_draw_119 : decode cX2_draw 119 = .ok (.goto (-24), 3) := z_o167 (z_wat (q := 96) (j := 23) zwX2_draw_96 rfl) (z_wat (q := 96) (j := 24) zwX2_draw_96 rfl) (z_wat (q := 96) (j := 25) zwX2_draw_96 rfl) rfl
theorem dX2_draw_122 : decode cX2_draw 122 = .ok (.aload_n 0, 1) := z_o42 (z_wat (q := 96) (j := 26) zwX2_draw_96 rfl)
theorem dX2_draw_123 : decode cX2_draw 123 = .ok (.dup, 1) := z_o89 (z_wat (q := 96) (j := 27) zwX2_draw_96 rfl)
theorem dX2_draw_124 : decode cX2_draw 124 = .ok (.getfield 34, 3) := z_o180 (z_wat (q := 96) (j := 28) zwX2_draw_96 rfl) (z_wat (q := 96) (j := 29) zwX2_draw_96 rfl) (z_wat (q := 96) (j := 30) zwX2_draw_96 rfl) rfl
theorem dX2_draw_127 : decode cX2_draw 127 = .ok (.iconst 1, 1) := z_o4 (z_wat (q := 96) (j := 31) zwX2_draw_96 rfl)
theorem zwX2_draw_128 : ((cX2_draw.data.toList.drop 128).take 11).map UInt8.toNat = [96, 181, 0, 34, 42, 180, 0, 34, 4, 100, 172] := by decide +kernel
theorem dX2_draw_128 : decode cX2_draw 128 = .ok (.iadd, 1) := z_o96 (z_wat (q := 128) (j := 0) zwX2_draw_128 rfl)
theorem dX2_draw_129 : decode cX2_draw 129 = .ok (.putfield 34, 3) := z_o181 (z_wat (q := 128) (j := 1) zwX2_draw_128 rfl) (z_wat (q := 128) (j := 2) zwX2_draw_128 rfl) (z_wat (q := 128) (j := 3) zwX2_draw_128 rfl) rfl
theorem dX2_draw_132 : decode cX2_draw 132 = .ok (.aload_n 0, 1) := z_o42 (z_wat (q := 128) (j := 4) zwX2_draw_128 rfl)
theorem dX2_draw_133 : decode cX2_draw 133 = .ok (.getfield 34, 3) := z_o180 (z_wat (q := 128) (j := 5) zwX2_draw_128 rfl) (z_wat (q := 128) (j := 6) zwX2_draw_128 rfl) (z_wat (q := 128) (j := 7) zwX2_draw_128 rfl) rfl
theorem dX2_draw_136 : decode cX2_draw 136 = .ok (.iconst 1, 1) := z_o4 (z_wat (q := 128) (j := 8) zwX2_draw_128 rfl)
theorem dX2_draw_137 : decode cX2_draw 137 = .ok (.isub, 1) := z_o100 (z_wat (q := 128) (j := 9) zwX2_draw_128 rfl)
theorem dX2_draw_138 : decode cX2_draw 138 = .ok (.ireturn, 1) := z_o172 (z_wat (q := 128) (j := 10) zwX2_draw_128 rfl)
theorem zwX2_isSide_0 : ((cX2_isSide.data.toList.drop 0).take 17).map UInt8.toNat = [26, 5, 161, 0, 13, 26, 16, 12, 163, 0, 7, 4, 167, 0, 4, 3, 172] := by decide +kernel
theorem dX2_isSide_0 : decode cX2_isSide 0 = .ok (.iload_n 0, 1) := z_o26 (z_wat (q := 0) (j := 0) zwX2_isSide_0 rfl)
theorem dX2_isSide_1 : decode cX2_isSide 1 = .ok (.iconst 2, 1) := z_o5 (z_wat (q := 0) (j := 1) zwX2_isSide_0 rfl)
theorem dX2_isSide_2 : decode cX2_isSide 2 = .ok (.if_icmp .lt 13, 3) := z_o161 (z_wat (q := 0) (j := 2) zwX2_isSide_0 rfl) (z_wat (q := 0) (j := 3) zwX2_isSide_0 rfl) (z_wat (q := 0) (j := 4) zwX2_isSide_0 rfl) rfl
theorem dX2_isSide_5 : decode cX2_isSide 5 = .ok (.iload_n 0, 1) := z_o26 (z_wat (q := 0) (j := 5) zwX2_isSide_0 rfl)
theorem dX2_isSide_6 : decode cX2_isSide 6 = .ok (.bipush 12, 2) := z_o16 (z_wat (q := 0) (j := 6) zwX2_isSide_0 rfl) (z_wat (q := 0) (j := 7) zwX2_isSide_0 rfl) rfl
theorem dX2_isSide_8 : decode cX2_isSide 8 = .ok (.if_icmp .gt 7, 3) := z_o163 (z_wat (q := 0) (j := 8) zwX2_isSide_0 rfl) (z_wat (q := 0) (j := 9) zwX2_isSide_0 rfl) (z_wat (q := 0) (j := 10) zwX2_isSide_0 rfl) rfl
theorem dX2_isSide_11 : decode cX2_isSide 11 = .ok (.iconst 1, 1) := z_o4 (z_wat (q := 0) (j := 11) zwX2_isSide_0 rfl)
theorem dX2_isSide_12 : decode cX2_isSide 12 = .ok (.goto 4, 3) := z_o167 (z_wat (q := 0) (j := 12) zwX2_isSide_0 rfl) (z_wat (q := 0) (j := 13) zwX2_isSide_0 rfl) (z_wat (q := 0) (j := 14) zwX2_isSide_0 rfl) rfl
theorem dX2_isSide_15 : decode cX2_isSide 15 = .ok (.iconst 0, 1) := z_o3 (z_wat (q := 0) (j := 15) zwX2_isSide_0 rfl)
theorem dX2_isSide_16 : decode cX2_isSide 16 = .ok (.ireturn, 1) := z_o172 (z_wat (q := 0) (j := 16) zwX2_isSide_0 rfl)
theorem zwX2_lay_0 : ((cX2_lay.data.toList.drop 0).take 33).map UInt8.toNat = [27, 184, 0, 46, 153, 0, 10, 28, 184, 0, 46, 154, 0, 5, 3, 172, 42, 27, 181, 0, 9, 42, 28, 181, 0, 15, 42, 3, 181, 0, 34, 4, 172] := by decide +kernel
theorem dX2_lay_0 : decode cX2_lay 0 = .ok (.iload_n 1, 1) := z_o27 (z_wat (q := 0) (j := 0) zwX2_lay_0 rfl)
theorem dX2_lay_1 : decode cX2_lay 1 = .ok (.invokestatic 46, 3) := z_o184 (z_wat (q := 0) (j := 1) zwX2_lay_0 rfl) (z_wat (q := 0) (j := 2) zwX2_lay_0 rfl) (z_wat (q := 0) (j := 3) zwX2_lay_0 rfl) rfl
theorem dX2_lay_4 : decode cX2_lay 4 = .ok (.ifCond .eq 10, 3) := z_o153 (z_wat (q := 0) (j := 4) zwX2_lay_0 rfl) (z_wat (q := 0) (j := 5) zwX2_lay_0 rfl) (z_wat (q := 0) (j := 6) zwX2_lay_0 rfl) rfl
theorem dX2_lay_7 : decode cX2_lay 7 = .ok (.iload_n 2, 1) := z_o28 (z_wat (q := 0) (j := 7) zwX2_lay_0 rfl)
theorem dX2_lay_8 : decode cX2_lay 8 = .ok (.invokestatic 46, 3) := z_o184 (z_wat (q := 0) (j := 8) zwX2_lay_0 rfl) (z_wat (q := 0) (j := 9) zwX2_lay_0 rfl) (z_wat (q := 0) (j := 10) zwX2_lay_0 rfl) rfl
theorem dX2_lay_11 : decode cX2_lay 11 = .ok (.ifCond .ne 5, 3) := z_o154 (z_wat (q := 0) (j := 11) zwX2_lay_0 rfl) (z_wat (q := 0) (j := 12) zwX2_lay_0 rfl) (z_wat (q := 0) (j := 13) zwX2_lay_0 rfl) rfl
theorem dX2_lay_14 : decode cX2_lay 14 = .ok (.iconst 0, 1) := z_o3 (z_wat (q := 0) (j := 14) zwX2_lay_0 rfl)
theorem dX2_lay_15 : decode cX2_lay 15 = .ok (.ireturn, 1) := z_o172 (z_wat (q := 0) (j := 15) zwX2_lay_0 rfl)
theorem dX2_lay_16 : decode cX2_lay 16 = .ok (.aload_n 0, 1) := z_o42 (z_wat (q := 0) (j := 16) zwX2_lay_0 rfl)
theorem dX2_lay_17 : decode cX2_lay 17 = .ok (.iload_n 1, 1) := z_o27 (z_wat (q := 0) (j := 17) zwX2_lay_0 rfl)
theorem dX2_lay_18 : decode cX2_lay 18 = .ok (.putfield 9, 3) := z_o181 (z_wat (q := 0) (j := 18) zwX2_lay_0 rfl) (z_wat (q := 0) (j := 19) zwX2_lay_0 rfl) (z_wat (q := 0) (j := 20) zwX2_lay_0 rfl) rfl
theorem dX2_lay_21 : decode cX2_lay 21 = .ok (.aload_n 0, 1) := z_o42 (z_wat (q := 0) (j := 21) zwX2_lay_0 rfl)
theorem dX2_lay_22 : decode cX2_lay 22 = .ok (.iload_n 2, 1) := z_o28 (z_wat (q := 0) (j := 22) zwX2_lay_0 rfl)
theorem dX2_lay_23 : decode cX2_lay 23 = .ok (.putfield 15, 3) := z_o181 (z_wat (q := 0) (j := 23) zwX2_lay_0 rfl) (z_wat (q := 0) (j := 24) zwX2_lay_0 rfl) (z_wat (q := 0) (j := 25) zwX2_lay_0 rfl) rfl
theorem dX2_lay_26 : decode cX2_lay 26 = .ok (.aload_n 0, 1) := z_o42 (z_wat (q := 0) (j := 26) zwX2_lay_0 rfl)
theorem dX2_lay_27 : decode cX2_lay 27 = .ok (.iconst 0, 1) := z_o3 (z_wat (q := 0) (j := 27) zwX2_lay_0 rfl)
theorem dX2_lay_28 : decode cX2_lay 28 = .ok (.putfield 34, 3) := z_o181 (z_wat (q := 0) (j := 28) zwX2_lay_0 rfl) (z_wat (q := 0) (j := 29) zwX2_lay_0 rfl) (z_wat (q := 0) (j := 30) zwX2_lay_0 rfl) rfl
theorem dX2_lay_31 : decode cX2_lay 31 = .ok (.iconst 1, 1) := z_o4 (z_wat (q := 0) (j := 31) zwX2_lay_0 rfl)
theorem zwX2_lay_32 : ((cX2_lay.data.toList.drop 32).take 1).map UInt8.toNat = [172] := by decide +kernel
theorem dX2_lay_32 : decode cX2_lay 32 = .ok (.ireturn, 1) := z_o172 (z_wat (q := 32) (j := 0) zwX2_lay_32 rfl)
