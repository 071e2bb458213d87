theorem zwX12_food_0 : ((cX12_food.data.toList.drop 0).take 34).map UInt8.toNat = [9, 65, 3, 54, 4, 21, 4, 42, 180, 0, 192, 162, 0, 28, 32, 42, 27, 21, 4, 182, 1, 12, 42, 180, 0, 63, 21, 4, 46, 133, 105, 97, 65, 132] := by decide +kernel
theorem dX12_food_0 : decode cX12_food 0 = .ok (.lconst 0, 1) := z_o9 (z_wat (q := 0) (j := 0) zwX12_food_0 rfl)
theorem dX12_food_1 : decode cX12_food 1 = .ok (.lstore_n 2, 1) := z_o65 (z_wat (q := 0) (j := 1) zwX12_food_0 rfl)
theorem dX12_food_2 : decode cX12_food 2 = .ok (.iconst 0, 1) := z_o3 (z_wat (q := 0) (j := 2) zwX12_food_0 rfl)
theorem dX12_food_3 : decode cX12_food 3 = .ok (.istore 4, 2) := z_o54 (z_wat (q := 0) (j := 3) zwX12_food_0 rfl) (z_wat (q := 0) (j := 4) zwX12_food_0 rfl)
theorem dX12_food_5 : decode cX12_food 5 = .ok (.iload 4, 2) := z_o21 (z_wat (q := 0) (j := 5) zwX12_food_0 rfl) (z_wat (q := 0) (j := 6) zwX12_food_0 rfl)
theorem dX12_food_7 : decode cX12_food 7 = .ok (.aload_n 0, 1) := z_o42 (z_wat (q := 0) (j := 7) zwX12_food_0 rfl)
theorem dX12_food_8 : decode cX12_food 8 = .ok (.getfield 192, 3) := z_o180 (z_wat (q := 0) (j := 8) zwX12_food_0 rfl) (z_wat (q := 0) (j := 9) zwX12_food_0 rfl) (z_wat (q := 0) (j := 10) zwX12_food_0 rfl) rfl
theorem dX12_food_11 : decode cX12_food 11 = .ok (.if_icmp .ge 28, 3) := z_o162 (z_wat (q := 0) (j := 11) zwX12_food_0 rfl) (z_wat (q := 0) (j := 12) zwX12_food_0 rfl) (z_wat (q := 0) (j := 13) zwX12_food_0 rfl) rfl
theorem dX12_food_14 : decode cX12_food 14 = .ok (.lload_n 2, 1) := z_o32 (z_wat (q := 0) (j := 14) zwX12_food_0 rfl)
theorem dX12_food_15 : decode cX12_food 15 = .ok (.aload_n 0, 1) := z_o42 (z_wat (q := 0) (j := 15) zwX12_food_0 rfl)
theorem dX12_food_16 : decode cX12_food 16 = .ok (.iload_n 1, 1) := z_o27 (z_wat (q := 0) (j := 16) zwX12_food_0 rfl)
theorem dX12_food_17 : decode cX12_food 17 = .ok (.iload 4, 2) := z_o21 (z_wat (q := 0) (j := 17) zwX12_food_0 rfl) (z_wat (q := 0) (j := 18) zwX12_food_0 rfl)
theorem dX12_food_19 : decode cX12_food 19 = .ok (.invokevirtual 268, 3) := z_o182 (z_wat (q := 0) (j := 19) zwX12_food_0 rfl) (z_wat (q := 0) (j := 20) zwX12_food_0 rfl) (z_wat (q := 0) (j := 21) zwX12_food_0 rfl) rfl
theorem dX12_food_22 : decode cX12_food 22 = .ok (.aload_n 0, 1) := z_o42 (z_wat (q := 0) (j := 22) zwX12_food_0 rfl)
theorem dX12_food_23 : decode cX12_food 23 = .ok (.getfield 63, 3) := z_o180 (z_wat (q := 0) (j := 23) zwX12_food_0 rfl) (z_wat (q := 0) (j := 24) zwX12_food_0 rfl) (z_wat (q := 0) (j := 25) zwX12_food_0 rfl) rfl
theorem dX12_food_26 : decode cX12_food 26 = .ok (.iload 4, 2) := z_o21 (z_wat (q := 0) (j := 26) zwX12_food_0 rfl) (z_wat (q := 0) (j := 27) zwX12_food_0 rfl)
theorem dX12_food_28 : decode cX12_food 28 = .ok (.iaload, 1) := z_o46 (z_wat (q := 0) (j := 28) zwX12_food_0 rfl)
theorem dX12_food_29 : decode cX12_food 29 = .ok (.i2l, 1) := z_o133 (z_wat (q := 0) (j := 29) zwX12_food_0 rfl)
theorem dX12_food_30 : decode cX12_food 30 = .ok (.lmul, 1) := z_o105 (z_wat (q := 0) (j := 30) zwX12_food_0 rfl)
theorem dX12_food_31 : decode cX12_food 31 = .ok (.ladd, 1) := z_o97 (z_wat (q := 0) (j := 31) zwX12_food_0 rfl)
theorem zwX12_food_32 : ((cX12_food.data.toList.drop 32).take 9).map UInt8.toNat = [65, 132, 4, 1, 167, 255, 225, 32, 173] := by decide +kernel
theorem dX12_food_32 : decode cX12_food 32 = .ok (.lstore_n 2, 1) := z_o65 (z_wat (q := 32) (j := 0) zwX12_food_32 rfl)
theorem dX12_food_33 : decode cX12_food 33 = .ok (.iinc 4 1, 3) := z_o132 (z_wat (q := 32) (j := 1) zwX12_food_32 rfl) (z_wat (q := 32) (j := 2) zwX12_food_32 rfl) (z_wat (q := 32) (j := 3) zwX12_food_32 rfl) rfl
theorem dX12_food_36 : decode cX12_food 36 = .ok (.goto (-31), 3) := z_o167 (z_wat (q := 32) (j := 4) zwX12_food_32 rfl) (z_wat (q := 32) (j := 5) zwX12_food_32 rfl) (z_wat (q := 32) (j := 6) zwX12_food_32 rfl) rfl
theorem dX12_food_39 : decode cX12_food 39 = .ok (.lload_n 2, 1) := z_o32 (z_wat (q := 32) (j := 7) zwX12_food_32 rfl)
theorem dX12_food_40 : decode cX12_food 40 = .ok (.lreturn, 1) := z_o173 (z_wat (q := 32) (j := 8) zwX12_food_32 rfl)
theorem zwX12_hinges_0 : ((cX12_hinges.data.toList.drop 0).take 34).map UInt8.toNat = [42, 27, 28, 29, 3, 182, 1, 1, 54, 4, 42, 27, 28, 29, 4, 182, 1, 1, 54, 5, 42, 27, 28, 29, 5, 182, 1, 1, 42, 180, 0, 66, 28, 46] := by decide +kernel
theorem dX12_hinges_0 : decode cX12_hinges 0 = .ok (.aload_n 0, 1) := z_o42 (z_wat (q := 0) (j := 0) zwX12_hinges_0 rfl)
theorem dX12_hinges_1 : decode cX12_hinges 1 = .ok (.iload_n 1, 1) := z_o27 (z_wat (q := 0) (j := 1) zwX12_hinges_0 rfl)
theorem dX12_hinges_2 : decode cX12_hinges 2 = .ok (.iload_n 2, 1) := z_o28 (z_wat (q := 0) (j := 2) zwX12_hinges_0 rfl)
theorem dX12_hinges_3 : decode cX12_hinges 3 = .ok (.iload_n 3, 1) := z_o29 (z_wat (q := 0) (j := 3) zwX12_hinges_0 rfl)
theorem dX12_hinges_4 : decode cX12_hinges 4 = .ok (.iconst 0, 1) := z_o3 (z_wat (q := 0) (j := 4) zwX12_hinges_0 rfl)
theorem dX12_hinges_5 : decode cX12_hinges 5 = .ok (.invokevirtual 257, 3) := z_o182 (z_wat (q := 0) (j := 5) zwX12_hinges_0 rfl) (z_wat (q := 0) (j := 6) zwX12_hinges_0 rfl) (z_wat (q := 0) (j := 7) zwX12_hinges_0 rfl) rfl
theorem dX12_hinges_8 : decode cX12_hinges 8 = .ok (.istore 4, 2) := z_o54 (z_wat (q := 0) (j := 8) zwX12_hinges_0 rfl) (z_wat (q := 0) (j := 9) zwX12_hinges_0 rfl)
theorem dX12_hinges_10 : decode cX12_hinges 10 = .ok (.aload_n 0, 1) := z_o42 (z_wat (q := 0) (j := 10) zwX12_hinges_0 rfl)
theorem dX12_hinges_11 : decode cX12_hinges 11 = .ok (.iload_n 1, 1) := z_o27 (z_wat (q := 0) (j := 11) zwX12_hinges_0 rfl)
theorem dX12_hinges_12 : decode cX12_hinges 12 = .ok (.iload_n 2, 1) := z_o28 (z_wat (q := 0) (j := 12) zwX12_hinges_0 rfl)
theorem dX12_hinges_13 : decode cX12_hinges 13 = .ok (.iload_n 3, 1) := z_o29 (z_wat (q := 0) (j := 13) zwX12_hinges_0 rfl)
theorem dX12_hinges_14 : decode cX12_hinges 14 = .ok (.iconst 1, 1) := z_o4 (z_wat (q := 0) (j := 14) zwX12_hinges_0 rfl)
theorem dX12_hinges_15 : decode cX12_hinges 15 = .ok (.invokevirtual 257, 3) := z_o182 (z_wat (q := 0) (j := 15) zwX12_hinges_0 rfl) (z_wat (q := 0) (j := 16) zwX12_hinges_0 rfl) (z_wat (q := 0) (j := 17) zwX12_hinges_0 rfl) rfl
theorem dX12_hinges_18 : decode cX12_hinges 18 = .ok (.istore 5, 2) := z_o54 (z_wat (q := 0) (j := 18) zwX12_hinges_0 rfl) (z_wat (q := 0) (j := 19) zwX12_hinges_0 rfl)
theorem dX12_hinges_20 : decode cX12_hinges 20 = .ok (.aload_n 0, 1) := z_o42 (z_wat (q := 0) (j := 20) zwX12_hinges_0 rfl)
theorem dX12_hinges_21 : decode cX12_hinges 21 = .ok (.iload_n 1, 1) := z_o27 (z_wat (q := 0) (j := 21) zwX12_hinges_0 rfl)
theorem dX12_hinges_22 : decode cX12_hinges 22 = .ok (.iload_n 2, 1) := z_o28 (z_wat (q := 0) (j := 22) zwX12_hinges_0 rfl)
theorem dX12_hinges_23 : decode cX12_hinges 23 = .ok (.iload_n 3, 1) := z_o29 (z_wat (q := 0) (j := 23) zwX12_hinges_0 rfl)
theorem dX12_hinges_24 : decode cX12_hinges 24 = .ok (.iconst 2, 1) := z_o5 (z_wat (q := 0) (j := 24) zwX12_hinges_0 rfl)
theorem dX12_hinges_25 : decode cX12_hinges 25 = .ok (.invokevirtual 257, 3) := z_o182 (z_wat (q := 0) (j := 25) zwX12_hinges_0 rfl) (z_wat (q := 0) (j := 26) zwX12_hinges_0 rfl) (z_wat (q := 0) (j := 27) zwX12_hinges_0 rfl) rfl
theorem dX12_hinges_28 : decode cX12_hinges 28 = .ok (.aload_n 0, 1) := z_o42 (z_wat (q := 0) (j := 28) zwX12_hinges_0 rfl)
theorem dX12_hinges_29 : decode cX12_hinges 29 = .ok (.getfield 66, 3) := z_o180 (z_wat (q := 0) (j := 29) zwX12_hinges_0 rfl) (z_wat (q := 0) (j := 30) zwX12_hinges_0 rfl) (z_wat (q := 0) (j := 31) zwX12_hinges_0 rfl) rfl
theorem zwX12_hinges_32 : ((cX12_hinges.data.toList.drop 32).take 30).map UInt8.toNat = [28, 46, 4, 160, 0, 11, 21, 4, 21, 5, 96, 167, 0, 17, 21, 4, 21, 5, 164, 0, 8, 21, 4, 167, 0, 5, 21, 5, 96, 172] := by decide +kernel
theorem dX12_hinges_32 : decode cX12_hinges 32 = .ok (.iload_n 2, 1) := z_o28 (z_wat (q := 32) (j := 0) zwX12_hinges_32 rfl)
theorem dX12_hinges_33 : decode cX12_hinges 33 = .ok (.iaload, 1) := z_o46 (z_wat (q := 32) (j := 1) zwX12_hinges_32 rfl)
theorem dX12_hinges_34 : decode cX12_hinges 34 = .ok (.iconst 1, 1) := z_o4 (z_wat (q := 32) (j := 2) zwX12_hinges_32 rfl)
theorem dX12_hinges_35 : decode cX12_hinges 35 = .ok (.if_icmp .ne 11, 3) := z_o160 (z_wat (q := 32) (j := 3) zwX12_hinges_32 rfl) (z_wat (q := 32) (j := 4) zwX12_hinges_32 rfl) (z_wat (q := 32) (j := 5) zwX12_hinges_32 rfl) rfl
theorem dX12_hinges_38 : decode cX12_hinges 38 = .ok (.iload 4, 2) := z_o21 (z_wat (q := 32) (j := 6) zwX12_hinges_32 rfl) (z_wat (q := 32) (j := 7) zwX12_hinges_32 rfl)
theorem dX12_hinges_40 : decode cX12_hinges 40 = .ok (.iload 5, 2) := z_o21 (z_wat (q := 32) (j := 8) zwX12_hinges_32 rfl) (z_wat (q := 32) (j := 9) zwX12_hinges_32 rfl)
theorem dX12_hinges_42 : decode cX12_hinges 42 = .ok (.iadd, 1) := z_o96 (z_wat (q := 32) (j := 10) zwX12_hinges_32 rfl)
theorem dX12_hinges_43 : decode cX12_hinges 43 = .ok (.goto 17, 3) := z_o167 (z_wat (q := 32) (j := 11) zwX12_hinges_32 rfl) (z_wat (q := 32) (j := 12) zwX12_hinges_32 rfl) (z_wat (q := 32) (j := 13) zwX12_hinges_32 rfl) rfl
theorem dX12_hinges_46 : decode cX12_hinges 46 = .ok (.iload 4, 2) := z_o21 (z_wat (q := 32) (j := 14) zwX12_hinges_32 rfl) (z_wat (q := 32) (j := 15) zwX12_hinges_32 rfl)
theorem dX12_hinges_48 : decode cX12_hinges 48 = .ok (.iload 5, 2) := z_o21 (z_wat (q := 32) (j := 16) zwX12_hinges_32 rfl) (z_wat (q := 32) (j := 17) zwX12_hinges_32 rfl)
theorem dX12_hinges_50 : decode cX12_hinges 50 = .ok (.if_icmp .le 8, 3) := z_o164 (z_wat (q := 32) (j := 18) zwX12_hinges_32 rfl) (z_wat (q := 32) (j := 19) zwX12_hinges_32 rfl) (z_wat (q := 32) (j := 20) zwX12_hinges_32 rfl) rfl
theorem dX12_hinges_53 : decode cX12_hinges 53 = .ok (.iload 4, 2) := z_o21 (z_wat (q := 32) (j := 21) zwX12_hinges_32 rfl) (z_wat (q := 32) (j := 22) zwX12_hinges_32 rfl)
theorem dX12_hinges_55 : decode cX12_hinges 55 = .ok (.goto 5, 3) := z_o167 (z_wat (q := 32) (j := 23) zwX12_hinges_32 rfl) (z_wat (q := 32) (j := 24) zwX12_hinges_32 rfl) (z_wat (q := 32) (j := 25) zwX12_hinges_32 rfl) rfl
theorem dX12_hinges_58 : decode cX12_hinges 58 = .ok (.iload 5, 2) := z_o21 (z_wat (q := 32) (j := 26) zwX12_hinges_32 rfl) (z_wat (q := 32) (j := 27) zwX12_hinges_32 rfl)
theorem dX12_hinges_60 : decode cX12_hinges 60 = .ok (.iadd, 1) := z_o96 (z_wat (q := 32) (j := 28) zwX12_hinges_32 rfl)
theorem dX12_hinges_61 : decode cX12_hinges 61 = .ok (.ireturn, 1) := z_o172 (z_wat (q := 32) (j := 29) zwX12_hinges_32 rfl)
theorem zwX12_holdsWithout_0 : ((cX12_holdsWithout.data.toList.drop 0).take 34).map UInt8.toNat = [3, 62, 3, 54, 4, 21, 4, 42, 180, 0, 51, 162, 0, 135, 3, 54, 5, 21, 5, 42, 180, 0, 47, 162, 0, 117, 2, 54, 6, 3, 54, 7, 21, 7] := by decide +kernel
theorem dX12_holdsWithout_0 : decode cX12_holdsWithout 0 = .ok (.iconst 0, 1) := z_o3 (z_wat (q := 0) (j := 0) zwX12_holdsWithout_0 rfl)
theorem dX12_holdsWithout_1 : decode cX12_holdsWithout 1 = .ok (.istore_n 3, 1) := z_o62 (z_wat (q := 0) (j := 1) zwX12_holdsWithout_0 rfl)
theorem dX12_holdsWithout_2 : decode cX12_holdsWithout 2 = .ok (.iconst 0, 1) := z_o3 (z_wat (q := 0) (j := 2) zwX12_holdsWithout_0 rfl)
theorem dX12_holdsWithout_3 : decode cX12_holdsWithout 3 = .ok (.istore 4, 2) := z_o54 (z_wat (q := 0) (j := 3) zwX12_holdsWithout_0 rfl) (z_wat (q := 0) (j := 4) zwX12_holdsWithout_0 rfl)
theorem dX12_holdsWithout_5 : decode cX12_holdsWithout 5 = .ok (.iload 4, 2) := z_o21 (z_wat (q := 0) (j := 5) zwX12_holdsWithout_0 rfl) (z_wat (q := 0) (j := 6) zwX12_holdsWithout_0 rfl)
theorem dX12_holdsWithout_7 : decode cX12_holdsWithout 7 = .ok (.aload_n 0, 1) := z_o42 (z_wat (q := 0) (j := 7) zwX12_holdsWithout_0 rfl)
theorem dX12_holdsWithout_8 : decode cX12_holdsWithout 8 = .ok (.getfield 51, 3) := z_o180 (z_wat (q := 0) (j := 8) zwX12_holdsWithout_0 rfl) (z_wat (q := 0) (j := 9) zwX12_holdsWithout_0 rfl) (z_wat (q := 0) (j := 10) zwX12_holdsWithout_0 rfl) rfl
theorem dX12_holdsWithout_11 : decode cX12_holdsWithout 11 = .ok (.if_icmp .ge 135, 3) := z_o162 (z_wat (q := 0) (j := 11) zwX12_holdsWithout_0 rfl) (z_wat (q := 0) (j := 12) zwX12_holdsWithout_0 rfl) (z_wat (q := 0) (j := 13) zwX12_holdsWithout_0 rfl) rfl
theorem dX12_holdsWithout_14 : decode cX12_holdsWithout 14 = .ok (.iconst 0, 1) := z_o3 (z_wat (q := 0) (j := 14) zwX12_holdsWithout_0 rfl)
theorem dX12_holdsWithout_15 : decode cX12_holdsWithout 15 = .ok (.istore 5, 2) := z_o54 (z_wat (q := 0) (j := 15) zwX12_holdsWithout_0 rfl) (z_wat (q := 0) (j := 16) zwX12_holdsWithout_0 rfl)
theorem dX12_holdsWithout_17 : decode cX12_holdsWithout 17 = .ok (.iload 5, 2) := z_o21 (z_wat (q := 0) (j := 17) zwX12_holdsWithout_0 rfl) (z_wat (q := 0) (j := 18) zwX12_holdsWithout_0 rfl)
theorem dX12_holdsWithout_19 : decode cX12_holdsWithout 19 = .ok (.aload_n 0, 1) := z_o42 (z_wat (q := 0) (j := 19) zwX12_holdsWithout_0 rfl)
theorem dX12_holdsWithout_20 : decode cX12_holdsWithout 20 = .ok (.getfield 47, 3) := z_o180 (z_wat (q := 0) (j := 20) zwX12_holdsWithout_0 rfl) (z_wat (q := 0) (j := 21) zwX12_holdsWithout_0 rfl) (z_wat (q := 0) (j := 22) zwX12_holdsWithout_0 rfl) rfl
theorem dX12_holdsWithout_23 : decode cX12_holdsWithout 23 = .ok (.if_icmp .ge 117, 3) := z_o162 (z_wat (q := 0) (j := 23) zwX12_holdsWithout_0 rfl) (z_wat (q := 0) (j := 24) zwX12_holdsWithout_0 rfl) (z_wat (q := 0) (j := 25) zwX12_holdsWithout_0 rfl) rfl
theorem dX12_holdsWithout_26 : decode cX12_holdsWithout 26 = .ok (.iconst (-1), 1) := z_o2 (z_wat (q := 0) (j := 26) zwX12_holdsWithout_0 rfl)
theorem dX12_holdsWithout_27 : decode cX12_holdsWithout 27 = .ok (.istore 6, 2) := z_o54 (z_wat (q := 0) (j := 27) zwX12_holdsWithout_0 rfl) (z_wat (q := 0) (j := 28) zwX12_holdsWithout_0 rfl)
theorem dX12_holdsWithout_29 : decode cX12_holdsWithout 29 = .ok (.iconst 0, 1) := z_o3 (z_wat (q := 0) (j := 29) zwX12_holdsWithout_0 rfl)
theorem dX12_holdsWithout_30 : decode cX12_holdsWithout 30 = .ok (.istore 7, 2) := z_o54 (z_wat (q := 0) (j := 30) zwX12_holdsWithout_0 rfl) (z_wat (q := 0) (j := 31) zwX12_holdsWithout_0 rfl)
theorem zwX12_holdsWithout_32 : ((cX12_holdsWithout.data.toList.drop 32).take 34).map UInt8.toNat = [21, 7, 42, 180, 0, 181, 162, 0, 47, 21, 7, 28, 159, 0, 35, 21, 6, 155, 0, 26, 42, 21, 7, 21, 5, 21, 4, 182, 0, 184, 42, 21, 6, 21] := by decide +kernel
theorem dX12_holdsWithout_32 : decode cX12_holdsWithout 32 = .ok (.iload 7, 2) := z_o21 (z_wat (q := 32) (j := 0) zwX12_holdsWithout_32 rfl) (z_wat (q := 32) (j := 1) zwX12_holdsWithout_32 rfl)
theorem dX12_holdsWithout_34 : decode cX12_holdsWithout 34 = .ok (.aload_n 0, 1) := z_o42 (z_wat (q := 32) (j := 2) zwX12_holdsWithout_32 rfl)
theorem dX12_holdsWithout_35 : decode cX12_holdsWithout 35 = .ok (.getfield 181, 3) := z_o180 (z_wat (q := 32) (j := 3) zwX12_holdsWithout_32 rfl) (z_wat (q := 32) (j := 4) zwX12_holdsWithout_32 rfl) (z_wat (q := 32) (j := 5) zwX12_holdsWithout_32 rfl) rfl
theorem dX12_holdsWithout_38 : decode cX12_holdsWithout 38 = .ok (.if_icmp .ge 47, 3) := z_o162 (z_wat (q := 32) (j := 6) zwX12_holdsWithout_32 rfl) (z_wat (q := 32) (j := 7) zwX12_holdsWithout_32 rfl) (z_wat (q := 32) (j := 8) zwX12_holdsWithout_32 rfl) rfl
theorem dX12_holdsWithout_41 : decode cX12_holdsWithout 41 = .ok (.iload 7, 2) := z_o21 (z_wat (q := 32) (j := 9) zwX12_holdsWithout_32 rfl) (z_wat (q := 32) (j := 10) zwX12_holdsWithout_32 rfl)
theorem dX12_holdsWithout_43 : decode cX12_holdsWithout 43 = .ok (.iload_n 2, 1) := z_o28 (z_wat (q := 32) (j := 11) zwX12_holdsWithout_32 rfl)
theorem dX12_holdsWithout_44 : decode cX12_holdsWithout 44 = .ok (.if_icmp .eq 35, 3) := z_o159 (z_wat (q := 32) (j := 12) zwX12_holdsWithout_32 rfl) (z_wat (q := 32) (j := 13) zwX12_holdsWithout_32 rfl) (z_wat (q := 32) (j := 14) zwX12_holdsWithout_32 rfl) rfl
theorem dX12_holdsWithout_47 : decode cX12_holdsWithout 47 = .ok (.iload 6, 2) := z_o21 (z_wat (q := 32) (j := 15) zwX12_holdsWithout_32 rfl) (z_wat (q := 32) (j := 16) zwX12_holdsWithout_32 rfl)
theorem dX12_holdsWithout_49 : decode cX12_holdsWithout 49 = .ok (.ifCond .lt 26, 3) := z_o155 (z_wat (q := 32) (j := 17) zwX12_holdsWithout_32 rfl) (z_wat (q := 32) (j := 18) zwX12_holdsWithout_32 rfl) (z_wat (q := 32) (j := 19) zwX12_holdsWithout_32 rfl) rfl
theorem dX12_holdsWithout_52 : decode cX12_holdsWithout 52 = .ok (.aload_n 0, 1) := z_o42 (z_wat (q := 32) (j := 20) zwX12_holdsWithout_32 rfl)
theorem dX12_holdsWithout_53 : decode cX12_holdsWithout 53 = .ok (.iload 7, 2) := z_o21 (z_wat (q := 32) (j := 21) zwX12_holdsWithout_32 rfl) (z_wat (q := 32) (j := 22) zwX12_holdsWithout_32 rfl)
theorem dX12_holdsWithout_55 : decode cX12_holdsWithout 55 = .ok (.iload 5, 2) := z_o21 (z_wat (q := 32) (j := 23) zwX12_holdsWithout_32 rfl) (z_wat (q := 32) (j := 24) zwX12_holdsWithout_32 rfl)
theorem dX12_holdsWithout_57 : decode cX12_holdsWithout 57 = .ok (.iload 4, 2) := z_o21 (z_wat (q := 32) (j := 25) zwX12_holdsWithout_32 rfl) (z_wat (q := 32) (j := 26) zwX12_holdsWithout_32 rfl)
theorem dX12_holdsWithout_59 : decode cX12_holdsWithout 59 = .ok (.invokevirtual 184, 3) := z_o182 (z_wat (q := 32) (j := 27) zwX12_holdsWithout_32 rfl) (z_wat (q := 32) (j := 28) zwX12_holdsWithout_32 rfl) (z_wat (q := 32) (j := 29) zwX12_holdsWithout_32 rfl) rfl
theorem dX12_holdsWithout_62 : decode cX12_holdsWithout 62 = .ok (.aload_n 0, 1) := z_o42 (z_wat (q := 32) (j := 30) zwX12_holdsWithout_32 rfl)
theorem dX12_holdsWithout_63 : decode cX12_holdsWithout 63 = .ok (.iload 6, 2) := z_o21 (z_wat (q := 32) (j := 31) zwX12_holdsWithout_32 rfl) (z_wat (q := 32) (j := 32) zwX12_holdsWithout_32 rfl)
theorem zwX12_holdsWithout_64 : ((cX12_holdsWithout.data.toList.drop 64).take 34).map UInt8.toNat = [6, 21, 5, 21, 4, 182, 0, 184, 162, 0, 7, 21, 7, 54, 6, 132, 7, 1, 167, 255, 206, 3, 54, 7, 21, 7, 42, 180, 0, 151, 162, 0, 40, 29] := by decide +kernel
theorem dX12_holdsWithout_65 : decode cX12_holdsWithout 65 = .ok (.iload 5, 2) := z_o21 (z_wat (q := 64) (j := 1) zwX12_holdsWithout_64 rfl) (z_wat (q := 64) (j := 2) zwX12_holdsWithout_64 rfl)
theorem dX12_holdsWithout_67 : decode cX12_holdsWithout 67 = .ok (.iload 4, 2) := z_o21 (z_wat (q := 64) (j := 3) zwX12_holdsWithout_64 rfl) (z_wat (q := 64) (j := 4) zwX12_holdsWithout_64 rfl)
theorem dX12_holdsWithout_69 : decode cX12_holdsWithout 69 = .ok (.invokevirtual 184, 3) := z_o182 (z_wat (q := 64) (j := 5) zwX12_holdsWithout_64 rfl) (z_wat (q := 64) (j := 6) zwX12_holdsWithout_64 rfl) (z_wat (q := 64) (j := 7) zwX12_holdsWithout_64 rfl) rfl
theorem dX12_holdsWithout_72 : decode cX12_holdsWithout 72 = .ok (.if_icmp .ge 7, 3) := z_o162 (z_wat (q := 64) (j := 8) zwX12_holdsWithout_64 rfl) (z_wat (q := 64) (j := 9) zwX12_holdsWithout_64 rfl) (z_wat (q := 64) (j := 10) zwX12_holdsWithout_64 rfl) rfl
theorem dX12_holdsWithout_75 : decode cX12_holdsWithout 75 = .ok (.iload 7, 2) := z_o21 (z_wat (q := 64) (j := 11) zwX12_holdsWithout_64 rfl) (z_wat (q := 64) (j := 12) zwX12_holdsWithout_64 rfl)
theorem dX12_holdsWithout_77 : decode cX12_holdsWithout 77 = .ok (.istore 6, 2) := z_o54 (z_wat (q := 64) (j := 13) zwX12_holdsWithout_64 rfl) (z_wat (q := 64) (j := 14) zwX12_holdsWithout_64 rfl)
theorem dX12_holdsWithout_79 : decode cX12_holdsWithout 79 = .ok (.iinc 7 1, 3) := z_o132 (z_wat (q := 64) (j := 15) zwX12_holdsWithout_64 rfl) (z_wat (q := 64) (j := 16) zwX12_holdsWithout_64 rfl) (z_wat (q := 64) (j := 17) zwX12_holdsWithout_64 rfl) rfl
theorem dX12_holdsWithout_82 : decode cX12_holdsWithout 82 = .ok (.goto (-50), 3) := z_o167 (z_wat (q := 64) (j := 18) zwX12_holdsWithout_64 rfl) (z_wat (q := 64) (j := 19) zwX12_holdsWithout_64 rfl) (z_wat (q := 64) (j := 20) zwX12_holdsWithout_64 rfl) rfl
theorem dX12_holdsWithout_85 : decode cX12_holdsWithout 85 = .ok (.iconst 0, 1) := z_o3 (z_wat (q := 64) (j := 21) zwX12_holdsWithout_64 rfl)
theorem dX12_holdsWithout_86 : decode cX12_holdsWithout 86 = .ok (.istore 7, 2) := z_o54 (z_wat (q := 64) (j := 22) zwX12_holdsWithout_64 rfl) (z_wat (q := 64) (j := 23) zwX12_holdsWithout_64 rfl)
theorem dX12_holdsWithout_88 : decode cX12_holdsWithout 88 = .ok (.iload 7, 2) := z_o21 (z_wat (q := 64) (j := 24) zwX12_holdsWithout_64 rfl) (z_wat (q := 64) (j := 25) zwX12_holdsWithout_64 rfl)
theorem dX12_holdsWithout_90 : decode cX12_holdsWithout 90 = .ok (.aload_n 0, 1) := z_o42 (z_wat (q := 64) (j := 26) zwX12_holdsWithout_64 rfl)
theorem dX12_holdsWithout_91 : decode cX12_holdsWithout 91 = .ok (.getfield 151, 3) := z_o180 (z_wat (q := 64) (j := 27) zwX12_holdsWithout_64 rfl) (z_wat (q := 64) (j := 28) zwX12_holdsWithout_64 rfl) (z_wat (q := 64) (j := 29) zwX12_holdsWithout_64 rfl) rfl
theorem dX12_holdsWithout_94 : decode cX12_holdsWithout 94 = .ok (.if_icmp .ge 40, 3) := z_o162 (z_wat (q := 64) (j := 30) zwX12_holdsWithout_64 rfl) (z_wat (q := 64) (j := 31) zwX12_holdsWithout_64 rfl) (z_wat (q := 64) (j := 32) zwX12_holdsWithout_64 rfl) rfl
theorem zwX12_holdsWithout_96 : ((cX12_holdsWithout.data.toList.drop 96).take 34).map UInt8.toNat = [40, 29, 42, 180, 0, 32, 21, 7, 46, 27, 160, 0, 19, 42, 180, 0, 60, 16, 12, 21, 6, 104, 21, 7, 96, 46, 167, 0, 4, 3, 96, 62, 132, 7] := by decide +kernel
theorem dX12_holdsWithout_97 : decode cX12_holdsWithout 97 = .ok (.iload_n 3, 1) := z_o29 (z_wat (q := 96) (j := 1) zwX12_holdsWithout_96 rfl)
theorem dX12_holdsWithout_98 : decode cX12_holdsWithout 98 = .ok (.aload_n 0, 1) := z_o42 (z_wat (q := 96) (j := 2) zwX12_holdsWithout_96 rfl)
theorem dX12_holdsWithout_99 : decode cX12_holdsWithout 99 = .ok (.getfield 32, 3) := z_o180 (z_wat (q := 96) (j := 3) zwX12_holdsWithout_96 rfl) (z_wat (q := 96) (j := 4) zwX12_holdsWithout_96 rfl) (z_wat (q := 96) (j := 5) zwX12_holdsWithout_96 rfl) rfl
theorem dX12_holdsWithout_102 : decode cX12_holdsWithout 102 = .ok (.iload 7, 2) := z_o21 (z_wat (q := 96) (j := 6) zwX12_holdsWithout_96 rfl) (z_wat (q := 96) (j := 7) zwX12_holdsWithout_96 rfl)
theorem dX12_holdsWithout_104 : decode cX12_holdsWithout 104 = .ok (.iaload, 1) := z_o46 (z_wat (q := 96) (j := 8) zwX12_holdsWithout_96 rfl)
theorem dX12_holdsWithout_105 : decode cX12_holdsWithout 105 = .ok (.iload_n 1, 1) := z_o27 (z_wat (q := 96) (j := 9) zwX12_holdsWithout_96 rfl)
theorem dX12_holdsWithout_106 : decode cX12_holdsWithout 106 = .ok (.if_icmp .ne 19, 3) := z_o160 (z_wat (q := 96) (j := 10) zwX12_holdsWithout_96 rfl) (z_wat (q := 96) (j := 11) zwX12_holdsWithout_96 rfl) (z_wat (q := 96) (j := 12) zwX12_holdsWithout_96 rfl) rfl
theorem dX12_holdsWithout_109 : decode cX12_holdsWithout 109 = .ok (.aload_n 0, 1) := z_o42 (z_wat (q := 96) (j := 13) zwX12_holdsWithout_96 rfl)
theorem dX12_holdsWithout_110 : decode cX12_holdsWithout 110 = .ok (.getfield 60, 3) := z_o180 (z_wat (q := 96) (j := 14) zwX12_holdsWithout_96 rfl) (z_wat (q := 96) (j := 15) zwX12_holdsWithout_96 rfl) (z_wat (q := 96) (j := 16) zwX12_holdsWithout_96 rfl) rfl
theorem dX12_holdsWithout_113 : decode cX12_holdsWithout 113 = .ok (.bipush 12, 2) := z_o16 (z_wat (q := 96) (j := 17) zwX12_holdsWithout_96 rfl) (z_wat (q := 96) (j := 18) zwX12_holdsWithout_96 rfl) rfl
theorem dX12_holdsWithout_115 : decode cX12_holdsWithout 115 = .ok (.iload 6, 2) := z_o21 (z_wat (q := 96) (j := 19) zwX12_holdsWithout_96 rfl) (z_wat (q := 96) (j := 20) zwX12_holdsWithout_96 rfl)
theorem dX12_holdsWithout_117 : decode cX12_holdsWithout 117 = .ok (.imul, 1) := z_o104 (z_wat (q := 96) (j := 21) zwX12_holdsWithout_96 rfl)
theorem dX12_holdsWithout_118 : decode cX12_holdsWithout 118 = .ok (.iload 7, 2) := z_o21 (z_wat (q := 96) (j := 22) zwX12_holdsWithout_96 rfl) (z_wat (q := 96) (j := 23) zwX12_holdsWithout_96 rfl)
theorem dX12_holdsWithout_120 : decode cX12_holdsWithout 120 = .ok (.iadd, 1) := z_o96 (z_wat (q := 96) (j := 24) zwX12_holdsWithout_96 rfl)
theorem dX12_holdsWithout_121 : decode cX12_holdsWithout 121 = .ok (.iaload, 1) := z_o46 (z_wat (q := 96) (j := 25) zwX12_holdsWithout_96 rfl)
theorem dX12_holdsWithout_122 : decode cX12_holdsWithout 122 = .ok (.goto 4, 3) := z_o167 (z_wat (q := 96) (j := 26) zwX12_holdsWithout_96 rfl) (z_wat (q := 96) (j := 27) zwX12_holdsWithout_96 rfl) (z_wat (q := 96) (j := 28) zwX12_holdsWithout_96 rfl) rfl
theorem dX12_holdsWithout_125 : decode cX12_holdsWithout 125 = .ok (.iconst 0, 1) := z_o3 (z_wat (q := 96) (j := 29) zwX12_holdsWithout_96 rfl)
theorem dX12_holdsWithout_126 : decode cX12_holdsWithout 126 = .ok (.iadd, 1) := z_o96 (z_wat (q := 96) (j := 30) zwX12_holdsWithout_96 rfl)
theorem dX12_holdsWithout_127 : decode cX12_holdsWithout 127 = .ok (.istore_n 3, 1) := z_o62 (z_wat (q := 96) (j := 31) zwX12_holdsWithout_96 rfl)
theorem zwX12_holdsWithout_128 : ((cX12_holdsWithout.data.toList.drop 128).take 20).map UInt8.toNat = [132, 7, 1, 167, 255, 213, 132, 5, 1, 167, 255, 136, 132, 4, 1, 167, 255, 118, 29, 172] := by decide +kernel
theorem dX12_holdsWithout_128 : decode cX12_holdsWithout 128 = .ok (.iinc 7 1, 3) := z_o132 (z_wat (q := 128) (j := 0) zwX12_holdsWithout_128 rfl) (z_wat (q := 128) (j := 1) zwX12_holdsWithout_128 rfl) (z_wat (q := 128) (j := 2) zwX12_holdsWithout_128 rfl) rfl
theorem dX12_holdsWithout_131 : decode cX12_holdsWithout 131 = .ok (.goto (-43), 3) := z_o167 (z_wat (q := 128) (j := 3) zwX12_holdsWithout_128 rfl) (z_wat (q := 128) (j := 4) zwX12_holdsWithout_128 rfl) (z_wat (q := 128) (j := 5) zwX12_holdsWithout_128 rfl) rfl
theorem dX12_holdsWithout_134 : decode cX12_holdsWithout 134 = .ok (.iinc 5 1, 3) := z_o132 (z_wat (q := 128) (j := 6) zwX12_holdsWithout_128 rfl) (z_wat (q := 128) (j := 7) zwX12_holdsWithout_128 rfl) (z_wat (q := 128) (j := 8) zwX12_holdsWithout_128 rfl) rfl
theorem dX12_holdsWithout_137 : decode cX12_holdsWithout 137 = .ok (.goto (-120), 3) := z_o167 (z_wat (q := 128) (j := 9) zwX12_holdsWithout_128 rfl) (z_wat (q := 128) (j := 10) zwX12_holdsWithout_128 rfl) (z_wat (q := 128) (j := 11) zwX12_holdsWithout_128 rfl) rfl
theorem dX12_holdsWithout_140 : decode cX12_holdsWithout 140 = .ok (.iinc 4 1, 3) := z_o132 (z_wat (q := 128) (j := 12) zwX12_holdsWithout_128 rfl) (z_wat (q := 128) (j := 13) zwX12_holdsWithout_128 rfl) (z_wat (q := 128) (j := 14) zwX12_holdsWithout_128 rfl) rfl
theorem dX12_holdsWithout_143 : decode cX12_holdsWithout 143 = .ok (.goto (-138), 3) := z_o167 (z_wat (q := 128) (j := 15) zwX12_holdsWithout_128 rfl) (z_wat (q := 128) (j := 16) zwX12_holdsWithout_128 rfl) (z_wat (q := 128) (j := 17) zwX12_holdsWithout_128 rfl) rfl
theorem dX12_holdsWithout_146 : decode cX12_holdsWithout 146 = .ok (.iload_n 3, 1) := z_o29 (z_wat (q := 128) (j := 18) zwX12_holdsWithout_128 rfl)
theorem dX12_holdsWithout_147 : decode cX12_holdsWithout 147 = .ok (.ireturn, 1) := z_o172 (z_wat (q := 128) (j := 19) zwX12_holdsWithout_128 rfl)
theorem zwX12_least_0 : ((cX12_least.data.toList.drop 0).take 31).map UInt8.toNat = [9, 66, 3, 54, 5, 21, 5, 7, 162, 0, 21, 33, 42, 27, 28, 21, 5, 182, 1, 5, 133, 97, 66, 132, 5, 1, 167, 255, 235, 33, 173] := by decide +kernel
theorem dX12_least_0 : decode cX12_least 0 = .ok (.lconst 0, 1) := z_o9 (z_wat (q := 0) (j := 0) zwX12_least_0 rfl)
theorem dX12_least_1 : decode cX12_least 1 = .ok (.lstore_n 3, 1) := z_o66 (z_wat (q := 0) (j := 1) zwX12_least_0 rfl)
theorem dX12_least_2 : decode cX12_least 2 = .ok (.iconst 0, 1) := z_o3 (z_wat (q := 0) (j := 2) zwX12_least_0 rfl)
theorem dX12_least_3 : decode cX12_least 3 = .ok (.istore 5, 2) := z_o54 (z_wat (q := 0) (j := 3) zwX12_least_0 rfl) (z_wat (q := 0) (j := 4) zwX12_least_0 rfl)
theorem dX12_least_5 : decode cX12_least 5 = .ok (.iload 5, 2) := z_o21 (z_wat (q := 0) (j := 5) zwX12_least_0 rfl) (z_wat (q := 0) (j := 6) zwX12_least_0 rfl)
theorem dX12_least_7 : decode cX12_least 7 = .ok (.iconst 4, 1) := z_o7 (z_wat (q := 0) (j := 7) zwX12_least_0 rfl)
theorem dX12_least_8 : decode cX12_least 8 = .ok (.if_icmp .ge 21, 3) := z_o162 (z_wat (q := 0) (j := 8) zwX12_least_0 rfl) (z_wat (q := 0) (j := 9) zwX12_least_0 rfl) (z_wat (q := 0) (j := 10) zwX12_least_0 rfl) rfl
theorem dX12_least_11 : decode cX12_least 11 = .ok (.lload_n 3, 1) := z_o33 (z_wat (q := 0) (j := 11) zwX12_least_0 rfl)
theorem dX12_least_12 : decode cX12_least 12 = .ok (.aload_n 0, 1) := z_o42 (z_wat (q := 0) (j := 12) zwX12_least_0 rfl)
theorem dX12_least_13 : decode cX12_least 13 = .ok (.iload_n 1, 1) := z_o27 (z_wat (q := 0) (j := 13) zwX12_least_0 rfl)
theorem dX12_least_14 : decode cX12_least 14 = .ok (.iload_n 2, 1) := z_o28 (z_wat (q := 0) (j := 14) zwX12_least_0 rfl)
theorem dX12_least_15 : decode cX12_least 15 = .ok (.iload 5, 2) := z_o21 (z_wat (q := 0) (j := 15) zwX12_least_0 rfl) (z_wat (q := 0) (j := 16) zwX12_least_0 rfl)
theorem dX12_least_17 : decode cX12_least 17 = .ok (.invokevirtual 261, 3) := z_o182 (z_wat (q := 0) (j := 17) zwX12_least_0 rfl) (z_wat (q := 0) (j := 18) zwX12_least_0 rfl) (z_wat (q := 0) (j := 19) zwX12_least_0 rfl) rfl
theorem dX12_least_20 : decode cX12_least 20 = .ok (.i2l, 1) := z_o133 (z_wat (q := 0) (j := 20) zwX12_least_0 rfl)
theorem dX12_least_21 : decode cX12_least 21 = .ok (.ladd, 1) := z_o97 (z_wat (q := 0) (j := 21) zwX12_least_0 rfl)
theorem dX12_least_22 : decode cX12_least 22 = .ok (.lstore_n 3, 1) := z_o66 (z_wat (q := 0) (j := 22) zwX12_least_0 rfl)
theorem dX12_least_23 : decode cX12_least 23 = .ok (.iinc 5 1, 3) := z_o132 (z_wat (q := 0) (j := 23) zwX12_least_0 rfl) (z_wat (q := 0) (j := 24) zwX12_least_0 rfl) (z_wat (q := 0) (j := 25) zwX12_least_0 rfl) rfl
theorem dX12_least_26 : decode cX12_least 26 = .ok (.goto (-21), 3) := z_o167 (z_wat (q := 0) (j := 26) zwX12_least_0 rfl) (z_wat (q := 0) (j := 27) zwX12_least_0 rfl) (z_wat (q := 0) (j := 28) zwX12_least_0 rfl) rfl
theorem dX12_least_29 : decode cX12_least 29 = .ok (.lload_n 3, 1) := z_o33 (z_wat (q := 0) (j := 29) zwX12_least_0 rfl)
theorem dX12_least_30 : decode cX12_least 30 = .ok (.lreturn, 1) := z_o173 (z_wat (q := 0) (j := 30) zwX12_least_0 rfl)
theorem zwX12_lost_0 : ((cX12_lost.data.toList.drop 0).take 34).map UInt8.toNat = [3, 61, 3, 62, 3, 54, 4, 21, 4, 42, 180, 0, 192, 162, 0, 67, 3, 54, 5, 21, 5, 7, 162, 0, 52, 3, 54, 6, 21, 6, 16, 6, 162, 0] := by decide +kernel
theorem dX12_lost_0 : decode cX12_lost 0 = .ok (.iconst 0, 1) := z_o3 (z_wat (q := 0) (j := 0) zwX12_lost_0 rfl)
theorem dX12_lost_1 : decode cX12_lost 1 = .ok (.istore_n 2, 1) := z_o61 (z_wat (q := 0) (j := 1) zwX12_lost_0 rfl)
theorem dX12_lost_2 : decode cX12_lost 2 = .ok (.iconst 0, 1) := z_o3 (z_wat (q := 0) (j := 2) zwX12_lost_0 rfl)
theorem dX12_lost_3 : decode cX12_lost 3 = .ok (.istore_n 3, 1) := z_o62 (z_wat (q := 0) (j := 3) zwX12_lost_0 rfl)
theorem dX12_lost_4 : decode cX12_lost 4 = .ok (.iconst 0, 1) := z_o3 (z_wat (q := 0) (j := 4) zwX12_lost_0 rfl)
theorem dX12_lost_5 : decode cX12_lost 5 = .ok (.istore 4, 2) := z_o54 (z_wat (q := 0) (j := 5) zwX12_lost_0 rfl) (z_wat (q := 0) (j := 6) zwX12_lost_0 rfl)
theorem dX12_lost_7 : decode cX12_lost 7 = .ok (.iload 4, 2) := z_o21 (z_wat (q := 0) (j := 7) zwX12_lost_0 rfl) (z_wat (q := 0) (j := 8) zwX12_lost_0 rfl)
theorem dX12_lost_9 : decode cX12_lost 9 = .ok (.aload_n 0, 1) := z_o42 (z_wat (q := 0) (j := 9) zwX12_lost_0 rfl)
theorem dX12_lost_10 : decode cX12_lost 10 = .ok (.getfield 192, 3) := z_o180 (z_wat (q := 0) (j := 10) zwX12_lost_0 rfl) (z_wat (q := 0) (j := 11) zwX12_lost_0 rfl) (z_wat (q := 0) (j := 12) zwX12_lost_0 rfl) rfl
theorem dX12_lost_13 : decode cX12_lost 13 = .ok (.if_icmp .ge 67, 3) := z_o162 (z_wat (q := 0) (j := 13) zwX12_lost_0 rfl) (z_wat (q := 0) (j := 14) zwX12_lost_0 rfl) (z_wat (q := 0) (j := 15) zwX12_lost_0 rfl) rfl
theorem dX12_lost_16 : decode cX12_lost 16 = .ok (.iconst 0, 1) := z_o3 (z_wat (q := 0) (j := 16) zwX12_lost_0 rfl)
theorem dX12_lost_17 : decode cX12_lost 17 = .ok (.istore 5, 2) := z_o54 (z_wat (q := 0) (j := 17) zwX12_lost_0 rfl) (z_wat (q := 0) (j := 18) zwX12_lost_0 rfl)
theorem dX12_lost_19 : decode cX12_lost 19 = .ok (.iload 5, 2) := z_o21 (z_wat (q := 0) (j := 19) zwX12_lost_0 rfl) (z_wat (q := 0) (j := 20) zwX12_lost_0 rfl)
theorem dX12_lost_21 : decode cX12_lost 21 = .ok (.iconst 4, 1) := z_o7 (z_wat (q := 0) (j := 21) zwX12_lost_0 rfl)
theorem dX12_lost_22 : decode cX12_lost 22 = .ok (.if_icmp .ge 52, 3) := z_o162 (z_wat (q := 0) (j := 22) zwX12_lost_0 rfl) (z_wat (q := 0) (j := 23) zwX12_lost_0 rfl) (z_wat (q := 0) (j := 24) zwX12_lost_0 rfl) rfl
theorem dX12_lost_25 : decode cX12_lost 25 = .ok (.iconst 0, 1) := z_o3 (z_wat (q := 0) (j := 25) zwX12_lost_0 rfl)
theorem dX12_lost_26 : decode cX12_lost 26 = .ok (.istore 6, 2) := z_o54 (z_wat (q := 0) (j := 26) zwX12_lost_0 rfl) (z_wat (q := 0) (j := 27) zwX12_lost_0 rfl)
theorem dX12_lost_28 : decode cX12_lost 28 = .ok (.iload 6, 2) := z_o21 (z_wat (q := 0) (j := 28) zwX12_lost_0 rfl) (z_wat (q := 0) (j := 29) zwX12_lost_0 rfl)
theorem dX12_lost_30 : decode cX12_lost 30 = .ok (.bipush 6, 2) := z_o16 (z_wat (q := 0) (j := 30) zwX12_lost_0 rfl) (z_wat (q := 0) (j := 31) zwX12_lost_0 rfl) rfl
theorem zwX12_lost_32 : ((cX12_lost.data.toList.drop 32).take 34).map UInt8.toNat = [162, 0, 23, 28, 42, 27, 21, 4, 21, 5, 21, 6, 182, 1, 1, 96, 61, 132, 6, 1, 167, 255, 232, 29, 42, 27, 21, 4, 21, 5, 8, 182, 1, 1] := by decide +kernel
theorem dX12_lost_32 : decode cX12_lost 32 = .ok (.if_icmp .ge 23, 3) := z_o162 (z_wat (q := 32) (j := 0) zwX12_lost_32 rfl) (z_wat (q := 32) (j := 1) zwX12_lost_32 rfl) (z_wat (q := 32) (j := 2) zwX12_lost_32 rfl) rfl
theorem dX12_lost_35 : decode cX12_lost 35 = .ok (.iload_n 2, 1) := z_o28 (z_wat (q := 32) (j := 3) zwX12_lost_32 rfl)
theorem dX12_lost_36 : decode cX12_lost 36 = .ok (.aload_n 0, 1) := z_o42 (z_wat (q := 32) (j := 4) zwX12_lost_32 rfl)
theorem dX12_lost_37 : decode cX12_lost 37 = .ok (.iload_n 1, 1) := z_o27 (z_wat (q := 32) (j := 5) zwX12_lost_32 rfl)
theorem dX12_lost_38 : decode cX12_lost 38 = .ok (.iload 4, 2) := z_o21 (z_wat (q := 32) (j := 6) zwX12_lost_32 rfl) (z_wat (q := 32) (j := 7) zwX12_lost_32 rfl)
theorem dX12_lost_40 : decode cX12_lost 40 = .ok (.iload 5, 2) := z_o21 (z_wat (q := 32) (j := 8) zwX12_lost_32 rfl) (z_wat (q := 32) (j := 9) zwX12_lost_32 rfl)
theorem dX12_lost_42 : decode cX12_lost 42 = .ok (.iload 6, 2) := z_o21 (z_wat (q := 32) (j := 10) zwX12_lost_32 rfl) (z_wat (q := 32) (j := 11) zwX12_lost_32 rfl)
theorem dX12_lost_44 : decode cX12_lost 44 = .ok (.invokevirtual 257, 3) := z_o182 (z_wat (q := 32) (j := 12) zwX12_lost_32 rfl) (z_wat (q := 32) (j := 13) zwX12_lost_32 rfl) (z_wat (q := 32) (j := 14) zwX12_lost_32 rfl) rfl
theorem dX12_lost_47 : decode cX12_lost 47 = .ok (.iadd, 1) := z_o96 (z_wat (q := 32) (j := 15) zwX12_lost_32 rfl)
theorem dX12_lost_48 : decode cX12_lost 48 = .ok (.istore_n 2, 1) := z_o61 (z_wat (q := 32) (j := 16) zwX12_lost_32 rfl)
theorem dX12_lost_49 : decode cX12_lost 49 = .ok (.iinc 6 1, 3) := z_o132 (z_wat (q := 32) (j := 17) zwX12_lost_32 rfl) (z_wat (q := 32) (j := 18) zwX12_lost_32 rfl) (z_wat (q := 32) (j := 19) zwX12_lost_32 rfl) rfl
theorem dX12_lost_52 : decode cX12_lost 52 = .ok (.goto (-24), 3) := z_o167 (z_wat (q := 32) (j := 20) zwX12_lost_32 rfl) (z_wat (q := 32) (j := 21) zwX12_lost_32 rfl) (z_wat (q := 32) (j := 22) zwX12_lost_32 rfl) rfl
theorem dX12_lost_55 : decode cX12_lost 55 = .ok (.iload_n 3, 1) := z_o29 (z_wat (q := 32) (j := 23) zwX12_lost_32 rfl)
theorem dX12_lost_56 : decode cX12_lost 56 = .ok (.aload_n 0, 1) := z_o42 (z_wat (q := 32) (j := 24) zwX12_lost_32 rfl)
theorem dX12_lost_57 : decode cX12_lost 57 = .ok (.iload_n 1, 1) := z_o27 (z_wat (q := 32) (j := 25) zwX12_lost_32 rfl)
theorem dX12_lost_58 : decode cX12_lost 58 = .ok (.iload 4, 2) := z_o21 (z_wat (q := 32) (j := 26) zwX12_lost_32 rfl) (z_wat (q := 32) (j := 27) zwX12_lost_32 rfl)
theorem dX12_lost_60 : decode cX12_lost 60 = .ok (.iload 5, 2) := z_o21 (z_wat (q := 32) (j := 28) zwX12_lost_32 rfl) (z_wat (q := 32) (j := 29) zwX12_lost_32 rfl)
theorem dX12_lost_62 : decode cX12_lost 62 = .ok (.iconst 5, 1) := z_o8 (z_wat (q := 32) (j := 30) zwX12_lost_32 rfl)
theorem dX12_lost_63 : decode cX12_lost 63 = .ok (.invokevirtual 257, 3) := z_o182 (z_wat (q := 32) (j := 31) zwX12_lost_32 rfl) (z_wat (q := 32) (j := 32) zwX12_lost_32 rfl) (z_wat (q := 32) (j := 33) zwX12_lost_32 rfl) rfl
theorem zwX12_lost_64 : ((cX12_lost.data.toList.drop 64).take 34).map UInt8.toNat = [1, 1, 96, 62, 132, 5, 1, 167, 255, 204, 132, 4, 1, 167, 255, 186, 28, 154, 0, 7, 3, 167, 0, 13, 20, 1, 16, 29, 133, 105, 28, 133, 109, 136] := by decide +kernel
theorem dX12_lost_66 : decode cX12_lost 66 = .ok (.iadd, 1) := z_o96 (z_wat (q := 64) (j := 2) zwX12_lost_64 rfl)
theorem dX12_lost_67 : decode cX12_lost 67 = .ok (.istore_n 3, 1) := z_o62 (z_wat (q := 64) (j := 3) zwX12_lost_64 rfl)
theorem dX12_lost_68 : decode cX12_lost 68 = .ok (.iinc 5 1, 3) := z_o132 (z_wat (q := 64) (j := 4) zwX12_lost_64 rfl) (z_wat (q := 64) (j := 5) zwX12_lost_64 rfl) (z_wat (q := 64) (j := 6) zwX12_lost_64 rfl) rfl
theorem dX12_lost_71 : decode cX12_lost 71 = .ok (.goto (-52), 3) := z_o167 (z_wat (q := 64) (j := 7) zwX12_lost_64 rfl) (z_wat (q := 64) (j := 8) zwX12_lost_64 rfl) (z_wat (q := 64) (j := 9) zwX12_lost_64 rfl) rfl
theorem dX12_lost_74 : decode cX12_lost 74 = .ok (.iinc 4 1, 3) := z_o132 (z_wat (q := 64) (j := 10) zwX12_lost_64 rfl) (z_wat (q := 64) (j := 11) zwX12_lost_64 rfl) (z_wat (q := 64) (j := 12) zwX12_lost_64 rfl) rfl
theorem dX12_lost_77 : decode cX12_lost 77 = .ok (.goto (-70), 3) := z_o167 (z_wat (q := 64) (j := 13) zwX12_lost_64 rfl) (z_wat (q := 64) (j := 14) zwX12_lost_64 rfl) (z_wat (q := 64) (j := 15) zwX12_lost_64 rfl) rfl
theorem dX12_lost_80 : decode cX12_lost 80 = .ok (.iload_n 2, 1) := z_o28 (z_wat (q := 64) (j := 16) zwX12_lost_64 rfl)
theorem dX12_lost_81 : decode cX12_lost 81 = .ok (.ifCond .ne 7, 3) := z_o154 (z_wat (q := 64) (j := 17) zwX12_lost_64 rfl) (z_wat (q := 64) (j := 18) zwX12_lost_64 rfl) (z_wat (q := 64) (j := 19) zwX12_lost_64 rfl) rfl
theorem dX12_lost_84 : decode cX12_lost 84 = .ok (.iconst 0, 1) := z_o3 (z_wat (q := 64) (j := 20) zwX12_lost_64 rfl)
theorem dX12_lost_85 : decode cX12_lost 85 = .ok (.goto 13, 3) := z_o167 (z_wat (q := 64) (j := 21) zwX12_lost_64 rfl) (z_wat (q := 64) (j := 22) zwX12_lost_64 rfl) (z_wat (q := 64) (j := 23) zwX12_lost_64 rfl) rfl
theorem dX12_lost_88 : decode cX12_lost 88 = .ok (.ldc2_w 272, 3) := z_o20 (z_wat (q := 64) (j := 24) zwX12_lost_64 rfl) (z_wat (q := 64) (j := 25) zwX12_lost_64 rfl) (z_wat (q := 64) (j := 26) zwX12_lost_64 rfl) rfl
theorem dX12_lost_91 : decode cX12_lost 91 = .ok (.iload_n 3, 1) := z_o29 (z_wat (q := 64) (j := 27) zwX12_lost_64 rfl)
theorem dX12_lost_92 : decode cX12_lost 92 = .ok (.i2l, 1) := z_o133 (z_wat (q := 64) (j := 28) zwX12_lost_64 rfl)
theorem dX12_lost_93 : decode cX12_lost 93 = .ok (.lmul, 1) := z_o105 (z_wat (q := 64) (j := 29) zwX12_lost_64 rfl)
theorem dX12_lost_94 : decode cX12_lost 94 = .ok (.iload_n 2, 1) := z_o28 (z_wat (q := 64) (j := 30) zwX12_lost_64 rfl)
theorem dX12_lost_95 : decode cX12_lost 95 = .ok (.i2l, 1) := z_o133 (z_wat (q := 64) (j := 31) zwX12_lost_64 rfl)
theorem zwX12_lost_96 : ((cX12_lost.data.toList.drop 96).take 3).map UInt8.toNat = [109, 136, 172] := by decide +kernel
theorem dX12_lost_96 : decode cX12_lost 96 = .ok (.ldiv, 1) := z_o109 (z_wat (q := 96) (j := 0) zwX12_lost_96 rfl)
theorem dX12_lost_97 : decode cX12_lost 97 = .ok (.l2i, 1) := z_o136 (z_wat (q := 96) (j := 1) zwX12_lost_96 rfl)
theorem dX12_lost_98 : decode cX12_lost 98 = .ok (.ireturn, 1) := z_o172 (z_wat (q := 96) (j := 2) zwX12_lost_96 rfl)
theorem zwX12_orders_0 : ((cX12_orders.data.toList.drop 0).take 34).map UInt8.toNat = [3, 60, 27, 17, 0, 144, 162, 0, 16, 42, 180, 0, 35, 27, 3, 84, 132, 1, 1, 167, 255, 239, 3, 60, 27, 42, 180, 0, 154, 162, 0, 60, 42, 180] := by decide +kernel
theorem dX12_orders_0 : decode cX12_orders 0 = .ok (.iconst 0, 1) := z_o3 (z_wat (q := 0) (j := 0) zwX12_orders_0 rfl)
theorem dX12_orders_1 : decode cX12_orders 1 = .ok (.istore_n 1, 1) := z_o60 (z_wat (q := 0) (j := 1) zwX12_orders_0 rfl)
theorem dX12_orders_2 : decode cX12_orders 2 = .ok (.iload_n 1, 1) := z_o27 (z_wat (q := 0) (j := 2) zwX12_orders_0 rfl)
theorem dX12_orders_3 : decode cX12_orders 3 = .ok (.sipush 144, 3) := z_o17 (z_wat (q := 0) (j := 3) zwX12_orders_0 rfl) (z_wat (q := 0) (j := 4) zwX12_orders_0 rfl) (z_wat (q := 0) (j := 5) zwX12_orders_0 rfl) rfl
theorem dX12_orders_6 : decode cX12_orders 6 = .ok (.if_icmp .ge 16, 3) := z_o162 (z_wat (q := 0) (j := 6) zwX12_orders_0 rfl) (z_wat (q := 0) (j := 7) zwX12_orders_0 rfl) (z_wat (q := 0) (j := 8) zwX12_orders_0 rfl) rfl
theorem dX12_orders_9 : decode cX12_orders 9 = .ok (.aload_n 0, 1) := z_o42 (z_wat (q := 0) (j := 9) zwX12_orders_0 rfl)
theorem dX12_orders_10 : decode cX12_orders 10 = .ok (.getfield 35, 3) := z_o180 (z_wat (q := 0) (j := 10) zwX12_orders_0 rfl) (z_wat (q := 0) (j := 11) zwX12_orders_0 rfl) (z_wat (q := 0) (j := 12) zwX12_orders_0 rfl) rfl
theorem dX12_orders_13 : decode cX12_orders 13 = .ok (.iload_n 1, 1) := z_o27 (z_wat (q := 0) (j := 13) zwX12_orders_0 rfl)
theorem dX12_orders_14 : decode cX12_orders 14 = .ok (.iconst 0, 1) := z_o3 (z_wat (q := 0) (j := 14) zwX12_orders_0 rfl)
theorem dX12_orders_15 : decode cX12_orders 15 = .ok (.bastore, 1) := z_o84 (z_wat (q := 0) (j := 15) zwX12_orders_0 rfl)
theorem dX12_orders_16 : decode cX12_orders 16 = .ok (.iinc 1 1, 3) := z_o132 (z_wat (q := 0) (j := 16) zwX12_orders_0 rfl) (z_wat (q := 0) (j := 17) zwX12_orders_0 rfl) (z_wat (q := 0) (j := 18) zwX12_orders_0 rfl) rfl
theorem dX12_orders_19 : decode cX12_orders 19 = .ok (.goto (-17), 3) := z_o167 (z_wat (q := 0) (j := 19) zwX12_orders_0 rfl) (z_wat (q := 0) (j := 20) zwX12_orders_0 rfl) (z_wat (q := 0) (j := 21) zwX12_orders_0 rfl) rfl
theorem dX12_orders_22 : decode cX12_orders 22 = .ok (.iconst 0, 1) := z_o3 (z_wat (q := 0) (j := 22) zwX12_orders_0 rfl)
theorem dX12_orders_23 : decode cX12_orders 23 = .ok (.istore_n 1, 1) := z_o60 (z_wat (q := 0) (j := 23) zwX12_orders_0 rfl)
theorem dX12_orders_24 : decode cX12_orders 24 = .ok (.iload_n 1, 1) := z_o27 (z_wat (q := 0) (j := 24) zwX12_orders_0 rfl)
theorem dX12_orders_25 : decode cX12_orders 25 = .ok (.aload_n 0, 1) := z_o42 (z_wat (q := 0) (j := 25) zwX12_orders_0 rfl)
theorem dX12_orders_26 : decode cX12_orders 26 = .ok (.getfield 154, 3) := z_o180 (z_wat (q := 0) (j := 26) zwX12_orders_0 rfl) (z_wat (q := 0) (j := 27) zwX12_orders_0 rfl) (z_wat (q := 0) (j := 28) zwX12_orders_0 rfl) rfl
theorem dX12_orders_29 : decode cX12_orders 29 = .ok (.if_icmp .ge 60, 3) := z_o162 (z_wat (q := 0) (j := 29) zwX12_orders_0 rfl) (z_wat (q := 0) (j := 30) zwX12_orders_0 rfl) (z_wat (q := 0) (j := 31) zwX12_orders_0 rfl) rfl
theorem zwX12_orders_32 : ((cX12_orders.data.toList.drop 32).take 34).map UInt8.toNat = [42, 180, 0, 25, 27, 51, 153, 0, 45, 42, 180, 0, 13, 27, 46, 5, 162, 0, 35, 42, 180, 0, 35, 16, 12, 42, 180, 0, 32, 42, 180, 0, 16, 27] := by decide +kernel
theorem dX12_orders_32 : decode cX12_orders 32 = .ok (.aload_n 0, 1) := z_o42 (z_wat (q := 32) (j := 0) zwX12_orders_32 rfl)
theorem dX12_orders_33 : decode cX12_orders 33 = .ok (.getfield 25, 3) := z_o180 (z_wat (q := 32) (j := 1) zwX12_orders_32 rfl) (z_wat (q := 32) (j := 2) zwX12_orders_32 rfl) (z_wat (q := 32) (j := 3) zwX12_orders_32 rfl) rfl
theorem dX12_orders_36 : decode cX12_orders 36 = .ok (.iload_n 1, 1) := z_o27 (z_wat (q := 32) (j := 4) zwX12_orders_32 rfl)
theorem dX12_orders_37 : decode cX12_orders 37 = .ok (.baload, 1) := z_o51 (z_wat (q := 32) (j := 5) zwX12_orders_32 rfl)
theorem dX12_orders_38 : decode cX12_orders 38 = .ok (.ifCond .eq 45, 3) := z_o153 (z_wat (q := 32) (j := 6) zwX12_orders_32 rfl) (z_wat (q := 32) (j := 7) zwX12_orders_32 rfl) (z_wat (q := 32) (j := 8) zwX12_orders_32 rfl) rfl
theorem dX12_orders_41 : decode cX12_orders 41 = .ok (.aload_n 0, 1) := z_o42 (z_wat (q := 32) (j := 9) zwX12_orders_32 rfl)
theorem dX12_orders_42 : decode cX12_orders 42 = .ok (.getfield 13, 3) := z_o180 (z_wat (q := 32) (j := 10) zwX12_orders_32 rfl) (z_wat (q := 32) (j := 11) zwX12_orders_32 rfl) (z_wat (q := 32) (j := 12) zwX12_orders_32 rfl) rfl
theorem dX12_orders_45 : decode cX12_orders 45 = .ok (.iload_n 1, 1) := z_o27 (z_wat (q := 32) (j := 13) zwX12_orders_32 rfl)
theorem dX12_orders_46 : decode cX12_orders 46 = .ok (.iaload, 1) := z_o46 (z_wat (q := 32) (j := 14) zwX12_orders_32 rfl)
theorem dX12_orders_47 : decode cX12_orders 47 = .ok (.iconst 2, 1) := z_o5 (z_wat (q := 32) (j := 15) zwX12_orders_32 rfl)
theorem dX12_orders_48 : decode cX12_orders 48 = .ok (.if_icmp .ge 35, 3) := z_o162 (z_wat (q := 32) (j := 16) zwX12_orders_32 rfl) (z_wat (q := 32) (j := 17) zwX12_orders_32 rfl) (z_wat (q := 32) (j := 18) zwX12_orders_32 rfl) rfl
theorem dX12_orders_51 : decode cX12_orders 51 = .ok (.aload_n 0, 1) := z_o42 (z_wat (q := 32) (j := 19) zwX12_orders_32 rfl)
theorem dX12_orders_52 : decode cX12_orders 52 = .ok (.getfield 35, 3) := z_o180 (z_wat (q := 32) (j := 20) zwX12_orders_32 rfl) (z_wat (q := 32) (j := 21) zwX12_orders_32 rfl) (z_wat (q := 32) (j := 22) zwX12_orders_32 rfl) rfl
theorem dX12_orders_55 : decode cX12_orders 55 = .ok (.bipush 12, 2) := z_o16 (z_wat (q := 32) (j := 23) zwX12_orders_32 rfl) (z_wat (q := 32) (j := 24) zwX12_orders_32 rfl) rfl
theorem dX12_orders_57 : decode cX12_orders 57 = .ok (.aload_n 0, 1) := z_o42 (z_wat (q := 32) (j := 25) zwX12_orders_32 rfl)
theorem dX12_orders_58 : decode cX12_orders 58 = .ok (.getfield 32, 3) := z_o180 (z_wat (q := 32) (j := 26) zwX12_orders_32 rfl) (z_wat (q := 32) (j := 27) zwX12_orders_32 rfl) (z_wat (q := 32) (j := 28) zwX12_orders_32 rfl) rfl
theorem dX12_orders_61 : decode cX12_orders 61 = .ok (.aload_n 0, 1) := z_o42 (z_wat (q := 32) (j := 29) zwX12_orders_32 rfl)
theorem dX12_orders_62 : decode cX12_orders 62 = .ok (.getfield 16, 3) := z_o180 (z_wat (q := 32) (j := 30) zwX12_orders_32 rfl) (z_wat (q := 32) (j := 31) zwX12_orders_32 rfl) (z_wat (q := 32) (j := 32) zwX12_orders_32 rfl) rfl
theorem zwX12_orders_64 : ((cX12_orders.data.toList.drop 64).take 34).map UInt8.toNat = [16, 27, 46, 46, 104, 42, 180, 0, 32, 42, 180, 0, 19, 27, 46, 46, 96, 4, 84, 132, 1, 1, 167, 255, 194, 3, 60, 27, 16, 12, 162, 0, 95, 3] := by decide +kernel
theorem dX12_orders_65 : decode cX12_orders 65 = .ok (.iload_n 1, 1) := z_o27 (z_wat (q := 64) (j := 1) zwX12_orders_64 rfl)
theorem dX12_orders_66 : decode cX12_orders 66 = .ok (.iaload, 1) := z_o46 (z_wat (q := 64) (j := 2) zwX12_orders_64 rfl)
theorem dX12_orders_67 : decode cX12_orders 67 = .ok (.iaload, 1) := z_o46 (z_wat (q := 64) (j := 3) zwX12_orders_64 rfl)
theorem dX12_orders_68 : decode cX12_orders 68 = .ok (.imul, 1) := z_o104 (z_wat (q := 64) (j := 4) zwX12_orders_64 rfl)
theorem dX12_orders_69 : decode cX12_orders 69 = .ok (.aload_n 0, 1) := z_o42 (z_wat (q := 64) (j := 5) zwX12_orders_64 rfl)
theorem dX12_orders_70 : decode cX12_orders 70 = .ok (.getfield 32, 3) := z_o180 (z_wat (q := 64) (j := 6) zwX12_orders_64 rfl) (z_wat (q := 64) (j := 7) zwX12_orders_64 rfl) (z_wat (q := 64) (j := 8) zwX12_orders_64 rfl) rfl
theorem dX12_orders_73 : decode cX12_orders 73 = .ok (.aload_n 0, 1) := z_o42 (z_wat (q := 64) (j := 9) zwX12_orders_64 rfl)
theorem dX12_orders_74 : decode cX12_orders 74 = .ok (.getfield 19, 3) := z_o180 (z_wat (q := 64) (j := 10) zwX12_orders_64 rfl) (z_wat (q := 64) (j := 11) zwX12_orders_64 rfl) (z_wat (q := 64) (j := 12) zwX12_orders_64 rfl) rfl
theorem dX12_orders_77 : decode cX12_orders 77 = .ok (.iload_n 1, 1) := z_o27 (z_wat (q := 64) (j := 13) zwX12_orders_64 rfl)
theorem dX12_orders_78 : decode cX12_orders 78 = .ok (.iaload, 1) := z_o46 (z_wat (q := 64) (j := 14) zwX12_orders_64 rfl)
theorem dX12_orders_79 : decode cX12_orders 79 = .ok (.iaload, 1) := z_o46 (z_wat (q := 64) (j := 15) zwX12_orders_64 rfl)
theorem dX12_orders_80 : decode cX12_orders 80 = .ok (.iadd, 1) := z_o96 (z_wat (q := 64) (j := 16) zwX12_orders_64 rfl)
theorem dX12_orders_81 : decode cX12_orders 81 = .ok (.iconst 1, 1) := z_o4 (z_wat (q := 64) (j := 17) zwX12_orders_64 rfl)
theorem dX12_orders_82 : decode cX12_orders 82 = .ok (.bastore, 1) := z_o84 (z_wat (q := 64) (j := 18) zwX12_orders_64 rfl)
theorem dX12_orders_83 : decode cX12_orders 83 = .ok (.iinc 1 1, 3) := z_o132 (z_wat (q := 64) (j := 19) zwX12_orders_64 rfl) (z_wat (q := 64) (j := 20) zwX12_orders_64 rfl) (z_wat (q := 64) (j := 21) zwX12_orders_64 rfl) rfl
theorem dX12_orders_86 : decode cX12_orders 86 = .ok (.goto (-62), 3) := z_o167 (z_wat (q := 64) (j := 22) zwX12_orders_64 rfl) (z_wat (q := 64) (j := 23) zwX12_orders_64 rfl) (z_wat (q := 64) (j := 24) zwX12_orders_64 rfl) rfl
theorem dX12_orders_89 : decode cX12_orders 89 = .ok (.iconst 0, 1) := z_o3 (z_wat (q := 64) (j := 25) zwX12_orders_64 rfl)
theorem dX12_orders_90 : decode cX12_orders 90 = .ok (.istore_n 1, 1) := z_o60 (z_wat (q := 64) (j := 26) zwX12_orders_64 rfl)
theorem dX12_orders_91 : decode cX12_orders 91 = .ok (.iload_n 1, 1) := z_o27 (z_wat (q := 64) (j := 27) zwX12_orders_64 rfl)
theorem dX12_orders_92 : decode cX12_orders 92 = .ok (.bipush 12, 2) := z_o16 (z_wat (q := 64) (j := 28) zwX12_orders_64 rfl) (z_wat (q := 64) (j := 29) zwX12_orders_64 rfl) rfl
theorem dX12_orders_94 : decode cX12_orders 94 = .ok (.if_icmp .ge 95, 3) := z_o162 (z_wat (q := 64) (j := 30) zwX12_orders_64 rfl) (z_wat (q := 64) (j := 31) zwX12_orders_64 rfl) (z_wat (q := 64) (j := 32) zwX12_orders_64 rfl) rfl
theorem zwX12_orders_96 : ((cX12_orders.data.toList.drop 96).take 34).map UInt8.toNat = [95, 3, 61, 28, 16, 12, 162, 0, 81, 3, 62, 29, 16, 12, 162, 0, 67, 42, 180, 0, 35, 16, 12, 28, 104, 29, 96, 42, 180, 0, 35, 16, 12, 28] := by decide +kernel
theorem dX12_orders_97 : decode cX12_orders 97 = .ok (.iconst 0, 1) := z_o3 (z_wat (q := 96) (j := 1) zwX12_orders_96 rfl)
theorem dX12_orders_98 : decode cX12_orders 98 = .ok (.istore_n 2, 1) := z_o61 (z_wat (q := 96) (j := 2) zwX12_orders_96 rfl)
theorem dX12_orders_99 : decode cX12_orders 99 = .ok (.iload_n 2, 1) := z_o28 (z_wat (q := 96) (j := 3) zwX12_orders_96 rfl)
theorem dX12_orders_100 : decode cX12_orders 100 = .ok (.bipush 12, 2) := z_o16 (z_wat (q := 96) (j := 4) zwX12_orders_96 rfl) (z_wat (q := 96) (j := 5) zwX12_orders_96 rfl) rfl
theorem dX12_orders_102 : decode cX12_orders 102 = .ok (.if_icmp .ge 81, 3) := z_o162 (z_wat (q := 96) (j := 6) zwX12_orders_96 rfl) (z_wat (q := 96) (j := 7) zwX12_orders_96 rfl) (z_wat (q := 96) (j := 8) zwX12_orders_96 rfl) rfl
theorem dX12_orders_105 : decode cX12_orders 105 = .ok (.iconst 0, 1) := z_o3 (z_wat (q := 96) (j := 9) zwX12_orders_96 rfl)
theorem dX12_orders_106 : decode cX12_orders 106 = .ok (.istore_n 3, 1) := z_o62 (z_wat (q := 96) (j := 10) zwX12_orders_96 rfl)
theorem dX12_orders_107 : decode cX12_orders 107 = .ok (.iload_n 3, 1) := z_o29 (z_wat (q := 96) (j := 11) zwX12_orders_96 rfl)
theorem dX12_orders_108 : decode cX12_orders 108 = .ok (.bipush 12, 2) := z_o16 (z_wat (q := 96) (j := 12) zwX12_orders_96 rfl) (z_wat (q := 96) (j := 13) zwX12_orders_96 rfl) rfl
theorem dX12_orders_110 : decode cX12_orders 110 = .ok (.if_icmp .ge 67, 3) := z_o162 (z_wat (q := 96) (j := 14) zwX12_orders_96 rfl) (z_wat (q := 96) (j := 15) zwX12_orders_96 rfl) (z_wat (q := 96) (j := 16) zwX12_orders_96 rfl) rfl
theorem dX12_orders_113 : decode cX12_orders 113 = .ok (.aload_n 0, 1) := z_o42 (z_wat (q := 96) (j := 17) zwX12_orders_96 rfl)
theorem dX12_orders_114 : decode cX12_orders 114 = .ok (.getfield 35, 3) := z_o180 (z_wat (q := 96) (j := 18) zwX12_orders_96 rfl) (z_wat (q := 96) (j := 19) zwX12_orders_96 rfl) (z_wat (q := 96) (j := 20) zwX12_orders_96 rfl) rfl
theorem dX12_orders_117 : decode cX12_orders 117 = .ok (.bipush 12, 2) := z_o16 (z_wat (q := 96) (j := 21) zwX12_orders_96 rfl) (z_wat (q := 96) (j := 22) zwX12_orders_96 rfl) rfl
theorem dX12_orders_119 : decode cX12_orders 119 = .ok (.iload_n 2, 1) := z_o28 (z_wat (q := 96) (j := 23) zwX12_orders_96 rfl)
theorem dX12_orders_120 : decode cX12_orders 120 = .ok (.imul, 1) := z_o104 (z_wat (q := 96) (j := 24) zwX12_orders_96 rfl)
theorem dX12_orders_121 : decode cX12_orders 121 = .ok (.iload_n 3, 1) := z_o29 (z_wat (q := 96) (j := 25) zwX12_orders_96 rfl)
theorem dX12_orders_122 : decode cX12_orders 122 = .ok (.iadd, 1) := z_o96 (z_wat (q := 96) (j := 26) zwX12_orders_96 rfl)
theorem dX12_orders_123 : decode cX12_orders 123 = .ok (.aload_n 0, 1) := z_o42 (z_wat (q := 96) (j := 27) zwX12_orders_96 rfl)
theorem dX12_orders_124 : decode cX12_orders 124 = .ok (.getfield 35, 3) := z_o180 (z_wat (q := 96) (j := 28) zwX12_orders_96 rfl) (z_wat (q := 96) (j := 29) zwX12_orders_96 rfl) (z_wat (q := 96) (j := 30) zwX12_orders_96 rfl) rfl
theorem dX12_orders_127 : decode cX12_orders 127 = .ok (.bipush 12, 2) := z_o16 (z_wat (q := 96) (j := 31) zwX12_orders_96 rfl) (z_wat (q := 96) (j := 32) zwX12_orders_96 rfl) rfl
theorem zwX12_orders_128 : ((cX12_orders.data.toList.drop 128).take 34).map UInt8.toNat = [12, 28, 104, 29, 96, 51, 154, 0, 31, 42, 180, 0, 35, 16, 12, 28, 104, 27, 96, 51, 153, 0, 21, 42, 180, 0, 35, 16, 12, 27, 104, 29, 96, 51] := by decide +kernel
theorem dX12_orders_129 : decode cX12_orders 129 = .ok (.iload_n 2, 1) := z_o28 (z_wat (q := 128) (j := 1) zwX12_orders_128 rfl)
theorem dX12_orders_130 : decode cX12_orders 130 = .ok (.imul, 1) := z_o104 (z_wat (q := 128) (j := 2) zwX12_orders_128 rfl)
theorem dX12_orders_131 : decode cX12_orders 131 = .ok (.iload_n 3, 1) := z_o29 (z_wat (q := 128) (j := 3) zwX12_orders_128 rfl)
theorem dX12_orders_132 : decode cX12_orders 132 = .ok (.iadd, 1) := z_o96 (z_wat (q := 128) (j := 4) zwX12_orders_128 rfl)
theorem dX12_orders_133 : decode cX12_orders 133 = .ok (.baload, 1) := z_o51 (z_wat (q := 128) (j := 5) zwX12_orders_128 rfl)
theorem dX12_orders_134 : decode cX12_orders 134 = .ok (.ifCond .ne 31, 3) := z_o154 (z_wat (q := 128) (j := 6) zwX12_orders_128 rfl) (z_wat (q := 128) (j := 7) zwX12_orders_128 rfl) (z_wat (q := 128) (j := 8) zwX12_orders_128 rfl) rfl
theorem dX12_orders_137 : decode cX12_orders 137 = .ok (.aload_n 0, 1) := z_o42 (z_wat (q := 128) (j := 9) zwX12_orders_128 rfl)
theorem dX12_orders_138 : decode cX12_orders 138 = .ok (.getfield 35, 3) := z_o180 (z_wat (q := 128) (j := 10) zwX12_orders_128 rfl) (z_wat (q := 128) (j := 11) zwX12_orders_128 rfl) (z_wat (q := 128) (j := 12) zwX12_orders_128 rfl) rfl
theorem dX12_orders_141 : decode cX12_orders 141 = .ok (.bipush 12, 2) := z_o16 (z_wat (q := 128) (j := 13) zwX12_orders_128 rfl) (z_wat (q := 128) (j := 14) zwX12_orders_128 rfl) rfl
theorem dX12_orders_143 : decode cX12_orders 143 = .ok (.iload_n 2, 1) := z_o28 (z_wat (q := 128) (j := 15) zwX12_orders_128 rfl)
theorem dX12_orders_144 : decode cX12_orders 144 = .ok (.imul, 1) := z_o104 (z_wat (q := 128) (j := 16) zwX12_orders_128 rfl)
theorem dX12_orders_145 : decode cX12_orders 145 = .ok (.iload_n 1, 1) := z_o27 (z_wat (q := 128) (j := 17) zwX12_orders_128 rfl)
theorem dX12_orders_146 : decode cX12_orders 146 = .ok (.iadd, 1) := z_o96 (z_wat (q := 128) (j := 18) zwX12_orders_128 rfl)
theorem dX12_orders_147 : decode cX12_orders 147 = .ok (.baload, 1) := z_o51 (z_wat (q := 128) (j := 19) zwX12_orders_128 rfl)
theorem dX12_orders_148 : decode cX12_orders 148 = .ok (.ifCond .eq 21, 3) := z_o153 (z_wat (q := 128) (j := 20) zwX12_orders_128 rfl) (z_wat (q := 128) (j := 21) zwX12_orders_128 rfl) (z_wat (q := 128) (j := 22) zwX12_orders_128 rfl) rfl
theorem dX12_orders_151 : decode cX12_orders 151 = .ok (.aload_n 0, 1) := z_o42 (z_wat (q := 128) (j := 23) zwX12_orders_128 rfl)
theorem dX12_orders_152 : decode cX12_orders 152 = .ok (.getfield 35, 3) := z_o180 (z_wat (q := 128) (j := 24) zwX12_orders_128 rfl) (z_wat (q := 128) (j := 25) zwX12_orders_128 rfl) (z_wat (q := 128) (j := 26) zwX12_orders_128 rfl) rfl
theorem dX12_orders_155 : decode cX12_orders 155 = .ok (.bipush 12, 2) := z_o16 (z_wat (q := 128) (j := 27) zwX12_orders_128 rfl) (z_wat (q := 128) (j := 28) zwX12_orders_128 rfl) rfl
theorem dX12_orders_157 : decode cX12_orders 157 = .ok (.iload_n 1, 1) := z_o27 (z_wat (q := 128) (j := 29) zwX12_orders_128 rfl)
theorem dX12_orders_158 : decode cX12_orders 158 = .ok (.imul, 1) := z_o104 (z_wat (q := 128) (j := 30) zwX12_orders_128 rfl)
theorem dX12_orders_159 : decode cX12_orders 159 = .ok (.iload_n 3, 1) := z_o29 (z_wat (q := 128) (j := 31) zwX12_orders_128 rfl)
theorem zwX12_orders_160 : ((cX12_orders.data.toList.drop 160).take 34).map UInt8.toNat = [96, 51, 153, 0, 7, 4, 167, 0, 4, 3, 84, 132, 3, 1, 167, 255, 189, 132, 2, 1, 167, 255, 175, 132, 1, 1, 167, 255, 161, 42, 3, 181, 0, 167] := by decide +kernel
theorem dX12_orders_160 : decode cX12_orders 160 = .ok (.iadd, 1) := z_o96 (z_wat (q := 160) (j := 0) zwX12_orders_160 rfl)
theorem dX12_orders_161 : decode cX12_orders 161 = .ok (.baload, 1) := z_o51 (z_wat (q := 160) (j := 1) zwX12_orders_160 rfl)
theorem dX12_orders_162 : decode cX12_orders 162 = .ok (.ifCond .eq 7, 3) := z_o153 (z_wat (q := 160) (j := 2) zwX12_orders_160 rfl) (z_wat (q := 160) (j := 3) zwX12_orders_160 rfl) (z_wat (q := 160) (j := 4) zwX12_orders_160 rfl) rfl
theorem dX12_orders_165 : decode cX12_orders 165 = .ok (.iconst 1, 1) := z_o4 (z_wat (q := 160) (j := 5) zwX12_orders_160 rfl)
theorem dX12_orders_166 : decode cX12_orders 166 = .ok (.goto 4, 3) := z_o167 (z_wat (q := 160) (j := 6) zwX12_orders_160 rfl) (z_wat (q := 160) (j := 7) zwX12_orders_160 rfl) (z_wat (q := 160) (j := 8) zwX12_orders_160 rfl) rfl
theorem dX12_orders_169 : decode cX12_orders 169 = .ok (.iconst 0, 1) := z_o3 (z_wat (q := 160) (j := 9) zwX12_orders_160 rfl)
theorem dX12_orders_170 : decode cX12_orders 170 = .ok (.bastore, 1) := z_o84 (z_wat (q := 160) (j := 10) zwX12_orders_160 rfl)
theorem dX12_orders_171 : decode cX12_orders 171 = .ok (.iinc 3 1, 3) := z_o132 (z_wat (q := 160) (j := 11) zwX12_orders_160 rfl) (z_wat (q := 160) (j := 12) zwX12_orders_160 rfl) (z_wat (q := 160) (j := 13) zwX12_orders_160 rfl) rfl
theorem dX12_orders_174 : decode cX12_orders 174 = .ok (.goto (-67), 3) := z_o167 (z_wat (q := 160) (j := 14) zwX12_orders_160 rfl) (z_wat (q := 160) (j := 15) zwX12_orders_160 rfl) (z_wat (q := 160) (j := 16) zwX12_orders_160 rfl) rfl
theorem dX12_orders_177 : decode cX12_orders 177 = .ok (.iinc 2 1, 3) := z_o132 (z_wat (q := 160) (j := 17) zwX12_orders_160 rfl) (z_wat (q := 160) (j := 18) zwX12_orders_160 rfl) (z_wat (q := 160) (j := 19) zwX12_orders_160 rfl) rfl
theorem dX12_orders_180 : decode cX12_orders 180 = .ok (.goto (-81), 3) := z_o167 (z_wat (q := 160) (j := 20) zwX12_orders_160 rfl) (z_wat (q := 160) (j := 21) zwX12_orders_160 rfl) (z_wat (q := 160) (j := 22) zwX12_orders_160 rfl) rfl
theorem dX12_orders_183 : decode cX12_orders 183 = .ok (.iinc 1 1, 3) := z_o132 (z_wat (q := 160) (j := 23) zwX12_orders_160 rfl) (z_wat (q := 160) (j := 24) zwX12_orders_160 rfl) (z_wat (q := 160) (j := 25) zwX12_orders_160 rfl) rfl
theorem dX12_orders_186 : decode cX12_orders 186 = .ok (.goto (-95), 3) := z_o167 (z_wat (q := 160) (j := 26) zwX12_orders_160 rfl) (z_wat (q := 160) (j := 27) zwX12_orders_160 rfl) (z_wat (q := 160) (j := 28) zwX12_orders_160 rfl) rfl
theorem dX12_orders_189 : decode cX12_orders 189 = .ok (.aload_n 0, 1) := z_o42 (z_wat (q := 160) (j := 29) zwX12_orders_160 rfl)
theorem dX12_orders_190 : decode cX12_orders 190 = .ok (.iconst 0, 1) := z_o3 (z_wat (q := 160) (j := 30) zwX12_orders_160 rfl)
theorem dX12_orders_191 : decode cX12_orders 191 = .ok (.putfield 167, 3) := z_o181 (z_wat (q := 160) (j := 31) zwX12_orders_160 rfl) (z_wat (q := 160) (j := 32) zwX12_orders_160 rfl) (z_wat (q := 160) (j := 33) zwX12_orders_160 rfl) rfl
theorem zwX12_orders_192 : ((cX12_orders.data.toList.drop 192).take 34).map UInt8.toNat = [0, 167, 3, 60, 27, 16, 12, 162, 0, 33, 42, 42, 180, 0, 35, 16, 13, 27, 104, 51, 153, 0, 7, 4, 167, 0, 7, 42, 180, 0, 167, 181, 0, 167] := by decide +kernel
theorem dX12_orders_194 : decode cX12_orders 194 = .ok (.iconst 0, 1) := z_o3 (z_wat (q := 192) (j := 2) zwX12_orders_192 rfl)
theorem dX12_orders_195 : decode cX12_orders 195 = .ok (.istore_n 1, 1) := z_o60 (z_wat (q := 192) (j := 3) zwX12_orders_192 rfl)
theorem dX12_orders_196 : decode cX12_orders 196 = .ok (.iload_n 1, 1) := z_o27 (z_wat (q := 192) (j := 4) zwX12_orders_192 rfl)
theorem dX12_orders_197 : decode cX12_orders 197 = .ok (.bipush 12, 2) := z_o16 (z_wat (q := 192) (j := 5) zwX12_orders_192 rfl) (z_wat (q := 192) (j := 6) zwX12_orders_192 rfl) rfl
theorem dX12_orders_199 : decode cX12_orders 199 = .ok (.if_icmp .ge 33, 3) := z_o162 (z_wat (q := 192) (j := 7) zwX12_orders_192 rfl) (z_wat (q := 192) (j := 8) zwX12_orders_192 rfl) (z_wat (q := 192) (j := 9) zwX12_orders_192 rfl) rfl
theorem dX12_orders_202 : decode cX12_orders 202 = .ok (.aload_n 0, 1) := z_o42 (z_wat (q := 192) (j := 10) zwX12_orders_192 rfl)
theorem dX12_orders_203 : decode cX12_orders 203 = .ok (.aload_n 0, 1) := z_o42 (z_wat (q := 192) (j := 11) zwX12_orders_192 rfl)
theorem dX12_orders_204 : decode cX12_orders 204 = .ok (.getfield 35, 3) := z_o180 (z_wat (q := 192) (j := 12) zwX12_orders_192 rfl) (z_wat (q := 192) (j := 13) zwX12_orders_192 rfl) (z_wat (q := 192) (j := 14) zwX12_orders_192 rfl) rfl
theorem dX12_orders_207 : decode cX12_orders 207 = .ok (.bipush 13, 2) := z_o16 (z_wat (q := 192) (j := 15) zwX12_orders_192 rfl) (z_wat (q := 192) (j := 16) zwX12_orders_192 rfl) rfl
theorem dX12_orders_209 : decode cX12_orders 209 = .ok (.iload_n 1, 1) := z_o27 (z_wat (q := 192) (j := 17) zwX12_orders_192 rfl)
theorem dX12_orders_210 : decode cX12_orders 210 = .ok (.imul, 1) := z_o104 (z_wat (q := 192) (j := 18) zwX12_orders_192 rfl)
theorem dX12_orders_211 : decode cX12_orders 211 = .ok (.baload, 1) := z_o51 (z_wat (q := 192) (j := 19) zwX12_orders_192 rfl)
theorem dX12_orders_212 : decode cX12_orders 212 = .ok (.ifCond .eq 7, 3) := z_o153 (z_wat (q := 192) (j := 20) zwX12_orders_192 rfl) (z_wat (q := 192) (j := 21) zwX12_orders_192 rfl) (z_wat (q := 192) (j := 22) zwX12_orders_192 rfl) rfl
theorem dX12_orders_215 : decode cX12_orders 215 = .ok (.iconst 1, 1) := z_o4 (z_wat (q := 192) (j := 23) zwX12_orders_192 rfl)
theorem dX12_orders_216 : decode cX12_orders 216 = .ok (.goto 7, 3) := z_o167 (z_wat (q := 192) (j := 24) zwX12_orders_192 rfl) (z_wat (q := 192) (j := 25) zwX12_orders_192 rfl) (z_wat (q := 192) (j := 26) zwX12_orders_192 rfl) rfl
theorem dX12_orders_219 : decode cX12_orders 219 = .ok (.aload_n 0, 1) := z_o42 (z_wat (q := 192) (j := 27) zwX12_orders_192 rfl)
theorem dX12_orders_220 : decode cX12_orders 220 = .ok (.getfield 167, 3) := z_o180 (z_wat (q := 192) (j := 28) zwX12_orders_192 rfl) (z_wat (q := 192) (j := 29) zwX12_orders_192 rfl) (z_wat (q := 192) (j := 30) zwX12_orders_192 rfl) rfl
theorem dX12_orders_223 : decode cX12_orders 223 = .ok (.putfield 167, 3) := z_o181 (z_wat (q := 192) (j := 31) zwX12_orders_192 rfl) (z_wat (q := 192) (j := 32) zwX12_orders_192 rfl) (z_wat (q := 192) (j := 33) zwX12_orders_192 rfl) rfl
theorem zwX12_orders_224 : ((cX12_orders.data.toList.drop 224).take 34).map UInt8.toNat = [0, 167, 132, 1, 1, 167, 255, 223, 3, 60, 27, 16, 12, 162, 0, 16, 42, 180, 0, 38, 27, 3, 79, 132, 1, 1, 167, 255, 240, 3, 60, 27, 16, 12] := by decide +kernel
theorem dX12_orders_226 : decode cX12_orders 226 = .ok (.iinc 1 1, 3) := z_o132 (z_wat (q := 224) (j := 2) zwX12_orders_224 rfl) (z_wat (q := 224) (j := 3) zwX12_orders_224 rfl) (z_wat (q := 224) (j := 4) zwX12_orders_224 rfl) rfl
theorem dX12_orders_229 : decode cX12_orders 229 = .ok (.goto (-33), 3) := z_o167 (z_wat (q := 224) (j := 5) zwX12_orders_224 rfl) (z_wat (q := 224) (j := 6) zwX12_orders_224 rfl) (z_wat (q := 224) (j := 7) zwX12_orders_224 rfl) rfl
theorem dX12_orders_232 : decode cX12_orders 232 = .ok (.iconst 0, 1) := z_o3 (z_wat (q := 224) (j := 8) zwX12_orders_224 rfl)
theorem dX12_orders_233 : decode cX12_orders 233 = .ok (.istore_n 1, 1) := z_o60 (z_wat (q := 224) (j := 9) zwX12_orders_224 rfl)
theorem dX12_orders_234 : decode cX12_orders 234 = .ok (.iload_n 1, 1) := z_o27 (z_wat (q := 224) (j := 10) zwX12_orders_224 rfl)
theorem dX12_orders_235 : decode cX12_orders 235 = .ok (.bipush 12, 2) := z_o16 (z_wat (q := 224) (j := 11) zwX12_orders_224 rfl) (z_wat (q := 224) (j := 12) zwX12_orders_224 rfl) rfl
theorem dX12_orders_237 : decode cX12_orders 237 = .ok (.if_icmp .ge 16, 3) := z_o162 (z_wat (q := 224) (j := 13) zwX12_orders_224 rfl) (z_wat (q := 224) (j := 14) zwX12_orders_224 rfl) (z_wat (q := 224) (j := 15) zwX12_orders_224 rfl) rfl
theorem dX12_orders_240 : decode cX12_orders 240 = .ok (.aload_n 0, 1) := z_o42 (z_wat (q := 224) (j := 16) zwX12_orders_224 rfl)
theorem dX12_orders_241 : decode cX12_orders 241 = .ok (.getfield 38, 3) := z_o180 (z_wat (q := 224) (j := 17) zwX12_orders_224 rfl) (z_wat (q := 224) (j := 18) zwX12_orders_224 rfl) (z_wat (q := 224) (j := 19) zwX12_orders_224 rfl) rfl
theorem dX12_orders_244 : decode cX12_orders 244 = .ok (.iload_n 1, 1) := z_o27 (z_wat (q := 224) (j := 20) zwX12_orders_224 rfl)
theorem dX12_orders_245 : decode cX12_orders 245 = .ok (.iconst 0, 1) := z_o3 (z_wat (q := 224) (j := 21) zwX12_orders_224 rfl)
theorem dX12_orders_246 : decode cX12_orders 246 = .ok (.iastore, 1) := z_o79 (z_wat (q := 224) (j := 22) zwX12_orders_224 rfl)
theorem dX12_orders_247 : decode cX12_orders 247 = .ok (.iinc 1 1, 3) := z_o132 (z_wat (q := 224) (j := 23) zwX12_orders_224 rfl) (z_wat (q := 224) (j := 24) zwX12_orders_224 rfl) (z_wat (q := 224) (j := 25) zwX12_orders_224 rfl) rfl
theorem dX12_orders_250 : decode cX12_orders 250 = .ok (.goto (-16), 3) := z_o167 (z_wat (q := 224) (j := 26) zwX12_orders_224 rfl) (z_wat (q := 224) (j := 27) zwX12_orders_224 rfl) (z_wat (q := 224) (j := 28) zwX12_orders_224 rfl) rfl
theorem dX12_orders_253 : decode cX12_orders 253 = .ok (.iconst 0, 1) := z_o3 (z_wat (q := 224) (j := 29) zwX12_orders_224 rfl)
theorem dX12_orders_254 : decode cX12_orders 254 = .ok (.istore_n 1, 1) := z_o60 (z_wat (q := 224) (j := 30) zwX12_orders_224 rfl)
theorem dX12_orders_255 : decode cX12_orders 255 = .ok (.iload_n 1, 1) := z_o27 (z_wat (q := 224) (j := 31) zwX12_orders_224 rfl)
theorem zwX12_orders_256 : ((cX12_orders.data.toList.drop 256).take 34).map UInt8.toNat = [16, 12, 162, 0, 87, 42, 180, 0, 167, 154, 0, 80, 3, 61, 28, 16, 12, 162, 0, 66, 3, 62, 29, 16, 12, 162, 0, 52, 42, 180, 0, 35, 16, 12] := by decide +kernel
theorem dX12_orders_256 : decode cX12_orders 256 = .ok (.bipush 12, 2) := z_o16 (z_wat (q := 256) (j := 0) zwX12_orders_256 rfl) (z_wat (q := 256) (j := 1) zwX12_orders_256 rfl) rfl
theorem dX12_orders_258 : decode cX12_orders 258 = .ok (.if_icmp .ge 87, 3) := z_o162 (z_wat (q := 256) (j := 2) zwX12_orders_256 rfl) (z_wat (q := 256) (j := 3) zwX12_orders_256 rfl) (z_wat (q := 256) (j := 4) zwX12_orders_256 rfl) rfl
theorem dX12_orders_261 : decode cX12_orders 261 = .ok (.aload_n 0, 1) := z_o42 (z_wat (q := 256) (j := 5) zwX12_orders_256 rfl)
theorem dX12_orders_262 : decode cX12_orders 262 = .ok (.getfield 167, 3) := z_o180 (z_wat (q := 256) (j := 6) zwX12_orders_256 rfl) (z_wat (q := 256) (j := 7) zwX12_orders_256 rfl) (z_wat (q := 256) (j := 8) zwX12_orders_256 rfl) rfl
theorem dX12_orders_265 : decode cX12_orders 265 = .ok (.ifCond .ne 80, 3) := z_o154 (z_wat (q := 256) (j := 9) zwX12_orders_256 rfl) (z_wat (q := 256) (j := 10) zwX12_orders_256 rfl) (z_wat (q := 256) (j := 11) zwX12_orders_256 rfl) rfl
theorem dX12_orders_268 : decode cX12_orders 268 = .ok (.iconst 0, 1) := z_o3 (z_wat (q := 256) (j := 12) zwX12_orders_256 rfl)
theorem dX12_orders_269 : decode cX12_orders 269 = .ok (.istore_n 2, 1) := z_o61 (z_wat (q := 256) (j := 13) zwX12_orders_256 rfl)
theorem dX12_orders_270 : decode cX12_orders 270 = .ok (.iload_n 2, 1) := z_o28 (z_wat (q := 256) (j := 14) zwX12_orders_256 rfl)
theorem dX12_orders_271 : decode cX12_orders 271 = .ok (.bipush 12, 2) := z_o16 (z_wat (q := 256) (j := 15) zwX12_orders_256 rfl) (z_wat (q := 256) (j := 16) zwX12_orders_256 rfl) rfl
theorem dX12_orders_273 : decode cX12_orders 273 = .ok (.if_icmp .ge 66, 3) := z_o162 (z_wat (q := 256) (j := 17) zwX12_orders_256 rfl) (z_wat (q := 256) (j := 18) zwX12_orders_256 rfl) (z_wat (q := 256) (j := 19) zwX12_orders_256 rfl) rfl
theorem dX12_orders_276 : decode cX12_orders 276 = .ok (.iconst 0, 1) := z_o3 (z_wat (q := 256) (j := 20) zwX12_orders_256 rfl)
theorem dX12_orders_277 : decode cX12_orders 277 = .ok (.istore_n 3, 1) := z_o62 (z_wat (q := 256) (j := 21) zwX12_orders_256 rfl)
theorem dX12_orders_278 : decode cX12_orders 278 = .ok (.iload_n 3, 1) := z_o29 (z_wat (q := 256) (j := 22) zwX12_orders_256 rfl)
theorem dX12_orders_279 : decode cX12_orders 279 = .ok (.bipush 12, 2) := z_o16 (z_wat (q := 256) (j := 23) zwX12_orders_256 rfl) (z_wat (q := 256) (j := 24) zwX12_orders_256 rfl) rfl
theorem dX12_orders_281 : decode cX12_orders 281 = .ok (.if_icmp .ge 52, 3) := z_o162 (z_wat (q := 256) (j := 25) zwX12_orders_256 rfl) (z_wat (q := 256) (j := 26) zwX12_orders_256 rfl) (z_wat (q := 256) (j := 27) zwX12_orders_256 rfl) rfl
theorem dX12_orders_284 : decode cX12_orders 284 = .ok (.aload_n 0, 1) := z_o42 (z_wat (q := 256) (j := 28) zwX12_orders_256 rfl)
theorem dX12_orders_285 : decode cX12_orders 285 = .ok (.getfield 35, 3) := z_o180 (z_wat (q := 256) (j := 29) zwX12_orders_256 rfl) (z_wat (q := 256) (j := 30) zwX12_orders_256 rfl) (z_wat (q := 256) (j := 31) zwX12_orders_256 rfl) rfl
theorem zwX12_orders_288 : ((cX12_orders.data.toList.drop 288).take 34).map UInt8.toNat = [16, 12, 28, 104, 29, 96, 51, 153, 0, 32, 42, 180, 0, 38, 28, 46, 42, 180, 0, 38, 29, 46, 163, 0, 17, 42, 180, 0, 38, 28, 42, 180, 0, 38] := by decide +kernel
theorem dX12_orders_288 : decode cX12_orders 288 = .ok (.bipush 12, 2) := z_o16 (z_wat (q := 288) (j := 0) zwX12_orders_288 rfl) (z_wat (q := 288) (j := 1) zwX12_orders_288 rfl) rfl
theorem dX12_orders_290 : decode cX12_orders 290 = .ok (.iload_n 2, 1) := z_o28 (z_wat (q := 288) (j := 2) zwX12_orders_288 rfl)
theorem dX12_orders_291 : decode cX12_orders 291 = .ok (.imul, 1) := z_o104 (z_wat (q := 288) (j := 3) zwX12_orders_288 rfl)
theorem dX12_orders_292 : decode cX12_orders 292 = .ok (.iload_n 3, 1) := z_o29 (z_wat (q := 288) (j := 4) zwX12_orders_288 rfl)
theorem dX12_orders_293 : decode cX12_orders 293 = .ok (.iadd, 1) := z_o96 (z_wat (q := 288) (j := 5) zwX12_orders_288 rfl)
theorem dX12_orders_294 : decode cX12_orders 294 = .ok (.baload, 1) := z_o51 (z_wat (q := 288) (j := 6) zwX12_orders_288 rfl)
theorem dX12_orders_295 : decode cX12_orders 295 = .ok (.ifCond .eq 32, 3) := z_o153 (z_wat (q := 288) (j := 7) zwX12_orders_288 rfl) (z_wat (q := 288) (j := 8) zwX12_orders_288 rfl) (z_wat (q := 288) (j := 9) zwX12_orders_288 rfl) rfl
theorem dX12_orders_298 : decode cX12_orders 298 = .ok (.aload_n 0, 1) := z_o42 (z_wat (q := 288) (j := 10) zwX12_orders_288 rfl)
theorem dX12_orders_299 : decode cX12_orders 299 = .ok (.getfield 38, 3) := z_o180 (z_wat (q := 288) (j := 11) zwX12_orders_288 rfl) (z_wat (q := 288) (j := 12) zwX12_orders_288 rfl) (z_wat (q := 288) (j := 13) zwX12_orders_288 rfl) rfl
theorem dX12_orders_302 : decode cX12_orders 302 = .ok (.iload_n 2, 1) := z_o28 (z_wat (q := 288) (j := 14) zwX12_orders_288 rfl)
theorem dX12_orders_303 : decode cX12_orders 303 = .ok (.iaload, 1) := z_o46 (z_wat (q := 288) (j := 15) zwX12_orders_288 rfl)
theorem dX12_orders_304 : decode cX12_orders 304 = .ok (.aload_n 0, 1) := z_o42 (z_wat (q := 288) (j := 16) zwX12_orders_288 rfl)
theorem dX12_orders_305 : decode cX12_orders 305 = .ok (.getfield 38, 3) := z_o180 (z_wat (q := 288) (j := 17) zwX12_orders_288 rfl) (z_wat (q := 288) (j := 18) zwX12_orders_288 rfl) (z_wat (q := 288) (j := 19) zwX12_orders_288 rfl) rfl
theorem dX12_orders_308 : decode cX12_orders 308 = .ok (.iload_n 3, 1) := z_o29 (z_wat (q := 288) (j := 20) zwX12_orders_288 rfl)
theorem dX12_orders_309 : decode cX12_orders 309 = .ok (.iaload, 1) := z_o46 (z_wat (q := 288) (j := 21) zwX12_orders_288 rfl)
theorem dX12_orders_310 : decode cX12_orders 310 = .ok (.if_icmp .gt 17, 3) := z_o163 (z_wat (q := 288) (j := 22) zwX12_orders_288 rfl) (z_wat (q := 288) (j := 23) zwX12_orders_288 rfl) (z_wat (q := 288) (j := 24) zwX12_orders_288 rfl) rfl
theorem dX12_orders_313 : decode cX12_orders 313 = .ok (.aload_n 0, 1) := z_o42 (z_wat (q := 288) (j := 25) zwX12_orders_288 rfl)
theorem dX12_orders_314 : decode cX12_orders 314 = .ok (.getfield 38, 3) := z_o180 (z_wat (q := 288) (j := 26) zwX12_orders_288 rfl) (z_wat (q := 288) (j := 27) zwX12_orders_288 rfl) (z_wat (q := 288) (j := 28) zwX12_orders_288 rfl) rfl
theorem dX12_orders_317 : decode cX12_orders 317 = .ok (.iload_n 2, 1) := z_o28 (z_wat (q := 288) (j := 29) zwX12_orders_288 rfl)
theorem dX12_orders_318 : decode cX12_orders 318 = .ok (.aload_n 0, 1) := z_o42 (z_wat (q := 288) (j := 30) zwX12_orders_288 rfl)
theorem dX12_orders_319 : decode cX12_orders 319 = .ok (.getfield 38, 3) := z_o180 (z_wat (q := 288) (j := 31) zwX12_orders_288 rfl) (z_wat (q := 288) (j := 32) zwX12_orders_288 rfl) (z_wat (q := 288) (j := 33) zwX12_orders_288 rfl) rfl
theorem zwX12_orders_320 : ((cX12_orders.data.toList.drop 320).take 26).map UInt8.toNat = [0, 38, 29, 46, 4, 96, 79, 132, 3, 1, 167, 255, 204, 132, 2, 1, 167, 255, 190, 132, 1, 1, 167, 255, 169, 177] := by decide +kernel
theorem dX12_orders_322 : decode cX12_orders 322 = .ok (.iload_n 3, 1) := z_o29 (z_wat (q := 320) (j := 2) zwX12_orders_320 rfl)
theorem dX12_orders_323 : decode cX12_orders 323 = .ok (.iaload, 1) := z_o46 (z_wat (q := 320) (j := 3) zwX12_orders_320 rfl)
theorem dX12_orders_324 : decode cX12_orders 324 = .ok (.iconst 1, 1) := z_o4 (z_wat (q := 320) (j := 4) zwX12_orders_320 rfl)
theorem dX12_orders_325 : decode cX12_orders 325 = .ok (.iadd, 1) := z_o96 (z_wat (q := 320) (j := 5) zwX12_orders_320 rfl)
theorem dX12_orders_326 : decode cX12_orders 326 = .ok (.iastore, 1) := z_o79 (z_wat (q := 320) (j := 6) zwX12_orders_320 rfl)
theorem dX12_orders_327 : decode cX12_orders 327 = .ok (.iinc 3 1, 3) := z_o132 (z_wat (q := 320) (j := 7) zwX12_orders_320 rfl) (z_wat (q := 320) (j := 8) zwX12_orders_320 rfl) (z_wat (q := 320) (j := 9) zwX12_orders_320 rfl) rfl
theorem dX12_orders_330 : decode cX12_orders 330 = .ok (.goto (-52), 3) := z_o167 (z_wat (q := 320) (j := 10) zwX12_orders_320 rfl) (z_wat (q := 320) (j := 11) zwX12_orders_320 rfl) (z_wat (q := 320) (j := 12) zwX12_orders_320 rfl) rfl
theorem dX12_orders_333 : decode cX12_orders 333 = .ok (.iinc 2 1, 3) := z_o132 (z_wat (q := 320) (j := 13) zwX12_orders_320 rfl) (z_wat (q := 320) (j := 14) zwX12_orders_320 rfl) (z_wat (q := 320) (j := 15) zwX12_orders_320 rfl) rfl
theorem dX12_orders_336 : decode cX12_orders 336 = .ok (.goto (-66), 3) := z_o167 (z_wat (q := 320) (j := 16) zwX12_orders_320 rfl) (z_wat (q := 320) (j := 17) zwX12_orders_320 rfl) (z_wat (q := 320) (j := 18) zwX12_orders_320 rfl) rfl
theorem dX12_orders_339 : decode cX12_orders 339 = .ok (.iinc 1 1, 3) := z_o132 (z_wat (q := 320) (j := 19) zwX12_orders_320 rfl) (z_wat (q := 320) (j := 20) zwX12_orders_320 rfl) (z_wat (q := 320) (j := 21) zwX12_orders_320 rfl) rfl
theorem dX12_orders_342 : decode cX12_orders 342 = .ok (.goto (-87), 3) := z_o167 (z_wat (q := 320) (j := 22) zwX12_orders_320 rfl) (z_wat (q := 320) (j := 23) zwX12_orders_320 rfl) (z_wat (q := 320) (j := 24) zwX12_orders_320 rfl) rfl
theorem dX12_orders_345 : decode cX12_orders 345 = .ok (.return_, 1) := z_o177 (z_wat (q := 320) (j := 25) zwX12_orders_320 rfl)
theorem zwX12_puts_0 : ((cX12_puts.data.toList.drop 0).take 34).map UInt8.toNat = [42, 27, 28, 182, 1, 38, 62, 42, 20, 1, 18, 181, 1, 41, 29, 16, 40, 164, 0, 5, 29, 172, 3, 54, 4, 21, 4, 29, 163, 0, 139, 3, 54, 5] := by decide +kernel
theorem dX12_puts_0 : decode cX12_puts 0 = .ok (.aload_n 0, 1) := z_o42 (z_wat (q := 0) (j := 0) zwX12_puts_0 rfl)
theorem dX12_puts_1 : decode cX12_puts 1 = .ok (.iload_n 1, 1) := z_o27 (z_wat (q := 0) (j := 1) zwX12_puts_0 rfl)
theorem dX12_puts_2 : decode cX12_puts 2 = .ok (.iload_n 2, 1) := z_o28 (z_wat (q := 0) (j := 2) zwX12_puts_0 rfl)
theorem dX12_puts_3 : decode cX12_puts 3 = .ok (.invokevirtual 294, 3) := z_o182 (z_wat (q := 0) (j := 3) zwX12_puts_0 rfl) (z_wat (q := 0) (j := 4) zwX12_puts_0 rfl) (z_wat (q := 0) (j := 5) zwX12_puts_0 rfl) rfl
theorem dX12_puts_6 : decode cX12_puts 6 = .ok (.istore_n 3, 1) := z_o62 (z_wat (q := 0) (j := 6) zwX12_puts_0 rfl)
theorem dX12_puts_7 : decode cX12_puts 7 = .ok (.aload_n 0, 1) := z_o42 (z_wat (q := 0) (j := 7) zwX12_puts_0 rfl)
theorem dX12_puts_8 : decode cX12_puts 8 = .ok (.ldc2_w 274, 3) := z_o20 (z_wat (q := 0) (j := 8) zwX12_puts_0 rfl) (z_wat (q := 0) (j := 9) zwX12_puts_0 rfl) (z_wat (q := 0) (j := 10) zwX12_puts_0 rfl) rfl
theorem dX12_puts_11 : decode cX12_puts 11 = .ok (.putfield 297, 3) := z_o181 (z_wat (q := 0) (j := 11) zwX12_puts_0 rfl) (z_wat (q := 0) (j := 12) zwX12_puts_0 rfl) (z_wat (q := 0) (j := 13) zwX12_puts_0 rfl) rfl
theorem dX12_puts_14 : decode cX12_puts 14 = .ok (.iload_n 3, 1) := z_o29 (z_wat (q := 0) (j := 14) zwX12_puts_0 rfl)
theorem dX12_puts_15 : decode cX12_puts 15 = .ok (.bipush 40, 2) := z_o16 (z_wat (q := 0) (j := 15) zwX12_puts_0 rfl) (z_wat (q := 0) (j := 16) zwX12_puts_0 rfl) rfl
theorem dX12_puts_17 : decode cX12_puts 17 = .ok (.if_icmp .le 5, 3) := z_o164 (z_wat (q := 0) (j := 17) zwX12_puts_0 rfl) (z_wat (q := 0) (j := 18) zwX12_puts_0 rfl) (z_wat (q := 0) (j := 19) zwX12_puts_0 rfl) rfl
theorem dX12_puts_20 : decode cX12_puts 20 = .ok (.iload_n 3, 1) := z_o29 (z_wat (q := 0) (j := 20) zwX12_puts_0 rfl)
theorem dX12_puts_21 : decode cX12_puts 21 = .ok (.ireturn, 1) := z_o172 (z_wat (q := 0) (j := 21) zwX12_puts_0 rfl)
theorem dX12_puts_22 : decode cX12_puts 22 = .ok (.iconst 0, 1) := z_o3 (z_wat (q := 0) (j := 22) zwX12_puts_0 rfl)
theorem dX12_puts_23 : decode cX12_puts 23 = .ok (.istore 4, 2) := z_o54 (z_wat (q := 0) (j := 23) zwX12_puts_0 rfl) (z_wat (q := 0) (j := 24) zwX12_puts_0 rfl)
theorem dX12_puts_25 : decode cX12_puts 25 = .ok (.iload 4, 2) := z_o21 (z_wat (q := 0) (j := 25) zwX12_puts_0 rfl) (z_wat (q := 0) (j := 26) zwX12_puts_0 rfl)
theorem dX12_puts_27 : decode cX12_puts 27 = .ok (.iload_n 3, 1) := z_o29 (z_wat (q := 0) (j := 27) zwX12_puts_0 rfl)
theorem dX12_puts_28 : decode cX12_puts 28 = .ok (.if_icmp .gt 139, 3) := z_o163 (z_wat (q := 0) (j := 28) zwX12_puts_0 rfl) (z_wat (q := 0) (j := 29) zwX12_puts_0 rfl) (z_wat (q := 0) (j := 30) zwX12_puts_0 rfl) rfl
theorem dX12_puts_31 : decode cX12_puts 31 = .ok (.iconst 0, 1) := z_o3 (z_wat (q := 0) (j := 31) zwX12_puts_0 rfl)
theorem zwX12_puts_32 : ((cX12_puts.data.toList.drop 32).take 34).map UInt8.toNat = [54, 5, 21, 4, 21, 5, 96, 29, 163, 0, 121, 3, 54, 6, 21, 4, 21, 5, 96, 21, 6, 96, 29, 163, 0, 100, 42, 28, 21, 4, 21, 5, 21, 6] := by decide +kernel
theorem dX12_puts_32 : decode cX12_puts 32 = .ok (.istore 5, 2) := z_o54 (z_wat (q := 32) (j := 0) zwX12_puts_32 rfl) (z_wat (q := 32) (j := 1) zwX12_puts_32 rfl)
theorem dX12_puts_34 : decode cX12_puts 34 = .ok (.iload 4, 2) := z_o21 (z_wat (q := 32) (j := 2) zwX12_puts_32 rfl) (z_wat (q := 32) (j := 3) zwX12_puts_32 rfl)
theorem dX12_puts_36 : decode cX12_puts 36 = .ok (.iload 5, 2) := z_o21 (z_wat (q := 32) (j := 4) zwX12_puts_32 rfl) (z_wat (q := 32) (j := 5) zwX12_puts_32 rfl)
theorem dX12_puts_38 : decode cX12_puts 38 = .ok (.iadd, 1) := z_o96 (z_wat (q := 32) (j := 6) zwX12_puts_32 rfl)
theorem dX12_puts_39 : decode cX12_puts 39 = .ok (.iload_n 3, 1) := z_o29 (z_wat (q := 32) (j := 7) zwX12_puts_32 rfl)
theorem dX12_puts_40 : decode cX12_puts 40 = .ok (.if_icmp .gt 121, 3) := z_o163 (z_wat (q := 32) (j := 8) zwX12_puts_32 rfl) (z_wat (q := 32) (j := 9) zwX12_puts_32 rfl) (z_wat (q := 32) (j := 10) zwX12_puts_32 rfl) rfl
theorem dX12_puts_43 : decode cX12_puts 43 = .ok (.iconst 0, 1) := z_o3 (z_wat (q := 32) (j := 11) zwX12_puts_32 rfl)
theorem dX12_puts_44 : decode cX12_puts 44 = .ok (.istore 6, 2) := z_o54 (z_wat (q := 32) (j := 12) zwX12_puts_32 rfl) (z_wat (q := 32) (j := 13) zwX12_puts_32 rfl)
theorem dX12_puts_46 : decode cX12_puts 46 = .ok (.iload 4, 2) := z_o21 (z_wat (q := 32) (j := 14) zwX12_puts_32 rfl) (z_wat (q := 32) (j := 15) zwX12_puts_32 rfl)
theorem dX12_puts_48 : decode cX12_puts 48 = .ok (.iload 5, 2) := z_o21 (z_wat (q := 32) (j := 16) zwX12_puts_32 rfl) (z_wat (q := 32) (j := 17) zwX12_puts_32 rfl)
theorem dX12_puts_50 : decode cX12_puts 50 = .ok (.iadd, 1) := z_o96 (z_wat (q := 32) (j := 18) zwX12_puts_32 rfl)
theorem dX12_puts_51 : decode cX12_puts 51 = .ok (.iload 6, 2) := z_o21 (z_wat (q := 32) (j := 19) zwX12_puts_32 rfl) (z_wat (q := 32) (j := 20) zwX12_puts_32 rfl)
theorem dX12_puts_53 : decode cX12_puts 53 = .ok (.iadd, 1) := z_o96 (z_wat (q := 32) (j := 21) zwX12_puts_32 rfl)
theorem dX12_puts_54 : decode cX12_puts 54 = .ok (.iload_n 3, 1) := z_o29 (z_wat (q := 32) (j := 22) zwX12_puts_32 rfl)
theorem dX12_puts_55 : decode cX12_puts 55 = .ok (.if_icmp .gt 100, 3) := z_o163 (z_wat (q := 32) (j := 23) zwX12_puts_32 rfl) (z_wat (q := 32) (j := 24) zwX12_puts_32 rfl) (z_wat (q := 32) (j := 25) zwX12_puts_32 rfl) rfl
theorem dX12_puts_58 : decode cX12_puts 58 = .ok (.aload_n 0, 1) := z_o42 (z_wat (q := 32) (j := 26) zwX12_puts_32 rfl)
theorem dX12_puts_59 : decode cX12_puts 59 = .ok (.iload_n 2, 1) := z_o28 (z_wat (q := 32) (j := 27) zwX12_puts_32 rfl)
theorem dX12_puts_60 : decode cX12_puts 60 = .ok (.iload 4, 2) := z_o21 (z_wat (q := 32) (j := 28) zwX12_puts_32 rfl) (z_wat (q := 32) (j := 29) zwX12_puts_32 rfl)
theorem dX12_puts_62 : decode cX12_puts 62 = .ok (.iload 5, 2) := z_o21 (z_wat (q := 32) (j := 30) zwX12_puts_32 rfl) (z_wat (q := 32) (j := 31) zwX12_puts_32 rfl)
theorem zwX12_puts_64 : ((cX12_puts.data.toList.drop 64).take 34).map UInt8.toNat = [21, 6, 29, 21, 4, 100, 21, 5, 100, 21, 6, 100, 182, 1, 45, 55, 7, 42, 180, 1, 41, 9, 148, 155, 0, 16, 22, 7, 42, 180, 1, 41, 148, 155] := by decide +kernel
theorem dX12_puts_64 : decode cX12_puts 64 = .ok (.iload 6, 2) := z_o21 (z_wat (q := 64) (j := 0) zwX12_puts_64 rfl) (z_wat (q := 64) (j := 1) zwX12_puts_64 rfl)
theorem dX12_puts_66 : decode cX12_puts 66 = .ok (.iload_n 3, 1) := z_o29 (z_wat (q := 64) (j := 2) zwX12_puts_64 rfl)
theorem dX12_puts_67 : decode cX12_puts 67 = .ok (.iload 4, 2) := z_o21 (z_wat (q := 64) (j := 3) zwX12_puts_64 rfl) (z_wat (q := 64) (j := 4) zwX12_puts_64 rfl)
theorem dX12_puts_69 : decode cX12_puts 69 = .ok (.isub, 1) := z_o100 (z_wat (q := 64) (j := 5) zwX12_puts_64 rfl)
theorem dX12_puts_70 : decode cX12_puts 70 = .ok (.iload 5, 2) := z_o21 (z_wat (q := 64) (j := 6) zwX12_puts_64 rfl) (z_wat (q := 64) (j := 7) zwX12_puts_64 rfl)
theorem dX12_puts_72 : decode cX12_puts 72 = .ok (.isub, 1) := z_o100 (z_wat (q := 64) (j := 8) zwX12_puts_64 rfl)
theorem dX12_puts_73 : decode cX12_puts 73 = .ok (.iload 6, 2) := z_o21 (z_wat (q := 64) (j := 9) zwX12_puts_64 rfl) (z_wat (q := 64) (j := 10) zwX12_puts_64 rfl)
theorem dX12_puts_75 : decode cX12_puts 75 = .ok (.isub, 1) := z_o100 (z_wat (q := 64) (j := 11) zwX12_puts_64 rfl)
theorem dX12_puts_76 : decode cX12_puts 76 = .ok (.invokevirtual 301, 3) := z_o182 (z_wat (q := 64) (j := 12) zwX12_puts_64 rfl) (z_wat (q := 64) (j := 13) zwX12_puts_64 rfl) (z_wat (q := 64) (j := 14) zwX12_puts_64 rfl) rfl
theorem dX12_puts_79 : decode cX12_puts 79 = .ok (.lstore 7, 2) := z_o55 (z_wat (q := 64) (j := 15) zwX12_puts_64 rfl) (z_wat (q := 64) (j := 16) zwX12_puts_64 rfl)
theorem dX12_puts_81 : decode cX12_puts 81 = .ok (.aload_n 0, 1) := z_o42 (z_wat (q := 64) (j := 17) zwX12_puts_64 rfl)
theorem dX12_puts_82 : decode cX12_puts 82 = .ok (.getfield 297, 3) := z_o180 (z_wat (q := 64) (j := 18) zwX12_puts_64 rfl) (z_wat (q := 64) (j := 19) zwX12_puts_64 rfl) (z_wat (q := 64) (j := 20) zwX12_puts_64 rfl) rfl
theorem dX12_puts_85 : decode cX12_puts 85 = .ok (.lconst 0, 1) := z_o9 (z_wat (q := 64) (j := 21) zwX12_puts_64 rfl)
theorem dX12_puts_86 : decode cX12_puts 86 = .ok (.lcmp, 1) := z_o148 (z_wat (q := 64) (j := 22) zwX12_puts_64 rfl)
theorem dX12_puts_87 : decode cX12_puts 87 = .ok (.ifCond .lt 16, 3) := z_o155 (z_wat (q := 64) (j := 23) zwX12_puts_64 rfl) (z_wat (q := 64) (j := 24) zwX12_puts_64 rfl) (z_wat (q := 64) (j := 25) zwX12_puts_64 rfl) rfl
theorem dX12_puts_90 : decode cX12_puts 90 = .ok (.lload 7, 2) := z_o22 (z_wat (q := 64) (j := 26) zwX12_puts_64 rfl) (z_wat (q := 64) (j := 27) zwX12_puts_64 rfl)
theorem dX12_puts_92 : decode cX12_puts 92 = .ok (.aload_n 0, 1) := z_o42 (z_wat (q := 64) (j := 28) zwX12_puts_64 rfl)
theorem dX12_puts_93 : decode cX12_puts 93 = .ok (.getfield 297, 3) := z_o180 (z_wat (q := 64) (j := 29) zwX12_puts_64 rfl) (z_wat (q := 64) (j := 30) zwX12_puts_64 rfl) (z_wat (q := 64) (j := 31) zwX12_puts_64 rfl) rfl
theorem zwX12_puts_96 : ((cX12_puts.data.toList.drop 96).take 34).map UInt8.toNat = [148, 155, 0, 6, 167, 0, 49, 42, 22, 7, 181, 1, 41, 42, 180, 0, 87, 3, 21, 4, 79, 42, 180, 0, 87, 4, 21, 5, 79, 42, 180, 0, 87, 5] := by decide +kernel
theorem dX12_puts_96 : decode cX12_puts 96 = .ok (.lcmp, 1) := z_o148 (z_wat (q := 96) (j := 0) zwX12_puts_96 rfl)
theorem dX12_puts_97 : decode cX12_puts 97 = .ok (.ifCond .lt 6, 3) := z_o155 (z_wat (q := 96) (j := 1) zwX12_puts_96 rfl) (z_wat (q := 96) (j := 2) zwX12_puts_96 rfl) (z_wat (q := 96) (j := 3) zwX12_puts_96 rfl) rfl
theorem dX12_puts_100 : decode cX12_puts 100 = .ok (.goto 49, 3) := z_o167 (z_wat (q := 96) (j := 4) zwX12_puts_96 rfl) (z_wat (q := 96) (j := 5) zwX12_puts_96 rfl) (z_wat (q := 96) (j := 6) zwX12_puts_96 rfl) rfl
theorem dX12_puts_103 : decode cX12_puts 103 = .ok (.aload_n 0, 1) := z_o42 (z_wat (q := 96) (j := 7) zwX12_puts_96 rfl)
theorem dX12_puts_104 : decode cX12_puts 104 = .ok (.lload 7, 2) := z_o22 (z_wat (q := 96) (j := 8) zwX12_puts_96 rfl) (z_wat (q := 96) (j := 9) zwX12_puts_96 rfl)
theorem dX12_puts_106 : decode cX12_puts 106 = .ok (.putfield 297, 3) := z_o181 (z_wat (q := 96) (j := 10) zwX12_puts_96 rfl) (z_wat (q := 96) (j := 11) zwX12_puts_96 rfl) (z_wat (q := 96) (j := 12) zwX12_puts_96 rfl) rfl
theorem dX12_puts_109 : decode cX12_puts 109 = .ok (.aload_n 0, 1) := z_o42 (z_wat (q := 96) (j := 13) zwX12_puts_96 rfl)
theorem dX12_puts_110 : decode cX12_puts 110 = .ok (.getfield 87, 3) := z_o180 (z_wat (q := 96) (j := 14) zwX12_puts_96 rfl) (z_wat (q := 96) (j := 15) zwX12_puts_96 rfl) (z_wat (q := 96) (j := 16) zwX12_puts_96 rfl) rfl
theorem dX12_puts_113 : decode cX12_puts 113 = .ok (.iconst 0, 1) := z_o3 (z_wat (q := 96) (j := 17) zwX12_puts_96 rfl)
theorem dX12_puts_114 : decode cX12_puts 114 = .ok (.iload 4, 2) := z_o21 (z_wat (q := 96) (j := 18) zwX12_puts_96 rfl) (z_wat (q := 96) (j := 19) zwX12_puts_96 rfl)
theorem dX12_puts_116 : decode cX12_puts 116 = .ok (.iastore, 1) := z_o79 (z_wat (q := 96) (j := 20) zwX12_puts_96 rfl)
theorem dX12_puts_117 : decode cX12_puts 117 = .ok (.aload_n 0, 1) := z_o42 (z_wat (q := 96) (j := 21) zwX12_puts_96 rfl)
theorem dX12_puts_118 : decode cX12_puts 118 = .ok (.getfield 87, 3) := z_o180 (z_wat (q := 96) (j := 22) zwX12_puts_96 rfl) (z_wat (q := 96) (j := 23) zwX12_puts_96 rfl) (z_wat (q := 96) (j := 24) zwX12_puts_96 rfl) rfl
theorem dX12_puts_121 : decode cX12_puts 121 = .ok (.iconst 1, 1) := z_o4 (z_wat (q := 96) (j := 25) zwX12_puts_96 rfl)
theorem dX12_puts_122 : decode cX12_puts 122 = .ok (.iload 5, 2) := z_o21 (z_wat (q := 96) (j := 26) zwX12_puts_96 rfl) (z_wat (q := 96) (j := 27) zwX12_puts_96 rfl)
theorem dX12_puts_124 : decode cX12_puts 124 = .ok (.iastore, 1) := z_o79 (z_wat (q := 96) (j := 28) zwX12_puts_96 rfl)
theorem dX12_puts_125 : decode cX12_puts 125 = .ok (.aload_n 0, 1) := z_o42 (z_wat (q := 96) (j := 29) zwX12_puts_96 rfl)
theorem dX12_puts_126 : decode cX12_puts 126 = .ok (.getfield 87, 3) := z_o180 (z_wat (q := 96) (j := 30) zwX12_puts_96 rfl) (z_wat (q := 96) (j := 31) zwX12_puts_96 rfl) (z_wat (q := 96) (j := 32) zwX12_puts_96 rfl) rfl
theorem zwX12_puts_128 : ((cX12_puts.data.toList.drop 128).take 34).map UInt8.toNat = [87, 5, 21, 6, 79, 42, 180, 0, 87, 6, 29, 21, 4, 100, 21, 5, 100, 21, 6, 100, 79, 132, 6, 1, 167, 255, 150, 132, 5, 1, 167, 255, 132, 132] := by decide +kernel
theorem dX12_puts_129 : decode cX12_puts 129 = .ok (.iconst 2, 1) := z_o5 (z_wat (q := 128) (j := 1) zwX12_puts_128 rfl)
theorem dX12_puts_130 : decode cX12_puts 130 = .ok (.iload 6, 2) := z_o21 (z_wat (q := 128) (j := 2) zwX12_puts_128 rfl) (z_wat (q := 128) (j := 3) zwX12_puts_128 rfl)
theorem dX12_puts_132 : decode cX12_puts 132 = .ok (.iastore, 1) := z_o79 (z_wat (q := 128) (j := 4) zwX12_puts_128 rfl)
theorem dX12_puts_133 : decode cX12_puts 133 = .ok (.aload_n 0, 1) := z_o42 (z_wat (q := 128) (j := 5) zwX12_puts_128 rfl)
theorem dX12_puts_134 : decode cX12_puts 134 = .ok (.getfield 87, 3) := z_o180 (z_wat (q := 128) (j := 6) zwX12_puts_128 rfl) (z_wat (q := 128) (j := 7) zwX12_puts_128 rfl) (z_wat (q := 128) (j := 8) zwX12_puts_128 rfl) rfl
theorem dX12_puts_137 : decode cX12_puts 137 = .ok (.iconst 3, 1) := z_o6 (z_wat (q := 128) (j := 9) zwX12_puts_128 rfl)
theorem dX12_puts_138 : decode cX12_puts 138 = .ok (.iload_n 3, 1) := z_o29 (z_wat (q := 128) (j := 10) zwX12_puts_128 rfl)
theorem dX12_puts_139 : decode cX12_puts 139 = .ok (.iload 4, 2) := z_o21 (z_wat (q := 128) (j := 11) zwX12_puts_128 rfl) (z_wat (q := 128) (j := 12) zwX12_puts_128 rfl)
theorem dX12_puts_141 : decode cX12_puts 141 = .ok (.isub, 1) := z_o100 (z_wat (q := 128) (j := 13) zwX12_puts_128 rfl)
theorem dX12_puts_142 : decode cX12_puts 142 = .ok (.iload 5, 2) := z_o21 (z_wat (q := 128) (j := 14) zwX12_puts_128 rfl) (z_wat (q := 128) (j := 15) zwX12_puts_128 rfl)
theorem dX12_puts_144 : decode cX12_puts 144 = .ok (.isub, 1) := z_o100 (z_wat (q := 128) (j := 16) zwX12_puts_128 rfl)
theorem dX12_puts_145 : decode cX12_puts 145 = .ok (.iload 6, 2) := z_o21 (z_wat (q := 128) (j := 17) zwX12_puts_128 rfl) (z_wat (q := 128) (j := 18) zwX12_puts_128 rfl)
theorem dX12_puts_147 : decode cX12_puts 147 = .ok (.isub, 1) := z_o100 (z_wat (q := 128) (j := 19) zwX12_puts_128 rfl)
theorem dX12_puts_148 : decode cX12_puts 148 = .ok (.iastore, 1) := z_o79 (z_wat (q := 128) (j := 20) zwX12_puts_128 rfl)
theorem dX12_puts_149 : decode cX12_puts 149 = .ok (.iinc 6 1, 3) := z_o132 (z_wat (q := 128) (j := 21) zwX12_puts_128 rfl) (z_wat (q := 128) (j := 22) zwX12_puts_128 rfl) (z_wat (q := 128) (j := 23) zwX12_puts_128 rfl) rfl
theorem dX12_puts_152 : decode cX12_puts 152 = .ok (.goto (-106), 3) := z_o167 (z_wat (q := 128) (j := 24) zwX12_puts_128 rfl) (z_wat (q := 128) (j := 25) zwX12_puts_128 rfl) (z_wat (q := 128) (j := 26) zwX12_puts_128 rfl) rfl
theorem dX12_puts_155 : decode cX12_puts 155 = .ok (.iinc 5 1, 3) := z_o132 (z_wat (q := 128) (j := 27) zwX12_puts_128 rfl) (z_wat (q := 128) (j := 28) zwX12_puts_128 rfl) (z_wat (q := 128) (j := 29) zwX12_puts_128 rfl) rfl
theorem dX12_puts_158 : decode cX12_puts 158 = .ok (.goto (-124), 3) := z_o167 (z_wat (q := 128) (j := 30) zwX12_puts_128 rfl) (z_wat (q := 128) (j := 31) zwX12_puts_128 rfl) (z_wat (q := 128) (j := 32) zwX12_puts_128 rfl) rfl
theorem zwX12_puts_160 : ((cX12_puts.data.toList.drop 160).take 9).map UInt8.toNat = [132, 132, 4, 1, 167, 255, 117, 29, 172] := by decide +kernel
theorem dX12_puts_161 : decode cX12_puts 161 = .ok (.iinc 4 1, 3) := z_o132 (z_wat (q := 160) (j := 1) zwX12_puts_160 rfl) (z_wat (q := 160) (j := 2) zwX12_puts_160 rfl) (z_wat (q := 160) (j := 3) zwX12_puts_160 rfl) rfl
theorem dX12_puts_164 : decode cX12_puts 164 = .ok (.goto (-139), 3) := z_o167 (z_wat (q := 160) (j := 4) zwX12_puts_160 rfl) (z_wat (q := 160) (j := 5) zwX12_puts_160 rfl) (z_wat (q := 160) (j := 6) zwX12_puts_160 rfl) rfl
theorem dX12_puts_167 : decode cX12_puts 167 = .ok (.iload_n 3, 1) := z_o29 (z_wat (q := 160) (j := 7) zwX12_puts_160 rfl)
theorem dX12_puts_168 : decode cX12_puts 168 = .ok (.ireturn, 1) := z_o172 (z_wat (q := 160) (j := 8) zwX12_puts_160 rfl)
theorem zwX12_righted_0 : ((cX12_righted.data.toList.drop 0).take 34).map UInt8.toNat = [9, 66, 3, 54, 5, 21, 5, 7, 162, 0, 42, 33, 42, 27, 28, 21, 5, 182, 1, 5, 133, 20, 1, 8, 105, 20, 1, 10, 42, 180, 0, 69, 7, 28] := by decide +kernel
theorem dX12_righted_0 : decode cX12_righted 0 = .ok (.lconst 0, 1) := z_o9 (z_wat (q := 0) (j := 0) zwX12_righted_0 rfl)
theorem dX12_righted_1 : decode cX12_righted 1 = .ok (.lstore_n 3, 1) := z_o66 (z_wat (q := 0) (j := 1) zwX12_righted_0 rfl)
theorem dX12_righted_2 : decode cX12_righted 2 = .ok (.iconst 0, 1) := z_o3 (z_wat (q := 0) (j := 2) zwX12_righted_0 rfl)
theorem dX12_righted_3 : decode cX12_righted 3 = .ok (.istore 5, 2) := z_o54 (z_wat (q := 0) (j := 3) zwX12_righted_0 rfl) (z_wat (q := 0) (j := 4) zwX12_righted_0 rfl)
theorem dX12_righted_5 : decode cX12_righted 5 = .ok (.iload 5, 2) := z_o21 (z_wat (q := 0) (j := 5) zwX12_righted_0 rfl) (z_wat (q := 0) (j := 6) zwX12_righted_0 rfl)
theorem dX12_righted_7 : decode cX12_righted 7 = .ok (.iconst 4, 1) := z_o7 (z_wat (q := 0) (j := 7) zwX12_righted_0 rfl)
theorem dX12_righted_8 : decode cX12_righted 8 = .ok (.if_icmp .ge 42, 3) := z_o162 (z_wat (q := 0) (j := 8) zwX12_righted_0 rfl) (z_wat (q := 0) (j := 9) zwX12_righted_0 rfl) (z_wat (q := 0) (j := 10) zwX12_righted_0 rfl) rfl
theorem dX12_righted_11 : decode cX12_righted 11 = .ok (.lload_n 3, 1) := z_o33 (z_wat (q := 0) (j := 11) zwX12_righted_0 rfl)
theorem dX12_righted_12 : decode cX12_righted 12 = .ok (.aload_n 0, 1) := z_o42 (z_wat (q := 0) (j := 12) zwX12_righted_0 rfl)
theorem dX12_righted_13 : decode cX12_righted 13 = .ok (.iload_n 1, 1) := z_o27 (z_wat (q := 0) (j := 13) zwX12_righted_0 rfl)
theorem dX12_righted_14 : decode cX12_righted 14 = .ok (.iload_n 2, 1) := z_o28 (z_wat (q := 0) (j := 14) zwX12_righted_0 rfl)
theorem dX12_righted_15 : decode cX12_righted 15 = .ok (.iload 5, 2) := z_o21 (z_wat (q := 0) (j := 15) zwX12_righted_0 rfl) (z_wat (q := 0) (j := 16) zwX12_righted_0 rfl)
theorem dX12_righted_17 : decode cX12_righted 17 = .ok (.invokevirtual 261, 3) := z_o182 (z_wat (q := 0) (j := 17) zwX12_righted_0 rfl) (z_wat (q := 0) (j := 18) zwX12_righted_0 rfl) (z_wat (q := 0) (j := 19) zwX12_righted_0 rfl) rfl
theorem dX12_righted_20 : decode cX12_righted 20 = .ok (.i2l, 1) := z_o133 (z_wat (q := 0) (j := 20) zwX12_righted_0 rfl)
theorem dX12_righted_21 : decode cX12_righted 21 = .ok (.ldc2_w 264, 3) := z_o20 (z_wat (q := 0) (j := 21) zwX12_righted_0 rfl) (z_wat (q := 0) (j := 22) zwX12_righted_0 rfl) (z_wat (q := 0) (j := 23) zwX12_righted_0 rfl) rfl
theorem dX12_righted_24 : decode cX12_righted 24 = .ok (.lmul, 1) := z_o105 (z_wat (q := 0) (j := 24) zwX12_righted_0 rfl)
theorem dX12_righted_25 : decode cX12_righted 25 = .ok (.ldc2_w 266, 3) := z_o20 (z_wat (q := 0) (j := 25) zwX12_righted_0 rfl) (z_wat (q := 0) (j := 26) zwX12_righted_0 rfl) (z_wat (q := 0) (j := 27) zwX12_righted_0 rfl) rfl
theorem dX12_righted_28 : decode cX12_righted 28 = .ok (.aload_n 0, 1) := z_o42 (z_wat (q := 0) (j := 28) zwX12_righted_0 rfl)
theorem dX12_righted_29 : decode cX12_righted 29 = .ok (.getfield 69, 3) := z_o180 (z_wat (q := 0) (j := 29) zwX12_righted_0 rfl) (z_wat (q := 0) (j := 30) zwX12_righted_0 rfl) (z_wat (q := 0) (j := 31) zwX12_righted_0 rfl) rfl
theorem zwX12_righted_32 : ((cX12_righted.data.toList.drop 32).take 24).map UInt8.toNat = [7, 28, 104, 21, 5, 96, 46, 133, 109, 105, 97, 66, 132, 5, 1, 167, 255, 214, 33, 20, 1, 10, 109, 173] := by decide +kernel
theorem dX12_righted_32 : decode cX12_righted 32 = .ok (.iconst 4, 1) := z_o7 (z_wat (q := 32) (j := 0) zwX12_righted_32 rfl)
theorem dX12_righted_33 : decode cX12_righted 33 = .ok (.iload_n 2, 1) := z_o28 (z_wat (q := 32) (j := 1) zwX12_righted_32 rfl)
theorem dX12_righted_34 : decode cX12_righted 34 = .ok (.imul, 1) := z_o104 (z_wat (q := 32) (j := 2) zwX12_righted_32 rfl)
theorem dX12_righted_35 : decode cX12_righted 35 = .ok (.iload 5, 2) := z_o21 (z_wat (q := 32) (j := 3) zwX12_righted_32 rfl) (z_wat (q := 32) (j := 4) zwX12_righted_32 rfl)
theorem dX12_righted_37 : decode cX12_righted 37 = .ok (.iadd, 1) := z_o96 (z_wat (q := 32) (j := 5) zwX12_righted_32 rfl)
theorem dX12_righted_38 : decode cX12_righted 38 = .ok (.iaload, 1) := z_o46 (z_wat (q := 32) (j := 6) zwX12_righted_32 rfl)
theorem dX12_righted_39 : decode cX12_righted 39 = .ok (.i2l, 1) := z_o133 (z_wat (q := 32) (j := 7) zwX12_righted_32 rfl)
theorem dX12_righted_40 : decode cX12_righted 40 = .ok (.ldiv, 1) := z_o109 (z_wat (q := 32) (j := 8) zwX12_righted_32 rfl)
theorem dX12_righted_41 : decode cX12_righted 41 = .ok (.lmul, 1) := z_o105 (z_wat (q := 32) (j := 9) zwX12_righted_32 rfl)
theorem dX12_righted_42 : decode cX12_righted 42 = .ok (.ladd, 1) := z_o97 (z_wat (q := 32) (j := 10) zwX12_righted_32 rfl)
theorem dX12_righted_43 : decode cX12_righted 43 = .ok (.lstore_n 3, 1) := z_o66 (z_wat (q := 32) (j := 11) zwX12_righted_32 rfl)
theorem dX12_righted_44 : decode cX12_righted 44 = .ok (.iinc 5 1, 3) := z_o132 (z_wat (q := 32) (j := 12) zwX12_righted_32 rfl) (z_wat (q := 32) (j := 13) zwX12_righted_32 rfl) (z_wat (q := 32) (j := 14) zwX12_righted_32 rfl) rfl
theorem dX12_righted_47 : decode cX12_righted 47 = .ok (.goto (-42), 3) := z_o167 (z_wat (q := 32) (j := 15) zwX12_righted_32 rfl) (z_wat (q := 32) (j := 16) zwX12_righted_32 rfl) (z_wat (q := 32) (j := 17) zwX12_righted_32 rfl) rfl
theorem dX12_righted_50 : decode cX12_righted 50 = .ok (.lload_n 3, 1) := z_o33 (z_wat (q := 32) (j := 18) zwX12_righted_32 rfl)
theorem dX12_righted_51 : decode cX12_righted 51 = .ok (.ldc2_w 266, 3) := z_o20 (z_wat (q := 32) (j := 19) zwX12_righted_32 rfl) (z_wat (q := 32) (j := 20) zwX12_righted_32 rfl) (z_wat (q := 32) (j := 21) zwX12_righted_32 rfl) rfl
theorem dX12_righted_54 : decode cX12_righted 54 = .ok (.ldiv, 1) := z_o109 (z_wat (q := 32) (j := 22) zwX12_righted_32 rfl)
theorem dX12_righted_55 : decode cX12_righted 55 = .ok (.lreturn, 1) := z_o173 (z_wat (q := 32) (j := 23) zwX12_righted_32 rfl)
theorem zwX12_spans_0 : ((cX12_spans.data.toList.drop 0).take 34).map UInt8.toNat = [3, 60, 27, 16, 12, 162, 0, 25, 42, 180, 0, 41, 27, 3, 79, 42, 180, 0, 44, 27, 17, 39, 15, 79, 132, 1, 1, 167, 255, 231, 3, 60, 27, 42] := by decide +kernel
theorem dX12_spans_0 : decode cX12_spans 0 = .ok (.iconst 0, 1) := z_o3 (z_wat (q := 0) (j := 0) zwX12_spans_0 rfl)
theorem dX12_spans_1 : decode cX12_spans 1 = .ok (.istore_n 1, 1) := z_o60 (z_wat (q := 0) (j := 1) zwX12_spans_0 rfl)
theorem dX12_spans_2 : decode cX12_spans 2 = .ok (.iload_n 1, 1) := z_o27 (z_wat (q := 0) (j := 2) zwX12_spans_0 rfl)
theorem dX12_spans_3 : decode cX12_spans 3 = .ok (.bipush 12, 2) := z_o16 (z_wat (q := 0) (j := 3) zwX12_spans_0 rfl) (z_wat (q := 0) (j := 4) zwX12_spans_0 rfl) rfl
theorem dX12_spans_5 : decode cX12_spans 5 = .ok (.if_icmp .ge 25, 3) := z_o162 (z_wat (q := 0) (j := 5) zwX12_spans_0 rfl) (z_wat (q := 0) (j := 6) zwX12_spans_0 rfl) (z_wat (q := 0) (j := 7) zwX12_spans_0 rfl) rfl
theorem dX12_spans_8 : decode cX12_spans 8 = .ok (.aload_n 0, 1) := z_o42 (z_wat (q := 0) (j := 8) zwX12_spans_0 rfl)
theorem dX12_spans_9 : decode cX12_spans 9 = .ok (.getfield 41, 3) := z_o180 (z_wat (q := 0) (j := 9) zwX12_spans_0 rfl) (z_wat (q := 0) (j := 10) zwX12_spans_0 rfl) (z_wat (q := 0) (j := 11) zwX12_spans_0 rfl) rfl
theorem dX12_spans_12 : decode cX12_spans 12 = .ok (.iload_n 1, 1) := z_o27 (z_wat (q := 0) (j := 12) zwX12_spans_0 rfl)
theorem dX12_spans_13 : decode cX12_spans 13 = .ok (.iconst 0, 1) := z_o3 (z_wat (q := 0) (j := 13) zwX12_spans_0 rfl)
theorem dX12_spans_14 : decode cX12_spans 14 = .ok (.iastore, 1) := z_o79 (z_wat (q := 0) (j := 14) zwX12_spans_0 rfl)
theorem dX12_spans_15 : decode cX12_spans 15 = .ok (.aload_n 0, 1) := z_o42 (z_wat (q := 0) (j := 15) zwX12_spans_0 rfl)
theorem dX12_spans_16 : decode cX12_spans 16 = .ok (.getfield 44, 3) := z_o180 (z_wat (q := 0) (j := 16) zwX12_spans_0 rfl) (z_wat (q := 0) (j := 17) zwX12_spans_0 rfl) (z_wat (q := 0) (j := 18) zwX12_spans_0 rfl) rfl
theorem dX12_spans_19 : decode cX12_spans 19 = .ok (.iload_n 1, 1) := z_o27 (z_wat (q := 0) (j := 19) zwX12_spans_0 rfl)
theorem dX12_spans_20 : decode cX12_spans 20 = .ok (.sipush 9999, 3) := z_o17 (z_wat (q := 0) (j := 20) zwX12_spans_0 rfl) (z_wat (q := 0) (j := 21) zwX12_spans_0 rfl) (z_wat (q := 0) (j := 22) zwX12_spans_0 rfl) rfl
theorem dX12_spans_23 : decode cX12_spans 23 = .ok (.iastore, 1) := z_o79 (z_wat (q := 0) (j := 23) zwX12_spans_0 rfl)
theorem dX12_spans_24 : decode cX12_spans 24 = .ok (.iinc 1 1, 3) := z_o132 (z_wat (q := 0) (j := 24) zwX12_spans_0 rfl) (z_wat (q := 0) (j := 25) zwX12_spans_0 rfl) (z_wat (q := 0) (j := 26) zwX12_spans_0 rfl) rfl
theorem dX12_spans_27 : decode cX12_spans 27 = .ok (.goto (-25), 3) := z_o167 (z_wat (q := 0) (j := 27) zwX12_spans_0 rfl) (z_wat (q := 0) (j := 28) zwX12_spans_0 rfl) (z_wat (q := 0) (j := 29) zwX12_spans_0 rfl) rfl
theorem dX12_spans_30 : decode cX12_spans 30 = .ok (.iconst 0, 1) := z_o3 (z_wat (q := 0) (j := 30) zwX12_spans_0 rfl)
theorem dX12_spans_31 : decode cX12_spans 31 = .ok (.istore_n 1, 1) := z_o60 (z_wat (q := 0) (j := 31) zwX12_spans_0 rfl)
theorem zwX12_spans_32 : ((cX12_spans.data.toList.drop 32).take 34).map UInt8.toNat = [27, 42, 180, 0, 154, 162, 0, 115, 42, 180, 0, 25, 27, 51, 153, 0, 100, 42, 180, 0, 13, 27, 46, 6, 159, 0, 6, 167, 0, 87, 42, 180, 0, 32] := by decide +kernel
theorem dX12_spans_32 : decode cX12_spans 32 = .ok (.iload_n 1, 1) := z_o27 (z_wat (q := 32) (j := 0) zwX12_spans_32 rfl)
theorem dX12_spans_33 : decode cX12_spans 33 = .ok (.aload_n 0, 1) := z_o42 (z_wat (q := 32) (j := 1) zwX12_spans_32 rfl)
theorem dX12_spans_34 : decode cX12_spans 34 = .ok (.getfield 154, 3) := z_o180 (z_wat (q := 32) (j := 2) zwX12_spans_32 rfl) (z_wat (q := 32) (j := 3) zwX12_spans_32 rfl) (z_wat (q := 32) (j := 4) zwX12_spans_32 rfl) rfl
theorem dX12_spans_37 : decode cX12_spans 37 = .ok (.if_icmp .ge 115, 3) := z_o162 (z_wat (q := 32) (j := 5) zwX12_spans_32 rfl) (z_wat (q := 32) (j := 6) zwX12_spans_32 rfl) (z_wat (q := 32) (j := 7) zwX12_spans_32 rfl) rfl
theorem dX12_spans_40 : decode cX12_spans 40 = .ok (.aload_n 0, 1) := z_o42 (z_wat (q := 32) (j := 8) zwX12_spans_32 rfl)
theorem dX12_spans_41 : decode cX12_spans 41 = .ok (.getfield 25, 3) := z_o180 (z_wat (q := 32) (j := 9) zwX12_spans_32 rfl) (z_wat (q := 32) (j := 10) zwX12_spans_32 rfl) (z_wat (q := 32) (j := 11) zwX12_spans_32 rfl) rfl
theorem dX12_spans_44 : decode cX12_spans 44 = .ok (.iload_n 1, 1) := z_o27 (z_wat (q := 32) (j := 12) zwX12_spans_32 rfl)
theorem dX12_spans_45 : decode cX12_spans 45 = .ok (.baload, 1) := z_o51 (z_wat (q := 32) (j := 13) zwX12_spans_32 rfl)
theorem dX12_spans_46 : decode cX12_spans 46 = .ok (.ifCond .eq 100, 3) := z_o153 (z_wat (q := 32) (j := 14) zwX12_spans_32 rfl) (z_wat (q := 32) (j := 15) zwX12_spans_32 rfl) (z_wat (q := 32) (j := 16) zwX12_spans_32 rfl) rfl
theorem dX12_spans_49 : decode cX12_spans 49 = .ok (.aload_n 0, 1) := z_o42 (z_wat (q := 32) (j := 17) zwX12_spans_32 rfl)
theorem dX12_spans_50 : decode cX12_spans 50 = .ok (.getfield 13, 3) := z_o180 (z_wat (q := 32) (j := 18) zwX12_spans_32 rfl) (z_wat (q := 32) (j := 19) zwX12_spans_32 rfl) (z_wat (q := 32) (j := 20) zwX12_spans_32 rfl) rfl
theorem dX12_spans_53 : decode cX12_spans 53 = .ok (.iload_n 1, 1) := z_o27 (z_wat (q := 32) (j := 21) zwX12_spans_32 rfl)
theorem dX12_spans_54 : decode cX12_spans 54 = .ok (.iaload, 1) := z_o46 (z_wat (q := 32) (j := 22) zwX12_spans_32 rfl)
theorem dX12_spans_55 : decode cX12_spans 55 = .ok (.iconst 3, 1) := z_o6 (z_wat (q := 32) (j := 23) zwX12_spans_32 rfl)
theorem dX12_spans_56 : decode cX12_spans 56 = .ok (.if_icmp .eq 6, 3) := z_o159 (z_wat (q := 32) (j := 24) zwX12_spans_32 rfl) (z_wat (q := 32) (j := 25) zwX12_spans_32 rfl) (z_wat (q := 32) (j := 26) zwX12_spans_32 rfl) rfl
theorem dX12_spans_59 : decode cX12_spans 59 = .ok (.goto 87, 3) := z_o167 (z_wat (q := 32) (j := 27) zwX12_spans_32 rfl) (z_wat (q := 32) (j := 28) zwX12_spans_32 rfl) (z_wat (q := 32) (j := 29) zwX12_spans_32 rfl) rfl
theorem dX12_spans_62 : decode cX12_spans 62 = .ok (.aload_n 0, 1) := z_o42 (z_wat (q := 32) (j := 30) zwX12_spans_32 rfl)
theorem dX12_spans_63 : decode cX12_spans 63 = .ok (.getfield 32, 3) := z_o180 (z_wat (q := 32) (j := 31) zwX12_spans_32 rfl) (z_wat (q := 32) (j := 32) zwX12_spans_32 rfl) (z_wat (q := 32) (j := 33) zwX12_spans_32 rfl) rfl
theorem zwX12_spans_64 : ((cX12_spans.data.toList.drop 64).take 34).map UInt8.toNat = [0, 32, 42, 180, 0, 16, 27, 46, 46, 61, 42, 180, 0, 41, 28, 42, 180, 0, 19, 27, 46, 42, 180, 0, 41, 28, 46, 164, 0, 12, 42, 180, 0, 19] := by decide +kernel
theorem dX12_spans_66 : decode cX12_spans 66 = .ok (.aload_n 0, 1) := z_o42 (z_wat (q := 64) (j := 2) zwX12_spans_64 rfl)
theorem dX12_spans_67 : decode cX12_spans 67 = .ok (.getfield 16, 3) := z_o180 (z_wat (q := 64) (j := 3) zwX12_spans_64 rfl) (z_wat (q := 64) (j := 4) zwX12_spans_64 rfl) (z_wat (q := 64) (j := 5) zwX12_spans_64 rfl) rfl
theorem dX12_spans_70 : decode cX12_spans 70 = .ok (.iload_n 1, 1) := z_o27 (z_wat (q := 64) (j := 6) zwX12_spans_64 rfl)
theorem dX12_spans_71 : decode cX12_spans 71 = .ok (.iaload, 1) := z_o46 (z_wat (q := 64) (j := 7) zwX12_spans_64 rfl)
theorem dX12_spans_72 : decode cX12_spans 72 = .ok (.iaload, 1) := z_o46 (z_wat (q := 64) (j := 8) zwX12_spans_64 rfl)
theorem dX12_spans_73 : decode cX12_spans 73 = .ok (.istore_n 2, 1) := z_o61 (z_wat (q := 64) (j := 9) zwX12_spans_64 rfl)
theorem dX12_spans_74 : decode cX12_spans 74 = .ok (.aload_n 0, 1) := z_o42 (z_wat (q := 64) (j := 10) zwX12_spans_64 rfl)
theorem dX12_spans_75 : decode cX12_spans 75 = .ok (.getfield 41, 3) := z_o180 (z_wat (q := 64) (j := 11) zwX12_spans_64 rfl) (z_wat (q := 64) (j := 12) zwX12_spans_64 rfl) (z_wat (q := 64) (j := 13) zwX12_spans_64 rfl) rfl
theorem dX12_spans_78 : decode cX12_spans 78 = .ok (.iload_n 2, 1) := z_o28 (z_wat (q := 64) (j := 14) zwX12_spans_64 rfl)
theorem dX12_spans_79 : decode cX12_spans 79 = .ok (.aload_n 0, 1) := z_o42 (z_wat (q := 64) (j := 15) zwX12_spans_64 rfl)
theorem dX12_spans_80 : decode cX12_spans 80 = .ok (.getfield 19, 3) := z_o180 (z_wat (q := 64) (j := 16) zwX12_spans_64 rfl) (z_wat (q := 64) (j := 17) zwX12_spans_64 rfl) (z_wat (q := 64) (j := 18) zwX12_spans_64 rfl) rfl
theorem dX12_spans_83 : decode cX12_spans 83 = .ok (.iload_n 1, 1) := z_o27 (z_wat (q := 64) (j := 19) zwX12_spans_64 rfl)
theorem dX12_spans_84 : decode cX12_spans 84 = .ok (.iaload, 1) := z_o46 (z_wat (q := 64) (j := 20) zwX12_spans_64 rfl)
theorem dX12_spans_85 : decode cX12_spans 85 = .ok (.aload_n 0, 1) := z_o42 (z_wat (q := 64) (j := 21) zwX12_spans_64 rfl)
theorem dX12_spans_86 : decode cX12_spans 86 = .ok (.getfield 41, 3) := z_o180 (z_wat (q := 64) (j := 22) zwX12_spans_64 rfl) (z_wat (q := 64) (j := 23) zwX12_spans_64 rfl) (z_wat (q := 64) (j := 24) zwX12_spans_64 rfl) rfl
theorem dX12_spans_89 : decode cX12_spans 89 = .ok (.iload_n 2, 1) := z_o28 (z_wat (q := 64) (j := 25) zwX12_spans_64 rfl)
theorem dX12_spans_90 : decode cX12_spans 90 = .ok (.iaload, 1) := z_o46 (z_wat (q := 64) (j := 26) zwX12_spans_64 rfl)
theorem dX12_spans_91 : decode cX12_spans 91 = .ok (.if_icmp .le 12, 3) := z_o164 (z_wat (q := 64) (j := 27) zwX12_spans_64 rfl) (z_wat (q := 64) (j := 28) zwX12_spans_64 rfl) (z_wat (q := 64) (j := 29) zwX12_spans_64 rfl) rfl
theorem dX12_spans_94 : decode cX12_spans 94 = .ok (.aload_n 0, 1) := z_o42 (z_wat (q := 64) (j := 30) zwX12_spans_64 rfl)
theorem dX12_spans_95 : decode cX12_spans 95 = .ok (.getfield 19, 3) := z_o180 (z_wat (q := 64) (j := 31) zwX12_spans_64 rfl) (z_wat (q := 64) (j := 32) zwX12_spans_64 rfl) (z_wat (q := 64) (j := 33) zwX12_spans_64 rfl) rfl
theorem zwX12_spans_96 : ((cX12_spans.data.toList.drop 96).take 34).map UInt8.toNat = [0, 19, 27, 46, 167, 0, 9, 42, 180, 0, 41, 28, 46, 79, 42, 180, 0, 44, 28, 42, 180, 0, 22, 27, 46, 42, 180, 0, 44, 28, 46, 162, 0, 12] := by decide +kernel
theorem dX12_spans_98 : decode cX12_spans 98 = .ok (.iload_n 1, 1) := z_o27 (z_wat (q := 96) (j := 2) zwX12_spans_96 rfl)
theorem dX12_spans_99 : decode cX12_spans 99 = .ok (.iaload, 1) := z_o46 (z_wat (q := 96) (j := 3) zwX12_spans_96 rfl)
theorem dX12_spans_100 : decode cX12_spans 100 = .ok (.goto 9, 3) := z_o167 (z_wat (q := 96) (j := 4) zwX12_spans_96 rfl) (z_wat (q := 96) (j := 5) zwX12_spans_96 rfl) (z_wat (q := 96) (j := 6) zwX12_spans_96 rfl) rfl
theorem dX12_spans_103 : decode cX12_spans 103 = .ok (.aload_n 0, 1) := z_o42 (z_wat (q := 96) (j := 7) zwX12_spans_96 rfl)
theorem dX12_spans_104 : decode cX12_spans 104 = .ok (.getfield 41, 3) := z_o180 (z_wat (q := 96) (j := 8) zwX12_spans_96 rfl) (z_wat (q := 96) (j := 9) zwX12_spans_96 rfl) (z_wat (q := 96) (j := 10) zwX12_spans_96 rfl) rfl
theorem dX12_spans_107 : decode cX12_spans 107 = .ok (.iload_n 2, 1) := z_o28 (z_wat (q := 96) (j := 11) zwX12_spans_96 rfl)
theorem dX12_spans_108 : decode cX12_spans 108 = .ok (.iaload, 1) := z_o46 (z_wat (q := 96) (j := 12) zwX12_spans_96 rfl)
theorem dX12_spans_109 : decode cX12_spans 109 = .ok (.iastore, 1) := z_o79 (z_wat (q := 96) (j := 13) zwX12_spans_96 rfl)
theorem dX12_spans_110 : decode cX12_spans 110 = .ok (.aload_n 0, 1) := z_o42 (z_wat (q := 96) (j := 14) zwX12_spans_96 rfl)
theorem dX12_spans_111 : decode cX12_spans 111 = .ok (.getfield 44, 3) := z_o180 (z_wat (q := 96) (j := 15) zwX12_spans_96 rfl) (z_wat (q := 96) (j := 16) zwX12_spans_96 rfl) (z_wat (q := 96) (j := 17) zwX12_spans_96 rfl) rfl
theorem dX12_spans_114 : decode cX12_spans 114 = .ok (.iload_n 2, 1) := z_o28 (z_wat (q := 96) (j := 18) zwX12_spans_96 rfl)
theorem dX12_spans_115 : decode cX12_spans 115 = .ok (.aload_n 0, 1) := z_o42 (z_wat (q := 96) (j := 19) zwX12_spans_96 rfl)
theorem dX12_spans_116 : decode cX12_spans 116 = .ok (.getfield 22, 3) := z_o180 (z_wat (q := 96) (j := 20) zwX12_spans_96 rfl) (z_wat (q := 96) (j := 21) zwX12_spans_96 rfl) (z_wat (q := 96) (j := 22) zwX12_spans_96 rfl) rfl
theorem dX12_spans_119 : decode cX12_spans 119 = .ok (.iload_n 1, 1) := z_o27 (z_wat (q := 96) (j := 23) zwX12_spans_96 rfl)
theorem dX12_spans_120 : decode cX12_spans 120 = .ok (.iaload, 1) := z_o46 (z_wat (q := 96) (j := 24) zwX12_spans_96 rfl)
theorem dX12_spans_121 : decode cX12_spans 121 = .ok (.aload_n 0, 1) := z_o42 (z_wat (q := 96) (j := 25) zwX12_spans_96 rfl)
theorem dX12_spans_122 : decode cX12_spans 122 = .ok (.getfield 44, 3) := z_o180 (z_wat (q := 96) (j := 26) zwX12_spans_96 rfl) (z_wat (q := 96) (j := 27) zwX12_spans_96 rfl) (z_wat (q := 96) (j := 28) zwX12_spans_96 rfl) rfl
theorem dX12_spans_125 : decode cX12_spans 125 = .ok (.iload_n 2, 1) := z_o28 (z_wat (q := 96) (j := 29) zwX12_spans_96 rfl)
theorem dX12_spans_126 : decode cX12_spans 126 = .ok (.iaload, 1) := z_o46 (z_wat (q := 96) (j := 30) zwX12_spans_96 rfl)
theorem dX12_spans_127 : decode cX12_spans 127 = .ok (.if_icmp .ge 12, 3) := z_o162 (z_wat (q := 96) (j := 31) zwX12_spans_96 rfl) (z_wat (q := 96) (j := 32) zwX12_spans_96 rfl) (z_wat (q := 96) (j := 33) zwX12_spans_96 rfl) rfl
theorem zwX12_spans_128 : ((cX12_spans.data.toList.drop 128).take 34).map UInt8.toNat = [0, 12, 42, 180, 0, 22, 27, 46, 167, 0, 9, 42, 180, 0, 44, 28, 46, 79, 132, 1, 1, 167, 255, 139, 3, 60, 27, 16, 12, 162, 0, 126, 3, 61] := by decide +kernel
theorem dX12_spans_130 : decode cX12_spans 130 = .ok (.aload_n 0, 1) := z_o42 (z_wat (q := 128) (j := 2) zwX12_spans_128 rfl)
theorem dX12_spans_131 : decode cX12_spans 131 = .ok (.getfield 22, 3) := z_o180 (z_wat (q := 128) (j := 3) zwX12_spans_128 rfl) (z_wat (q := 128) (j := 4) zwX12_spans_128 rfl) (z_wat (q := 128) (j := 5) zwX12_spans_128 rfl) rfl
theorem dX12_spans_134 : decode cX12_spans 134 = .ok (.iload_n 1, 1) := z_o27 (z_wat (q := 128) (j := 6) zwX12_spans_128 rfl)
theorem dX12_spans_135 : decode cX12_spans 135 = .ok (.iaload, 1) := z_o46 (z_wat (q := 128) (j := 7) zwX12_spans_128 rfl)
theorem dX12_spans_136 : decode cX12_spans 136 = .ok (.goto 9, 3) := z_o167 (z_wat (q := 128) (j := 8) zwX12_spans_128 rfl) (z_wat (q := 128) (j := 9) zwX12_spans_128 rfl) (z_wat (q := 128) (j := 10) zwX12_spans_128 rfl) rfl
theorem dX12_spans_139 : decode cX12_spans 139 = .ok (.aload_n 0, 1) := z_o42 (z_wat (q := 128) (j := 11) zwX12_spans_128 rfl)
theorem dX12_spans_140 : decode cX12_spans 140 = .ok (.getfield 44, 3) := z_o180 (z_wat (q := 128) (j := 12) zwX12_spans_128 rfl) (z_wat (q := 128) (j := 13) zwX12_spans_128 rfl) (z_wat (q := 128) (j := 14) zwX12_spans_128 rfl) rfl
theorem dX12_spans_143 : decode cX12_spans 143 = .ok (.iload_n 2, 1) := z_o28 (z_wat (q := 128) (j := 15) zwX12_spans_128 rfl)
theorem dX12_spans_144 : decode cX12_spans 144 = .ok (.iaload, 1) := z_o46 (z_wat (q := 128) (j := 16) zwX12_spans_128 rfl)
theorem dX12_spans_145 : decode cX12_spans 145 = .ok (.iastore, 1) := z_o79 (z_wat (q := 128) (j := 17) zwX12_spans_128 rfl)
theorem dX12_spans_146 : decode cX12_spans 146 = .ok (.iinc 1 1, 3) := z_o132 (z_wat (q := 128) (j := 18) zwX12_spans_128 rfl) (z_wat (q := 128) (j := 19) zwX12_spans_128 rfl) (z_wat (q := 128) (j := 20) zwX12_spans_128 rfl) rfl
theorem dX12_spans_149 : decode cX12_spans 149 = .ok (.goto (-117), 3) := z_o167 (z_wat (q := 128) (j := 21) zwX12_spans_128 rfl) (z_wat (q := 128) (j := 22) zwX12_spans_128 rfl) (z_wat (q := 128) (j := 23) zwX12_spans_128 rfl) rfl
theorem dX12_spans_152 : decode cX12_spans 152 = .ok (.iconst 0, 1) := z_o3 (z_wat (q := 128) (j := 24) zwX12_spans_128 rfl)
theorem dX12_spans_153 : decode cX12_spans 153 = .ok (.istore_n 1, 1) := z_o60 (z_wat (q := 128) (j := 25) zwX12_spans_128 rfl)
theorem dX12_spans_154 : decode cX12_spans 154 = .ok (.iload_n 1, 1) := z_o27 (z_wat (q := 128) (j := 26) zwX12_spans_128 rfl)
theorem dX12_spans_155 : decode cX12_spans 155 = .ok (.bipush 12, 2) := z_o16 (z_wat (q := 128) (j := 27) zwX12_spans_128 rfl) (z_wat (q := 128) (j := 28) zwX12_spans_128 rfl) rfl
theorem dX12_spans_157 : decode cX12_spans 157 = .ok (.if_icmp .ge 126, 3) := z_o162 (z_wat (q := 128) (j := 29) zwX12_spans_128 rfl) (z_wat (q := 128) (j := 30) zwX12_spans_128 rfl) (z_wat (q := 128) (j := 31) zwX12_spans_128 rfl) rfl
theorem zwX12_spans_160 : ((cX12_spans.data.toList.drop 160).take 34).map UInt8.toNat = [3, 61, 28, 16, 12, 162, 0, 112, 3, 62, 29, 16, 12, 162, 0, 98, 42, 180, 0, 35, 16, 12, 28, 104, 29, 96, 51, 154, 0, 6, 167, 0, 75, 42] := by decide +kernel
theorem dX12_spans_160 : decode cX12_spans 160 = .ok (.iconst 0, 1) := z_o3 (z_wat (q := 160) (j := 0) zwX12_spans_160 rfl)
theorem dX12_spans_161 : decode cX12_spans 161 = .ok (.istore_n 2, 1) := z_o61 (z_wat (q := 160) (j := 1) zwX12_spans_160 rfl)
theorem dX12_spans_162 : decode cX12_spans 162 = .ok (.iload_n 2, 1) := z_o28 (z_wat (q := 160) (j := 2) zwX12_spans_160 rfl)
theorem dX12_spans_163 : decode cX12_spans 163 = .ok (.bipush 12, 2) := z_o16 (z_wat (q := 160) (j := 3) zwX12_spans_160 rfl) (z_wat (q := 160) (j := 4) zwX12_spans_160 rfl) rfl
theorem dX12_spans_165 : decode cX12_spans 165 = .ok (.if_icmp .ge 112, 3) := z_o162 (z_wat (q := 160) (j := 5) zwX12_spans_160 rfl) (z_wat (q := 160) (j := 6) zwX12_spans_160 rfl) (z_wat (q := 160) (j := 7) zwX12_spans_160 rfl) rfl
theorem dX12_spans_168 : decode cX12_spans 168 = .ok (.iconst 0, 1) := z_o3 (z_wat (q := 160) (j := 8) zwX12_spans_160 rfl)
theorem dX12_spans_169 : decode cX12_spans 169 = .ok (.istore_n 3, 1) := z_o62 (z_wat (q := 160) (j := 9) zwX12_spans_160 rfl)
theorem dX12_spans_170 : decode cX12_spans 170 = .ok (.iload_n 3, 1) := z_o29 (z_wat (q := 160) (j := 10) zwX12_spans_160 rfl)
theorem dX12_spans_171 : decode cX12_spans 171 = .ok (.bipush 12, 2) := z_o16 (z_wat (q := 160) (j := 11) zwX12_spans_160 rfl) (z_wat (q := 160) (j := 12) zwX12_spans_160 rfl) rfl
theorem dX12_spans_173 : decode cX12_spans 173 = .ok (.if_icmp .ge 98, 3) := z_o162 (z_wat (q := 160) (j := 13) zwX12_spans_160 rfl) (z_wat (q := 160) (j := 14) zwX12_spans_160 rfl) (z_wat (q := 160) (j := 15) zwX12_spans_160 rfl) rfl
theorem dX12_spans_176 : decode cX12_spans 176 = .ok (.aload_n 0, 1) := z_o42 (z_wat (q := 160) (j := 16) zwX12_spans_160 rfl)
theorem dX12_spans_177 : decode cX12_spans 177 = .ok (.getfield 35, 3) := z_o180 (z_wat (q := 160) (j := 17) zwX12_spans_160 rfl) (z_wat (q := 160) (j := 18) zwX12_spans_160 rfl) (z_wat (q := 160) (j := 19) zwX12_spans_160 rfl) rfl
theorem dX12_spans_180 : decode cX12_spans 180 = .ok (.bipush 12, 2) := z_o16 (z_wat (q := 160) (j := 20) zwX12_spans_160 rfl) (z_wat (q := 160) (j := 21) zwX12_spans_160 rfl) rfl
theorem dX12_spans_182 : decode cX12_spans 182 = .ok (.iload_n 2, 1) := z_o28 (z_wat (q := 160) (j := 22) zwX12_spans_160 rfl)
theorem dX12_spans_183 : decode cX12_spans 183 = .ok (.imul, 1) := z_o104 (z_wat (q := 160) (j := 23) zwX12_spans_160 rfl)
theorem dX12_spans_184 : decode cX12_spans 184 = .ok (.iload_n 3, 1) := z_o29 (z_wat (q := 160) (j := 24) zwX12_spans_160 rfl)
theorem dX12_spans_185 : decode cX12_spans 185 = .ok (.iadd, 1) := z_o96 (z_wat (q := 160) (j := 25) zwX12_spans_160 rfl)
theorem dX12_spans_186 : decode cX12_spans 186 = .ok (.baload, 1) := z_o51 (z_wat (q := 160) (j := 26) zwX12_spans_160 rfl)
theorem dX12_spans_187 : decode cX12_spans 187 = .ok (.ifCond .ne 6, 3) := z_o154 (z_wat (q := 160) (j := 27) zwX12_spans_160 rfl) (z_wat (q := 160) (j := 28) zwX12_spans_160 rfl) (z_wat (q := 160) (j := 29) zwX12_spans_160 rfl) rfl
theorem dX12_spans_190 : decode cX12_spans 190 = .ok (.goto 75, 3) := z_o167 (z_wat (q := 160) (j := 30) zwX12_spans_160 rfl) (z_wat (q := 160) (j := 31) zwX12_spans_160 rfl) (z_wat (q := 160) (j := 32) zwX12_spans_160 rfl) rfl
theorem zwX12_spans_192 : ((cX12_spans.data.toList.drop 192).take 34).map UInt8.toNat = [75, 42, 180, 0, 41, 28, 42, 180, 0, 41, 29, 46, 42, 180, 0, 41, 28, 46, 164, 0, 12, 42, 180, 0, 41, 29, 46, 167, 0, 9, 42, 180, 0, 41] := by decide +kernel
theorem dX12_spans_193 : decode cX12_spans 193 = .ok (.aload_n 0, 1) := z_o42 (z_wat (q := 192) (j := 1) zwX12_spans_192 rfl)
theorem dX12_spans_194 : decode cX12_spans 194 = .ok (.getfield 41, 3) := z_o180 (z_wat (q := 192) (j := 2) zwX12_spans_192 rfl) (z_wat (q := 192) (j := 3) zwX12_spans_192 rfl) (z_wat (q := 192) (j := 4) zwX12_spans_192 rfl) rfl
theorem dX12_spans_197 : decode cX12_spans 197 = .ok (.iload_n 2, 1) := z_o28 (z_wat (q := 192) (j := 5) zwX12_spans_192 rfl)
theorem dX12_spans_198 : decode cX12_spans 198 = .ok (.aload_n 0, 1) := z_o42 (z_wat (q := 192) (j := 6) zwX12_spans_192 rfl)
theorem dX12_spans_199 : decode cX12_spans 199 = .ok (.getfield 41, 3) := z_o180 (z_wat (q := 192) (j := 7) zwX12_spans_192 rfl) (z_wat (q := 192) (j := 8) zwX12_spans_192 rfl) (z_wat (q := 192) (j := 9) zwX12_spans_192 rfl) rfl
theorem dX12_spans_202 : decode cX12_spans 202 = .ok (.iload_n 3, 1) := z_o29 (z_wat (q := 192) (j := 10) zwX12_spans_192 rfl)
theorem dX12_spans_203 : decode cX12_spans 203 = .ok (.iaload, 1) := z_o46 (z_wat (q := 192) (j := 11) zwX12_spans_192 rfl)
theorem dX12_spans_204 : decode cX12_spans 204 = .ok (.aload_n 0, 1) := z_o42 (z_wat (q := 192) (j := 12) zwX12_spans_192 rfl)
theorem dX12_spans_205 : decode cX12_spans 205 = .ok (.getfield 41, 3) := z_o180 (z_wat (q := 192) (j := 13) zwX12_spans_192 rfl) (z_wat (q := 192) (j := 14) zwX12_spans_192 rfl) (z_wat (q := 192) (j := 15) zwX12_spans_192 rfl) rfl
theorem dX12_spans_208 : decode cX12_spans 208 = .ok (.iload_n 2, 1) := z_o28 (z_wat (q := 192) (j := 16) zwX12_spans_192 rfl)
theorem dX12_spans_209 : decode cX12_spans 209 = .ok (.iaload, 1) := z_o46 (z_wat (q := 192) (j := 17) zwX12_spans_192 rfl)
theorem dX12_spans_210 : decode cX12_spans 210 = .ok (.if_icmp .le 12, 3) := z_o164 (z_wat (q := 192) (j := 18) zwX12_spans_192 rfl) (z_wat (q := 192) (j := 19) zwX12_spans_192 rfl) (z_wat (q := 192) (j := 20) zwX12_spans_192 rfl) rfl
theorem dX12_spans_213 : decode cX12_spans 213 = .ok (.aload_n 0, 1) := z_o42 (z_wat (q := 192) (j := 21) zwX12_spans_192 rfl)
theorem dX12_spans_214 : decode cX12_spans 214 = .ok (.getfield 41, 3) := z_o180 (z_wat (q := 192) (j := 22) zwX12_spans_192 rfl) (z_wat (q := 192) (j := 23) zwX12_spans_192 rfl) (z_wat (q := 192) (j := 24) zwX12_spans_192 rfl) rfl
theorem dX12_spans_217 : decode cX12_spans 217 = .ok (.iload_n 3, 1) := z_o29 (z_wat (q := 192) (j := 25) zwX12_spans_192 rfl)
theorem dX12_spans_218 : decode cX12_spans 218 = .ok (.iaload, 1) := z_o46 (z_wat (q := 192) (j := 26) zwX12_spans_192 rfl)
theorem dX12_spans_219 : decode cX12_spans 219 = .ok (.goto 9, 3) := z_o167 (z_wat (q := 192) (j := 27) zwX12_spans_192 rfl) (z_wat (q := 192) (j := 28) zwX12_spans_192 rfl) (z_wat (q := 192) (j := 29) zwX12_spans_192 rfl) rfl
theorem dX12_spans_222 : decode cX12_spans 222 = .ok (.aload_n 0, 1) := z_o42 (z_wat (q := 192) (j := 30) zwX12_spans_192 rfl)
theorem dX12_spans_223 : decode cX12_spans 223 = .ok (.getfield 41, 3) := z_o180 (z_wat (q := 192) (j := 31) zwX12_spans_192 rfl) (z_wat (q := 192) (j := 32) zwX12_spans_192 rfl) (z_wat (q := 192) (j := 33) zwX12_spans_192 rfl) rfl
theorem zwX12_spans_224 : ((cX12_spans.data.toList.drop 224).take 34).map UInt8.toNat = [0, 41, 28, 46, 79, 42, 180, 0, 44, 29, 42, 180, 0, 44, 28, 46, 42, 180, 0, 44, 29, 46, 162, 0, 12, 42, 180, 0, 44, 28, 46, 167, 0, 9] := by decide +kernel
theorem dX12_spans_226 : decode cX12_spans 226 = .ok (.iload_n 2, 1) := z_o28 (z_wat (q := 224) (j := 2) zwX12_spans_224 rfl)
theorem dX12_spans_227 : decode cX12_spans 227 = .ok (.iaload, 1) := z_o46 (z_wat (q := 224) (j := 3) zwX12_spans_224 rfl)
theorem dX12_spans_228 : decode cX12_spans 228 = .ok (.iastore, 1) := z_o79 (z_wat (q := 224) (j := 4) zwX12_spans_224 rfl)
theorem dX12_spans_229 : decode cX12_spans 229 = .ok (.aload_n 0, 1) := z_o42 (z_wat (q := 224) (j := 5) zwX12_spans_224 rfl)
theorem dX12_spans_230 : decode cX12_spans 230 = .ok (.getfield 44, 3) := z_o180 (z_wat (q := 224) (j := 6) zwX12_spans_224 rfl) (z_wat (q := 224) (j := 7) zwX12_spans_224 rfl) (z_wat (q := 224) (j := 8) zwX12_spans_224 rfl) rfl
theorem dX12_spans_233 : decode cX12_spans 233 = .ok (.iload_n 3, 1) := z_o29 (z_wat (q := 224) (j := 9) zwX12_spans_224 rfl)
theorem dX12_spans_234 : decode cX12_spans 234 = .ok (.aload_n 0, 1) := z_o42 (z_wat (q := 224) (j := 10) zwX12_spans_224 rfl)
theorem dX12_spans_235 : decode cX12_spans 235 = .ok (.getfield 44, 3) := z_o180 (z_wat (q := 224) (j := 11) zwX12_spans_224 rfl) (z_wat (q := 224) (j := 12) zwX12_spans_224 rfl) (z_wat (q := 224) (j := 13) zwX12_spans_224 rfl) rfl
theorem dX12_spans_238 : decode cX12_spans 238 = .ok (.iload_n 2, 1) := z_o28 (z_wat (q := 224) (j := 14) zwX12_spans_224 rfl)
theorem dX12_spans_239 : decode cX12_spans 239 = .ok (.iaload, 1) := z_o46 (z_wat (q := 224) (j := 15) zwX12_spans_224 rfl)
theorem dX12_spans_240 : decode cX12_spans 240 = .ok (.aload_n 0, 1) := z_o42 (z_wat (q := 224) (j := 16) zwX12_spans_224 rfl)
theorem dX12_spans_241 : decode cX12_spans 241 = .ok (.getfield 44, 3) := z_o180 (z_wat (q := 224) (j := 17) zwX12_spans_224 rfl) (z_wat (q := 224) (j := 18) zwX12_spans_224 rfl) (z_wat (q := 224) (j := 19) zwX12_spans_224 rfl) rfl
theorem dX12_spans_244 : decode cX12_spans 244 = .ok (.iload_n 3, 1) := z_o29 (z_wat (q := 224) (j := 20) zwX12_spans_224 rfl)
theorem dX12_spans_245 : decode cX12_spans 245 = .ok (.iaload, 1) := z_o46 (z_wat (q := 224) (j := 21) zwX12_spans_224 rfl)
theorem dX12_spans_246 : decode cX12_spans 246 = .ok (.if_icmp .ge 12, 3) := z_o162 (z_wat (q := 224) (j := 22) zwX12_spans_224 rfl) (z_wat (q := 224) (j := 23) zwX12_spans_224 rfl) (z_wat (q := 224) (j := 24) zwX12_spans_224 rfl) rfl
theorem dX12_spans_249 : decode cX12_spans 249 = .ok (.aload_n 0, 1) := z_o42 (z_wat (q := 224) (j := 25) zwX12_spans_224 rfl)
theorem dX12_spans_250 : decode cX12_spans 250 = .ok (.getfield 44, 3) := z_o180 (z_wat (q := 224) (j := 26) zwX12_spans_224 rfl) (z_wat (q := 224) (j := 27) zwX12_spans_224 rfl) (z_wat (q := 224) (j := 28) zwX12_spans_224 rfl) rfl
theorem dX12_spans_253 : decode cX12_spans 253 = .ok (.iload_n 2, 1) := z_o28 (z_wat (q := 224) (j := 29) zwX12_spans_224 rfl)
theorem dX12_spans_254 : decode cX12_spans 254 = .ok (.iaload, 1) := z_o46 (z_wat (q := 224) (j := 30) zwX12_spans_224 rfl)
theorem dX12_spans_255 : decode cX12_spans 255 = .ok (.goto 9, 3) := z_o167 (z_wat (q := 224) (j := 31) zwX12_spans_224 rfl) (z_wat (q := 224) (j := 32) zwX12_spans_224 rfl) (z_wat (q := 224) (j := 33) zwX12_spans_224 rfl) rfl
theorem zwX12_spans_256 : ((cX12_spans.data.toList.drop 256).take 34).map UInt8.toNat = [0, 9, 42, 180, 0, 44, 29, 46, 79, 132, 3, 1, 167, 255, 158, 132, 2, 1, 167, 255, 144, 132, 1, 1, 167, 255, 130, 42, 180, 0, 167, 4, 160, 0] := by decide +kernel
theorem dX12_spans_258 : decode cX12_spans 258 = .ok (.aload_n 0, 1) := z_o42 (z_wat (q := 256) (j := 2) zwX12_spans_256 rfl)
theorem dX12_spans_259 : decode cX12_spans 259 = .ok (.getfield 44, 3) := z_o180 (z_wat (q := 256) (j := 3) zwX12_spans_256 rfl) (z_wat (q := 256) (j := 4) zwX12_spans_256 rfl) (z_wat (q := 256) (j := 5) zwX12_spans_256 rfl) rfl
theorem dX12_spans_262 : decode cX12_spans 262 = .ok (.iload_n 3, 1) := z_o29 (z_wat (q := 256) (j := 6) zwX12_spans_256 rfl)
theorem dX12_spans_263 : decode cX12_spans 263 = .ok (.iaload, 1) := z_o46 (z_wat (q := 256) (j := 7) zwX12_spans_256 rfl)
theorem dX12_spans_264 : decode cX12_spans 264 = .ok (.iastore, 1) := z_o79 (z_wat (q := 256) (j := 8) zwX12_spans_256 rfl)
theorem dX12_spans_265 : decode cX12_spans 265 = .ok (.iinc 3 1, 3) := z_o132 (z_wat (q := 256) (j := 9) zwX12_spans_256 rfl) (z_wat (q := 256) (j := 10) zwX12_spans_256 rfl) (z_wat (q := 256) (j := 11) zwX12_spans_256 rfl) rfl
theorem dX12_spans_268 : decode cX12_spans 268 = .ok (.goto (-98), 3) := z_o167 (z_wat (q := 256) (j := 12) zwX12_spans_256 rfl) (z_wat (q := 256) (j := 13) zwX12_spans_256 rfl) (z_wat (q := 256) (j := 14) zwX12_spans_256 rfl) rfl
theorem dX12_spans_271 : decode cX12_spans 271 = .ok (.iinc 2 1, 3) := z_o132 (z_wat (q := 256) (j := 15) zwX12_spans_256 rfl) (z_wat (q := 256) (j := 16) zwX12_spans_256 rfl) (z_wat (q := 256) (j := 17) zwX12_spans_256 rfl) rfl
theorem dX12_spans_274 : decode cX12_spans 274 = .ok (.goto (-112), 3) := z_o167 (z_wat (q := 256) (j := 18) zwX12_spans_256 rfl) (z_wat (q := 256) (j := 19) zwX12_spans_256 rfl) (z_wat (q := 256) (j := 20) zwX12_spans_256 rfl) rfl
theorem dX12_spans_277 : decode cX12_spans 277 = .ok (.iinc 1 1, 3) := z_o132 (z_wat (q := 256) (j := 21) zwX12_spans_256 rfl) (z_wat (q := 256) (j := 22) zwX12_spans_256 rfl) (z_wat (q := 256) (j := 23) zwX12_spans_256 rfl) rfl
theorem dX12_spans_280 : decode cX12_spans 280 = .ok (.goto (-126), 3) := z_o167 (z_wat (q := 256) (j := 24) zwX12_spans_256 rfl) (z_wat (q := 256) (j := 25) zwX12_spans_256 rfl) (z_wat (q := 256) (j := 26) zwX12_spans_256 rfl) rfl
theorem dX12_spans_283 : decode cX12_spans 283 = .ok (.aload_n 0, 1) := z_o42 (z_wat (q := 256) (j := 27) zwX12_spans_256 rfl)
theorem dX12_spans_284 : decode cX12_spans 284 = .ok (.getfield 167, 3) := z_o180 (z_wat (q := 256) (j := 28) zwX12_spans_256 rfl) (z_wat (q := 256) (j := 29) zwX12_spans_256 rfl) (z_wat (q := 256) (j := 30) zwX12_spans_256 rfl) rfl
theorem dX12_spans_287 : decode cX12_spans 287 = .ok (.iconst 1, 1) := z_o4 (z_wat (q := 256) (j := 31) zwX12_spans_256 rfl)
theorem zwX12_spans_288 : ((cX12_spans.data.toList.drop 288).take 34).map UInt8.toNat = [160, 0, 4, 177, 3, 60, 27, 16, 12, 162, 0, 36, 42, 42, 180, 0, 41, 27, 46, 42, 180, 0, 44, 27, 46, 164, 0, 7, 5, 167, 0, 7, 42, 180] := by decide +kernel
theorem dX12_spans_288 : decode cX12_spans 288 = .ok (.if_icmp .ne 4, 3) := z_o160 (z_wat (q := 288) (j := 0) zwX12_spans_288 rfl) (z_wat (q := 288) (j := 1) zwX12_spans_288 rfl) (z_wat (q := 288) (j := 2) zwX12_spans_288 rfl) rfl
theorem dX12_spans_291 : decode cX12_spans 291 = .ok (.return_, 1) := z_o177 (z_wat (q := 288) (j := 3) zwX12_spans_288 rfl)
theorem dX12_spans_292 : decode cX12_spans 292 = .ok (.iconst 0, 1) := z_o3 (z_wat (q := 288) (j := 4) zwX12_spans_288 rfl)
theorem dX12_spans_293 : decode cX12_spans 293 = .ok (.istore_n 1, 1) := z_o60 (z_wat (q := 288) (j := 5) zwX12_spans_288 rfl)
theorem dX12_spans_294 : decode cX12_spans 294 = .ok (.iload_n 1, 1) := z_o27 (z_wat (q := 288) (j := 6) zwX12_spans_288 rfl)
theorem dX12_spans_295 : decode cX12_spans 295 = .ok (.bipush 12, 2) := z_o16 (z_wat (q := 288) (j := 7) zwX12_spans_288 rfl) (z_wat (q := 288) (j := 8) zwX12_spans_288 rfl) rfl
theorem dX12_spans_297 : decode cX12_spans 297 = .ok (.if_icmp .ge 36, 3) := z_o162 (z_wat (q := 288) (j := 9) zwX12_spans_288 rfl) (z_wat (q := 288) (j := 10) zwX12_spans_288 rfl) (z_wat (q := 288) (j := 11) zwX12_spans_288 rfl) rfl
theorem dX12_spans_300 : decode cX12_spans 300 = .ok (.aload_n 0, 1) := z_o42 (z_wat (q := 288) (j := 12) zwX12_spans_288 rfl)
theorem dX12_spans_301 : decode cX12_spans 301 = .ok (.aload_n 0, 1) := z_o42 (z_wat (q := 288) (j := 13) zwX12_spans_288 rfl)
theorem dX12_spans_302 : decode cX12_spans 302 = .ok (.getfield 41, 3) := z_o180 (z_wat (q := 288) (j := 14) zwX12_spans_288 rfl) (z_wat (q := 288) (j := 15) zwX12_spans_288 rfl) (z_wat (q := 288) (j := 16) zwX12_spans_288 rfl) rfl
theorem dX12_spans_305 : decode cX12_spans 305 = .ok (.iload_n 1, 1) := z_o27 (z_wat (q := 288) (j := 17) zwX12_spans_288 rfl)
theorem dX12_spans_306 : decode cX12_spans 306 = .ok (.iaload, 1) := z_o46 (z_wat (q := 288) (j := 18) zwX12_spans_288 rfl)
theorem dX12_spans_307 : decode cX12_spans 307 = .ok (.aload_n 0, 1) := z_o42 (z_wat (q := 288) (j := 19) zwX12_spans_288 rfl)
theorem dX12_spans_308 : decode cX12_spans 308 = .ok (.getfield 44, 3) := z_o180 (z_wat (q := 288) (j := 20) zwX12_spans_288 rfl) (z_wat (q := 288) (j := 21) zwX12_spans_288 rfl) (z_wat (q := 288) (j := 22) zwX12_spans_288 rfl) rfl
theorem dX12_spans_311 : decode cX12_spans 311 = .ok (.iload_n 1, 1) := z_o27 (z_wat (q := 288) (j := 23) zwX12_spans_288 rfl)
theorem dX12_spans_312 : decode cX12_spans 312 = .ok (.iaload, 1) := z_o46 (z_wat (q := 288) (j := 24) zwX12_spans_288 rfl)
theorem dX12_spans_313 : decode cX12_spans 313 = .ok (.if_icmp .le 7, 3) := z_o164 (z_wat (q := 288) (j := 25) zwX12_spans_288 rfl) (z_wat (q := 288) (j := 26) zwX12_spans_288 rfl) (z_wat (q := 288) (j := 27) zwX12_spans_288 rfl) rfl
theorem dX12_spans_316 : decode cX12_spans 316 = .ok (.iconst 2, 1) := z_o5 (z_wat (q := 288) (j := 28) zwX12_spans_288 rfl)
theorem dX12_spans_317 : decode cX12_spans 317 = .ok (.goto 7, 3) := z_o167 (z_wat (q := 288) (j := 29) zwX12_spans_288 rfl) (z_wat (q := 288) (j := 30) zwX12_spans_288 rfl) (z_wat (q := 288) (j := 31) zwX12_spans_288 rfl) rfl
theorem zwX12_spans_320 : ((cX12_spans.data.toList.drop 320).take 14).map UInt8.toNat = [42, 180, 0, 167, 181, 0, 167, 132, 1, 1, 167, 255, 220, 177] := by decide +kernel
theorem dX12_spans_320 : decode cX12_spans 320 = .ok (.aload_n 0, 1) := z_o42 (z_wat (q := 320) (j := 0) zwX12_spans_320 rfl)
theorem dX12_spans_321 : decode cX12_spans 321 = .ok (.getfield 167, 3) := z_o180 (z_wat (q := 320) (j := 1) zwX12_spans_320 rfl) (z_wat (q := 320) (j := 2) zwX12_spans_320 rfl) (z_wat (q := 320) (j := 3) zwX12_spans_320 rfl) rfl
theorem dX12_spans_324 : decode cX12_spans 324 = .ok (.putfield 167, 3) := z_o181 (z_wat (q := 320) (j := 4) zwX12_spans_320 rfl) (z_wat (q := 320) (j := 5) zwX12_spans_320 rfl) (z_wat (q := 320) (j := 6) zwX12_spans_320 rfl) rfl
theorem dX12_spans_327 : decode cX12_spans 327 = .ok (.iinc 1 1, 3) := z_o132 (z_wat (q := 320) (j := 7) zwX12_spans_320 rfl) (z_wat (q := 320) (j := 8) zwX12_spans_320 rfl) (z_wat (q := 320) (j := 9) zwX12_spans_320 rfl) rfl
theorem dX12_spans_330 : decode cX12_spans 330 = .ok (.goto (-36), 3) := z_o167 (z_wat (q := 320) (j := 10) zwX12_spans_320 rfl) (z_wat (q := 320) (j := 11) zwX12_spans_320 rfl) (z_wat (q := 320) (j := 12) zwX12_spans_320 rfl) rfl
theorem dX12_spans_333 : decode cX12_spans 333 = .ok (.return_, 1) := z_o177 (z_wat (q := 320) (j := 13) zwX12_spans_320 rfl)
theorem zwX12_stays_0 : ((cX12_stays.data.toList.drop 0).take 34).map UInt8.toNat = [3, 61, 3, 62, 29, 6, 162, 0, 58, 42, 27, 29, 182, 1, 49, 16, 40, 164, 0, 5, 2, 172, 3, 54, 4, 21, 4, 7, 162, 0, 30, 28, 42, 180] := by decide +kernel
theorem dX12_stays_0 : decode cX12_stays 0 = .ok (.iconst 0, 1) := z_o3 (z_wat (q := 0) (j := 0) zwX12_stays_0 rfl)
theorem dX12_stays_1 : decode cX12_stays 1 = .ok (.istore_n 2, 1) := z_o61 (z_wat (q := 0) (j := 1) zwX12_stays_0 rfl)
theorem dX12_stays_2 : decode cX12_stays 2 = .ok (.iconst 0, 1) := z_o3 (z_wat (q := 0) (j := 2) zwX12_stays_0 rfl)
theorem dX12_stays_3 : decode cX12_stays 3 = .ok (.istore_n 3, 1) := z_o62 (z_wat (q := 0) (j := 3) zwX12_stays_0 rfl)
theorem dX12_stays_4 : decode cX12_stays 4 = .ok (.iload_n 3, 1) := z_o29 (z_wat (q := 0) (j := 4) zwX12_stays_0 rfl)
theorem dX12_stays_5 : decode cX12_stays 5 = .ok (.iconst 3, 1) := z_o6 (z_wat (q := 0) (j := 5) zwX12_stays_0 rfl)
theorem dX12_stays_6 : decode cX12_stays 6 = .ok (.if_icmp .ge 58, 3) := z_o162 (z_wat (q := 0) (j := 6) zwX12_stays_0 rfl) (z_wat (q := 0) (j := 7) zwX12_stays_0 rfl) (z_wat (q := 0) (j := 8) zwX12_stays_0 rfl) rfl
theorem dX12_stays_9 : decode cX12_stays 9 = .ok (.aload_n 0, 1) := z_o42 (z_wat (q := 0) (j := 9) zwX12_stays_0 rfl)
theorem dX12_stays_10 : decode cX12_stays 10 = .ok (.iload_n 1, 1) := z_o27 (z_wat (q := 0) (j := 10) zwX12_stays_0 rfl)
theorem dX12_stays_11 : decode cX12_stays 11 = .ok (.iload_n 3, 1) := z_o29 (z_wat (q := 0) (j := 11) zwX12_stays_0 rfl)
theorem dX12_stays_12 : decode cX12_stays 12 = .ok (.invokevirtual 305, 3) := z_o182 (z_wat (q := 0) (j := 12) zwX12_stays_0 rfl) (z_wat (q := 0) (j := 13) zwX12_stays_0 rfl) (z_wat (q := 0) (j := 14) zwX12_stays_0 rfl) rfl
theorem dX12_stays_15 : decode cX12_stays 15 = .ok (.bipush 40, 2) := z_o16 (z_wat (q := 0) (j := 15) zwX12_stays_0 rfl) (z_wat (q := 0) (j := 16) zwX12_stays_0 rfl) rfl
theorem dX12_stays_17 : decode cX12_stays 17 = .ok (.if_icmp .le 5, 3) := z_o164 (z_wat (q := 0) (j := 17) zwX12_stays_0 rfl) (z_wat (q := 0) (j := 18) zwX12_stays_0 rfl) (z_wat (q := 0) (j := 19) zwX12_stays_0 rfl) rfl
theorem dX12_stays_20 : decode cX12_stays 20 = .ok (.iconst (-1), 1) := z_o2 (z_wat (q := 0) (j := 20) zwX12_stays_0 rfl)
theorem dX12_stays_21 : decode cX12_stays 21 = .ok (.ireturn, 1) := z_o172 (z_wat (q := 0) (j := 21) zwX12_stays_0 rfl)
theorem dX12_stays_22 : decode cX12_stays 22 = .ok (.iconst 0, 1) := z_o3 (z_wat (q := 0) (j := 22) zwX12_stays_0 rfl)
theorem dX12_stays_23 : decode cX12_stays 23 = .ok (.istore 4, 2) := z_o54 (z_wat (q := 0) (j := 23) zwX12_stays_0 rfl) (z_wat (q := 0) (j := 24) zwX12_stays_0 rfl)
theorem dX12_stays_25 : decode cX12_stays 25 = .ok (.iload 4, 2) := z_o21 (z_wat (q := 0) (j := 25) zwX12_stays_0 rfl) (z_wat (q := 0) (j := 26) zwX12_stays_0 rfl)
theorem dX12_stays_27 : decode cX12_stays 27 = .ok (.iconst 4, 1) := z_o7 (z_wat (q := 0) (j := 27) zwX12_stays_0 rfl)
theorem dX12_stays_28 : decode cX12_stays 28 = .ok (.if_icmp .ge 30, 3) := z_o162 (z_wat (q := 0) (j := 28) zwX12_stays_0 rfl) (z_wat (q := 0) (j := 29) zwX12_stays_0 rfl) (z_wat (q := 0) (j := 30) zwX12_stays_0 rfl) rfl
theorem dX12_stays_31 : decode cX12_stays 31 = .ok (.iload_n 2, 1) := z_o28 (z_wat (q := 0) (j := 31) zwX12_stays_0 rfl)
theorem zwX12_stays_32 : ((cX12_stays.data.toList.drop 32).take 34).map UInt8.toNat = [42, 180, 0, 87, 21, 4, 46, 158, 0, 10, 4, 21, 4, 120, 167, 0, 4, 3, 128, 61, 132, 4, 1, 167, 255, 226, 132, 3, 1, 167, 255, 199, 28, 172] := by decide +kernel
theorem dX12_stays_32 : decode cX12_stays 32 = .ok (.aload_n 0, 1) := z_o42 (z_wat (q := 32) (j := 0) zwX12_stays_32 rfl)
theorem dX12_stays_33 : decode cX12_stays 33 = .ok (.getfield 87, 3) := z_o180 (z_wat (q := 32) (j := 1) zwX12_stays_32 rfl) (z_wat (q := 32) (j := 2) zwX12_stays_32 rfl) (z_wat (q := 32) (j := 3) zwX12_stays_32 rfl) rfl
theorem dX12_stays_36 : decode cX12_stays 36 = .ok (.iload 4, 2) := z_o21 (z_wat (q := 32) (j := 4) zwX12_stays_32 rfl) (z_wat (q := 32) (j := 5) zwX12_stays_32 rfl)
theorem dX12_stays_38 : decode cX12_stays 38 = .ok (.iaload, 1) := z_o46 (z_wat (q := 32) (j := 6) zwX12_stays_32 rfl)
theorem dX12_stays_39 : decode cX12_stays 39 = .ok (.ifCond .le 10, 3) := z_o158 (z_wat (q := 32) (j := 7) zwX12_stays_32 rfl) (z_wat (q := 32) (j := 8) zwX12_stays_32 rfl) (z_wat (q := 32) (j := 9) zwX12_stays_32 rfl) rfl
theorem dX12_stays_42 : decode cX12_stays 42 = .ok (.iconst 1, 1) := z_o4 (z_wat (q := 32) (j := 10) zwX12_stays_32 rfl)
theorem dX12_stays_43 : decode cX12_stays 43 = .ok (.iload 4, 2) := z_o21 (z_wat (q := 32) (j := 11) zwX12_stays_32 rfl) (z_wat (q := 32) (j := 12) zwX12_stays_32 rfl)
theorem dX12_stays_45 : decode cX12_stays 45 = .ok (.ishl, 1) := z_o120 (z_wat (q := 32) (j := 13) zwX12_stays_32 rfl)
theorem dX12_stays_46 : decode cX12_stays 46 = .ok (.goto 4, 3) := z_o167 (z_wat (q := 32) (j := 14) zwX12_stays_32 rfl) (z_wat (q := 32) (j := 15) zwX12_stays_32 rfl) (z_wat (q := 32) (j := 16) zwX12_stays_32 rfl) rfl
theorem dX12_stays_49 : decode cX12_stays 49 = .ok (.iconst 0, 1) := z_o3 (z_wat (q := 32) (j := 17) zwX12_stays_32 rfl)
theorem dX12_stays_50 : decode cX12_stays 50 = .ok (.ior, 1) := z_o128 (z_wat (q := 32) (j := 18) zwX12_stays_32 rfl)
theorem dX12_stays_51 : decode cX12_stays 51 = .ok (.istore_n 2, 1) := z_o61 (z_wat (q := 32) (j := 19) zwX12_stays_32 rfl)
theorem dX12_stays_52 : decode cX12_stays 52 = .ok (.iinc 4 1, 3) := z_o132 (z_wat (q := 32) (j := 20) zwX12_stays_32 rfl) (z_wat (q := 32) (j := 21) zwX12_stays_32 rfl) (z_wat (q := 32) (j := 22) zwX12_stays_32 rfl) rfl
theorem dX12_stays_55 : decode cX12_stays 55 = .ok (.goto (-30), 3) := z_o167 (z_wat (q := 32) (j := 23) zwX12_stays_32 rfl) (z_wat (q := 32) (j := 24) zwX12_stays_32 rfl) (z_wat (q := 32) (j := 25) zwX12_stays_32 rfl) rfl
theorem dX12_stays_58 : decode cX12_stays 58 = .ok (.iinc 3 1, 3) := z_o132 (z_wat (q := 32) (j := 26) zwX12_stays_32 rfl) (z_wat (q := 32) (j := 27) zwX12_stays_32 rfl) (z_wat (q := 32) (j := 28) zwX12_stays_32 rfl) rfl
theorem dX12_stays_61 : decode cX12_stays 61 = .ok (.goto (-57), 3) := z_o167 (z_wat (q := 32) (j := 29) zwX12_stays_32 rfl) (z_wat (q := 32) (j := 30) zwX12_stays_32 rfl) (z_wat (q := 32) (j := 31) zwX12_stays_32 rfl) rfl
theorem zwX12_stays_64 : ((cX12_stays.data.toList.drop 64).take 2).map UInt8.toNat = [28, 172] := by decide +kernel
theorem dX12_stays_64 : decode cX12_stays 64 = .ok (.iload_n 2, 1) := z_o28 (z_wat (q := 64) (j := 0) zwX12_stays_64 rfl)
theorem dX12_stays_65 : decode cX12_stays 65 = .ok (.ireturn, 1) := z_o172 (z_wat (q := 64) (j := 1) zwX12_stays_64 rfl)
theorem zwX12_sum_0 : ((cX12_sum.data.toList.drop 0).take 34).map UInt8.toNat = [3, 54, 5, 3, 54, 6, 21, 6, 42, 180, 0, 154, 162, 0, 79, 21, 5, 42, 180, 0, 25, 21, 6, 51, 153, 0, 57, 42, 180, 0, 13, 21, 6, 46] := by decide +kernel
theorem dX12_sum_0 : decode cX12_sum 0 = .ok (.iconst 0, 1) := z_o3 (z_wat (q := 0) (j := 0) zwX12_sum_0 rfl)
theorem dX12_sum_1 : decode cX12_sum 1 = .ok (.istore 5, 2) := z_o54 (z_wat (q := 0) (j := 1) zwX12_sum_0 rfl) (z_wat (q := 0) (j := 2) zwX12_sum_0 rfl)
theorem dX12_sum_3 : decode cX12_sum 3 = .ok (.iconst 0, 1) := z_o3 (z_wat (q := 0) (j := 3) zwX12_sum_0 rfl)
theorem dX12_sum_4 : decode cX12_sum 4 = .ok (.istore 6, 2) := z_o54 (z_wat (q := 0) (j := 4) zwX12_sum_0 rfl) (z_wat (q := 0) (j := 5) zwX12_sum_0 rfl)
theorem dX12_sum_6 : decode cX12_sum 6 = .ok (.iload 6, 2) := z_o21 (z_wat (q := 0) (j := 6) zwX12_sum_0 rfl) (z_wat (q := 0) (j := 7) zwX12_sum_0 rfl)
theorem dX12_sum_8 : decode cX12_sum 8 = .ok (.aload_n 0, 1) := z_o42 (z_wat (q := 0) (j := 8) zwX12_sum_0 rfl)
theorem dX12_sum_9 : decode cX12_sum 9 = .ok (.getfield 154, 3) := z_o180 (z_wat (q := 0) (j := 9) zwX12_sum_0 rfl) (z_wat (q := 0) (j := 10) zwX12_sum_0 rfl) (z_wat (q := 0) (j := 11) zwX12_sum_0 rfl) rfl
theorem dX12_sum_12 : decode cX12_sum 12 = .ok (.if_icmp .ge 79, 3) := z_o162 (z_wat (q := 0) (j := 12) zwX12_sum_0 rfl) (z_wat (q := 0) (j := 13) zwX12_sum_0 rfl) (z_wat (q := 0) (j := 14) zwX12_sum_0 rfl) rfl
theorem dX12_sum_15 : decode cX12_sum 15 = .ok (.iload 5, 2) := z_o21 (z_wat (q := 0) (j := 15) zwX12_sum_0 rfl) (z_wat (q := 0) (j := 16) zwX12_sum_0 rfl)
theorem dX12_sum_17 : decode cX12_sum 17 = .ok (.aload_n 0, 1) := z_o42 (z_wat (q := 0) (j := 17) zwX12_sum_0 rfl)
theorem dX12_sum_18 : decode cX12_sum 18 = .ok (.getfield 25, 3) := z_o180 (z_wat (q := 0) (j := 18) zwX12_sum_0 rfl) (z_wat (q := 0) (j := 19) zwX12_sum_0 rfl) (z_wat (q := 0) (j := 20) zwX12_sum_0 rfl) rfl
theorem dX12_sum_21 : decode cX12_sum 21 = .ok (.iload 6, 2) := z_o21 (z_wat (q := 0) (j := 21) zwX12_sum_0 rfl) (z_wat (q := 0) (j := 22) zwX12_sum_0 rfl)
theorem dX12_sum_23 : decode cX12_sum 23 = .ok (.baload, 1) := z_o51 (z_wat (q := 0) (j := 23) zwX12_sum_0 rfl)
theorem dX12_sum_24 : decode cX12_sum 24 = .ok (.ifCond .eq 57, 3) := z_o153 (z_wat (q := 0) (j := 24) zwX12_sum_0 rfl) (z_wat (q := 0) (j := 25) zwX12_sum_0 rfl) (z_wat (q := 0) (j := 26) zwX12_sum_0 rfl) rfl
theorem dX12_sum_27 : decode cX12_sum 27 = .ok (.aload_n 0, 1) := z_o42 (z_wat (q := 0) (j := 27) zwX12_sum_0 rfl)
theorem dX12_sum_28 : decode cX12_sum 28 = .ok (.getfield 13, 3) := z_o180 (z_wat (q := 0) (j := 28) zwX12_sum_0 rfl) (z_wat (q := 0) (j := 29) zwX12_sum_0 rfl) (z_wat (q := 0) (j := 30) zwX12_sum_0 rfl) rfl
theorem dX12_sum_31 : decode cX12_sum 31 = .ok (.iload 6, 2) := z_o21 (z_wat (q := 0) (j := 31) zwX12_sum_0 rfl) (z_wat (q := 0) (j := 32) zwX12_sum_0 rfl)
theorem zwX12_sum_32 : ((cX12_sum.data.toList.drop 32).take 34).map UInt8.toNat = [6, 46, 7, 160, 0, 46, 42, 180, 0, 32, 42, 180, 0, 16, 21, 6, 46, 46, 27, 160, 0, 30, 42, 180, 0, 29, 17, 0, 144, 21, 6, 104, 16, 24] := by decide +kernel
theorem dX12_sum_33 : decode cX12_sum 33 = .ok (.iaload, 1) := z_o46 (z_wat (q := 32) (j := 1) zwX12_sum_32 rfl)
theorem dX12_sum_34 : decode cX12_sum 34 = .ok (.iconst 4, 1) := z_o7 (z_wat (q := 32) (j := 2) zwX12_sum_32 rfl)
theorem dX12_sum_35 : decode cX12_sum 35 = .ok (.if_icmp .ne 46, 3) := z_o160 (z_wat (q := 32) (j := 3) zwX12_sum_32 rfl) (z_wat (q := 32) (j := 4) zwX12_sum_32 rfl) (z_wat (q := 32) (j := 5) zwX12_sum_32 rfl) rfl
theorem dX12_sum_38 : decode cX12_sum 38 = .ok (.aload_n 0, 1) := z_o42 (z_wat (q := 32) (j := 6) zwX12_sum_32 rfl)
theorem dX12_sum_39 : decode cX12_sum 39 = .ok (.getfield 32, 3) := z_o180 (z_wat (q := 32) (j := 7) zwX12_sum_32 rfl) (z_wat (q := 32) (j := 8) zwX12_sum_32 rfl) (z_wat (q := 32) (j := 9) zwX12_sum_32 rfl) rfl
theorem dX12_sum_42 : decode cX12_sum 42 = .ok (.aload_n 0, 1) := z_o42 (z_wat (q := 32) (j := 10) zwX12_sum_32 rfl)
theorem dX12_sum_43 : decode cX12_sum 43 = .ok (.getfield 16, 3) := z_o180 (z_wat (q := 32) (j := 11) zwX12_sum_32 rfl) (z_wat (q := 32) (j := 12) zwX12_sum_32 rfl) (z_wat (q := 32) (j := 13) zwX12_sum_32 rfl) rfl
theorem dX12_sum_46 : decode cX12_sum 46 = .ok (.iload 6, 2) := z_o21 (z_wat (q := 32) (j := 14) zwX12_sum_32 rfl) (z_wat (q := 32) (j := 15) zwX12_sum_32 rfl)
theorem dX12_sum_48 : decode cX12_sum 48 = .ok (.iaload, 1) := z_o46 (z_wat (q := 32) (j := 16) zwX12_sum_32 rfl)
theorem dX12_sum_49 : decode cX12_sum 49 = .ok (.iaload, 1) := z_o46 (z_wat (q := 32) (j := 17) zwX12_sum_32 rfl)
theorem dX12_sum_50 : decode cX12_sum 50 = .ok (.iload_n 1, 1) := z_o27 (z_wat (q := 32) (j := 18) zwX12_sum_32 rfl)
theorem dX12_sum_51 : decode cX12_sum 51 = .ok (.if_icmp .ne 30, 3) := z_o160 (z_wat (q := 32) (j := 19) zwX12_sum_32 rfl) (z_wat (q := 32) (j := 20) zwX12_sum_32 rfl) (z_wat (q := 32) (j := 21) zwX12_sum_32 rfl) rfl
theorem dX12_sum_54 : decode cX12_sum 54 = .ok (.aload_n 0, 1) := z_o42 (z_wat (q := 32) (j := 22) zwX12_sum_32 rfl)
theorem dX12_sum_55 : decode cX12_sum 55 = .ok (.getfield 29, 3) := z_o180 (z_wat (q := 32) (j := 23) zwX12_sum_32 rfl) (z_wat (q := 32) (j := 24) zwX12_sum_32 rfl) (z_wat (q := 32) (j := 25) zwX12_sum_32 rfl) rfl
theorem dX12_sum_58 : decode cX12_sum 58 = .ok (.sipush 144, 3) := z_o17 (z_wat (q := 32) (j := 26) zwX12_sum_32 rfl) (z_wat (q := 32) (j := 27) zwX12_sum_32 rfl) (z_wat (q := 32) (j := 28) zwX12_sum_32 rfl) rfl
theorem dX12_sum_61 : decode cX12_sum 61 = .ok (.iload 6, 2) := z_o21 (z_wat (q := 32) (j := 29) zwX12_sum_32 rfl) (z_wat (q := 32) (j := 30) zwX12_sum_32 rfl)
theorem dX12_sum_63 : decode cX12_sum 63 = .ok (.imul, 1) := z_o104 (z_wat (q := 32) (j := 31) zwX12_sum_32 rfl)
theorem zwX12_sum_64 : ((cX12_sum.data.toList.drop 64).take 30).map UInt8.toNat = [16, 24, 28, 104, 96, 16, 6, 29, 104, 96, 21, 4, 96, 46, 167, 0, 4, 3, 96, 54, 5, 132, 6, 1, 167, 255, 174, 21, 5, 172] := by decide +kernel
theorem dX12_sum_64 : decode cX12_sum 64 = .ok (.bipush 24, 2) := z_o16 (z_wat (q := 64) (j := 0) zwX12_sum_64 rfl) (z_wat (q := 64) (j := 1) zwX12_sum_64 rfl) rfl
theorem dX12_sum_66 : decode cX12_sum 66 = .ok (.iload_n 2, 1) := z_o28 (z_wat (q := 64) (j := 2) zwX12_sum_64 rfl)
theorem dX12_sum_67 : decode cX12_sum 67 = .ok (.imul, 1) := z_o104 (z_wat (q := 64) (j := 3) zwX12_sum_64 rfl)
theorem dX12_sum_68 : decode cX12_sum 68 = .ok (.iadd, 1) := z_o96 (z_wat (q := 64) (j := 4) zwX12_sum_64 rfl)
theorem dX12_sum_69 : decode cX12_sum 69 = .ok (.bipush 6, 2) := z_o16 (z_wat (q := 64) (j := 5) zwX12_sum_64 rfl) (z_wat (q := 64) (j := 6) zwX12_sum_64 rfl) rfl
theorem dX12_sum_71 : decode cX12_sum 71 = .ok (.iload_n 3, 1) := z_o29 (z_wat (q := 64) (j := 7) zwX12_sum_64 rfl)
theorem dX12_sum_72 : decode cX12_sum 72 = .ok (.imul, 1) := z_o104 (z_wat (q := 64) (j := 8) zwX12_sum_64 rfl)
theorem dX12_sum_73 : decode cX12_sum 73 = .ok (.iadd, 1) := z_o96 (z_wat (q := 64) (j := 9) zwX12_sum_64 rfl)
theorem dX12_sum_74 : decode cX12_sum 74 = .ok (.iload 4, 2) := z_o21 (z_wat (q := 64) (j := 10) zwX12_sum_64 rfl) (z_wat (q := 64) (j := 11) zwX12_sum_64 rfl)
theorem dX12_sum_76 : decode cX12_sum 76 = .ok (.iadd, 1) := z_o96 (z_wat (q := 64) (j := 12) zwX12_sum_64 rfl)
theorem dX12_sum_77 : decode cX12_sum 77 = .ok (.iaload, 1) := z_o46 (z_wat (q := 64) (j := 13) zwX12_sum_64 rfl)
theorem dX12_sum_78 : decode cX12_sum 78 = .ok (.goto 4, 3) := z_o167 (z_wat (q := 64) (j := 14) zwX12_sum_64 rfl) (z_wat (q := 64) (j := 15) zwX12_sum_64 rfl) (z_wat (q := 64) (j := 16) zwX12_sum_64 rfl) rfl
theorem dX12_sum_81 : decode cX12_sum 81 = .ok (.iconst 0, 1) := z_o3 (z_wat (q := 64) (j := 17) zwX12_sum_64 rfl)
theorem dX12_sum_82 : decode cX12_sum 82 = .ok (.iadd, 1) := z_o96 (z_wat (q := 64) (j := 18) zwX12_sum_64 rfl)
theorem dX12_sum_83 : decode cX12_sum 83 = .ok (.istore 5, 2) := z_o54 (z_wat (q := 64) (j := 19) zwX12_sum_64 rfl) (z_wat (q := 64) (j := 20) zwX12_sum_64 rfl)
theorem dX12_sum_85 : decode cX12_sum 85 = .ok (.iinc 6 1, 3) := z_o132 (z_wat (q := 64) (j := 21) zwX12_sum_64 rfl) (z_wat (q := 64) (j := 22) zwX12_sum_64 rfl) (z_wat (q := 64) (j := 23) zwX12_sum_64 rfl) rfl
theorem dX12_sum_88 : decode cX12_sum 88 = .ok (.goto (-82), 3) := z_o167 (z_wat (q := 64) (j := 24) zwX12_sum_64 rfl) (z_wat (q := 64) (j := 25) zwX12_sum_64 rfl) (z_wat (q := 64) (j := 26) zwX12_sum_64 rfl) rfl
theorem dX12_sum_91 : decode cX12_sum 91 = .ok (.iload 5, 2) := z_o21 (z_wat (q := 64) (j := 27) zwX12_sum_64 rfl) (z_wat (q := 64) (j := 28) zwX12_sum_64 rfl)
theorem dX12_sum_93 : decode cX12_sum 93 = .ok (.ireturn, 1) := z_o172 (z_wat (q := 64) (j := 29) zwX12_sum_64 rfl)
