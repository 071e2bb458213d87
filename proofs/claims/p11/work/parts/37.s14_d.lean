theorem dJ0_charAt_5068e_0 : decode cJ0_charAt_5068e 0 = .ok (.aload_n 0, 1) := by decide +kernel
theorem dJ0_charAt_5068e_1 : decode cJ0_charAt_5068e 1 = .ok (.invokevirtual 492, 3) := by decide +kernel
theorem dJ0_charAt_5068e_4 : decode cJ0_charAt_5068e 4 = .ok (.ifCond .eq 12, 3) := by decide +kernel
theorem dJ0_charAt_5068e_7 : decode cJ0_charAt_5068e 7 = .ok (.aload_n 0, 1) := by decide +kernel
theorem dJ0_charAt_5068e_8 : decode cJ0_charAt_5068e 8 = .ok (.getfield 9, 3) := by decide +kernel
theorem dJ0_charAt_5068e_11 : decode cJ0_charAt_5068e 11 = .ok (.iload_n 1, 1) := by decide +kernel
theorem dJ0_charAt_5068e_12 : decode cJ0_charAt_5068e 12 = .ok (.invokestatic 495, 3) := by decide +kernel
theorem dJ0_charAt_5068e_15 : decode cJ0_charAt_5068e 15 = .ok (.ireturn, 1) := by decide +kernel
theorem dJ0_checkIndex_df160_0 : decode cJ0_checkIndex_df160 0 = .ok (.iload_n 0, 1) := by decide +kernel
theorem dJ0_checkIndex_df160_1 : decode cJ0_checkIndex_df160 1 = .ok (.iload_n 1, 1) := by decide +kernel
theorem dJ0_checkIndex_df160_2 : decode cJ0_checkIndex_df160 2 = .ok (.getstatic 1053, 3) := by decide +kernel
theorem dJ0_checkIndex_df160_5 : decode cJ0_checkIndex_df160 5 = .ok (.invokestatic 1059, 3) := by decide +kernel
theorem dJ0_checkIndex_df160_8 : decode cJ0_checkIndex_df160 8 = .ok (.pop, 1) := by decide +kernel
theorem dJ0_checkIndex_df160_9 : decode cJ0_checkIndex_df160 9 = .ok (.return_, 1) := by decide +kernel
theorem dJ0_coder_7d493_0 : decode cJ0_coder_7d493 0 = .ok (.getstatic 38, 3) := by decide +kernel
theorem dJ0_coder_7d493_3 : decode cJ0_coder_7d493 3 = .ok (.ifCond .eq 10, 3) := by decide +kernel
theorem dJ0_coder_7d493_6 : decode cJ0_coder_7d493 6 = .ok (.aload_n 0, 1) := by decide +kernel
theorem dJ0_coder_7d493_7 : decode cJ0_coder_7d493 7 = .ok (.getfield 15, 3) := by decide +kernel
theorem dJ0_coder_7d493_10 : decode cJ0_coder_7d493 10 = .ok (.goto 4, 3) := by decide +kernel
theorem dJ0_coder_7d493_14 : decode cJ0_coder_7d493 14 = .ok (.ireturn, 1) := by decide +kernel
theorem dJ0_isLatin1_aae02_0 : decode cJ0_isLatin1_aae02 0 = .ok (.getstatic 38, 3) := by decide +kernel
theorem dJ0_isLatin1_aae02_3 : decode cJ0_isLatin1_aae02 3 = .ok (.ifCond .eq 14, 3) := by decide +kernel
theorem dJ0_isLatin1_aae02_6 : decode cJ0_isLatin1_aae02 6 = .ok (.aload_n 0, 1) := by decide +kernel
theorem dJ0_isLatin1_aae02_7 : decode cJ0_isLatin1_aae02 7 = .ok (.getfield 15, 3) := by decide +kernel
theorem dJ0_isLatin1_aae02_10 : decode cJ0_isLatin1_aae02 10 = .ok (.ifCond .ne 7, 3) := by decide +kernel
theorem dJ0_isLatin1_aae02_13 : decode cJ0_isLatin1_aae02 13 = .ok (.iconst 1, 1) := by decide +kernel
theorem dJ0_isLatin1_aae02_14 : decode cJ0_isLatin1_aae02 14 = .ok (.goto 4, 3) := by decide +kernel
theorem dJ0_isLatin1_aae02_18 : decode cJ0_isLatin1_aae02 18 = .ok (.ireturn, 1) := by decide +kernel
theorem dJ0_length_8abf5_0 : decode cJ0_length_8abf5 0 = .ok (.aload_n 0, 1) := by decide +kernel
theorem dJ0_length_8abf5_1 : decode cJ0_length_8abf5 1 = .ok (.getfield 9, 3) := by decide +kernel
theorem dJ0_length_8abf5_4 : decode cJ0_length_8abf5 4 = .ok (.arraylength, 1) := by decide +kernel
theorem dJ0_length_8abf5_5 : decode cJ0_length_8abf5 5 = .ok (.aload_n 0, 1) := by decide +kernel
theorem dJ0_length_8abf5_6 : decode cJ0_length_8abf5 6 = .ok (.invokevirtual 335, 3) := by decide +kernel
theorem dJ0_length_8abf5_9 : decode cJ0_length_8abf5 9 = .ok (.ishr, 1) := by decide +kernel
theorem dJ0_length_8abf5_10 : decode cJ0_length_8abf5 10 = .ok (.ireturn, 1) := by decide +kernel
theorem dJ1_charAt_3b067_0 : decode cJ1_charAt_3b067 0 = .ok (.iload_n 1, 1) := by decide +kernel
theorem dJ1_charAt_3b067_1 : decode cJ1_charAt_3b067 1 = .ok (.aload_n 0, 1) := by decide +kernel
theorem dJ1_charAt_3b067_2 : decode cJ1_charAt_3b067 2 = .ok (.arraylength, 1) := by decide +kernel
theorem dJ1_charAt_3b067_3 : decode cJ1_charAt_3b067 3 = .ok (.invokestatic 9, 3) := by decide +kernel
theorem dJ1_charAt_3b067_6 : decode cJ1_charAt_3b067 6 = .ok (.aload_n 0, 1) := by decide +kernel
theorem dJ1_charAt_3b067_7 : decode cJ1_charAt_3b067 7 = .ok (.iload_n 1, 1) := by decide +kernel
theorem dJ1_charAt_3b067_8 : decode cJ1_charAt_3b067 8 = .ok (.baload, 1) := by decide +kernel
theorem dJ1_charAt_3b067_9 : decode cJ1_charAt_3b067 9 = .ok (.sipush 255, 3) := by decide +kernel
theorem dJ1_charAt_3b067_12 : decode cJ1_charAt_3b067 12 = .ok (.iand, 1) := by decide +kernel
theorem dJ1_charAt_3b067_13 : decode cJ1_charAt_3b067 13 = .ok (.i2c, 1) := by decide +kernel
theorem dJ1_charAt_3b067_14 : decode cJ1_charAt_3b067 14 = .ok (.ireturn, 1) := by decide +kernel
theorem dJ3_checkIndex_8e157_0 : decode cJ3_checkIndex_8e157 0 = .ok (.iload_n 0, 1) := by decide +kernel
theorem dJ3_checkIndex_8e157_1 : decode cJ3_checkIndex_8e157 1 = .ok (.ifCond .lt 8, 3) := by decide +kernel
theorem dJ3_checkIndex_8e157_4 : decode cJ3_checkIndex_8e157 4 = .ok (.iload_n 0, 1) := by decide +kernel
theorem dJ3_checkIndex_8e157_5 : decode cJ3_checkIndex_8e157 5 = .ok (.iload_n 1, 1) := by decide +kernel
theorem dJ3_checkIndex_8e157_6 : decode cJ3_checkIndex_8e157 6 = .ok (.if_icmp .lt 10, 3) := by decide +kernel
theorem dJ3_checkIndex_8e157_16 : decode cJ3_checkIndex_8e157 16 = .ok (.iload_n 0, 1) := by decide +kernel
theorem dJ3_checkIndex_8e157_17 : decode cJ3_checkIndex_8e157 17 = .ok (.ireturn, 1) := by decide +kernel
theorem zwX10_isInHandAt_0 : ((cX10_isInHandAt.data.toList.drop 0).take 34).map UInt8.toNat = [28, 42, 180, 0, 32, 42, 180, 0, 29, 100, 159, 0, 5, 3, 172, 3, 62, 29, 28, 162, 0, 31, 42, 27, 29, 96, 182, 0, 50, 42, 42, 180, 0, 29] := by decide +kernel
theorem dX10_isInHandAt_0 : decode cX10_isInHandAt 0 = .ok (.iload_n 2, 1) := z_o28 (z_wat (q := 0) (j := 0) zwX10_isInHandAt_0 rfl)
theorem dX10_isInHandAt_1 : decode cX10_isInHandAt 1 = .ok (.aload_n 0, 1) := z_o42 (z_wat (q := 0) (j := 1) zwX10_isInHandAt_0 rfl)
theorem dX10_isInHandAt_2 : decode cX10_isInHandAt 2 = .ok (.getfield 32, 3) := z_o180 (z_wat (q := 0) (j := 2) zwX10_isInHandAt_0 rfl) (z_wat (q := 0) (j := 3) zwX10_isInHandAt_0 rfl) (z_wat (q := 0) (j := 4) zwX10_isInHandAt_0 rfl) rfl
theorem dX10_isInHandAt_5 : decode cX10_isInHandAt 5 = .ok (.aload_n 0, 1) := z_o42 (z_wat (q := 0) (j := 5) zwX10_isInHandAt_0 rfl)
theorem dX10_isInHandAt_6 : decode cX10_isInHandAt 6 = .ok (.getfield 29, 3) := z_o180 (z_wat (q := 0) (j := 6) zwX10_isInHandAt_0 rfl) (z_wat (q := 0) (j := 7) zwX10_isInHandAt_0 rfl) (z_wat (q := 0) (j := 8) zwX10_isInHandAt_0 rfl) rfl
theorem dX10_isInHandAt_9 : decode cX10_isInHandAt 9 = .ok (.isub, 1) := z_o100 (z_wat (q := 0) (j := 9) zwX10_isInHandAt_0 rfl)
theorem dX10_isInHandAt_10 : decode cX10_isInHandAt 10 = .ok (.if_icmp .eq 5, 3) := z_o159 (z_wat (q := 0) (j := 10) zwX10_isInHandAt_0 rfl) (z_wat (q := 0) (j := 11) zwX10_isInHandAt_0 rfl) (z_wat (q := 0) (j := 12) zwX10_isInHandAt_0 rfl) rfl
theorem dX10_isInHandAt_13 : decode cX10_isInHandAt 13 = .ok (.iconst 0, 1) := z_o3 (z_wat (q := 0) (j := 13) zwX10_isInHandAt_0 rfl)
theorem dX10_isInHandAt_14 : decode cX10_isInHandAt 14 = .ok (.ireturn, 1) := z_o172 (z_wat (q := 0) (j := 14) zwX10_isInHandAt_0 rfl)
theorem dX10_isInHandAt_15 : decode cX10_isInHandAt 15 = .ok (.iconst 0, 1) := z_o3 (z_wat (q := 0) (j := 15) zwX10_isInHandAt_0 rfl)
theorem dX10_isInHandAt_16 : decode cX10_isInHandAt 16 = .ok (.istore_n 3, 1) := z_o62 (z_wat (q := 0) (j := 16) zwX10_isInHandAt_0 rfl)
theorem dX10_isInHandAt_17 : decode cX10_isInHandAt 17 = .ok (.iload_n 3, 1) := z_o29 (z_wat (q := 0) (j := 17) zwX10_isInHandAt_0 rfl)
theorem dX10_isInHandAt_18 : decode cX10_isInHandAt 18 = .ok (.iload_n 2, 1) := z_o28 (z_wat (q := 0) (j := 18) zwX10_isInHandAt_0 rfl)
theorem dX10_isInHandAt_19 : decode cX10_isInHandAt 19 = .ok (.if_icmp .ge 31, 3) := z_o162 (z_wat (q := 0) (j := 19) zwX10_isInHandAt_0 rfl) (z_wat (q := 0) (j := 20) zwX10_isInHandAt_0 rfl) (z_wat (q := 0) (j := 21) zwX10_isInHandAt_0 rfl) rfl
theorem dX10_isInHandAt_22 : decode cX10_isInHandAt 22 = .ok (.aload_n 0, 1) := z_o42 (z_wat (q := 0) (j := 22) zwX10_isInHandAt_0 rfl)
theorem dX10_isInHandAt_23 : decode cX10_isInHandAt 23 = .ok (.iload_n 1, 1) := z_o27 (z_wat (q := 0) (j := 23) zwX10_isInHandAt_0 rfl)
theorem dX10_isInHandAt_24 : decode cX10_isInHandAt 24 = .ok (.iload_n 3, 1) := z_o29 (z_wat (q := 0) (j := 24) zwX10_isInHandAt_0 rfl)
theorem dX10_isInHandAt_25 : decode cX10_isInHandAt 25 = .ok (.iadd, 1) := z_o96 (z_wat (q := 0) (j := 25) zwX10_isInHandAt_0 rfl)
theorem dX10_isInHandAt_26 : decode cX10_isInHandAt 26 = .ok (.invokevirtual 50, 3) := z_o182 (z_wat (q := 0) (j := 26) zwX10_isInHandAt_0 rfl) (z_wat (q := 0) (j := 27) zwX10_isInHandAt_0 rfl) (z_wat (q := 0) (j := 28) zwX10_isInHandAt_0 rfl) rfl
theorem dX10_isInHandAt_29 : decode cX10_isInHandAt 29 = .ok (.aload_n 0, 1) := z_o42 (z_wat (q := 0) (j := 29) zwX10_isInHandAt_0 rfl)
theorem dX10_isInHandAt_30 : decode cX10_isInHandAt 30 = .ok (.aload_n 0, 1) := z_o42 (z_wat (q := 0) (j := 30) zwX10_isInHandAt_0 rfl)
theorem dX10_isInHandAt_31 : decode cX10_isInHandAt 31 = .ok (.getfield 29, 3) := z_o180 (z_wat (q := 0) (j := 31) zwX10_isInHandAt_0 rfl) (z_wat (q := 0) (j := 32) zwX10_isInHandAt_0 rfl) (z_wat (q := 0) (j := 33) zwX10_isInHandAt_0 rfl) rfl
theorem zwX10_isInHandAt_32 : ((cX10_isInHandAt.data.toList.drop 32).take 20).map UInt8.toNat = [0, 29, 29, 96, 182, 0, 50, 159, 0, 5, 3, 172, 132, 3, 1, 167, 255, 226, 4, 172] := by decide +kernel
theorem dX10_isInHandAt_34 : decode cX10_isInHandAt 34 = .ok (.iload_n 3, 1) := z_o29 (z_wat (q := 32) (j := 2) zwX10_isInHandAt_32 rfl)
theorem dX10_isInHandAt_35 : decode cX10_isInHandAt 35 = .ok (.iadd, 1) := z_o96 (z_wat (q := 32) (j := 3) zwX10_isInHandAt_32 rfl)
theorem dX10_isInHandAt_36 : decode cX10_isInHandAt 36 = .ok (.invokevirtual 50, 3) := z_o182 (z_wat (q := 32) (j := 4) zwX10_isInHandAt_32 rfl) (z_wat (q := 32) (j := 5) zwX10_isInHandAt_32 rfl) (z_wat (q := 32) (j := 6) zwX10_isInHandAt_32 rfl) rfl
theorem dX10_isInHandAt_39 : decode cX10_isInHandAt 39 = .ok (.if_icmp .eq 5, 3) := z_o159 (z_wat (q := 32) (j := 7) zwX10_isInHandAt_32 rfl) (z_wat (q := 32) (j := 8) zwX10_isInHandAt_32 rfl) (z_wat (q := 32) (j := 9) zwX10_isInHandAt_32 rfl) rfl
theorem dX10_isInHandAt_42 : decode cX10_isInHandAt 42 = .ok (.iconst 0, 1) := z_o3 (z_wat (q := 32) (j := 10) zwX10_isInHandAt_32 rfl)
theorem dX10_isInHandAt_43 : decode cX10_isInHandAt 43 = .ok (.ireturn, 1) := z_o172 (z_wat (q := 32) (j := 11) zwX10_isInHandAt_32 rfl)
theorem dX10_isInHandAt_44 : decode cX10_isInHandAt 44 = .ok (.iinc 3 1, 3) := z_o132 (z_wat (q := 32) (j := 12) zwX10_isInHandAt_32 rfl) (z_wat (q := 32) (j := 13) zwX10_isInHandAt_32 rfl) (z_wat (q := 32) (j := 14) zwX10_isInHandAt_32 rfl) rfl
theorem dX10_isInHandAt_47 : decode cX10_isInHandAt 47 = .ok (.goto (-30), 3) := z_o167 (z_wat (q := 32) (j := 15) zwX10_isInHandAt_32 rfl) (z_wat (q := 32) (j := 16) zwX10_isInHandAt_32 rfl) (z_wat (q := 32) (j := 17) zwX10_isInHandAt_32 rfl) rfl
theorem dX10_isInHandAt_50 : decode cX10_isInHandAt 50 = .ok (.iconst 1, 1) := z_o4 (z_wat (q := 32) (j := 18) zwX10_isInHandAt_32 rfl)
theorem dX10_isInHandAt_51 : decode cX10_isInHandAt 51 = .ok (.ireturn, 1) := z_o172 (z_wat (q := 32) (j := 19) zwX10_isInHandAt_32 rfl)
theorem zwX10_numberBehind_0 : ((cX10_numberBehind.data.toList.drop 0).take 34).map UInt8.toNat = [42, 180, 0, 35, 4, 160, 0, 44, 42, 180, 0, 32, 42, 180, 0, 29, 100, 5, 161, 0, 31, 42, 42, 180, 0, 29, 182, 0, 50, 27, 160, 0, 19, 42] := by decide +kernel
theorem dX10_numberBehind_0 : decode cX10_numberBehind 0 = .ok (.aload_n 0, 1) := z_o42 (z_wat (q := 0) (j := 0) zwX10_numberBehind_0 rfl)
theorem dX10_numberBehind_1 : decode cX10_numberBehind 1 = .ok (.getfield 35, 3) := z_o180 (z_wat (q := 0) (j := 1) zwX10_numberBehind_0 rfl) (z_wat (q := 0) (j := 2) zwX10_numberBehind_0 rfl) (z_wat (q := 0) (j := 3) zwX10_numberBehind_0 rfl) rfl
theorem dX10_numberBehind_4 : decode cX10_numberBehind 4 = .ok (.iconst 1, 1) := z_o4 (z_wat (q := 0) (j := 4) zwX10_numberBehind_0 rfl)
theorem dX10_numberBehind_5 : decode cX10_numberBehind 5 = .ok (.if_icmp .ne 44, 3) := z_o160 (z_wat (q := 0) (j := 5) zwX10_numberBehind_0 rfl) (z_wat (q := 0) (j := 6) zwX10_numberBehind_0 rfl) (z_wat (q := 0) (j := 7) zwX10_numberBehind_0 rfl) rfl
theorem dX10_numberBehind_8 : decode cX10_numberBehind 8 = .ok (.aload_n 0, 1) := z_o42 (z_wat (q := 0) (j := 8) zwX10_numberBehind_0 rfl)
theorem dX10_numberBehind_9 : decode cX10_numberBehind 9 = .ok (.getfield 32, 3) := z_o180 (z_wat (q := 0) (j := 9) zwX10_numberBehind_0 rfl) (z_wat (q := 0) (j := 10) zwX10_numberBehind_0 rfl) (z_wat (q := 0) (j := 11) zwX10_numberBehind_0 rfl) rfl
theorem dX10_numberBehind_12 : decode cX10_numberBehind 12 = .ok (.aload_n 0, 1) := z_o42 (z_wat (q := 0) (j := 12) zwX10_numberBehind_0 rfl)
theorem dX10_numberBehind_13 : decode cX10_numberBehind 13 = .ok (.getfield 29, 3) := z_o180 (z_wat (q := 0) (j := 13) zwX10_numberBehind_0 rfl) (z_wat (q := 0) (j := 14) zwX10_numberBehind_0 rfl) (z_wat (q := 0) (j := 15) zwX10_numberBehind_0 rfl) rfl
theorem dX10_numberBehind_16 : decode cX10_numberBehind 16 = .ok (.isub, 1) := z_o100 (z_wat (q := 0) (j := 16) zwX10_numberBehind_0 rfl)
theorem dX10_numberBehind_17 : decode cX10_numberBehind 17 = .ok (.iconst 2, 1) := z_o5 (z_wat (q := 0) (j := 17) zwX10_numberBehind_0 rfl)
theorem dX10_numberBehind_18 : decode cX10_numberBehind 18 = .ok (.if_icmp .lt 31, 3) := z_o161 (z_wat (q := 0) (j := 18) zwX10_numberBehind_0 rfl) (z_wat (q := 0) (j := 19) zwX10_numberBehind_0 rfl) (z_wat (q := 0) (j := 20) zwX10_numberBehind_0 rfl) rfl
theorem dX10_numberBehind_21 : decode cX10_numberBehind 21 = .ok (.aload_n 0, 1) := z_o42 (z_wat (q := 0) (j := 21) zwX10_numberBehind_0 rfl)
theorem dX10_numberBehind_22 : decode cX10_numberBehind 22 = .ok (.aload_n 0, 1) := z_o42 (z_wat (q := 0) (j := 22) zwX10_numberBehind_0 rfl)
theorem dX10_numberBehind_23 : decode cX10_numberBehind 23 = .ok (.getfield 29, 3) := z_o180 (z_wat (q := 0) (j := 23) zwX10_numberBehind_0 rfl) (z_wat (q := 0) (j := 24) zwX10_numberBehind_0 rfl) (z_wat (q := 0) (j := 25) zwX10_numberBehind_0 rfl) rfl
theorem dX10_numberBehind_26 : decode cX10_numberBehind 26 = .ok (.invokevirtual 50, 3) := z_o182 (z_wat (q := 0) (j := 26) zwX10_numberBehind_0 rfl) (z_wat (q := 0) (j := 27) zwX10_numberBehind_0 rfl) (z_wat (q := 0) (j := 28) zwX10_numberBehind_0 rfl) rfl
theorem dX10_numberBehind_29 : decode cX10_numberBehind 29 = .ok (.iload_n 1, 1) := z_o27 (z_wat (q := 0) (j := 29) zwX10_numberBehind_0 rfl)
theorem dX10_numberBehind_30 : decode cX10_numberBehind 30 = .ok (.if_icmp .ne 19, 3) := z_o160 (z_wat (q := 0) (j := 30) zwX10_numberBehind_0 rfl) (z_wat (q := 0) (j := 31) zwX10_numberBehind_0 rfl) (z_wat (q := 0) (j := 32) zwX10_numberBehind_0 rfl) rfl
theorem zwX10_numberBehind_32 : ((cX10_numberBehind.data.toList.drop 32).take 30).map UInt8.toNat = [19, 42, 42, 180, 0, 29, 4, 96, 182, 0, 50, 184, 0, 64, 154, 0, 5, 2, 172, 42, 42, 180, 0, 29, 4, 96, 182, 0, 80, 172] := by decide +kernel
theorem dX10_numberBehind_33 : decode cX10_numberBehind 33 = .ok (.aload_n 0, 1) := z_o42 (z_wat (q := 32) (j := 1) zwX10_numberBehind_32 rfl)
theorem dX10_numberBehind_34 : decode cX10_numberBehind 34 = .ok (.aload_n 0, 1) := z_o42 (z_wat (q := 32) (j := 2) zwX10_numberBehind_32 rfl)
theorem dX10_numberBehind_35 : decode cX10_numberBehind 35 = .ok (.getfield 29, 3) := z_o180 (z_wat (q := 32) (j := 3) zwX10_numberBehind_32 rfl) (z_wat (q := 32) (j := 4) zwX10_numberBehind_32 rfl) (z_wat (q := 32) (j := 5) zwX10_numberBehind_32 rfl) rfl
theorem dX10_numberBehind_38 : decode cX10_numberBehind 38 = .ok (.iconst 1, 1) := z_o4 (z_wat (q := 32) (j := 6) zwX10_numberBehind_32 rfl)
theorem dX10_numberBehind_39 : decode cX10_numberBehind 39 = .ok (.iadd, 1) := z_o96 (z_wat (q := 32) (j := 7) zwX10_numberBehind_32 rfl)
theorem dX10_numberBehind_40 : decode cX10_numberBehind 40 = .ok (.invokevirtual 50, 3) := z_o182 (z_wat (q := 32) (j := 8) zwX10_numberBehind_32 rfl) (z_wat (q := 32) (j := 9) zwX10_numberBehind_32 rfl) (z_wat (q := 32) (j := 10) zwX10_numberBehind_32 rfl) rfl
theorem dX10_numberBehind_43 : decode cX10_numberBehind 43 = .ok (.invokestatic 64, 3) := z_o184 (z_wat (q := 32) (j := 11) zwX10_numberBehind_32 rfl) (z_wat (q := 32) (j := 12) zwX10_numberBehind_32 rfl) (z_wat (q := 32) (j := 13) zwX10_numberBehind_32 rfl) rfl
theorem dX10_numberBehind_46 : decode cX10_numberBehind 46 = .ok (.ifCond .ne 5, 3) := z_o154 (z_wat (q := 32) (j := 14) zwX10_numberBehind_32 rfl) (z_wat (q := 32) (j := 15) zwX10_numberBehind_32 rfl) (z_wat (q := 32) (j := 16) zwX10_numberBehind_32 rfl) rfl
theorem dX10_numberBehind_49 : decode cX10_numberBehind 49 = .ok (.iconst (-1), 1) := z_o2 (z_wat (q := 32) (j := 17) zwX10_numberBehind_32 rfl)
theorem dX10_numberBehind_50 : decode cX10_numberBehind 50 = .ok (.ireturn, 1) := z_o172 (z_wat (q := 32) (j := 18) zwX10_numberBehind_32 rfl)
theorem dX10_numberBehind_51 : decode cX10_numberBehind 51 = .ok (.aload_n 0, 1) := z_o42 (z_wat (q := 32) (j := 19) zwX10_numberBehind_32 rfl)
theorem dX10_numberBehind_52 : decode cX10_numberBehind 52 = .ok (.aload_n 0, 1) := z_o42 (z_wat (q := 32) (j := 20) zwX10_numberBehind_32 rfl)
theorem dX10_numberBehind_53 : decode cX10_numberBehind 53 = .ok (.getfield 29, 3) := z_o180 (z_wat (q := 32) (j := 21) zwX10_numberBehind_32 rfl) (z_wat (q := 32) (j := 22) zwX10_numberBehind_32 rfl) (z_wat (q := 32) (j := 23) zwX10_numberBehind_32 rfl) rfl
theorem dX10_numberBehind_56 : decode cX10_numberBehind 56 = .ok (.iconst 1, 1) := z_o4 (z_wat (q := 32) (j := 24) zwX10_numberBehind_32 rfl)
theorem dX10_numberBehind_57 : decode cX10_numberBehind 57 = .ok (.iadd, 1) := z_o96 (z_wat (q := 32) (j := 25) zwX10_numberBehind_32 rfl)
theorem dX10_numberBehind_58 : decode cX10_numberBehind 58 = .ok (.invokevirtual 80, 3) := z_o182 (z_wat (q := 32) (j := 26) zwX10_numberBehind_32 rfl) (z_wat (q := 32) (j := 27) zwX10_numberBehind_32 rfl) (z_wat (q := 32) (j := 28) zwX10_numberBehind_32 rfl) rfl
theorem dX10_numberBehind_61 : decode cX10_numberBehind 61 = .ok (.ireturn, 1) := z_o172 (z_wat (q := 32) (j := 29) zwX10_numberBehind_32 rfl)
theorem zwX10_numberFrom_0 : ((cX10_numberFrom.data.toList.drop 0).take 34).map UInt8.toNat = [3, 61, 27, 62, 29, 42, 180, 0, 32, 162, 0, 28, 28, 16, 10, 104, 42, 29, 182, 0, 50, 96, 16, 48, 100, 18, 83, 184, 0, 84, 61, 132, 3, 1] := by decide +kernel
theorem dX10_numberFrom_0 : decode cX10_numberFrom 0 = .ok (.iconst 0, 1) := z_o3 (z_wat (q := 0) (j := 0) zwX10_numberFrom_0 rfl)
theorem dX10_numberFrom_1 : decode cX10_numberFrom 1 = .ok (.istore_n 2, 1) := z_o61 (z_wat (q := 0) (j := 1) zwX10_numberFrom_0 rfl)
theorem dX10_numberFrom_2 : decode cX10_numberFrom 2 = .ok (.iload_n 1, 1) := z_o27 (z_wat (q := 0) (j := 2) zwX10_numberFrom_0 rfl)
theorem dX10_numberFrom_3 : decode cX10_numberFrom 3 = .ok (.istore_n 3, 1) := z_o62 (z_wat (q := 0) (j := 3) zwX10_numberFrom_0 rfl)
theorem dX10_numberFrom_4 : decode cX10_numberFrom 4 = .ok (.iload_n 3, 1) := z_o29 (z_wat (q := 0) (j := 4) zwX10_numberFrom_0 rfl)
theorem dX10_numberFrom_5 : decode cX10_numberFrom 5 = .ok (.aload_n 0, 1) := z_o42 (z_wat (q := 0) (j := 5) zwX10_numberFrom_0 rfl)
theorem dX10_numberFrom_6 : decode cX10_numberFrom 6 = .ok (.getfield 32, 3) := z_o180 (z_wat (q := 0) (j := 6) zwX10_numberFrom_0 rfl) (z_wat (q := 0) (j := 7) zwX10_numberFrom_0 rfl) (z_wat (q := 0) (j := 8) zwX10_numberFrom_0 rfl) rfl
theorem dX10_numberFrom_9 : decode cX10_numberFrom 9 = .ok (.if_icmp .ge 28, 3) := z_o162 (z_wat (q := 0) (j := 9) zwX10_numberFrom_0 rfl) (z_wat (q := 0) (j := 10) zwX10_numberFrom_0 rfl) (z_wat (q := 0) (j := 11) zwX10_numberFrom_0 rfl) rfl
theorem dX10_numberFrom_12 : decode cX10_numberFrom 12 = .ok (.iload_n 2, 1) := z_o28 (z_wat (q := 0) (j := 12) zwX10_numberFrom_0 rfl)
theorem dX10_numberFrom_13 : decode cX10_numberFrom 13 = .ok (.bipush 10, 2) := z_o16 (z_wat (q := 0) (j := 13) zwX10_numberFrom_0 rfl) (z_wat (q := 0) (j := 14) zwX10_numberFrom_0 rfl) rfl
theorem dX10_numberFrom_15 : decode cX10_numberFrom 15 = .ok (.imul, 1) := z_o104 (z_wat (q := 0) (j := 15) zwX10_numberFrom_0 rfl)
theorem dX10_numberFrom_16 : decode cX10_numberFrom 16 = .ok (.aload_n 0, 1) := z_o42 (z_wat (q := 0) (j := 16) zwX10_numberFrom_0 rfl)
theorem dX10_numberFrom_17 : decode cX10_numberFrom 17 = .ok (.iload_n 3, 1) := z_o29 (z_wat (q := 0) (j := 17) zwX10_numberFrom_0 rfl)
theorem dX10_numberFrom_18 : decode cX10_numberFrom 18 = .ok (.invokevirtual 50, 3) := z_o182 (z_wat (q := 0) (j := 18) zwX10_numberFrom_0 rfl) (z_wat (q := 0) (j := 19) zwX10_numberFrom_0 rfl) (z_wat (q := 0) (j := 20) zwX10_numberFrom_0 rfl) rfl
theorem dX10_numberFrom_21 : decode cX10_numberFrom 21 = .ok (.iadd, 1) := z_o96 (z_wat (q := 0) (j := 21) zwX10_numberFrom_0 rfl)
theorem dX10_numberFrom_22 : decode cX10_numberFrom 22 = .ok (.bipush 48, 2) := z_o16 (z_wat (q := 0) (j := 22) zwX10_numberFrom_0 rfl) (z_wat (q := 0) (j := 23) zwX10_numberFrom_0 rfl) rfl
theorem dX10_numberFrom_24 : decode cX10_numberFrom 24 = .ok (.isub, 1) := z_o100 (z_wat (q := 0) (j := 24) zwX10_numberFrom_0 rfl)
theorem dX10_numberFrom_25 : decode cX10_numberFrom 25 = .ok (.ldc 83, 2) := z_o18 (z_wat (q := 0) (j := 25) zwX10_numberFrom_0 rfl) (z_wat (q := 0) (j := 26) zwX10_numberFrom_0 rfl)
theorem dX10_numberFrom_27 : decode cX10_numberFrom 27 = .ok (.invokestatic 84, 3) := z_o184 (z_wat (q := 0) (j := 27) zwX10_numberFrom_0 rfl) (z_wat (q := 0) (j := 28) zwX10_numberFrom_0 rfl) (z_wat (q := 0) (j := 29) zwX10_numberFrom_0 rfl) rfl
theorem dX10_numberFrom_30 : decode cX10_numberFrom 30 = .ok (.istore_n 2, 1) := z_o61 (z_wat (q := 0) (j := 30) zwX10_numberFrom_0 rfl)
theorem dX10_numberFrom_31 : decode cX10_numberFrom 31 = .ok (.iinc 3 1, 3) := z_o132 (z_wat (q := 0) (j := 31) zwX10_numberFrom_0 rfl) (z_wat (q := 0) (j := 32) zwX10_numberFrom_0 rfl) (z_wat (q := 0) (j := 33) zwX10_numberFrom_0 rfl) rfl
theorem zwX10_numberFrom_32 : ((cX10_numberFrom.data.toList.drop 32).take 7).map UInt8.toNat = [3, 1, 167, 255, 226, 28, 172] := by decide +kernel
theorem dX10_numberFrom_34 : decode cX10_numberFrom 34 = .ok (.goto (-30), 3) := z_o167 (z_wat (q := 32) (j := 2) zwX10_numberFrom_32 rfl) (z_wat (q := 32) (j := 3) zwX10_numberFrom_32 rfl) (z_wat (q := 32) (j := 4) zwX10_numberFrom_32 rfl) rfl
theorem dX10_numberFrom_37 : decode cX10_numberFrom 37 = .ok (.iload_n 2, 1) := z_o28 (z_wat (q := 32) (j := 5) zwX10_numberFrom_32 rfl)
theorem dX10_numberFrom_38 : decode cX10_numberFrom 38 = .ok (.ireturn, 1) := z_o172 (z_wat (q := 32) (j := 6) zwX10_numberFrom_32 rfl)
theorem zwX10_open_0 : ((cX10_open.data.toList.drop 0).take 34).map UInt8.toNat = [42, 27, 181, 0, 15, 42, 28, 181, 0, 22, 42, 3, 181, 0, 26, 42, 3, 181, 0, 19, 42, 3, 181, 0, 41, 42, 2, 181, 0, 44, 42, 182, 0, 47] := by decide +kernel
theorem dX10_open_0 : decode cX10_open 0 = .ok (.aload_n 0, 1) := z_o42 (z_wat (q := 0) (j := 0) zwX10_open_0 rfl)
theorem dX10_open_1 : decode cX10_open 1 = .ok (.iload_n 1, 1) := z_o27 (z_wat (q := 0) (j := 1) zwX10_open_0 rfl)
theorem dX10_open_2 : decode cX10_open 2 = .ok (.putfield 15, 3) := z_o181 (z_wat (q := 0) (j := 2) zwX10_open_0 rfl) (z_wat (q := 0) (j := 3) zwX10_open_0 rfl) (z_wat (q := 0) (j := 4) zwX10_open_0 rfl) rfl
theorem dX10_open_5 : decode cX10_open 5 = .ok (.aload_n 0, 1) := z_o42 (z_wat (q := 0) (j := 5) zwX10_open_0 rfl)
theorem dX10_open_6 : decode cX10_open 6 = .ok (.iload_n 2, 1) := z_o28 (z_wat (q := 0) (j := 6) zwX10_open_0 rfl)
theorem dX10_open_7 : decode cX10_open 7 = .ok (.putfield 22, 3) := z_o181 (z_wat (q := 0) (j := 7) zwX10_open_0 rfl) (z_wat (q := 0) (j := 8) zwX10_open_0 rfl) (z_wat (q := 0) (j := 9) zwX10_open_0 rfl) rfl
theorem dX10_open_10 : decode cX10_open 10 = .ok (.aload_n 0, 1) := z_o42 (z_wat (q := 0) (j := 10) zwX10_open_0 rfl)
theorem dX10_open_11 : decode cX10_open 11 = .ok (.iconst 0, 1) := z_o3 (z_wat (q := 0) (j := 11) zwX10_open_0 rfl)
theorem dX10_open_12 : decode cX10_open 12 = .ok (.putfield 26, 3) := z_o181 (z_wat (q := 0) (j := 12) zwX10_open_0 rfl) (z_wat (q := 0) (j := 13) zwX10_open_0 rfl) (z_wat (q := 0) (j := 14) zwX10_open_0 rfl) rfl
theorem dX10_open_15 : decode cX10_open 15 = .ok (.aload_n 0, 1) := z_o42 (z_wat (q := 0) (j := 15) zwX10_open_0 rfl)
theorem dX10_open_16 : decode cX10_open 16 = .ok (.iconst 0, 1) := z_o3 (z_wat (q := 0) (j := 16) zwX10_open_0 rfl)
theorem dX10_open_17 : decode cX10_open 17 = .ok (.putfield 19, 3) := z_o181 (z_wat (q := 0) (j := 17) zwX10_open_0 rfl) (z_wat (q := 0) (j := 18) zwX10_open_0 rfl) (z_wat (q := 0) (j := 19) zwX10_open_0 rfl) rfl
theorem dX10_open_20 : decode cX10_open 20 = .ok (.aload_n 0, 1) := z_o42 (z_wat (q := 0) (j := 20) zwX10_open_0 rfl)
theorem dX10_open_21 : decode cX10_open 21 = .ok (.iconst 0, 1) := z_o3 (z_wat (q := 0) (j := 21) zwX10_open_0 rfl)
theorem dX10_open_22 : decode cX10_open 22 = .ok (.putfield 41, 3) := z_o181 (z_wat (q := 0) (j := 22) zwX10_open_0 rfl) (z_wat (q := 0) (j := 23) zwX10_open_0 rfl) (z_wat (q := 0) (j := 24) zwX10_open_0 rfl) rfl
theorem dX10_open_25 : decode cX10_open 25 = .ok (.aload_n 0, 1) := z_o42 (z_wat (q := 0) (j := 25) zwX10_open_0 rfl)
theorem dX10_open_26 : decode cX10_open 26 = .ok (.iconst (-1), 1) := z_o2 (z_wat (q := 0) (j := 26) zwX10_open_0 rfl)
theorem dX10_open_27 : decode cX10_open 27 = .ok (.putfield 44, 3) := z_o181 (z_wat (q := 0) (j := 27) zwX10_open_0 rfl) (z_wat (q := 0) (j := 28) zwX10_open_0 rfl) (z_wat (q := 0) (j := 29) zwX10_open_0 rfl) rfl
theorem dX10_open_30 : decode cX10_open 30 = .ok (.aload_n 0, 1) := z_o42 (z_wat (q := 0) (j := 30) zwX10_open_0 rfl)
theorem dX10_open_31 : decode cX10_open 31 = .ok (.invokevirtual 47, 3) := z_o182 (z_wat (q := 0) (j := 31) zwX10_open_0 rfl) (z_wat (q := 0) (j := 32) zwX10_open_0 rfl) (z_wat (q := 0) (j := 33) zwX10_open_0 rfl) rfl
theorem zwX10_open_32 : ((cX10_open.data.toList.drop 32).take 3).map UInt8.toNat = [0, 47, 177] := by decide +kernel
theorem dX10_open_34 : decode cX10_open 34 = .ok (.return_, 1) := z_o177 (z_wat (q := 32) (j := 2) zwX10_open_32 rfl)
theorem zwX10_wordIn_0 : ((cX10_wordIn.data.toList.drop 0).take 34).map UInt8.toNat = [42, 180, 0, 35, 4, 159, 0, 5, 2, 172, 3, 61, 42, 180, 0, 29, 62, 4, 54, 4, 3, 54, 5, 21, 5, 43, 182, 0, 70, 163, 0, 100, 21, 5] := by decide +kernel
theorem dX10_wordIn_0 : decode cX10_wordIn 0 = .ok (.aload_n 0, 1) := z_o42 (z_wat (q := 0) (j := 0) zwX10_wordIn_0 rfl)
theorem dX10_wordIn_1 : decode cX10_wordIn 1 = .ok (.getfield 35, 3) := z_o180 (z_wat (q := 0) (j := 1) zwX10_wordIn_0 rfl) (z_wat (q := 0) (j := 2) zwX10_wordIn_0 rfl) (z_wat (q := 0) (j := 3) zwX10_wordIn_0 rfl) rfl
theorem dX10_wordIn_4 : decode cX10_wordIn 4 = .ok (.iconst 1, 1) := z_o4 (z_wat (q := 0) (j := 4) zwX10_wordIn_0 rfl)
theorem dX10_wordIn_5 : decode cX10_wordIn 5 = .ok (.if_icmp .eq 5, 3) := z_o159 (z_wat (q := 0) (j := 5) zwX10_wordIn_0 rfl) (z_wat (q := 0) (j := 6) zwX10_wordIn_0 rfl) (z_wat (q := 0) (j := 7) zwX10_wordIn_0 rfl) rfl
theorem dX10_wordIn_8 : decode cX10_wordIn 8 = .ok (.iconst (-1), 1) := z_o2 (z_wat (q := 0) (j := 8) zwX10_wordIn_0 rfl)
theorem dX10_wordIn_9 : decode cX10_wordIn 9 = .ok (.ireturn, 1) := z_o172 (z_wat (q := 0) (j := 9) zwX10_wordIn_0 rfl)
theorem dX10_wordIn_10 : decode cX10_wordIn 10 = .ok (.iconst 0, 1) := z_o3 (z_wat (q := 0) (j := 10) zwX10_wordIn_0 rfl)
theorem dX10_wordIn_11 : decode cX10_wordIn 11 = .ok (.istore_n 2, 1) := z_o61 (z_wat (q := 0) (j := 11) zwX10_wordIn_0 rfl)
theorem dX10_wordIn_12 : decode cX10_wordIn 12 = .ok (.aload_n 0, 1) := z_o42 (z_wat (q := 0) (j := 12) zwX10_wordIn_0 rfl)
theorem dX10_wordIn_13 : decode cX10_wordIn 13 = .ok (.getfield 29, 3) := z_o180 (z_wat (q := 0) (j := 13) zwX10_wordIn_0 rfl) (z_wat (q := 0) (j := 14) zwX10_wordIn_0 rfl) (z_wat (q := 0) (j := 15) zwX10_wordIn_0 rfl) rfl
theorem dX10_wordIn_16 : decode cX10_wordIn 16 = .ok (.istore_n 3, 1) := z_o62 (z_wat (q := 0) (j := 16) zwX10_wordIn_0 rfl)
theorem dX10_wordIn_17 : decode cX10_wordIn 17 = .ok (.iconst 1, 1) := z_o4 (z_wat (q := 0) (j := 17) zwX10_wordIn_0 rfl)
theorem dX10_wordIn_18 : decode cX10_wordIn 18 = .ok (.istore 4, 2) := z_o54 (z_wat (q := 0) (j := 18) zwX10_wordIn_0 rfl) (z_wat (q := 0) (j := 19) zwX10_wordIn_0 rfl)
theorem dX10_wordIn_20 : decode cX10_wordIn 20 = .ok (.iconst 0, 1) := z_o3 (z_wat (q := 0) (j := 20) zwX10_wordIn_0 rfl)
theorem dX10_wordIn_21 : decode cX10_wordIn 21 = .ok (.istore 5, 2) := z_o54 (z_wat (q := 0) (j := 21) zwX10_wordIn_0 rfl) (z_wat (q := 0) (j := 22) zwX10_wordIn_0 rfl)
theorem dX10_wordIn_23 : decode cX10_wordIn 23 = .ok (.iload 5, 2) := z_o21 (z_wat (q := 0) (j := 23) zwX10_wordIn_0 rfl) (z_wat (q := 0) (j := 24) zwX10_wordIn_0 rfl)
theorem dX10_wordIn_25 : decode cX10_wordIn 25 = .ok (.aload_n 1, 1) := z_o43 (z_wat (q := 0) (j := 25) zwX10_wordIn_0 rfl)
theorem dX10_wordIn_26 : decode cX10_wordIn 26 = .ok (.invokevirtual 70, 3) := z_o182 (z_wat (q := 0) (j := 26) zwX10_wordIn_0 rfl) (z_wat (q := 0) (j := 27) zwX10_wordIn_0 rfl) (z_wat (q := 0) (j := 28) zwX10_wordIn_0 rfl) rfl
theorem dX10_wordIn_29 : decode cX10_wordIn 29 = .ok (.if_icmp .gt 100, 3) := z_o163 (z_wat (q := 0) (j := 29) zwX10_wordIn_0 rfl) (z_wat (q := 0) (j := 30) zwX10_wordIn_0 rfl) (z_wat (q := 0) (j := 31) zwX10_wordIn_0 rfl) rfl
theorem zwX10_wordIn_32 : ((cX10_wordIn.data.toList.drop 32).take 34).map UInt8.toNat = [21, 5, 43, 182, 0, 70, 162, 0, 12, 43, 21, 5, 182, 0, 76, 167, 0, 5, 16, 32, 54, 6, 21, 6, 16, 32, 159, 0, 39, 21, 4, 153, 0, 25] := by decide +kernel
theorem dX10_wordIn_32 : decode cX10_wordIn 32 = .ok (.iload 5, 2) := z_o21 (z_wat (q := 32) (j := 0) zwX10_wordIn_32 rfl) (z_wat (q := 32) (j := 1) zwX10_wordIn_32 rfl)
theorem dX10_wordIn_34 : decode cX10_wordIn 34 = .ok (.aload_n 1, 1) := z_o43 (z_wat (q := 32) (j := 2) zwX10_wordIn_32 rfl)
theorem dX10_wordIn_35 : decode cX10_wordIn 35 = .ok (.invokevirtual 70, 3) := z_o182 (z_wat (q := 32) (j := 3) zwX10_wordIn_32 rfl) (z_wat (q := 32) (j := 4) zwX10_wordIn_32 rfl) (z_wat (q := 32) (j := 5) zwX10_wordIn_32 rfl) rfl
theorem dX10_wordIn_38 : decode cX10_wordIn 38 = .ok (.if_icmp .ge 12, 3) := z_o162 (z_wat (q := 32) (j := 6) zwX10_wordIn_32 rfl) (z_wat (q := 32) (j := 7) zwX10_wordIn_32 rfl) (z_wat (q := 32) (j := 8) zwX10_wordIn_32 rfl) rfl
theorem dX10_wordIn_41 : decode cX10_wordIn 41 = .ok (.aload_n 1, 1) := z_o43 (z_wat (q := 32) (j := 9) zwX10_wordIn_32 rfl)
theorem dX10_wordIn_42 : decode cX10_wordIn 42 = .ok (.iload 5, 2) := z_o21 (z_wat (q := 32) (j := 10) zwX10_wordIn_32 rfl) (z_wat (q := 32) (j := 11) zwX10_wordIn_32 rfl)
theorem dX10_wordIn_44 : decode cX10_wordIn 44 = .ok (.invokevirtual 76, 3) := z_o182 (z_wat (q := 32) (j := 12) zwX10_wordIn_32 rfl) (z_wat (q := 32) (j := 13) zwX10_wordIn_32 rfl) (z_wat (q := 32) (j := 14) zwX10_wordIn_32 rfl) rfl
theorem dX10_wordIn_47 : decode cX10_wordIn 47 = .ok (.goto 5, 3) := z_o167 (z_wat (q := 32) (j := 15) zwX10_wordIn_32 rfl) (z_wat (q := 32) (j := 16) zwX10_wordIn_32 rfl) (z_wat (q := 32) (j := 17) zwX10_wordIn_32 rfl) rfl
theorem dX10_wordIn_50 : decode cX10_wordIn 50 = .ok (.bipush 32, 2) := z_o16 (z_wat (q := 32) (j := 18) zwX10_wordIn_32 rfl) (z_wat (q := 32) (j := 19) zwX10_wordIn_32 rfl) rfl
theorem dX10_wordIn_52 : decode cX10_wordIn 52 = .ok (.istore 6, 2) := z_o54 (z_wat (q := 32) (j := 20) zwX10_wordIn_32 rfl) (z_wat (q := 32) (j := 21) zwX10_wordIn_32 rfl)
theorem dX10_wordIn_54 : decode cX10_wordIn 54 = .ok (.iload 6, 2) := z_o21 (z_wat (q := 32) (j := 22) zwX10_wordIn_32 rfl) (z_wat (q := 32) (j := 23) zwX10_wordIn_32 rfl)
theorem dX10_wordIn_56 : decode cX10_wordIn 56 = .ok (.bipush 32, 2) := z_o16 (z_wat (q := 32) (j := 24) zwX10_wordIn_32 rfl) (z_wat (q := 32) (j := 25) zwX10_wordIn_32 rfl) rfl
theorem dX10_wordIn_58 : decode cX10_wordIn 58 = .ok (.if_icmp .eq 39, 3) := z_o159 (z_wat (q := 32) (j := 26) zwX10_wordIn_32 rfl) (z_wat (q := 32) (j := 27) zwX10_wordIn_32 rfl) (z_wat (q := 32) (j := 28) zwX10_wordIn_32 rfl) rfl
theorem dX10_wordIn_61 : decode cX10_wordIn 61 = .ok (.iload 4, 2) := z_o21 (z_wat (q := 32) (j := 29) zwX10_wordIn_32 rfl) (z_wat (q := 32) (j := 30) zwX10_wordIn_32 rfl)
theorem dX10_wordIn_63 : decode cX10_wordIn 63 = .ok (.ifCond .eq 25, 3) := z_o153 (z_wat (q := 32) (j := 31) zwX10_wordIn_32 rfl) (z_wat (q := 32) (j := 32) zwX10_wordIn_32 rfl) (z_wat (q := 32) (j := 33) zwX10_wordIn_32 rfl) rfl
theorem zwX10_wordIn_64 : ((cX10_wordIn.data.toList.drop 64).take 34).map UInt8.toNat = [0, 25, 29, 42, 180, 0, 32, 162, 0, 17, 42, 29, 182, 0, 50, 21, 6, 160, 0, 7, 4, 167, 0, 4, 3, 54, 4, 132, 3, 1, 167, 0, 29, 21] := by decide +kernel
theorem dX10_wordIn_66 : decode cX10_wordIn 66 = .ok (.iload_n 3, 1) := z_o29 (z_wat (q := 64) (j := 2) zwX10_wordIn_64 rfl)
theorem dX10_wordIn_67 : decode cX10_wordIn 67 = .ok (.aload_n 0, 1) := z_o42 (z_wat (q := 64) (j := 3) zwX10_wordIn_64 rfl)
theorem dX10_wordIn_68 : decode cX10_wordIn 68 = .ok (.getfield 32, 3) := z_o180 (z_wat (q := 64) (j := 4) zwX10_wordIn_64 rfl) (z_wat (q := 64) (j := 5) zwX10_wordIn_64 rfl) (z_wat (q := 64) (j := 6) zwX10_wordIn_64 rfl) rfl
theorem dX10_wordIn_71 : decode cX10_wordIn 71 = .ok (.if_icmp .ge 17, 3) := z_o162 (z_wat (q := 64) (j := 7) zwX10_wordIn_64 rfl) (z_wat (q := 64) (j := 8) zwX10_wordIn_64 rfl) (z_wat (q := 64) (j := 9) zwX10_wordIn_64 rfl) rfl
theorem dX10_wordIn_74 : decode cX10_wordIn 74 = .ok (.aload_n 0, 1) := z_o42 (z_wat (q := 64) (j := 10) zwX10_wordIn_64 rfl)
theorem dX10_wordIn_75 : decode cX10_wordIn 75 = .ok (.iload_n 3, 1) := z_o29 (z_wat (q := 64) (j := 11) zwX10_wordIn_64 rfl)
theorem dX10_wordIn_76 : decode cX10_wordIn 76 = .ok (.invokevirtual 50, 3) := z_o182 (z_wat (q := 64) (j := 12) zwX10_wordIn_64 rfl) (z_wat (q := 64) (j := 13) zwX10_wordIn_64 rfl) (z_wat (q := 64) (j := 14) zwX10_wordIn_64 rfl) rfl
theorem dX10_wordIn_79 : decode cX10_wordIn 79 = .ok (.iload 6, 2) := z_o21 (z_wat (q := 64) (j := 15) zwX10_wordIn_64 rfl) (z_wat (q := 64) (j := 16) zwX10_wordIn_64 rfl)
theorem dX10_wordIn_81 : decode cX10_wordIn 81 = .ok (.if_icmp .ne 7, 3) := z_o160 (z_wat (q := 64) (j := 17) zwX10_wordIn_64 rfl) (z_wat (q := 64) (j := 18) zwX10_wordIn_64 rfl) (z_wat (q := 64) (j := 19) zwX10_wordIn_64 rfl) rfl
theorem dX10_wordIn_84 : decode cX10_wordIn 84 = .ok (.iconst 1, 1) := z_o4 (z_wat (q := 64) (j := 20) zwX10_wordIn_64 rfl)
theorem dX10_wordIn_85 : decode cX10_wordIn 85 = .ok (.goto 4, 3) := z_o167 (z_wat (q := 64) (j := 21) zwX10_wordIn_64 rfl) (z_wat (q := 64) (j := 22) zwX10_wordIn_64 rfl) (z_wat (q := 64) (j := 23) zwX10_wordIn_64 rfl) rfl
theorem dX10_wordIn_88 : decode cX10_wordIn 88 = .ok (.iconst 0, 1) := z_o3 (z_wat (q := 64) (j := 24) zwX10_wordIn_64 rfl)
theorem dX10_wordIn_89 : decode cX10_wordIn 89 = .ok (.istore 4, 2) := z_o54 (z_wat (q := 64) (j := 25) zwX10_wordIn_64 rfl) (z_wat (q := 64) (j := 26) zwX10_wordIn_64 rfl)
theorem dX10_wordIn_91 : decode cX10_wordIn 91 = .ok (.iinc 3 1, 3) := z_o132 (z_wat (q := 64) (j := 27) zwX10_wordIn_64 rfl) (z_wat (q := 64) (j := 28) zwX10_wordIn_64 rfl) (z_wat (q := 64) (j := 29) zwX10_wordIn_64 rfl) rfl
theorem dX10_wordIn_94 : decode cX10_wordIn 94 = .ok (.goto 29, 3) := z_o167 (z_wat (q := 64) (j := 30) zwX10_wordIn_64 rfl) (z_wat (q := 64) (j := 31) zwX10_wordIn_64 rfl) (z_wat (q := 64) (j := 32) zwX10_wordIn_64 rfl) rfl
theorem zwX10_wordIn_96 : ((cX10_wordIn.data.toList.drop 96).take 34).map UInt8.toNat = [29, 21, 4, 153, 0, 13, 29, 42, 180, 0, 32, 160, 0, 5, 28, 172, 132, 2, 1, 42, 180, 0, 29, 62, 4, 54, 4, 132, 5, 1, 167, 255, 153, 2] := by decide +kernel
theorem dX10_wordIn_97 : decode cX10_wordIn 97 = .ok (.iload 4, 2) := z_o21 (z_wat (q := 96) (j := 1) zwX10_wordIn_96 rfl) (z_wat (q := 96) (j := 2) zwX10_wordIn_96 rfl)
theorem dX10_wordIn_99 : decode cX10_wordIn 99 = .ok (.ifCond .eq 13, 3) := z_o153 (z_wat (q := 96) (j := 3) zwX10_wordIn_96 rfl) (z_wat (q := 96) (j := 4) zwX10_wordIn_96 rfl) (z_wat (q := 96) (j := 5) zwX10_wordIn_96 rfl) rfl
theorem dX10_wordIn_102 : decode cX10_wordIn 102 = .ok (.iload_n 3, 1) := z_o29 (z_wat (q := 96) (j := 6) zwX10_wordIn_96 rfl)
theorem dX10_wordIn_103 : decode cX10_wordIn 103 = .ok (.aload_n 0, 1) := z_o42 (z_wat (q := 96) (j := 7) zwX10_wordIn_96 rfl)
theorem dX10_wordIn_104 : decode cX10_wordIn 104 = .ok (.getfield 32, 3) := z_o180 (z_wat (q := 96) (j := 8) zwX10_wordIn_96 rfl) (z_wat (q := 96) (j := 9) zwX10_wordIn_96 rfl) (z_wat (q := 96) (j := 10) zwX10_wordIn_96 rfl) rfl
theorem dX10_wordIn_107 : decode cX10_wordIn 107 = .ok (.if_icmp .ne 5, 3) := z_o160 (z_wat (q := 96) (j := 11) zwX10_wordIn_96 rfl) (z_wat (q := 96) (j := 12) zwX10_wordIn_96 rfl) (z_wat (q := 96) (j := 13) zwX10_wordIn_96 rfl) rfl
theorem dX10_wordIn_110 : decode cX10_wordIn 110 = .ok (.iload_n 2, 1) := z_o28 (z_wat (q := 96) (j := 14) zwX10_wordIn_96 rfl)
theorem dX10_wordIn_111 : decode cX10_wordIn 111 = .ok (.ireturn, 1) := z_o172 (z_wat (q := 96) (j := 15) zwX10_wordIn_96 rfl)
theorem dX10_wordIn_112 : decode cX10_wordIn 112 = .ok (.iinc 2 1, 3) := z_o132 (z_wat (q := 96) (j := 16) zwX10_wordIn_96 rfl) (z_wat (q := 96) (j := 17) zwX10_wordIn_96 rfl) (z_wat (q := 96) (j := 18) zwX10_wordIn_96 rfl) rfl
theorem dX10_wordIn_115 : decode cX10_wordIn 115 = .ok (.aload_n 0, 1) := z_o42 (z_wat (q := 96) (j := 19) zwX10_wordIn_96 rfl)
theorem dX10_wordIn_116 : decode cX10_wordIn 116 = .ok (.getfield 29, 3) := z_o180 (z_wat (q := 96) (j := 20) zwX10_wordIn_96 rfl) (z_wat (q := 96) (j := 21) zwX10_wordIn_96 rfl) (z_wat (q := 96) (j := 22) zwX10_wordIn_96 rfl) rfl
theorem dX10_wordIn_119 : decode cX10_wordIn 119 = .ok (.istore_n 3, 1) := z_o62 (z_wat (q := 96) (j := 23) zwX10_wordIn_96 rfl)
theorem dX10_wordIn_120 : decode cX10_wordIn 120 = .ok (.iconst 1, 1) := z_o4 (z_wat (q := 96) (j := 24) zwX10_wordIn_96 rfl)
theorem dX10_wordIn_121 : decode cX10_wordIn 121 = .ok (.istore 4, 2) := z_o54 (z_wat (q := 96) (j := 25) zwX10_wordIn_96 rfl) (z_wat (q := 96) (j := 26) zwX10_wordIn_96 rfl)
theorem dX10_wordIn_123 : decode cX10_wordIn 123 = .ok (.iinc 5 1, 3) := z_o132 (z_wat (q := 96) (j := 27) zwX10_wordIn_96 rfl) (z_wat (q := 96) (j := 28) zwX10_wordIn_96 rfl) (z_wat (q := 96) (j := 29) zwX10_wordIn_96 rfl) rfl
theorem dX10_wordIn_126 : decode cX10_wordIn 126 = .ok (.goto (-103), 3) := z_o167 (z_wat (q := 96) (j := 30) zwX10_wordIn_96 rfl) (z_wat (q := 96) (j := 31) zwX10_wordIn_96 rfl) (z_wat (q := 96) (j := 32) zwX10_wordIn_96 rfl) rfl
theorem zwX10_wordIn_128 : ((cX10_wordIn.data.toList.drop 128).take 3).map UInt8.toNat = [153, 2, 172] := by decide +kernel
theorem dX10_wordIn_129 : decode cX10_wordIn 129 = .ok (.iconst (-1), 1) := z_o2 (z_wat (q := 128) (j := 1) zwX10_wordIn_128 rfl)
theorem dX10_wordIn_130 : decode cX10_wordIn 130 = .ok (.ireturn, 1) := z_o172 (z_wat (q := 128) (j := 2) zwX10_wordIn_128 rfl)
