theorem zwX4_areFindsIn_0 : ((cX4_areFindsIn.data.toList.drop 0).take 31).map UInt8.toNat = [42, 27, 7, 182, 0, 72, 153, 0, 23, 28, 42, 180, 0, 41, 180, 0, 76, 27, 46, 122, 4, 126, 153, 0, 7, 4, 167, 0, 4, 3, 172] := by decide +kernel
theorem dX4_areFindsIn_0 : decode cX4_areFindsIn 0 = .ok (.aload_n 0, 1) := z_o42 (z_wat (q := 0) (j := 0) zwX4_areFindsIn_0 rfl)
theorem dX4_areFindsIn_1 : decode cX4_areFindsIn 1 = .ok (.iload_n 1, 1) := z_o27 (z_wat (q := 0) (j := 1) zwX4_areFindsIn_0 rfl)
theorem dX4_areFindsIn_2 : decode cX4_areFindsIn 2 = .ok (.iconst 4, 1) := z_o7 (z_wat (q := 0) (j := 2) zwX4_areFindsIn_0 rfl)
theorem dX4_areFindsIn_3 : decode cX4_areFindsIn 3 = .ok (.invokevirtual 72, 3) := z_o182 (z_wat (q := 0) (j := 3) zwX4_areFindsIn_0 rfl) (z_wat (q := 0) (j := 4) zwX4_areFindsIn_0 rfl) (z_wat (q := 0) (j := 5) zwX4_areFindsIn_0 rfl) rfl
theorem dX4_areFindsIn_6 : decode cX4_areFindsIn 6 = .ok (.ifCond .eq 23, 3) := z_o153 (z_wat (q := 0) (j := 6) zwX4_areFindsIn_0 rfl) (z_wat (q := 0) (j := 7) zwX4_areFindsIn_0 rfl) (z_wat (q := 0) (j := 8) zwX4_areFindsIn_0 rfl) rfl
theorem dX4_areFindsIn_9 : decode cX4_areFindsIn 9 = .ok (.iload_n 2, 1) := z_o28 (z_wat (q := 0) (j := 9) zwX4_areFindsIn_0 rfl)
theorem dX4_areFindsIn_10 : decode cX4_areFindsIn 10 = .ok (.aload_n 0, 1) := z_o42 (z_wat (q := 0) (j := 10) zwX4_areFindsIn_0 rfl)
theorem dX4_areFindsIn_11 : decode cX4_areFindsIn 11 = .ok (.getfield 41, 3) := z_o180 (z_wat (q := 0) (j := 11) zwX4_areFindsIn_0 rfl) (z_wat (q := 0) (j := 12) zwX4_areFindsIn_0 rfl) (z_wat (q := 0) (j := 13) zwX4_areFindsIn_0 rfl) rfl
theorem dX4_areFindsIn_14 : decode cX4_areFindsIn 14 = .ok (.getfield 76, 3) := z_o180 (z_wat (q := 0) (j := 14) zwX4_areFindsIn_0 rfl) (z_wat (q := 0) (j := 15) zwX4_areFindsIn_0 rfl) (z_wat (q := 0) (j := 16) zwX4_areFindsIn_0 rfl) rfl
theorem dX4_areFindsIn_17 : decode cX4_areFindsIn 17 = .ok (.iload_n 1, 1) := z_o27 (z_wat (q := 0) (j := 17) zwX4_areFindsIn_0 rfl)
theorem dX4_areFindsIn_18 : decode cX4_areFindsIn 18 = .ok (.iaload, 1) := z_o46 (z_wat (q := 0) (j := 18) zwX4_areFindsIn_0 rfl)
theorem dX4_areFindsIn_19 : decode cX4_areFindsIn 19 = .ok (.ishr, 1) := z_o122 (z_wat (q := 0) (j := 19) zwX4_areFindsIn_0 rfl)
theorem dX4_areFindsIn_20 : decode cX4_areFindsIn 20 = .ok (.iconst 1, 1) := z_o4 (z_wat (q := 0) (j := 20) zwX4_areFindsIn_0 rfl)
theorem dX4_areFindsIn_21 : decode cX4_areFindsIn 21 = .ok (.iand, 1) := z_o126 (z_wat (q := 0) (j := 21) zwX4_areFindsIn_0 rfl)
theorem dX4_areFindsIn_22 : decode cX4_areFindsIn 22 = .ok (.ifCond .eq 7, 3) := z_o153 (z_wat (q := 0) (j := 22) zwX4_areFindsIn_0 rfl) (z_wat (q := 0) (j := 23) zwX4_areFindsIn_0 rfl) (z_wat (q := 0) (j := 24) zwX4_areFindsIn_0 rfl) rfl
theorem dX4_areFindsIn_25 : decode cX4_areFindsIn 25 = .ok (.iconst 1, 1) := z_o4 (z_wat (q := 0) (j := 25) zwX4_areFindsIn_0 rfl)
theorem dX4_areFindsIn_26 : decode cX4_areFindsIn 26 = .ok (.goto 4, 3) := z_o167 (z_wat (q := 0) (j := 26) zwX4_areFindsIn_0 rfl) (z_wat (q := 0) (j := 27) zwX4_areFindsIn_0 rfl) (z_wat (q := 0) (j := 28) zwX4_areFindsIn_0 rfl) rfl
theorem dX4_areFindsIn_29 : decode cX4_areFindsIn 29 = .ok (.iconst 0, 1) := z_o3 (z_wat (q := 0) (j := 29) zwX4_areFindsIn_0 rfl)
theorem dX4_areFindsIn_30 : decode cX4_areFindsIn 30 = .ok (.ireturn, 1) := z_o172 (z_wat (q := 0) (j := 30) zwX4_areFindsIn_0 rfl)
theorem zwX4_counts_0 : ((cX4_counts.data.toList.drop 0).take 34).map UInt8.toNat = [27, 42, 180, 0, 9, 162, 0, 29, 42, 180, 0, 18, 27, 51, 154, 0, 20, 42, 180, 0, 41, 180, 0, 69, 27, 46, 28, 160, 0, 7, 4, 167, 0, 4] := by decide +kernel
theorem dX4_counts_0 : decode cX4_counts 0 = .ok (.iload_n 1, 1) := z_o27 (z_wat (q := 0) (j := 0) zwX4_counts_0 rfl)
theorem dX4_counts_1 : decode cX4_counts 1 = .ok (.aload_n 0, 1) := z_o42 (z_wat (q := 0) (j := 1) zwX4_counts_0 rfl)
theorem dX4_counts_2 : decode cX4_counts 2 = .ok (.getfield 9, 3) := z_o180 (z_wat (q := 0) (j := 2) zwX4_counts_0 rfl) (z_wat (q := 0) (j := 3) zwX4_counts_0 rfl) (z_wat (q := 0) (j := 4) zwX4_counts_0 rfl) rfl
theorem dX4_counts_5 : decode cX4_counts 5 = .ok (.if_icmp .ge 29, 3) := z_o162 (z_wat (q := 0) (j := 5) zwX4_counts_0 rfl) (z_wat (q := 0) (j := 6) zwX4_counts_0 rfl) (z_wat (q := 0) (j := 7) zwX4_counts_0 rfl) rfl
theorem dX4_counts_8 : decode cX4_counts 8 = .ok (.aload_n 0, 1) := z_o42 (z_wat (q := 0) (j := 8) zwX4_counts_0 rfl)
theorem dX4_counts_9 : decode cX4_counts 9 = .ok (.getfield 18, 3) := z_o180 (z_wat (q := 0) (j := 9) zwX4_counts_0 rfl) (z_wat (q := 0) (j := 10) zwX4_counts_0 rfl) (z_wat (q := 0) (j := 11) zwX4_counts_0 rfl) rfl
theorem dX4_counts_12 : decode cX4_counts 12 = .ok (.iload_n 1, 1) := z_o27 (z_wat (q := 0) (j := 12) zwX4_counts_0 rfl)
theorem dX4_counts_13 : decode cX4_counts 13 = .ok (.baload, 1) := z_o51 (z_wat (q := 0) (j := 13) zwX4_counts_0 rfl)
theorem dX4_counts_14 : decode cX4_counts 14 = .ok (.ifCond .ne 20, 3) := z_o154 (z_wat (q := 0) (j := 14) zwX4_counts_0 rfl) (z_wat (q := 0) (j := 15) zwX4_counts_0 rfl) (z_wat (q := 0) (j := 16) zwX4_counts_0 rfl) rfl
theorem dX4_counts_17 : decode cX4_counts 17 = .ok (.aload_n 0, 1) := z_o42 (z_wat (q := 0) (j := 17) zwX4_counts_0 rfl)
theorem dX4_counts_18 : decode cX4_counts 18 = .ok (.getfield 41, 3) := z_o180 (z_wat (q := 0) (j := 18) zwX4_counts_0 rfl) (z_wat (q := 0) (j := 19) zwX4_counts_0 rfl) (z_wat (q := 0) (j := 20) zwX4_counts_0 rfl) rfl
theorem dX4_counts_21 : decode cX4_counts 21 = .ok (.getfield 69, 3) := z_o180 (z_wat (q := 0) (j := 21) zwX4_counts_0 rfl) (z_wat (q := 0) (j := 22) zwX4_counts_0 rfl) (z_wat (q := 0) (j := 23) zwX4_counts_0 rfl) rfl
theorem dX4_counts_24 : decode cX4_counts 24 = .ok (.iload_n 1, 1) := z_o27 (z_wat (q := 0) (j := 24) zwX4_counts_0 rfl)
theorem dX4_counts_25 : decode cX4_counts 25 = .ok (.iaload, 1) := z_o46 (z_wat (q := 0) (j := 25) zwX4_counts_0 rfl)
theorem dX4_counts_26 : decode cX4_counts 26 = .ok (.iload_n 2, 1) := z_o28 (z_wat (q := 0) (j := 26) zwX4_counts_0 rfl)
theorem dX4_counts_27 : decode cX4_counts 27 = .ok (.if_icmp .ne 7, 3) := z_o160 (z_wat (q := 0) (j := 27) zwX4_counts_0 rfl) (z_wat (q := 0) (j := 28) zwX4_counts_0 rfl) (z_wat (q := 0) (j := 29) zwX4_counts_0 rfl) rfl
theorem dX4_counts_30 : decode cX4_counts 30 = .ok (.iconst 1, 1) := z_o4 (z_wat (q := 0) (j := 30) zwX4_counts_0 rfl)
theorem dX4_counts_31 : decode cX4_counts 31 = .ok (.goto 4, 3) := z_o167 (z_wat (q := 0) (j := 31) zwX4_counts_0 rfl) (z_wat (q := 0) (j := 32) zwX4_counts_0 rfl) (z_wat (q := 0) (j := 33) zwX4_counts_0 rfl) rfl
theorem zwX4_counts_32 : ((cX4_counts.data.toList.drop 32).take 4).map UInt8.toNat = [0, 4, 3, 172] := by decide +kernel
theorem dX4_counts_34 : decode cX4_counts 34 = .ok (.iconst 0, 1) := z_o3 (z_wat (q := 32) (j := 2) zwX4_counts_32 rfl)
theorem dX4_counts_35 : decode cX4_counts 35 = .ok (.ireturn, 1) := z_o172 (z_wat (q := 32) (j := 3) zwX4_counts_32 rfl)
theorem zwX4_findLater_0 : ((cX4_findLater.data.toList.drop 0).take 34).map UInt8.toNat = [3, 60, 27, 42, 180, 0, 15, 162, 0, 16, 42, 180, 0, 22, 27, 3, 79, 132, 1, 1, 167, 255, 238, 3, 60, 27, 42, 180, 0, 9, 162, 0, 65, 42] := by decide +kernel
theorem dX4_findLater_0 : decode cX4_findLater 0 = .ok (.iconst 0, 1) := z_o3 (z_wat (q := 0) (j := 0) zwX4_findLater_0 rfl)
theorem dX4_findLater_1 : decode cX4_findLater 1 = .ok (.istore_n 1, 1) := z_o60 (z_wat (q := 0) (j := 1) zwX4_findLater_0 rfl)
theorem dX4_findLater_2 : decode cX4_findLater 2 = .ok (.iload_n 1, 1) := z_o27 (z_wat (q := 0) (j := 2) zwX4_findLater_0 rfl)
theorem dX4_findLater_3 : decode cX4_findLater 3 = .ok (.aload_n 0, 1) := z_o42 (z_wat (q := 0) (j := 3) zwX4_findLater_0 rfl)
theorem dX4_findLater_4 : decode cX4_findLater 4 = .ok (.getfield 15, 3) := z_o180 (z_wat (q := 0) (j := 4) zwX4_findLater_0 rfl) (z_wat (q := 0) (j := 5) zwX4_findLater_0 rfl) (z_wat (q := 0) (j := 6) zwX4_findLater_0 rfl) rfl
theorem dX4_findLater_7 : decode cX4_findLater 7 = .ok (.if_icmp .ge 16, 3) := z_o162 (z_wat (q := 0) (j := 7) zwX4_findLater_0 rfl) (z_wat (q := 0) (j := 8) zwX4_findLater_0 rfl) (z_wat (q := 0) (j := 9) zwX4_findLater_0 rfl) rfl
theorem dX4_findLater_10 : decode cX4_findLater 10 = .ok (.aload_n 0, 1) := z_o42 (z_wat (q := 0) (j := 10) zwX4_findLater_0 rfl)
theorem dX4_findLater_11 : decode cX4_findLater 11 = .ok (.getfield 22, 3) := z_o180 (z_wat (q := 0) (j := 11) zwX4_findLater_0 rfl) (z_wat (q := 0) (j := 12) zwX4_findLater_0 rfl) (z_wat (q := 0) (j := 13) zwX4_findLater_0 rfl) rfl
theorem dX4_findLater_14 : decode cX4_findLater 14 = .ok (.iload_n 1, 1) := z_o27 (z_wat (q := 0) (j := 14) zwX4_findLater_0 rfl)
theorem dX4_findLater_15 : decode cX4_findLater 15 = .ok (.iconst 0, 1) := z_o3 (z_wat (q := 0) (j := 15) zwX4_findLater_0 rfl)
theorem dX4_findLater_16 : decode cX4_findLater 16 = .ok (.iastore, 1) := z_o79 (z_wat (q := 0) (j := 16) zwX4_findLater_0 rfl)
theorem dX4_findLater_17 : decode cX4_findLater 17 = .ok (.iinc 1 1, 3) := z_o132 (z_wat (q := 0) (j := 17) zwX4_findLater_0 rfl) (z_wat (q := 0) (j := 18) zwX4_findLater_0 rfl) (z_wat (q := 0) (j := 19) zwX4_findLater_0 rfl) rfl
theorem dX4_findLater_20 : decode cX4_findLater 20 = .ok (.goto (-18), 3) := z_o167 (z_wat (q := 0) (j := 20) zwX4_findLater_0 rfl) (z_wat (q := 0) (j := 21) zwX4_findLater_0 rfl) (z_wat (q := 0) (j := 22) zwX4_findLater_0 rfl) rfl
theorem dX4_findLater_23 : decode cX4_findLater 23 = .ok (.iconst 0, 1) := z_o3 (z_wat (q := 0) (j := 23) zwX4_findLater_0 rfl)
theorem dX4_findLater_24 : decode cX4_findLater 24 = .ok (.istore_n 1, 1) := z_o60 (z_wat (q := 0) (j := 24) zwX4_findLater_0 rfl)
theorem dX4_findLater_25 : decode cX4_findLater 25 = .ok (.iload_n 1, 1) := z_o27 (z_wat (q := 0) (j := 25) zwX4_findLater_0 rfl)
theorem dX4_findLater_26 : decode cX4_findLater 26 = .ok (.aload_n 0, 1) := z_o42 (z_wat (q := 0) (j := 26) zwX4_findLater_0 rfl)
theorem dX4_findLater_27 : decode cX4_findLater 27 = .ok (.getfield 9, 3) := z_o180 (z_wat (q := 0) (j := 27) zwX4_findLater_0 rfl) (z_wat (q := 0) (j := 28) zwX4_findLater_0 rfl) (z_wat (q := 0) (j := 29) zwX4_findLater_0 rfl) rfl
theorem dX4_findLater_30 : decode cX4_findLater 30 = .ok (.if_icmp .ge 65, 3) := z_o162 (z_wat (q := 0) (j := 30) zwX4_findLater_0 rfl) (z_wat (q := 0) (j := 31) zwX4_findLater_0 rfl) (z_wat (q := 0) (j := 32) zwX4_findLater_0 rfl) rfl
theorem zwX4_findLater_32 : ((cX4_findLater.data.toList.drop 32).take 34).map UInt8.toNat = [65, 42, 27, 3, 182, 0, 72, 154, 0, 12, 42, 27, 4, 182, 0, 72, 153, 0, 41, 42, 180, 0, 22, 42, 180, 0, 29, 42, 180, 0, 41, 180, 0, 76] := by decide +kernel
theorem dX4_findLater_33 : decode cX4_findLater 33 = .ok (.aload_n 0, 1) := z_o42 (z_wat (q := 32) (j := 1) zwX4_findLater_32 rfl)
theorem dX4_findLater_34 : decode cX4_findLater 34 = .ok (.iload_n 1, 1) := z_o27 (z_wat (q := 32) (j := 2) zwX4_findLater_32 rfl)
theorem dX4_findLater_35 : decode cX4_findLater 35 = .ok (.iconst 0, 1) := z_o3 (z_wat (q := 32) (j := 3) zwX4_findLater_32 rfl)
theorem dX4_findLater_36 : decode cX4_findLater 36 = .ok (.invokevirtual 72, 3) := z_o182 (z_wat (q := 32) (j := 4) zwX4_findLater_32 rfl) (z_wat (q := 32) (j := 5) zwX4_findLater_32 rfl) (z_wat (q := 32) (j := 6) zwX4_findLater_32 rfl) rfl
theorem dX4_findLater_39 : decode cX4_findLater 39 = .ok (.ifCond .ne 12, 3) := z_o154 (z_wat (q := 32) (j := 7) zwX4_findLater_32 rfl) (z_wat (q := 32) (j := 8) zwX4_findLater_32 rfl) (z_wat (q := 32) (j := 9) zwX4_findLater_32 rfl) rfl
theorem dX4_findLater_42 : decode cX4_findLater 42 = .ok (.aload_n 0, 1) := z_o42 (z_wat (q := 32) (j := 10) zwX4_findLater_32 rfl)
theorem dX4_findLater_43 : decode cX4_findLater 43 = .ok (.iload_n 1, 1) := z_o27 (z_wat (q := 32) (j := 11) zwX4_findLater_32 rfl)
theorem dX4_findLater_44 : decode cX4_findLater 44 = .ok (.iconst 1, 1) := z_o4 (z_wat (q := 32) (j := 12) zwX4_findLater_32 rfl)
theorem dX4_findLater_45 : decode cX4_findLater 45 = .ok (.invokevirtual 72, 3) := z_o182 (z_wat (q := 32) (j := 13) zwX4_findLater_32 rfl) (z_wat (q := 32) (j := 14) zwX4_findLater_32 rfl) (z_wat (q := 32) (j := 15) zwX4_findLater_32 rfl) rfl
theorem dX4_findLater_48 : decode cX4_findLater 48 = .ok (.ifCond .eq 41, 3) := z_o153 (z_wat (q := 32) (j := 16) zwX4_findLater_32 rfl) (z_wat (q := 32) (j := 17) zwX4_findLater_32 rfl) (z_wat (q := 32) (j := 18) zwX4_findLater_32 rfl) rfl
theorem dX4_findLater_51 : decode cX4_findLater 51 = .ok (.aload_n 0, 1) := z_o42 (z_wat (q := 32) (j := 19) zwX4_findLater_32 rfl)
theorem dX4_findLater_52 : decode cX4_findLater 52 = .ok (.getfield 22, 3) := z_o180 (z_wat (q := 32) (j := 20) zwX4_findLater_32 rfl) (z_wat (q := 32) (j := 21) zwX4_findLater_32 rfl) (z_wat (q := 32) (j := 22) zwX4_findLater_32 rfl) rfl
theorem dX4_findLater_55 : decode cX4_findLater 55 = .ok (.aload_n 0, 1) := z_o42 (z_wat (q := 32) (j := 23) zwX4_findLater_32 rfl)
theorem dX4_findLater_56 : decode cX4_findLater 56 = .ok (.getfield 29, 3) := z_o180 (z_wat (q := 32) (j := 24) zwX4_findLater_32 rfl) (z_wat (q := 32) (j := 25) zwX4_findLater_32 rfl) (z_wat (q := 32) (j := 26) zwX4_findLater_32 rfl) rfl
theorem dX4_findLater_59 : decode cX4_findLater 59 = .ok (.aload_n 0, 1) := z_o42 (z_wat (q := 32) (j := 27) zwX4_findLater_32 rfl)
theorem dX4_findLater_60 : decode cX4_findLater 60 = .ok (.getfield 41, 3) := z_o180 (z_wat (q := 32) (j := 28) zwX4_findLater_32 rfl) (z_wat (q := 32) (j := 29) zwX4_findLater_32 rfl) (z_wat (q := 32) (j := 30) zwX4_findLater_32 rfl) rfl
theorem dX4_findLater_63 : decode cX4_findLater 63 = .ok (.getfield 76, 3) := z_o180 (z_wat (q := 32) (j := 31) zwX4_findLater_32 rfl) (z_wat (q := 32) (j := 32) zwX4_findLater_32 rfl) (z_wat (q := 32) (j := 33) zwX4_findLater_32 rfl) rfl
theorem zwX4_findLater_64 : ((cX4_findLater.data.toList.drop 64).take 34).map UInt8.toNat = [0, 76, 27, 46, 46, 92, 46, 4, 42, 180, 0, 29, 42, 180, 0, 41, 180, 0, 79, 27, 46, 46, 120, 128, 79, 132, 1, 1, 167, 255, 189, 3, 60, 27] := by decide +kernel
theorem dX4_findLater_66 : decode cX4_findLater 66 = .ok (.iload_n 1, 1) := z_o27 (z_wat (q := 64) (j := 2) zwX4_findLater_64 rfl)
theorem dX4_findLater_67 : decode cX4_findLater 67 = .ok (.iaload, 1) := z_o46 (z_wat (q := 64) (j := 3) zwX4_findLater_64 rfl)
theorem dX4_findLater_68 : decode cX4_findLater 68 = .ok (.iaload, 1) := z_o46 (z_wat (q := 64) (j := 4) zwX4_findLater_64 rfl)
theorem dX4_findLater_69 : decode cX4_findLater 69 = .ok (.dup2, 1) := z_o92 (z_wat (q := 64) (j := 5) zwX4_findLater_64 rfl)
theorem dX4_findLater_70 : decode cX4_findLater 70 = .ok (.iaload, 1) := z_o46 (z_wat (q := 64) (j := 6) zwX4_findLater_64 rfl)
theorem dX4_findLater_71 : decode cX4_findLater 71 = .ok (.iconst 1, 1) := z_o4 (z_wat (q := 64) (j := 7) zwX4_findLater_64 rfl)
theorem dX4_findLater_72 : decode cX4_findLater 72 = .ok (.aload_n 0, 1) := z_o42 (z_wat (q := 64) (j := 8) zwX4_findLater_64 rfl)
theorem dX4_findLater_73 : decode cX4_findLater 73 = .ok (.getfield 29, 3) := z_o180 (z_wat (q := 64) (j := 9) zwX4_findLater_64 rfl) (z_wat (q := 64) (j := 10) zwX4_findLater_64 rfl) (z_wat (q := 64) (j := 11) zwX4_findLater_64 rfl) rfl
theorem dX4_findLater_76 : decode cX4_findLater 76 = .ok (.aload_n 0, 1) := z_o42 (z_wat (q := 64) (j := 12) zwX4_findLater_64 rfl)
theorem dX4_findLater_77 : decode cX4_findLater 77 = .ok (.getfield 41, 3) := z_o180 (z_wat (q := 64) (j := 13) zwX4_findLater_64 rfl) (z_wat (q := 64) (j := 14) zwX4_findLater_64 rfl) (z_wat (q := 64) (j := 15) zwX4_findLater_64 rfl) rfl
theorem dX4_findLater_80 : decode cX4_findLater 80 = .ok (.getfield 79, 3) := z_o180 (z_wat (q := 64) (j := 16) zwX4_findLater_64 rfl) (z_wat (q := 64) (j := 17) zwX4_findLater_64 rfl) (z_wat (q := 64) (j := 18) zwX4_findLater_64 rfl) rfl
theorem dX4_findLater_83 : decode cX4_findLater 83 = .ok (.iload_n 1, 1) := z_o27 (z_wat (q := 64) (j := 19) zwX4_findLater_64 rfl)
theorem dX4_findLater_84 : decode cX4_findLater 84 = .ok (.iaload, 1) := z_o46 (z_wat (q := 64) (j := 20) zwX4_findLater_64 rfl)
theorem dX4_findLater_85 : decode cX4_findLater 85 = .ok (.iaload, 1) := z_o46 (z_wat (q := 64) (j := 21) zwX4_findLater_64 rfl)
theorem dX4_findLater_86 : decode cX4_findLater 86 = .ok (.ishl, 1) := z_o120 (z_wat (q := 64) (j := 22) zwX4_findLater_64 rfl)
theorem dX4_findLater_87 : decode cX4_findLater 87 = .ok (.ior, 1) := z_o128 (z_wat (q := 64) (j := 23) zwX4_findLater_64 rfl)
theorem dX4_findLater_88 : decode cX4_findLater 88 = .ok (.iastore, 1) := z_o79 (z_wat (q := 64) (j := 24) zwX4_findLater_64 rfl)
theorem dX4_findLater_89 : decode cX4_findLater 89 = .ok (.iinc 1 1, 3) := z_o132 (z_wat (q := 64) (j := 25) zwX4_findLater_64 rfl) (z_wat (q := 64) (j := 26) zwX4_findLater_64 rfl) (z_wat (q := 64) (j := 27) zwX4_findLater_64 rfl) rfl
theorem dX4_findLater_92 : decode cX4_findLater 92 = .ok (.goto (-67), 3) := z_o167 (z_wat (q := 64) (j := 28) zwX4_findLater_64 rfl) (z_wat (q := 64) (j := 29) zwX4_findLater_64 rfl) (z_wat (q := 64) (j := 30) zwX4_findLater_64 rfl) rfl
theorem dX4_findLater_95 : decode cX4_findLater 95 = .ok (.iconst 0, 1) := z_o3 (z_wat (q := 64) (j := 31) zwX4_findLater_64 rfl)
theorem zwX4_findLater_96 : ((cX4_findLater.data.toList.drop 96).take 34).map UInt8.toNat = [60, 27, 42, 180, 0, 15, 162, 0, 49, 3, 61, 28, 42, 180, 0, 15, 162, 0, 33, 42, 28, 27, 182, 0, 95, 153, 0, 18, 42, 180, 0, 22, 28, 92] := by decide +kernel
theorem dX4_findLater_96 : decode cX4_findLater 96 = .ok (.istore_n 1, 1) := z_o60 (z_wat (q := 96) (j := 0) zwX4_findLater_96 rfl)
theorem dX4_findLater_97 : decode cX4_findLater 97 = .ok (.iload_n 1, 1) := z_o27 (z_wat (q := 96) (j := 1) zwX4_findLater_96 rfl)
theorem dX4_findLater_98 : decode cX4_findLater 98 = .ok (.aload_n 0, 1) := z_o42 (z_wat (q := 96) (j := 2) zwX4_findLater_96 rfl)
theorem dX4_findLater_99 : decode cX4_findLater 99 = .ok (.getfield 15, 3) := z_o180 (z_wat (q := 96) (j := 3) zwX4_findLater_96 rfl) (z_wat (q := 96) (j := 4) zwX4_findLater_96 rfl) (z_wat (q := 96) (j := 5) zwX4_findLater_96 rfl) rfl
theorem dX4_findLater_102 : decode cX4_findLater 102 = .ok (.if_icmp .ge 49, 3) := z_o162 (z_wat (q := 96) (j := 6) zwX4_findLater_96 rfl) (z_wat (q := 96) (j := 7) zwX4_findLater_96 rfl) (z_wat (q := 96) (j := 8) zwX4_findLater_96 rfl) rfl
theorem dX4_findLater_105 : decode cX4_findLater 105 = .ok (.iconst 0, 1) := z_o3 (z_wat (q := 96) (j := 9) zwX4_findLater_96 rfl)
theorem dX4_findLater_106 : decode cX4_findLater 106 = .ok (.istore_n 2, 1) := z_o61 (z_wat (q := 96) (j := 10) zwX4_findLater_96 rfl)
theorem dX4_findLater_107 : decode cX4_findLater 107 = .ok (.iload_n 2, 1) := z_o28 (z_wat (q := 96) (j := 11) zwX4_findLater_96 rfl)
theorem dX4_findLater_108 : decode cX4_findLater 108 = .ok (.aload_n 0, 1) := z_o42 (z_wat (q := 96) (j := 12) zwX4_findLater_96 rfl)
theorem dX4_findLater_109 : decode cX4_findLater 109 = .ok (.getfield 15, 3) := z_o180 (z_wat (q := 96) (j := 13) zwX4_findLater_96 rfl) (z_wat (q := 96) (j := 14) zwX4_findLater_96 rfl) (z_wat (q := 96) (j := 15) zwX4_findLater_96 rfl) rfl
theorem dX4_findLater_112 : decode cX4_findLater 112 = .ok (.if_icmp .ge 33, 3) := z_o162 (z_wat (q := 96) (j := 16) zwX4_findLater_96 rfl) (z_wat (q := 96) (j := 17) zwX4_findLater_96 rfl) (z_wat (q := 96) (j := 18) zwX4_findLater_96 rfl) rfl
theorem dX4_findLater_115 : decode cX4_findLater 115 = .ok (.aload_n 0, 1) := z_o42 (z_wat (q := 96) (j := 19) zwX4_findLater_96 rfl)
theorem dX4_findLater_116 : decode cX4_findLater 116 = .ok (.iload_n 2, 1) := z_o28 (z_wat (q := 96) (j := 20) zwX4_findLater_96 rfl)
theorem dX4_findLater_117 : decode cX4_findLater 117 = .ok (.iload_n 1, 1) := z_o27 (z_wat (q := 96) (j := 21) zwX4_findLater_96 rfl)
theorem dX4_findLater_118 : decode cX4_findLater 118 = .ok (.invokevirtual 95, 3) := z_o182 (z_wat (q := 96) (j := 22) zwX4_findLater_96 rfl) (z_wat (q := 96) (j := 23) zwX4_findLater_96 rfl) (z_wat (q := 96) (j := 24) zwX4_findLater_96 rfl) rfl
theorem dX4_findLater_121 : decode cX4_findLater 121 = .ok (.ifCond .eq 18, 3) := z_o153 (z_wat (q := 96) (j := 25) zwX4_findLater_96 rfl) (z_wat (q := 96) (j := 26) zwX4_findLater_96 rfl) (z_wat (q := 96) (j := 27) zwX4_findLater_96 rfl) rfl
theorem dX4_findLater_124 : decode cX4_findLater 124 = .ok (.aload_n 0, 1) := z_o42 (z_wat (q := 96) (j := 28) zwX4_findLater_96 rfl)
theorem dX4_findLater_125 : decode cX4_findLater 125 = .ok (.getfield 22, 3) := z_o180 (z_wat (q := 96) (j := 29) zwX4_findLater_96 rfl) (z_wat (q := 96) (j := 30) zwX4_findLater_96 rfl) (z_wat (q := 96) (j := 31) zwX4_findLater_96 rfl) rfl
theorem zwX4_findLater_128 : ((cX4_findLater.data.toList.drop 128).take 24).map UInt8.toNat = [28, 92, 46, 42, 180, 0, 22, 27, 46, 128, 79, 132, 2, 1, 167, 255, 221, 132, 1, 1, 167, 255, 205, 177] := by decide +kernel
theorem dX4_findLater_128 : decode cX4_findLater 128 = .ok (.iload_n 2, 1) := z_o28 (z_wat (q := 128) (j := 0) zwX4_findLater_128 rfl)
theorem dX4_findLater_129 : decode cX4_findLater 129 = .ok (.dup2, 1) := z_o92 (z_wat (q := 128) (j := 1) zwX4_findLater_128 rfl)
theorem dX4_findLater_130 : decode cX4_findLater 130 = .ok (.iaload, 1) := z_o46 (z_wat (q := 128) (j := 2) zwX4_findLater_128 rfl)
theorem dX4_findLater_131 : decode cX4_findLater 131 = .ok (.aload_n 0, 1) := z_o42 (z_wat (q := 128) (j := 3) zwX4_findLater_128 rfl)
theorem dX4_findLater_132 : decode cX4_findLater 132 = .ok (.getfield 22, 3) := z_o180 (z_wat (q := 128) (j := 4) zwX4_findLater_128 rfl) (z_wat (q := 128) (j := 5) zwX4_findLater_128 rfl) (z_wat (q := 128) (j := 6) zwX4_findLater_128 rfl) rfl
theorem dX4_findLater_135 : decode cX4_findLater 135 = .ok (.iload_n 1, 1) := z_o27 (z_wat (q := 128) (j := 7) zwX4_findLater_128 rfl)
theorem dX4_findLater_136 : decode cX4_findLater 136 = .ok (.iaload, 1) := z_o46 (z_wat (q := 128) (j := 8) zwX4_findLater_128 rfl)
theorem dX4_findLater_137 : decode cX4_findLater 137 = .ok (.ior, 1) := z_o128 (z_wat (q := 128) (j := 9) zwX4_findLater_128 rfl)
theorem dX4_findLater_138 : decode cX4_findLater 138 = .ok (.iastore, 1) := z_o79 (z_wat (q := 128) (j := 10) zwX4_findLater_128 rfl)
theorem dX4_findLater_139 : decode cX4_findLater 139 = .ok (.iinc 2 1, 3) := z_o132 (z_wat (q := 128) (j := 11) zwX4_findLater_128 rfl) (z_wat (q := 128) (j := 12) zwX4_findLater_128 rfl) (z_wat (q := 128) (j := 13) zwX4_findLater_128 rfl) rfl
theorem dX4_findLater_142 : decode cX4_findLater 142 = .ok (.goto (-35), 3) := z_o167 (z_wat (q := 128) (j := 14) zwX4_findLater_128 rfl) (z_wat (q := 128) (j := 15) zwX4_findLater_128 rfl) (z_wat (q := 128) (j := 16) zwX4_findLater_128 rfl) rfl
theorem dX4_findLater_145 : decode cX4_findLater 145 = .ok (.iinc 1 1, 3) := z_o132 (z_wat (q := 128) (j := 17) zwX4_findLater_128 rfl) (z_wat (q := 128) (j := 18) zwX4_findLater_128 rfl) (z_wat (q := 128) (j := 19) zwX4_findLater_128 rfl) rfl
theorem dX4_findLater_148 : decode cX4_findLater 148 = .ok (.goto (-51), 3) := z_o167 (z_wat (q := 128) (j := 20) zwX4_findLater_128 rfl) (z_wat (q := 128) (j := 21) zwX4_findLater_128 rfl) (z_wat (q := 128) (j := 22) zwX4_findLater_128 rfl) rfl
theorem dX4_findLater_151 : decode cX4_findLater 151 = .ok (.return_, 1) := z_o177 (z_wat (q := 128) (j := 23) zwX4_findLater_128 rfl)
theorem zwX4_findStruck_0 : ((cX4_findStruck.data.toList.drop 0).take 34).map UInt8.toNat = [3, 60, 27, 42, 180, 0, 9, 162, 0, 16, 42, 180, 0, 18, 27, 3, 84, 132, 1, 1, 167, 255, 238, 42, 180, 0, 9, 4, 100, 60, 27, 155, 0, 46] := by decide +kernel
theorem dX4_findStruck_0 : decode cX4_findStruck 0 = .ok (.iconst 0, 1) := z_o3 (z_wat (q := 0) (j := 0) zwX4_findStruck_0 rfl)
theorem dX4_findStruck_1 : decode cX4_findStruck 1 = .ok (.istore_n 1, 1) := z_o60 (z_wat (q := 0) (j := 1) zwX4_findStruck_0 rfl)
theorem dX4_findStruck_2 : decode cX4_findStruck 2 = .ok (.iload_n 1, 1) := z_o27 (z_wat (q := 0) (j := 2) zwX4_findStruck_0 rfl)
theorem dX4_findStruck_3 : decode cX4_findStruck 3 = .ok (.aload_n 0, 1) := z_o42 (z_wat (q := 0) (j := 3) zwX4_findStruck_0 rfl)
theorem dX4_findStruck_4 : decode cX4_findStruck 4 = .ok (.getfield 9, 3) := z_o180 (z_wat (q := 0) (j := 4) zwX4_findStruck_0 rfl) (z_wat (q := 0) (j := 5) zwX4_findStruck_0 rfl) (z_wat (q := 0) (j := 6) zwX4_findStruck_0 rfl) rfl
theorem dX4_findStruck_7 : decode cX4_findStruck 7 = .ok (.if_icmp .ge 16, 3) := z_o162 (z_wat (q := 0) (j := 7) zwX4_findStruck_0 rfl) (z_wat (q := 0) (j := 8) zwX4_findStruck_0 rfl) (z_wat (q := 0) (j := 9) zwX4_findStruck_0 rfl) rfl
theorem dX4_findStruck_10 : decode cX4_findStruck 10 = .ok (.aload_n 0, 1) := z_o42 (z_wat (q := 0) (j := 10) zwX4_findStruck_0 rfl)
theorem dX4_findStruck_11 : decode cX4_findStruck 11 = .ok (.getfield 18, 3) := z_o180 (z_wat (q := 0) (j := 11) zwX4_findStruck_0 rfl) (z_wat (q := 0) (j := 12) zwX4_findStruck_0 rfl) (z_wat (q := 0) (j := 13) zwX4_findStruck_0 rfl) rfl
theorem dX4_findStruck_14 : decode cX4_findStruck 14 = .ok (.iload_n 1, 1) := z_o27 (z_wat (q := 0) (j := 14) zwX4_findStruck_0 rfl)
theorem dX4_findStruck_15 : decode cX4_findStruck 15 = .ok (.iconst 0, 1) := z_o3 (z_wat (q := 0) (j := 15) zwX4_findStruck_0 rfl)
theorem dX4_findStruck_16 : decode cX4_findStruck 16 = .ok (.bastore, 1) := z_o84 (z_wat (q := 0) (j := 16) zwX4_findStruck_0 rfl)
theorem dX4_findStruck_17 : decode cX4_findStruck 17 = .ok (.iinc 1 1, 3) := z_o132 (z_wat (q := 0) (j := 17) zwX4_findStruck_0 rfl) (z_wat (q := 0) (j := 18) zwX4_findStruck_0 rfl) (z_wat (q := 0) (j := 19) zwX4_findStruck_0 rfl) rfl
theorem dX4_findStruck_20 : decode cX4_findStruck 20 = .ok (.goto (-18), 3) := z_o167 (z_wat (q := 0) (j := 20) zwX4_findStruck_0 rfl) (z_wat (q := 0) (j := 21) zwX4_findStruck_0 rfl) (z_wat (q := 0) (j := 22) zwX4_findStruck_0 rfl) rfl
theorem dX4_findStruck_23 : decode cX4_findStruck 23 = .ok (.aload_n 0, 1) := z_o42 (z_wat (q := 0) (j := 23) zwX4_findStruck_0 rfl)
theorem dX4_findStruck_24 : decode cX4_findStruck 24 = .ok (.getfield 9, 3) := z_o180 (z_wat (q := 0) (j := 24) zwX4_findStruck_0 rfl) (z_wat (q := 0) (j := 25) zwX4_findStruck_0 rfl) (z_wat (q := 0) (j := 26) zwX4_findStruck_0 rfl) rfl
theorem dX4_findStruck_27 : decode cX4_findStruck 27 = .ok (.iconst 1, 1) := z_o4 (z_wat (q := 0) (j := 27) zwX4_findStruck_0 rfl)
theorem dX4_findStruck_28 : decode cX4_findStruck 28 = .ok (.isub, 1) := z_o100 (z_wat (q := 0) (j := 28) zwX4_findStruck_0 rfl)
theorem dX4_findStruck_29 : decode cX4_findStruck 29 = .ok (.istore_n 1, 1) := z_o60 (z_wat (q := 0) (j := 29) zwX4_findStruck_0 rfl)
theorem dX4_findStruck_30 : decode cX4_findStruck 30 = .ok (.iload_n 1, 1) := z_o27 (z_wat (q := 0) (j := 30) zwX4_findStruck_0 rfl)
theorem dX4_findStruck_31 : decode cX4_findStruck 31 = .ok (.ifCond .lt 46, 3) := z_o155 (z_wat (q := 0) (j := 31) zwX4_findStruck_0 rfl) (z_wat (q := 0) (j := 32) zwX4_findStruck_0 rfl) (z_wat (q := 0) (j := 33) zwX4_findStruck_0 rfl) rfl
theorem zwX4_findStruck_32 : ((cX4_findStruck.data.toList.drop 32).take 34).map UInt8.toNat = [0, 46, 42, 27, 8, 182, 0, 72, 153, 0, 31, 42, 180, 0, 41, 180, 0, 76, 27, 46, 27, 162, 0, 18, 42, 180, 0, 18, 42, 180, 0, 41, 180, 0] := by decide +kernel
theorem dX4_findStruck_34 : decode cX4_findStruck 34 = .ok (.aload_n 0, 1) := z_o42 (z_wat (q := 32) (j := 2) zwX4_findStruck_32 rfl)
theorem dX4_findStruck_35 : decode cX4_findStruck 35 = .ok (.iload_n 1, 1) := z_o27 (z_wat (q := 32) (j := 3) zwX4_findStruck_32 rfl)
theorem dX4_findStruck_36 : decode cX4_findStruck 36 = .ok (.iconst 5, 1) := z_o8 (z_wat (q := 32) (j := 4) zwX4_findStruck_32 rfl)
theorem dX4_findStruck_37 : decode cX4_findStruck 37 = .ok (.invokevirtual 72, 3) := z_o182 (z_wat (q := 32) (j := 5) zwX4_findStruck_32 rfl) (z_wat (q := 32) (j := 6) zwX4_findStruck_32 rfl) (z_wat (q := 32) (j := 7) zwX4_findStruck_32 rfl) rfl
theorem dX4_findStruck_40 : decode cX4_findStruck 40 = .ok (.ifCond .eq 31, 3) := z_o153 (z_wat (q := 32) (j := 8) zwX4_findStruck_32 rfl) (z_wat (q := 32) (j := 9) zwX4_findStruck_32 rfl) (z_wat (q := 32) (j := 10) zwX4_findStruck_32 rfl) rfl
theorem dX4_findStruck_43 : decode cX4_findStruck 43 = .ok (.aload_n 0, 1) := z_o42 (z_wat (q := 32) (j := 11) zwX4_findStruck_32 rfl)
theorem dX4_findStruck_44 : decode cX4_findStruck 44 = .ok (.getfield 41, 3) := z_o180 (z_wat (q := 32) (j := 12) zwX4_findStruck_32 rfl) (z_wat (q := 32) (j := 13) zwX4_findStruck_32 rfl) (z_wat (q := 32) (j := 14) zwX4_findStruck_32 rfl) rfl
theorem dX4_findStruck_47 : decode cX4_findStruck 47 = .ok (.getfield 76, 3) := z_o180 (z_wat (q := 32) (j := 15) zwX4_findStruck_32 rfl) (z_wat (q := 32) (j := 16) zwX4_findStruck_32 rfl) (z_wat (q := 32) (j := 17) zwX4_findStruck_32 rfl) rfl
theorem dX4_findStruck_50 : decode cX4_findStruck 50 = .ok (.iload_n 1, 1) := z_o27 (z_wat (q := 32) (j := 18) zwX4_findStruck_32 rfl)
theorem dX4_findStruck_51 : decode cX4_findStruck 51 = .ok (.iaload, 1) := z_o46 (z_wat (q := 32) (j := 19) zwX4_findStruck_32 rfl)
theorem dX4_findStruck_52 : decode cX4_findStruck 52 = .ok (.iload_n 1, 1) := z_o27 (z_wat (q := 32) (j := 20) zwX4_findStruck_32 rfl)
theorem dX4_findStruck_53 : decode cX4_findStruck 53 = .ok (.if_icmp .ge 18, 3) := z_o162 (z_wat (q := 32) (j := 21) zwX4_findStruck_32 rfl) (z_wat (q := 32) (j := 22) zwX4_findStruck_32 rfl) (z_wat (q := 32) (j := 23) zwX4_findStruck_32 rfl) rfl
theorem dX4_findStruck_56 : decode cX4_findStruck 56 = .ok (.aload_n 0, 1) := z_o42 (z_wat (q := 32) (j := 24) zwX4_findStruck_32 rfl)
theorem dX4_findStruck_57 : decode cX4_findStruck 57 = .ok (.getfield 18, 3) := z_o180 (z_wat (q := 32) (j := 25) zwX4_findStruck_32 rfl) (z_wat (q := 32) (j := 26) zwX4_findStruck_32 rfl) (z_wat (q := 32) (j := 27) zwX4_findStruck_32 rfl) rfl
theorem dX4_findStruck_60 : decode cX4_findStruck 60 = .ok (.aload_n 0, 1) := z_o42 (z_wat (q := 32) (j := 28) zwX4_findStruck_32 rfl)
theorem dX4_findStruck_61 : decode cX4_findStruck 61 = .ok (.getfield 41, 3) := z_o180 (z_wat (q := 32) (j := 29) zwX4_findStruck_32 rfl) (z_wat (q := 32) (j := 30) zwX4_findStruck_32 rfl) (z_wat (q := 32) (j := 31) zwX4_findStruck_32 rfl) rfl
theorem zwX4_findStruck_64 : ((cX4_findStruck.data.toList.drop 64).take 14).map UInt8.toNat = [180, 0, 76, 27, 46, 4, 84, 132, 1, 255, 167, 255, 212, 177] := by decide +kernel
theorem dX4_findStruck_64 : decode cX4_findStruck 64 = .ok (.getfield 76, 3) := z_o180 (z_wat (q := 64) (j := 0) zwX4_findStruck_64 rfl) (z_wat (q := 64) (j := 1) zwX4_findStruck_64 rfl) (z_wat (q := 64) (j := 2) zwX4_findStruck_64 rfl) rfl
theorem dX4_findStruck_67 : decode cX4_findStruck 67 = .ok (.iload_n 1, 1) := z_o27 (z_wat (q := 64) (j := 3) zwX4_findStruck_64 rfl)
theorem dX4_findStruck_68 : decode cX4_findStruck 68 = .ok (.iaload, 1) := z_o46 (z_wat (q := 64) (j := 4) zwX4_findStruck_64 rfl)
theorem dX4_findStruck_69 : decode cX4_findStruck 69 = .ok (.iconst 1, 1) := z_o4 (z_wat (q := 64) (j := 5) zwX4_findStruck_64 rfl)
theorem dX4_findStruck_70 : decode cX4_findStruck 70 = .ok (.bastore, 1) := z_o84 (z_wat (q := 64) (j := 6) zwX4_findStruck_64 rfl)
theorem dX4_findStruck_71 : decode cX4_findStruck 71 = .ok (.iinc 1 (-1), 3) := z_o132 (z_wat (q := 64) (j := 7) zwX4_findStruck_64 rfl) (z_wat (q := 64) (j := 8) zwX4_findStruck_64 rfl) (z_wat (q := 64) (j := 9) zwX4_findStruck_64 rfl) rfl
theorem dX4_findStruck_74 : decode cX4_findStruck 74 = .ok (.goto (-44), 3) := z_o167 (z_wat (q := 64) (j := 10) zwX4_findStruck_64 rfl) (z_wat (q := 64) (j := 11) zwX4_findStruck_64 rfl) (z_wat (q := 64) (j := 12) zwX4_findStruck_64 rfl) rfl
theorem dX4_findStruck_77 : decode cX4_findStruck 77 = .ok (.return_, 1) := z_o177 (z_wat (q := 64) (j := 13) zwX4_findStruck_64 rfl)
theorem zwX4_joinBeds_0 : ((cX4_joinBeds.data.toList.drop 0).take 34).map UInt8.toNat = [3, 60, 27, 42, 180, 0, 15, 162, 0, 16, 42, 180, 0, 29, 27, 27, 79, 132, 1, 1, 167, 255, 238, 3, 60, 27, 42, 180, 0, 9, 162, 0, 50, 42] := by decide +kernel
theorem dX4_joinBeds_0 : decode cX4_joinBeds 0 = .ok (.iconst 0, 1) := z_o3 (z_wat (q := 0) (j := 0) zwX4_joinBeds_0 rfl)
theorem dX4_joinBeds_1 : decode cX4_joinBeds 1 = .ok (.istore_n 1, 1) := z_o60 (z_wat (q := 0) (j := 1) zwX4_joinBeds_0 rfl)
theorem dX4_joinBeds_2 : decode cX4_joinBeds 2 = .ok (.iload_n 1, 1) := z_o27 (z_wat (q := 0) (j := 2) zwX4_joinBeds_0 rfl)
theorem dX4_joinBeds_3 : decode cX4_joinBeds 3 = .ok (.aload_n 0, 1) := z_o42 (z_wat (q := 0) (j := 3) zwX4_joinBeds_0 rfl)
theorem dX4_joinBeds_4 : decode cX4_joinBeds 4 = .ok (.getfield 15, 3) := z_o180 (z_wat (q := 0) (j := 4) zwX4_joinBeds_0 rfl) (z_wat (q := 0) (j := 5) zwX4_joinBeds_0 rfl) (z_wat (q := 0) (j := 6) zwX4_joinBeds_0 rfl) rfl
theorem dX4_joinBeds_7 : decode cX4_joinBeds 7 = .ok (.if_icmp .ge 16, 3) := z_o162 (z_wat (q := 0) (j := 7) zwX4_joinBeds_0 rfl) (z_wat (q := 0) (j := 8) zwX4_joinBeds_0 rfl) (z_wat (q := 0) (j := 9) zwX4_joinBeds_0 rfl) rfl
theorem dX4_joinBeds_10 : decode cX4_joinBeds 10 = .ok (.aload_n 0, 1) := z_o42 (z_wat (q := 0) (j := 10) zwX4_joinBeds_0 rfl)
theorem dX4_joinBeds_11 : decode cX4_joinBeds 11 = .ok (.getfield 29, 3) := z_o180 (z_wat (q := 0) (j := 11) zwX4_joinBeds_0 rfl) (z_wat (q := 0) (j := 12) zwX4_joinBeds_0 rfl) (z_wat (q := 0) (j := 13) zwX4_joinBeds_0 rfl) rfl
theorem dX4_joinBeds_14 : decode cX4_joinBeds 14 = .ok (.iload_n 1, 1) := z_o27 (z_wat (q := 0) (j := 14) zwX4_joinBeds_0 rfl)
theorem dX4_joinBeds_15 : decode cX4_joinBeds 15 = .ok (.iload_n 1, 1) := z_o27 (z_wat (q := 0) (j := 15) zwX4_joinBeds_0 rfl)
theorem dX4_joinBeds_16 : decode cX4_joinBeds 16 = .ok (.iastore, 1) := z_o79 (z_wat (q := 0) (j := 16) zwX4_joinBeds_0 rfl)
theorem dX4_joinBeds_17 : decode cX4_joinBeds 17 = .ok (.iinc 1 1, 3) := z_o132 (z_wat (q := 0) (j := 17) zwX4_joinBeds_0 rfl) (z_wat (q := 0) (j := 18) zwX4_joinBeds_0 rfl) (z_wat (q := 0) (j := 19) zwX4_joinBeds_0 rfl) rfl
theorem dX4_joinBeds_20 : decode cX4_joinBeds 20 = .ok (.goto (-18), 3) := z_o167 (z_wat (q := 0) (j := 20) zwX4_joinBeds_0 rfl) (z_wat (q := 0) (j := 21) zwX4_joinBeds_0 rfl) (z_wat (q := 0) (j := 22) zwX4_joinBeds_0 rfl) rfl
theorem dX4_joinBeds_23 : decode cX4_joinBeds 23 = .ok (.iconst 0, 1) := z_o3 (z_wat (q := 0) (j := 23) zwX4_joinBeds_0 rfl)
theorem dX4_joinBeds_24 : decode cX4_joinBeds 24 = .ok (.istore_n 1, 1) := z_o60 (z_wat (q := 0) (j := 24) zwX4_joinBeds_0 rfl)
theorem dX4_joinBeds_25 : decode cX4_joinBeds 25 = .ok (.iload_n 1, 1) := z_o27 (z_wat (q := 0) (j := 25) zwX4_joinBeds_0 rfl)
theorem dX4_joinBeds_26 : decode cX4_joinBeds 26 = .ok (.aload_n 0, 1) := z_o42 (z_wat (q := 0) (j := 26) zwX4_joinBeds_0 rfl)
theorem dX4_joinBeds_27 : decode cX4_joinBeds 27 = .ok (.getfield 9, 3) := z_o180 (z_wat (q := 0) (j := 27) zwX4_joinBeds_0 rfl) (z_wat (q := 0) (j := 28) zwX4_joinBeds_0 rfl) (z_wat (q := 0) (j := 29) zwX4_joinBeds_0 rfl) rfl
theorem dX4_joinBeds_30 : decode cX4_joinBeds 30 = .ok (.if_icmp .ge 50, 3) := z_o162 (z_wat (q := 0) (j := 30) zwX4_joinBeds_0 rfl) (z_wat (q := 0) (j := 31) zwX4_joinBeds_0 rfl) (z_wat (q := 0) (j := 32) zwX4_joinBeds_0 rfl) rfl
theorem zwX4_joinBeds_32 : ((cX4_joinBeds.data.toList.drop 32).take 34).map UInt8.toNat = [50, 42, 27, 5, 182, 0, 72, 153, 0, 35, 42, 42, 180, 0, 29, 42, 180, 0, 41, 180, 0, 76, 27, 46, 46, 42, 180, 0, 29, 42, 180, 0, 41, 180] := by decide +kernel
theorem dX4_joinBeds_33 : decode cX4_joinBeds 33 = .ok (.aload_n 0, 1) := z_o42 (z_wat (q := 32) (j := 1) zwX4_joinBeds_32 rfl)
theorem dX4_joinBeds_34 : decode cX4_joinBeds 34 = .ok (.iload_n 1, 1) := z_o27 (z_wat (q := 32) (j := 2) zwX4_joinBeds_32 rfl)
theorem dX4_joinBeds_35 : decode cX4_joinBeds 35 = .ok (.iconst 2, 1) := z_o5 (z_wat (q := 32) (j := 3) zwX4_joinBeds_32 rfl)
theorem dX4_joinBeds_36 : decode cX4_joinBeds 36 = .ok (.invokevirtual 72, 3) := z_o182 (z_wat (q := 32) (j := 4) zwX4_joinBeds_32 rfl) (z_wat (q := 32) (j := 5) zwX4_joinBeds_32 rfl) (z_wat (q := 32) (j := 6) zwX4_joinBeds_32 rfl) rfl
theorem dX4_joinBeds_39 : decode cX4_joinBeds 39 = .ok (.ifCond .eq 35, 3) := z_o153 (z_wat (q := 32) (j := 7) zwX4_joinBeds_32 rfl) (z_wat (q := 32) (j := 8) zwX4_joinBeds_32 rfl) (z_wat (q := 32) (j := 9) zwX4_joinBeds_32 rfl) rfl
theorem dX4_joinBeds_42 : decode cX4_joinBeds 42 = .ok (.aload_n 0, 1) := z_o42 (z_wat (q := 32) (j := 10) zwX4_joinBeds_32 rfl)
theorem dX4_joinBeds_43 : decode cX4_joinBeds 43 = .ok (.aload_n 0, 1) := z_o42 (z_wat (q := 32) (j := 11) zwX4_joinBeds_32 rfl)
theorem dX4_joinBeds_44 : decode cX4_joinBeds 44 = .ok (.getfield 29, 3) := z_o180 (z_wat (q := 32) (j := 12) zwX4_joinBeds_32 rfl) (z_wat (q := 32) (j := 13) zwX4_joinBeds_32 rfl) (z_wat (q := 32) (j := 14) zwX4_joinBeds_32 rfl) rfl
theorem dX4_joinBeds_47 : decode cX4_joinBeds 47 = .ok (.aload_n 0, 1) := z_o42 (z_wat (q := 32) (j := 15) zwX4_joinBeds_32 rfl)
theorem dX4_joinBeds_48 : decode cX4_joinBeds 48 = .ok (.getfield 41, 3) := z_o180 (z_wat (q := 32) (j := 16) zwX4_joinBeds_32 rfl) (z_wat (q := 32) (j := 17) zwX4_joinBeds_32 rfl) (z_wat (q := 32) (j := 18) zwX4_joinBeds_32 rfl) rfl
theorem dX4_joinBeds_51 : decode cX4_joinBeds 51 = .ok (.getfield 76, 3) := z_o180 (z_wat (q := 32) (j := 19) zwX4_joinBeds_32 rfl) (z_wat (q := 32) (j := 20) zwX4_joinBeds_32 rfl) (z_wat (q := 32) (j := 21) zwX4_joinBeds_32 rfl) rfl
theorem dX4_joinBeds_54 : decode cX4_joinBeds 54 = .ok (.iload_n 1, 1) := z_o27 (z_wat (q := 32) (j := 22) zwX4_joinBeds_32 rfl)
theorem dX4_joinBeds_55 : decode cX4_joinBeds 55 = .ok (.iaload, 1) := z_o46 (z_wat (q := 32) (j := 23) zwX4_joinBeds_32 rfl)
theorem dX4_joinBeds_56 : decode cX4_joinBeds 56 = .ok (.iaload, 1) := z_o46 (z_wat (q := 32) (j := 24) zwX4_joinBeds_32 rfl)
theorem dX4_joinBeds_57 : decode cX4_joinBeds 57 = .ok (.aload_n 0, 1) := z_o42 (z_wat (q := 32) (j := 25) zwX4_joinBeds_32 rfl)
theorem dX4_joinBeds_58 : decode cX4_joinBeds 58 = .ok (.getfield 29, 3) := z_o180 (z_wat (q := 32) (j := 26) zwX4_joinBeds_32 rfl) (z_wat (q := 32) (j := 27) zwX4_joinBeds_32 rfl) (z_wat (q := 32) (j := 28) zwX4_joinBeds_32 rfl) rfl
theorem dX4_joinBeds_61 : decode cX4_joinBeds 61 = .ok (.aload_n 0, 1) := z_o42 (z_wat (q := 32) (j := 29) zwX4_joinBeds_32 rfl)
theorem dX4_joinBeds_62 : decode cX4_joinBeds 62 = .ok (.getfield 41, 3) := z_o180 (z_wat (q := 32) (j := 30) zwX4_joinBeds_32 rfl) (z_wat (q := 32) (j := 31) zwX4_joinBeds_32 rfl) (z_wat (q := 32) (j := 32) zwX4_joinBeds_32 rfl) rfl
theorem zwX4_joinBeds_64 : ((cX4_joinBeds.data.toList.drop 64).take 17).map UInt8.toNat = [41, 180, 0, 79, 27, 46, 46, 182, 0, 82, 132, 1, 1, 167, 255, 204, 177] := by decide +kernel
theorem dX4_joinBeds_65 : decode cX4_joinBeds 65 = .ok (.getfield 79, 3) := z_o180 (z_wat (q := 64) (j := 1) zwX4_joinBeds_64 rfl) (z_wat (q := 64) (j := 2) zwX4_joinBeds_64 rfl) (z_wat (q := 64) (j := 3) zwX4_joinBeds_64 rfl) rfl
theorem dX4_joinBeds_68 : decode cX4_joinBeds 68 = .ok (.iload_n 1, 1) := z_o27 (z_wat (q := 64) (j := 4) zwX4_joinBeds_64 rfl)
theorem dX4_joinBeds_69 : decode cX4_joinBeds 69 = .ok (.iaload, 1) := z_o46 (z_wat (q := 64) (j := 5) zwX4_joinBeds_64 rfl)
theorem dX4_joinBeds_70 : decode cX4_joinBeds 70 = .ok (.iaload, 1) := z_o46 (z_wat (q := 64) (j := 6) zwX4_joinBeds_64 rfl)
theorem dX4_joinBeds_71 : decode cX4_joinBeds 71 = .ok (.invokevirtual 82, 3) := z_o182 (z_wat (q := 64) (j := 7) zwX4_joinBeds_64 rfl) (z_wat (q := 64) (j := 8) zwX4_joinBeds_64 rfl) (z_wat (q := 64) (j := 9) zwX4_joinBeds_64 rfl) rfl
theorem dX4_joinBeds_74 : decode cX4_joinBeds 74 = .ok (.iinc 1 1, 3) := z_o132 (z_wat (q := 64) (j := 10) zwX4_joinBeds_64 rfl) (z_wat (q := 64) (j := 11) zwX4_joinBeds_64 rfl) (z_wat (q := 64) (j := 12) zwX4_joinBeds_64 rfl) rfl
theorem dX4_joinBeds_77 : decode cX4_joinBeds 77 = .ok (.goto (-52), 3) := z_o167 (z_wat (q := 64) (j := 13) zwX4_joinBeds_64 rfl) (z_wat (q := 64) (j := 14) zwX4_joinBeds_64 rfl) (z_wat (q := 64) (j := 15) zwX4_joinBeds_64 rfl) rfl
theorem dX4_joinBeds_80 : decode cX4_joinBeds 80 = .ok (.return_, 1) := z_o177 (z_wat (q := 64) (j := 16) zwX4_joinBeds_64 rfl)
theorem zwX4_look_0 : ((cX4_look.data.toList.drop 0).take 34).map UInt8.toNat = [27, 42, 180, 0, 9, 160, 0, 18, 42, 180, 0, 41, 180, 0, 45, 42, 180, 0, 15, 160, 0, 4, 177, 42, 27, 181, 0, 9, 42, 42, 180, 0, 41, 180] := by decide +kernel
theorem dX4_look_0 : decode cX4_look 0 = .ok (.iload_n 1, 1) := z_o27 (z_wat (q := 0) (j := 0) zwX4_look_0 rfl)
theorem dX4_look_1 : decode cX4_look 1 = .ok (.aload_n 0, 1) := z_o42 (z_wat (q := 0) (j := 1) zwX4_look_0 rfl)
theorem dX4_look_2 : decode cX4_look 2 = .ok (.getfield 9, 3) := z_o180 (z_wat (q := 0) (j := 2) zwX4_look_0 rfl) (z_wat (q := 0) (j := 3) zwX4_look_0 rfl) (z_wat (q := 0) (j := 4) zwX4_look_0 rfl) rfl
theorem dX4_look_5 : decode cX4_look 5 = .ok (.if_icmp .ne 18, 3) := z_o160 (z_wat (q := 0) (j := 5) zwX4_look_0 rfl) (z_wat (q := 0) (j := 6) zwX4_look_0 rfl) (z_wat (q := 0) (j := 7) zwX4_look_0 rfl) rfl
theorem dX4_look_8 : decode cX4_look 8 = .ok (.aload_n 0, 1) := z_o42 (z_wat (q := 0) (j := 8) zwX4_look_0 rfl)
theorem dX4_look_9 : decode cX4_look 9 = .ok (.getfield 41, 3) := z_o180 (z_wat (q := 0) (j := 9) zwX4_look_0 rfl) (z_wat (q := 0) (j := 10) zwX4_look_0 rfl) (z_wat (q := 0) (j := 11) zwX4_look_0 rfl) rfl
theorem dX4_look_12 : decode cX4_look 12 = .ok (.getfield 45, 3) := z_o180 (z_wat (q := 0) (j := 12) zwX4_look_0 rfl) (z_wat (q := 0) (j := 13) zwX4_look_0 rfl) (z_wat (q := 0) (j := 14) zwX4_look_0 rfl) rfl
theorem dX4_look_15 : decode cX4_look 15 = .ok (.aload_n 0, 1) := z_o42 (z_wat (q := 0) (j := 15) zwX4_look_0 rfl)
theorem dX4_look_16 : decode cX4_look 16 = .ok (.getfield 15, 3) := z_o180 (z_wat (q := 0) (j := 16) zwX4_look_0 rfl) (z_wat (q := 0) (j := 17) zwX4_look_0 rfl) (z_wat (q := 0) (j := 18) zwX4_look_0 rfl) rfl
theorem dX4_look_19 : decode cX4_look 19 = .ok (.if_icmp .ne 4, 3) := z_o160 (z_wat (q := 0) (j := 19) zwX4_look_0 rfl) (z_wat (q := 0) (j := 20) zwX4_look_0 rfl) (z_wat (q := 0) (j := 21) zwX4_look_0 rfl) rfl
theorem dX4_look_22 : decode cX4_look 22 = .ok (.return_, 1) := z_o177 (z_wat (q := 0) (j := 22) zwX4_look_0 rfl)
theorem dX4_look_23 : decode cX4_look 23 = .ok (.aload_n 0, 1) := z_o42 (z_wat (q := 0) (j := 23) zwX4_look_0 rfl)
theorem dX4_look_24 : decode cX4_look 24 = .ok (.iload_n 1, 1) := z_o27 (z_wat (q := 0) (j := 24) zwX4_look_0 rfl)
theorem dX4_look_25 : decode cX4_look 25 = .ok (.putfield 9, 3) := z_o181 (z_wat (q := 0) (j := 25) zwX4_look_0 rfl) (z_wat (q := 0) (j := 26) zwX4_look_0 rfl) (z_wat (q := 0) (j := 27) zwX4_look_0 rfl) rfl
theorem dX4_look_28 : decode cX4_look 28 = .ok (.aload_n 0, 1) := z_o42 (z_wat (q := 0) (j := 28) zwX4_look_0 rfl)
theorem dX4_look_29 : decode cX4_look 29 = .ok (.aload_n 0, 1) := z_o42 (z_wat (q := 0) (j := 29) zwX4_look_0 rfl)
theorem dX4_look_30 : decode cX4_look 30 = .ok (.getfield 41, 3) := z_o180 (z_wat (q := 0) (j := 30) zwX4_look_0 rfl) (z_wat (q := 0) (j := 31) zwX4_look_0 rfl) (z_wat (q := 0) (j := 32) zwX4_look_0 rfl) rfl
theorem zwX4_look_32 : ((cX4_look.data.toList.drop 32).take 34).map UInt8.toNat = [41, 180, 0, 45, 181, 0, 15, 42, 182, 0, 50, 42, 182, 0, 53, 42, 182, 0, 56, 42, 42, 182, 0, 59, 153, 0, 7, 4, 167, 0, 4, 3, 181, 0] := by decide +kernel
theorem dX4_look_33 : decode cX4_look 33 = .ok (.getfield 45, 3) := z_o180 (z_wat (q := 32) (j := 1) zwX4_look_32 rfl) (z_wat (q := 32) (j := 2) zwX4_look_32 rfl) (z_wat (q := 32) (j := 3) zwX4_look_32 rfl) rfl
theorem dX4_look_36 : decode cX4_look 36 = .ok (.putfield 15, 3) := z_o181 (z_wat (q := 32) (j := 4) zwX4_look_32 rfl) (z_wat (q := 32) (j := 5) zwX4_look_32 rfl) (z_wat (q := 32) (j := 6) zwX4_look_32 rfl) rfl
theorem dX4_look_39 : decode cX4_look 39 = .ok (.aload_n 0, 1) := z_o42 (z_wat (q := 32) (j := 7) zwX4_look_32 rfl)
theorem dX4_look_40 : decode cX4_look 40 = .ok (.invokevirtual 50, 3) := z_o182 (z_wat (q := 32) (j := 8) zwX4_look_32 rfl) (z_wat (q := 32) (j := 9) zwX4_look_32 rfl) (z_wat (q := 32) (j := 10) zwX4_look_32 rfl) rfl
theorem dX4_look_43 : decode cX4_look 43 = .ok (.aload_n 0, 1) := z_o42 (z_wat (q := 32) (j := 11) zwX4_look_32 rfl)
theorem dX4_look_44 : decode cX4_look 44 = .ok (.invokevirtual 53, 3) := z_o182 (z_wat (q := 32) (j := 12) zwX4_look_32 rfl) (z_wat (q := 32) (j := 13) zwX4_look_32 rfl) (z_wat (q := 32) (j := 14) zwX4_look_32 rfl) rfl
theorem dX4_look_47 : decode cX4_look 47 = .ok (.aload_n 0, 1) := z_o42 (z_wat (q := 32) (j := 15) zwX4_look_32 rfl)
theorem dX4_look_48 : decode cX4_look 48 = .ok (.invokevirtual 56, 3) := z_o182 (z_wat (q := 32) (j := 16) zwX4_look_32 rfl) (z_wat (q := 32) (j := 17) zwX4_look_32 rfl) (z_wat (q := 32) (j := 18) zwX4_look_32 rfl) rfl
theorem dX4_look_51 : decode cX4_look 51 = .ok (.aload_n 0, 1) := z_o42 (z_wat (q := 32) (j := 19) zwX4_look_32 rfl)
theorem dX4_look_52 : decode cX4_look 52 = .ok (.aload_n 0, 1) := z_o42 (z_wat (q := 32) (j := 20) zwX4_look_32 rfl)
theorem dX4_look_53 : decode cX4_look 53 = .ok (.invokevirtual 59, 3) := z_o182 (z_wat (q := 32) (j := 21) zwX4_look_32 rfl) (z_wat (q := 32) (j := 22) zwX4_look_32 rfl) (z_wat (q := 32) (j := 23) zwX4_look_32 rfl) rfl
theorem dX4_look_56 : decode cX4_look 56 = .ok (.ifCond .eq 7, 3) := z_o153 (z_wat (q := 32) (j := 24) zwX4_look_32 rfl) (z_wat (q := 32) (j := 25) zwX4_look_32 rfl) (z_wat (q := 32) (j := 26) zwX4_look_32 rfl) rfl
theorem dX4_look_59 : decode cX4_look 59 = .ok (.iconst 1, 1) := z_o4 (z_wat (q := 32) (j := 27) zwX4_look_32 rfl)
theorem dX4_look_60 : decode cX4_look 60 = .ok (.goto 4, 3) := z_o167 (z_wat (q := 32) (j := 28) zwX4_look_32 rfl) (z_wat (q := 32) (j := 29) zwX4_look_32 rfl) (z_wat (q := 32) (j := 30) zwX4_look_32 rfl) rfl
theorem dX4_look_63 : decode cX4_look 63 = .ok (.iconst 0, 1) := z_o3 (z_wat (q := 32) (j := 31) zwX4_look_32 rfl)
theorem zwX4_look_64 : ((cX4_look.data.toList.drop 64).take 19).map UInt8.toNat = [181, 0, 38, 42, 180, 0, 38, 154, 0, 11, 42, 182, 0, 63, 42, 182, 0, 66, 177] := by decide +kernel
theorem dX4_look_64 : decode cX4_look 64 = .ok (.putfield 38, 3) := z_o181 (z_wat (q := 64) (j := 0) zwX4_look_64 rfl) (z_wat (q := 64) (j := 1) zwX4_look_64 rfl) (z_wat (q := 64) (j := 2) zwX4_look_64 rfl) rfl
theorem dX4_look_67 : decode cX4_look 67 = .ok (.aload_n 0, 1) := z_o42 (z_wat (q := 64) (j := 3) zwX4_look_64 rfl)
theorem dX4_look_68 : decode cX4_look 68 = .ok (.getfield 38, 3) := z_o180 (z_wat (q := 64) (j := 4) zwX4_look_64 rfl) (z_wat (q := 64) (j := 5) zwX4_look_64 rfl) (z_wat (q := 64) (j := 6) zwX4_look_64 rfl) rfl
theorem dX4_look_71 : decode cX4_look 71 = .ok (.ifCond .ne 11, 3) := z_o154 (z_wat (q := 64) (j := 7) zwX4_look_64 rfl) (z_wat (q := 64) (j := 8) zwX4_look_64 rfl) (z_wat (q := 64) (j := 9) zwX4_look_64 rfl) rfl
theorem dX4_look_74 : decode cX4_look 74 = .ok (.aload_n 0, 1) := z_o42 (z_wat (q := 64) (j := 10) zwX4_look_64 rfl)
theorem dX4_look_75 : decode cX4_look 75 = .ok (.invokevirtual 63, 3) := z_o182 (z_wat (q := 64) (j := 11) zwX4_look_64 rfl) (z_wat (q := 64) (j := 12) zwX4_look_64 rfl) (z_wat (q := 64) (j := 13) zwX4_look_64 rfl) rfl
theorem dX4_look_78 : decode cX4_look 78 = .ok (.aload_n 0, 1) := z_o42 (z_wat (q := 64) (j := 14) zwX4_look_64 rfl)
theorem dX4_look_79 : decode cX4_look 79 = .ok (.invokevirtual 66, 3) := z_o182 (z_wat (q := 64) (j := 15) zwX4_look_64 rfl) (z_wat (q := 64) (j := 16) zwX4_look_64 rfl) (z_wat (q := 64) (j := 17) zwX4_look_64 rfl) rfl
theorem dX4_look_82 : decode cX4_look 82 = .ok (.return_, 1) := z_o177 (z_wat (q := 64) (j := 18) zwX4_look_64 rfl)
theorem zwX4_setSpans_0 : ((cX4_setSpans.data.toList.drop 0).take 34).map UInt8.toNat = [3, 60, 27, 42, 180, 0, 15, 162, 0, 25, 42, 180, 0, 32, 27, 3, 79, 42, 180, 0, 35, 27, 17, 39, 15, 79, 132, 1, 1, 167, 255, 229, 3, 60] := by decide +kernel
theorem dX4_setSpans_0 : decode cX4_setSpans 0 = .ok (.iconst 0, 1) := z_o3 (z_wat (q := 0) (j := 0) zwX4_setSpans_0 rfl)
theorem dX4_setSpans_1 : decode cX4_setSpans 1 = .ok (.istore_n 1, 1) := z_o60 (z_wat (q := 0) (j := 1) zwX4_setSpans_0 rfl)
theorem dX4_setSpans_2 : decode cX4_setSpans 2 = .ok (.iload_n 1, 1) := z_o27 (z_wat (q := 0) (j := 2) zwX4_setSpans_0 rfl)
theorem dX4_setSpans_3 : decode cX4_setSpans 3 = .ok (.aload_n 0, 1) := z_o42 (z_wat (q := 0) (j := 3) zwX4_setSpans_0 rfl)
theorem dX4_setSpans_4 : decode cX4_setSpans 4 = .ok (.getfield 15, 3) := z_o180 (z_wat (q := 0) (j := 4) zwX4_setSpans_0 rfl) (z_wat (q := 0) (j := 5) zwX4_setSpans_0 rfl) (z_wat (q := 0) (j := 6) zwX4_setSpans_0 rfl) rfl
theorem dX4_setSpans_7 : decode cX4_setSpans 7 = .ok (.if_icmp .ge 25, 3) := z_o162 (z_wat (q := 0) (j := 7) zwX4_setSpans_0 rfl) (z_wat (q := 0) (j := 8) zwX4_setSpans_0 rfl) (z_wat (q := 0) (j := 9) zwX4_setSpans_0 rfl) rfl
theorem dX4_setSpans_10 : decode cX4_setSpans 10 = .ok (.aload_n 0, 1) := z_o42 (z_wat (q := 0) (j := 10) zwX4_setSpans_0 rfl)
theorem dX4_setSpans_11 : decode cX4_setSpans 11 = .ok (.getfield 32, 3) := z_o180 (z_wat (q := 0) (j := 11) zwX4_setSpans_0 rfl) (z_wat (q := 0) (j := 12) zwX4_setSpans_0 rfl) (z_wat (q := 0) (j := 13) zwX4_setSpans_0 rfl) rfl
theorem dX4_setSpans_14 : decode cX4_setSpans 14 = .ok (.iload_n 1, 1) := z_o27 (z_wat (q := 0) (j := 14) zwX4_setSpans_0 rfl)
theorem dX4_setSpans_15 : decode cX4_setSpans 15 = .ok (.iconst 0, 1) := z_o3 (z_wat (q := 0) (j := 15) zwX4_setSpans_0 rfl)
theorem dX4_setSpans_16 : decode cX4_setSpans 16 = .ok (.iastore, 1) := z_o79 (z_wat (q := 0) (j := 16) zwX4_setSpans_0 rfl)
theorem dX4_setSpans_17 : decode cX4_setSpans 17 = .ok (.aload_n 0, 1) := z_o42 (z_wat (q := 0) (j := 17) zwX4_setSpans_0 rfl)
theorem dX4_setSpans_18 : decode cX4_setSpans 18 = .ok (.getfield 35, 3) := z_o180 (z_wat (q := 0) (j := 18) zwX4_setSpans_0 rfl) (z_wat (q := 0) (j := 19) zwX4_setSpans_0 rfl) (z_wat (q := 0) (j := 20) zwX4_setSpans_0 rfl) rfl
theorem dX4_setSpans_21 : decode cX4_setSpans 21 = .ok (.iload_n 1, 1) := z_o27 (z_wat (q := 0) (j := 21) zwX4_setSpans_0 rfl)
theorem dX4_setSpans_22 : decode cX4_setSpans 22 = .ok (.sipush 9999, 3) := z_o17 (z_wat (q := 0) (j := 22) zwX4_setSpans_0 rfl) (z_wat (q := 0) (j := 23) zwX4_setSpans_0 rfl) (z_wat (q := 0) (j := 24) zwX4_setSpans_0 rfl) rfl
theorem dX4_setSpans_25 : decode cX4_setSpans 25 = .ok (.iastore, 1) := z_o79 (z_wat (q := 0) (j := 25) zwX4_setSpans_0 rfl)
theorem dX4_setSpans_26 : decode cX4_setSpans 26 = .ok (.iinc 1 1, 3) := z_o132 (z_wat (q := 0) (j := 26) zwX4_setSpans_0 rfl) (z_wat (q := 0) (j := 27) zwX4_setSpans_0 rfl) (z_wat (q := 0) (j := 28) zwX4_setSpans_0 rfl) rfl
theorem dX4_setSpans_29 : decode cX4_setSpans 29 = .ok (.goto (-27), 3) := z_o167 (z_wat (q := 0) (j := 29) zwX4_setSpans_0 rfl) (z_wat (q := 0) (j := 30) zwX4_setSpans_0 rfl) (z_wat (q := 0) (j := 31) zwX4_setSpans_0 rfl) rfl
theorem zwX4_setSpans_32 : ((cX4_setSpans.data.toList.drop 32).take 34).map UInt8.toNat = [3, 60, 27, 42, 180, 0, 9, 162, 0, 81, 42, 27, 6, 182, 0, 72, 153, 0, 66, 42, 180, 0, 29, 42, 180, 0, 41, 180, 0, 76, 27, 46, 46, 61] := by decide +kernel
theorem dX4_setSpans_32 : decode cX4_setSpans 32 = .ok (.iconst 0, 1) := z_o3 (z_wat (q := 32) (j := 0) zwX4_setSpans_32 rfl)
theorem dX4_setSpans_33 : decode cX4_setSpans 33 = .ok (.istore_n 1, 1) := z_o60 (z_wat (q := 32) (j := 1) zwX4_setSpans_32 rfl)
theorem dX4_setSpans_34 : decode cX4_setSpans 34 = .ok (.iload_n 1, 1) := z_o27 (z_wat (q := 32) (j := 2) zwX4_setSpans_32 rfl)
theorem dX4_setSpans_35 : decode cX4_setSpans 35 = .ok (.aload_n 0, 1) := z_o42 (z_wat (q := 32) (j := 3) zwX4_setSpans_32 rfl)
theorem dX4_setSpans_36 : decode cX4_setSpans 36 = .ok (.getfield 9, 3) := z_o180 (z_wat (q := 32) (j := 4) zwX4_setSpans_32 rfl) (z_wat (q := 32) (j := 5) zwX4_setSpans_32 rfl) (z_wat (q := 32) (j := 6) zwX4_setSpans_32 rfl) rfl
theorem dX4_setSpans_39 : decode cX4_setSpans 39 = .ok (.if_icmp .ge 81, 3) := z_o162 (z_wat (q := 32) (j := 7) zwX4_setSpans_32 rfl) (z_wat (q := 32) (j := 8) zwX4_setSpans_32 rfl) (z_wat (q := 32) (j := 9) zwX4_setSpans_32 rfl) rfl
theorem dX4_setSpans_42 : decode cX4_setSpans 42 = .ok (.aload_n 0, 1) := z_o42 (z_wat (q := 32) (j := 10) zwX4_setSpans_32 rfl)
theorem dX4_setSpans_43 : decode cX4_setSpans 43 = .ok (.iload_n 1, 1) := z_o27 (z_wat (q := 32) (j := 11) zwX4_setSpans_32 rfl)
theorem dX4_setSpans_44 : decode cX4_setSpans 44 = .ok (.iconst 3, 1) := z_o6 (z_wat (q := 32) (j := 12) zwX4_setSpans_32 rfl)
theorem dX4_setSpans_45 : decode cX4_setSpans 45 = .ok (.invokevirtual 72, 3) := z_o182 (z_wat (q := 32) (j := 13) zwX4_setSpans_32 rfl) (z_wat (q := 32) (j := 14) zwX4_setSpans_32 rfl) (z_wat (q := 32) (j := 15) zwX4_setSpans_32 rfl) rfl
theorem dX4_setSpans_48 : decode cX4_setSpans 48 = .ok (.ifCond .eq 66, 3) := z_o153 (z_wat (q := 32) (j := 16) zwX4_setSpans_32 rfl) (z_wat (q := 32) (j := 17) zwX4_setSpans_32 rfl) (z_wat (q := 32) (j := 18) zwX4_setSpans_32 rfl) rfl
theorem dX4_setSpans_51 : decode cX4_setSpans 51 = .ok (.aload_n 0, 1) := z_o42 (z_wat (q := 32) (j := 19) zwX4_setSpans_32 rfl)
theorem dX4_setSpans_52 : decode cX4_setSpans 52 = .ok (.getfield 29, 3) := z_o180 (z_wat (q := 32) (j := 20) zwX4_setSpans_32 rfl) (z_wat (q := 32) (j := 21) zwX4_setSpans_32 rfl) (z_wat (q := 32) (j := 22) zwX4_setSpans_32 rfl) rfl
theorem dX4_setSpans_55 : decode cX4_setSpans 55 = .ok (.aload_n 0, 1) := z_o42 (z_wat (q := 32) (j := 23) zwX4_setSpans_32 rfl)
theorem dX4_setSpans_56 : decode cX4_setSpans 56 = .ok (.getfield 41, 3) := z_o180 (z_wat (q := 32) (j := 24) zwX4_setSpans_32 rfl) (z_wat (q := 32) (j := 25) zwX4_setSpans_32 rfl) (z_wat (q := 32) (j := 26) zwX4_setSpans_32 rfl) rfl
theorem dX4_setSpans_59 : decode cX4_setSpans 59 = .ok (.getfield 76, 3) := z_o180 (z_wat (q := 32) (j := 27) zwX4_setSpans_32 rfl) (z_wat (q := 32) (j := 28) zwX4_setSpans_32 rfl) (z_wat (q := 32) (j := 29) zwX4_setSpans_32 rfl) rfl
theorem dX4_setSpans_62 : decode cX4_setSpans 62 = .ok (.iload_n 1, 1) := z_o27 (z_wat (q := 32) (j := 30) zwX4_setSpans_32 rfl)
theorem dX4_setSpans_63 : decode cX4_setSpans 63 = .ok (.iaload, 1) := z_o46 (z_wat (q := 32) (j := 31) zwX4_setSpans_32 rfl)
theorem zwX4_setSpans_64 : ((cX4_setSpans.data.toList.drop 64).take 34).map UInt8.toNat = [46, 61, 42, 180, 0, 32, 28, 42, 180, 0, 32, 28, 46, 42, 180, 0, 41, 180, 0, 79, 27, 46, 184, 0, 92, 79, 42, 180, 0, 35, 28, 42, 180, 0] := by decide +kernel
theorem dX4_setSpans_64 : decode cX4_setSpans 64 = .ok (.iaload, 1) := z_o46 (z_wat (q := 64) (j := 0) zwX4_setSpans_64 rfl)
theorem dX4_setSpans_65 : decode cX4_setSpans 65 = .ok (.istore_n 2, 1) := z_o61 (z_wat (q := 64) (j := 1) zwX4_setSpans_64 rfl)
theorem dX4_setSpans_66 : decode cX4_setSpans 66 = .ok (.aload_n 0, 1) := z_o42 (z_wat (q := 64) (j := 2) zwX4_setSpans_64 rfl)
theorem dX4_setSpans_67 : decode cX4_setSpans 67 = .ok (.getfield 32, 3) := z_o180 (z_wat (q := 64) (j := 3) zwX4_setSpans_64 rfl) (z_wat (q := 64) (j := 4) zwX4_setSpans_64 rfl) (z_wat (q := 64) (j := 5) zwX4_setSpans_64 rfl) rfl
theorem dX4_setSpans_70 : decode cX4_setSpans 70 = .ok (.iload_n 2, 1) := z_o28 (z_wat (q := 64) (j := 6) zwX4_setSpans_64 rfl)
theorem dX4_setSpans_71 : decode cX4_setSpans 71 = .ok (.aload_n 0, 1) := z_o42 (z_wat (q := 64) (j := 7) zwX4_setSpans_64 rfl)
theorem dX4_setSpans_72 : decode cX4_setSpans 72 = .ok (.getfield 32, 3) := z_o180 (z_wat (q := 64) (j := 8) zwX4_setSpans_64 rfl) (z_wat (q := 64) (j := 9) zwX4_setSpans_64 rfl) (z_wat (q := 64) (j := 10) zwX4_setSpans_64 rfl) rfl
theorem dX4_setSpans_75 : decode cX4_setSpans 75 = .ok (.iload_n 2, 1) := z_o28 (z_wat (q := 64) (j := 11) zwX4_setSpans_64 rfl)
theorem dX4_setSpans_76 : decode cX4_setSpans 76 = .ok (.iaload, 1) := z_o46 (z_wat (q := 64) (j := 12) zwX4_setSpans_64 rfl)
theorem dX4_setSpans_77 : decode cX4_setSpans 77 = .ok (.aload_n 0, 1) := z_o42 (z_wat (q := 64) (j := 13) zwX4_setSpans_64 rfl)
theorem dX4_setSpans_78 : decode cX4_setSpans 78 = .ok (.getfield 41, 3) := z_o180 (z_wat (q := 64) (j := 14) zwX4_setSpans_64 rfl) (z_wat (q := 64) (j := 15) zwX4_setSpans_64 rfl) (z_wat (q := 64) (j := 16) zwX4_setSpans_64 rfl) rfl
theorem dX4_setSpans_81 : decode cX4_setSpans 81 = .ok (.getfield 79, 3) := z_o180 (z_wat (q := 64) (j := 17) zwX4_setSpans_64 rfl) (z_wat (q := 64) (j := 18) zwX4_setSpans_64 rfl) (z_wat (q := 64) (j := 19) zwX4_setSpans_64 rfl) rfl
theorem dX4_setSpans_84 : decode cX4_setSpans 84 = .ok (.iload_n 1, 1) := z_o27 (z_wat (q := 64) (j := 20) zwX4_setSpans_64 rfl)
theorem dX4_setSpans_85 : decode cX4_setSpans 85 = .ok (.iaload, 1) := z_o46 (z_wat (q := 64) (j := 21) zwX4_setSpans_64 rfl)
theorem dX4_setSpans_86 : decode cX4_setSpans 86 = .ok (.invokestatic 92, 3) := z_o184 (z_wat (q := 64) (j := 22) zwX4_setSpans_64 rfl) (z_wat (q := 64) (j := 23) zwX4_setSpans_64 rfl) (z_wat (q := 64) (j := 24) zwX4_setSpans_64 rfl) rfl
theorem dX4_setSpans_89 : decode cX4_setSpans 89 = .ok (.iastore, 1) := z_o79 (z_wat (q := 64) (j := 25) zwX4_setSpans_64 rfl)
theorem dX4_setSpans_90 : decode cX4_setSpans 90 = .ok (.aload_n 0, 1) := z_o42 (z_wat (q := 64) (j := 26) zwX4_setSpans_64 rfl)
theorem dX4_setSpans_91 : decode cX4_setSpans 91 = .ok (.getfield 35, 3) := z_o180 (z_wat (q := 64) (j := 27) zwX4_setSpans_64 rfl) (z_wat (q := 64) (j := 28) zwX4_setSpans_64 rfl) (z_wat (q := 64) (j := 29) zwX4_setSpans_64 rfl) rfl
theorem dX4_setSpans_94 : decode cX4_setSpans 94 = .ok (.iload_n 2, 1) := z_o28 (z_wat (q := 64) (j := 30) zwX4_setSpans_64 rfl)
theorem dX4_setSpans_95 : decode cX4_setSpans 95 = .ok (.aload_n 0, 1) := z_o42 (z_wat (q := 64) (j := 31) zwX4_setSpans_64 rfl)
theorem zwX4_setSpans_96 : ((cX4_setSpans.data.toList.drop 96).take 34).map UInt8.toNat = [180, 0, 35, 28, 46, 42, 180, 0, 41, 180, 0, 102, 27, 46, 184, 0, 86, 79, 132, 1, 1, 167, 255, 173, 42, 182, 0, 105, 3, 60, 27, 42, 180, 0] := by decide +kernel
theorem dX4_setSpans_96 : decode cX4_setSpans 96 = .ok (.getfield 35, 3) := z_o180 (z_wat (q := 96) (j := 0) zwX4_setSpans_96 rfl) (z_wat (q := 96) (j := 1) zwX4_setSpans_96 rfl) (z_wat (q := 96) (j := 2) zwX4_setSpans_96 rfl) rfl
theorem dX4_setSpans_99 : decode cX4_setSpans 99 = .ok (.iload_n 2, 1) := z_o28 (z_wat (q := 96) (j := 3) zwX4_setSpans_96 rfl)
theorem dX4_setSpans_100 : decode cX4_setSpans 100 = .ok (.iaload, 1) := z_o46 (z_wat (q := 96) (j := 4) zwX4_setSpans_96 rfl)
theorem dX4_setSpans_101 : decode cX4_setSpans 101 = .ok (.aload_n 0, 1) := z_o42 (z_wat (q := 96) (j := 5) zwX4_setSpans_96 rfl)
theorem dX4_setSpans_102 : decode cX4_setSpans 102 = .ok (.getfield 41, 3) := z_o180 (z_wat (q := 96) (j := 6) zwX4_setSpans_96 rfl) (z_wat (q := 96) (j := 7) zwX4_setSpans_96 rfl) (z_wat (q := 96) (j := 8) zwX4_setSpans_96 rfl) rfl
theorem dX4_setSpans_105 : decode cX4_setSpans 105 = .ok (.getfield 102, 3) := z_o180 (z_wat (q := 96) (j := 9) zwX4_setSpans_96 rfl) (z_wat (q := 96) (j := 10) zwX4_setSpans_96 rfl) (z_wat (q := 96) (j := 11) zwX4_setSpans_96 rfl) rfl
theorem dX4_setSpans_108 : decode cX4_setSpans 108 = .ok (.iload_n 1, 1) := z_o27 (z_wat (q := 96) (j := 12) zwX4_setSpans_96 rfl)
theorem dX4_setSpans_109 : decode cX4_setSpans 109 = .ok (.iaload, 1) := z_o46 (z_wat (q := 96) (j := 13) zwX4_setSpans_96 rfl)
theorem dX4_setSpans_110 : decode cX4_setSpans 110 = .ok (.invokestatic 86, 3) := z_o184 (z_wat (q := 96) (j := 14) zwX4_setSpans_96 rfl) (z_wat (q := 96) (j := 15) zwX4_setSpans_96 rfl) (z_wat (q := 96) (j := 16) zwX4_setSpans_96 rfl) rfl
theorem dX4_setSpans_113 : decode cX4_setSpans 113 = .ok (.iastore, 1) := z_o79 (z_wat (q := 96) (j := 17) zwX4_setSpans_96 rfl)
theorem dX4_setSpans_114 : decode cX4_setSpans 114 = .ok (.iinc 1 1, 3) := z_o132 (z_wat (q := 96) (j := 18) zwX4_setSpans_96 rfl) (z_wat (q := 96) (j := 19) zwX4_setSpans_96 rfl) (z_wat (q := 96) (j := 20) zwX4_setSpans_96 rfl) rfl
theorem dX4_setSpans_117 : decode cX4_setSpans 117 = .ok (.goto (-83), 3) := z_o167 (z_wat (q := 96) (j := 21) zwX4_setSpans_96 rfl) (z_wat (q := 96) (j := 22) zwX4_setSpans_96 rfl) (z_wat (q := 96) (j := 23) zwX4_setSpans_96 rfl) rfl
theorem dX4_setSpans_120 : decode cX4_setSpans 120 = .ok (.aload_n 0, 1) := z_o42 (z_wat (q := 96) (j := 24) zwX4_setSpans_96 rfl)
theorem dX4_setSpans_121 : decode cX4_setSpans 121 = .ok (.invokevirtual 105, 3) := z_o182 (z_wat (q := 96) (j := 25) zwX4_setSpans_96 rfl) (z_wat (q := 96) (j := 26) zwX4_setSpans_96 rfl) (z_wat (q := 96) (j := 27) zwX4_setSpans_96 rfl) rfl
theorem dX4_setSpans_124 : decode cX4_setSpans 124 = .ok (.iconst 0, 1) := z_o3 (z_wat (q := 96) (j := 28) zwX4_setSpans_96 rfl)
theorem dX4_setSpans_125 : decode cX4_setSpans 125 = .ok (.istore_n 1, 1) := z_o60 (z_wat (q := 96) (j := 29) zwX4_setSpans_96 rfl)
theorem dX4_setSpans_126 : decode cX4_setSpans 126 = .ok (.iload_n 1, 1) := z_o27 (z_wat (q := 96) (j := 30) zwX4_setSpans_96 rfl)
theorem dX4_setSpans_127 : decode cX4_setSpans 127 = .ok (.aload_n 0, 1) := z_o42 (z_wat (q := 96) (j := 31) zwX4_setSpans_96 rfl)
theorem zwX4_setSpans_128 : ((cX4_setSpans.data.toList.drop 128).take 33).map UInt8.toNat = [180, 0, 15, 162, 0, 29, 42, 180, 0, 32, 27, 46, 42, 180, 0, 35, 27, 46, 164, 0, 8, 42, 5, 181, 0, 38, 132, 1, 1, 167, 255, 225, 177] := by decide +kernel
theorem dX4_setSpans_128 : decode cX4_setSpans 128 = .ok (.getfield 15, 3) := z_o180 (z_wat (q := 128) (j := 0) zwX4_setSpans_128 rfl) (z_wat (q := 128) (j := 1) zwX4_setSpans_128 rfl) (z_wat (q := 128) (j := 2) zwX4_setSpans_128 rfl) rfl
theorem dX4_setSpans_131 : decode cX4_setSpans 131 = .ok (.if_icmp .ge 29, 3) := z_o162 (z_wat (q := 128) (j := 3) zwX4_setSpans_128 rfl) (z_wat (q := 128) (j := 4) zwX4_setSpans_128 rfl) (z_wat (q := 128) (j := 5) zwX4_setSpans_128 rfl) rfl
theorem dX4_setSpans_134 : decode cX4_setSpans 134 = .ok (.aload_n 0, 1) := z_o42 (z_wat (q := 128) (j := 6) zwX4_setSpans_128 rfl)
theorem dX4_setSpans_135 : decode cX4_setSpans 135 = .ok (.getfield 32, 3) := z_o180 (z_wat (q := 128) (j := 7) zwX4_setSpans_128 rfl) (z_wat (q := 128) (j := 8) zwX4_setSpans_128 rfl) (z_wat (q := 128) (j := 9) zwX4_setSpans_128 rfl) rfl
theorem dX4_setSpans_138 : decode cX4_setSpans 138 = .ok (.iload_n 1, 1) := z_o27 (z_wat (q := 128) (j := 10) zwX4_setSpans_128 rfl)
theorem dX4_setSpans_139 : decode cX4_setSpans 139 = .ok (.iaload, 1) := z_o46 (z_wat (q := 128) (j := 11) zwX4_setSpans_128 rfl)
theorem dX4_setSpans_140 : decode cX4_setSpans 140 = .ok (.aload_n 0, 1) := z_o42 (z_wat (q := 128) (j := 12) zwX4_setSpans_128 rfl)
theorem dX4_setSpans_141 : decode cX4_setSpans 141 = .ok (.getfield 35, 3) := z_o180 (z_wat (q := 128) (j := 13) zwX4_setSpans_128 rfl) (z_wat (q := 128) (j := 14) zwX4_setSpans_128 rfl) (z_wat (q := 128) (j := 15) zwX4_setSpans_128 rfl) rfl
theorem dX4_setSpans_144 : decode cX4_setSpans 144 = .ok (.iload_n 1, 1) := z_o27 (z_wat (q := 128) (j := 16) zwX4_setSpans_128 rfl)
theorem dX4_setSpans_145 : decode cX4_setSpans 145 = .ok (.iaload, 1) := z_o46 (z_wat (q := 128) (j := 17) zwX4_setSpans_128 rfl)
theorem dX4_setSpans_146 : decode cX4_setSpans 146 = .ok (.if_icmp .le 8, 3) := z_o164 (z_wat (q := 128) (j := 18) zwX4_setSpans_128 rfl) (z_wat (q := 128) (j := 19) zwX4_setSpans_128 rfl) (z_wat (q := 128) (j := 20) zwX4_setSpans_128 rfl) rfl
theorem dX4_setSpans_149 : decode cX4_setSpans 149 = .ok (.aload_n 0, 1) := z_o42 (z_wat (q := 128) (j := 21) zwX4_setSpans_128 rfl)
theorem dX4_setSpans_150 : decode cX4_setSpans 150 = .ok (.iconst 2, 1) := z_o5 (z_wat (q := 128) (j := 22) zwX4_setSpans_128 rfl)
theorem dX4_setSpans_151 : decode cX4_setSpans 151 = .ok (.putfield 38, 3) := z_o181 (z_wat (q := 128) (j := 23) zwX4_setSpans_128 rfl) (z_wat (q := 128) (j := 24) zwX4_setSpans_128 rfl) (z_wat (q := 128) (j := 25) zwX4_setSpans_128 rfl) rfl
theorem dX4_setSpans_154 : decode cX4_setSpans 154 = .ok (.iinc 1 1, 3) := z_o132 (z_wat (q := 128) (j := 26) zwX4_setSpans_128 rfl) (z_wat (q := 128) (j := 27) zwX4_setSpans_128 rfl) (z_wat (q := 128) (j := 28) zwX4_setSpans_128 rfl) rfl
theorem dX4_setSpans_157 : decode cX4_setSpans 157 = .ok (.goto (-31), 3) := z_o167 (z_wat (q := 128) (j := 29) zwX4_setSpans_128 rfl) (z_wat (q := 128) (j := 30) zwX4_setSpans_128 rfl) (z_wat (q := 128) (j := 31) zwX4_setSpans_128 rfl) rfl
theorem zwX4_setSpans_160 : ((cX4_setSpans.data.toList.drop 160).take 1).map UInt8.toNat = [177] := by decide +kernel
theorem dX4_setSpans_160 : decode cX4_setSpans 160 = .ok (.return_, 1) := z_o177 (z_wat (q := 160) (j := 0) zwX4_setSpans_160 rfl)
