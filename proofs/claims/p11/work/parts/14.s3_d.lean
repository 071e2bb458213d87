theorem zwX2_leaveOutEach_0 : ((cX2_leaveOutEach.data.toList.drop 0).take 34).map UInt8.toNat = [3, 60, 27, 42, 180, 0, 34, 162, 0, 61, 42, 180, 0, 37, 42, 180, 0, 28, 27, 46, 96, 61, 42, 27, 154, 0, 7, 28, 167, 0, 11, 42, 180, 0] := by decide +kernel
theorem dX2_leaveOutEach_0 : decode cX2_leaveOutEach 0 = .ok (.iconst 0, 1) := z_o3 (z_wat (q := 0) (j := 0) zwX2_leaveOutEach_0 rfl)
theorem dX2_leaveOutEach_1 : decode cX2_leaveOutEach 1 = .ok (.istore_n 1, 1) := z_o60 (z_wat (q := 0) (j := 1) zwX2_leaveOutEach_0 rfl)
theorem dX2_leaveOutEach_2 : decode cX2_leaveOutEach 2 = .ok (.iload_n 1, 1) := z_o27 (z_wat (q := 0) (j := 2) zwX2_leaveOutEach_0 rfl)
theorem dX2_leaveOutEach_3 : decode cX2_leaveOutEach 3 = .ok (.aload_n 0, 1) := z_o42 (z_wat (q := 0) (j := 3) zwX2_leaveOutEach_0 rfl)
theorem dX2_leaveOutEach_4 : decode cX2_leaveOutEach 4 = .ok (.getfield 34, 3) := z_o180 (z_wat (q := 0) (j := 4) zwX2_leaveOutEach_0 rfl) (z_wat (q := 0) (j := 5) zwX2_leaveOutEach_0 rfl) (z_wat (q := 0) (j := 6) zwX2_leaveOutEach_0 rfl) rfl
theorem dX2_leaveOutEach_7 : decode cX2_leaveOutEach 7 = .ok (.if_icmp .ge 61, 3) := z_o162 (z_wat (q := 0) (j := 7) zwX2_leaveOutEach_0 rfl) (z_wat (q := 0) (j := 8) zwX2_leaveOutEach_0 rfl) (z_wat (q := 0) (j := 9) zwX2_leaveOutEach_0 rfl) rfl
theorem dX2_leaveOutEach_10 : decode cX2_leaveOutEach 10 = .ok (.aload_n 0, 1) := z_o42 (z_wat (q := 0) (j := 10) zwX2_leaveOutEach_0 rfl)
theorem dX2_leaveOutEach_11 : decode cX2_leaveOutEach 11 = .ok (.getfield 37, 3) := z_o180 (z_wat (q := 0) (j := 11) zwX2_leaveOutEach_0 rfl) (z_wat (q := 0) (j := 12) zwX2_leaveOutEach_0 rfl) (z_wat (q := 0) (j := 13) zwX2_leaveOutEach_0 rfl) rfl
theorem dX2_leaveOutEach_14 : decode cX2_leaveOutEach 14 = .ok (.aload_n 0, 1) := z_o42 (z_wat (q := 0) (j := 14) zwX2_leaveOutEach_0 rfl)
theorem dX2_leaveOutEach_15 : decode cX2_leaveOutEach 15 = .ok (.getfield 28, 3) := z_o180 (z_wat (q := 0) (j := 15) zwX2_leaveOutEach_0 rfl) (z_wat (q := 0) (j := 16) zwX2_leaveOutEach_0 rfl) (z_wat (q := 0) (j := 17) zwX2_leaveOutEach_0 rfl) rfl
theorem dX2_leaveOutEach_18 : decode cX2_leaveOutEach 18 = .ok (.iload_n 1, 1) := z_o27 (z_wat (q := 0) (j := 18) zwX2_leaveOutEach_0 rfl)
theorem dX2_leaveOutEach_19 : decode cX2_leaveOutEach 19 = .ok (.iaload, 1) := z_o46 (z_wat (q := 0) (j := 19) zwX2_leaveOutEach_0 rfl)
theorem dX2_leaveOutEach_20 : decode cX2_leaveOutEach 20 = .ok (.iadd, 1) := z_o96 (z_wat (q := 0) (j := 20) zwX2_leaveOutEach_0 rfl)
theorem dX2_leaveOutEach_21 : decode cX2_leaveOutEach 21 = .ok (.istore_n 2, 1) := z_o61 (z_wat (q := 0) (j := 21) zwX2_leaveOutEach_0 rfl)
theorem dX2_leaveOutEach_22 : decode cX2_leaveOutEach 22 = .ok (.aload_n 0, 1) := z_o42 (z_wat (q := 0) (j := 22) zwX2_leaveOutEach_0 rfl)
theorem dX2_leaveOutEach_23 : decode cX2_leaveOutEach 23 = .ok (.iload_n 1, 1) := z_o27 (z_wat (q := 0) (j := 23) zwX2_leaveOutEach_0 rfl)
theorem dX2_leaveOutEach_24 : decode cX2_leaveOutEach 24 = .ok (.ifCond .ne 7, 3) := z_o154 (z_wat (q := 0) (j := 24) zwX2_leaveOutEach_0 rfl) (z_wat (q := 0) (j := 25) zwX2_leaveOutEach_0 rfl) (z_wat (q := 0) (j := 26) zwX2_leaveOutEach_0 rfl) rfl
theorem dX2_leaveOutEach_27 : decode cX2_leaveOutEach 27 = .ok (.iload_n 2, 1) := z_o28 (z_wat (q := 0) (j := 27) zwX2_leaveOutEach_0 rfl)
theorem dX2_leaveOutEach_28 : decode cX2_leaveOutEach 28 = .ok (.goto 11, 3) := z_o167 (z_wat (q := 0) (j := 28) zwX2_leaveOutEach_0 rfl) (z_wat (q := 0) (j := 29) zwX2_leaveOutEach_0 rfl) (z_wat (q := 0) (j := 30) zwX2_leaveOutEach_0 rfl) rfl
theorem dX2_leaveOutEach_31 : decode cX2_leaveOutEach 31 = .ok (.aload_n 0, 1) := z_o42 (z_wat (q := 0) (j := 31) zwX2_leaveOutEach_0 rfl)
theorem zwX2_leaveOutEach_32 : ((cX2_leaveOutEach.data.toList.drop 32).take 34).map UInt8.toNat = [180, 0, 40, 28, 184, 0, 57, 181, 0, 40, 42, 27, 154, 0, 7, 28, 167, 0, 11, 42, 180, 0, 43, 28, 184, 0, 63, 181, 0, 43, 132, 1, 1, 167] := by decide +kernel
theorem dX2_leaveOutEach_32 : decode cX2_leaveOutEach 32 = .ok (.getfield 40, 3) := z_o180 (z_wat (q := 32) (j := 0) zwX2_leaveOutEach_32 rfl) (z_wat (q := 32) (j := 1) zwX2_leaveOutEach_32 rfl) (z_wat (q := 32) (j := 2) zwX2_leaveOutEach_32 rfl) rfl
theorem dX2_leaveOutEach_35 : decode cX2_leaveOutEach 35 = .ok (.iload_n 2, 1) := z_o28 (z_wat (q := 32) (j := 3) zwX2_leaveOutEach_32 rfl)
theorem dX2_leaveOutEach_36 : decode cX2_leaveOutEach 36 = .ok (.invokestatic 57, 3) := z_o184 (z_wat (q := 32) (j := 4) zwX2_leaveOutEach_32 rfl) (z_wat (q := 32) (j := 5) zwX2_leaveOutEach_32 rfl) (z_wat (q := 32) (j := 6) zwX2_leaveOutEach_32 rfl) rfl
theorem dX2_leaveOutEach_39 : decode cX2_leaveOutEach 39 = .ok (.putfield 40, 3) := z_o181 (z_wat (q := 32) (j := 7) zwX2_leaveOutEach_32 rfl) (z_wat (q := 32) (j := 8) zwX2_leaveOutEach_32 rfl) (z_wat (q := 32) (j := 9) zwX2_leaveOutEach_32 rfl) rfl
theorem dX2_leaveOutEach_42 : decode cX2_leaveOutEach 42 = .ok (.aload_n 0, 1) := z_o42 (z_wat (q := 32) (j := 10) zwX2_leaveOutEach_32 rfl)
theorem dX2_leaveOutEach_43 : decode cX2_leaveOutEach 43 = .ok (.iload_n 1, 1) := z_o27 (z_wat (q := 32) (j := 11) zwX2_leaveOutEach_32 rfl)
theorem dX2_leaveOutEach_44 : decode cX2_leaveOutEach 44 = .ok (.ifCond .ne 7, 3) := z_o154 (z_wat (q := 32) (j := 12) zwX2_leaveOutEach_32 rfl) (z_wat (q := 32) (j := 13) zwX2_leaveOutEach_32 rfl) (z_wat (q := 32) (j := 14) zwX2_leaveOutEach_32 rfl) rfl
theorem dX2_leaveOutEach_47 : decode cX2_leaveOutEach 47 = .ok (.iload_n 2, 1) := z_o28 (z_wat (q := 32) (j := 15) zwX2_leaveOutEach_32 rfl)
theorem dX2_leaveOutEach_48 : decode cX2_leaveOutEach 48 = .ok (.goto 11, 3) := z_o167 (z_wat (q := 32) (j := 16) zwX2_leaveOutEach_32 rfl) (z_wat (q := 32) (j := 17) zwX2_leaveOutEach_32 rfl) (z_wat (q := 32) (j := 18) zwX2_leaveOutEach_32 rfl) rfl
theorem dX2_leaveOutEach_51 : decode cX2_leaveOutEach 51 = .ok (.aload_n 0, 1) := z_o42 (z_wat (q := 32) (j := 19) zwX2_leaveOutEach_32 rfl)
theorem dX2_leaveOutEach_52 : decode cX2_leaveOutEach 52 = .ok (.getfield 43, 3) := z_o180 (z_wat (q := 32) (j := 20) zwX2_leaveOutEach_32 rfl) (z_wat (q := 32) (j := 21) zwX2_leaveOutEach_32 rfl) (z_wat (q := 32) (j := 22) zwX2_leaveOutEach_32 rfl) rfl
theorem dX2_leaveOutEach_55 : decode cX2_leaveOutEach 55 = .ok (.iload_n 2, 1) := z_o28 (z_wat (q := 32) (j := 23) zwX2_leaveOutEach_32 rfl)
theorem dX2_leaveOutEach_56 : decode cX2_leaveOutEach 56 = .ok (.invokestatic 63, 3) := z_o184 (z_wat (q := 32) (j := 24) zwX2_leaveOutEach_32 rfl) (z_wat (q := 32) (j := 25) zwX2_leaveOutEach_32 rfl) (z_wat (q := 32) (j := 26) zwX2_leaveOutEach_32 rfl) rfl
theorem dX2_leaveOutEach_59 : decode cX2_leaveOutEach 59 = .ok (.putfield 43, 3) := z_o181 (z_wat (q := 32) (j := 27) zwX2_leaveOutEach_32 rfl) (z_wat (q := 32) (j := 28) zwX2_leaveOutEach_32 rfl) (z_wat (q := 32) (j := 29) zwX2_leaveOutEach_32 rfl) rfl
theorem dX2_leaveOutEach_62 : decode cX2_leaveOutEach 62 = .ok (.iinc 1 1, 3) := z_o132 (z_wat (q := 32) (j := 30) zwX2_leaveOutEach_32 rfl) (z_wat (q := 32) (j := 31) zwX2_leaveOutEach_32 rfl) (z_wat (q := 32) (j := 32) zwX2_leaveOutEach_32 rfl) rfl
theorem zwX2_leaveOutEach_64 : ((cX2_leaveOutEach.data.toList.drop 64).take 5).map UInt8.toNat = [1, 167, 255, 193, 177] := by decide +kernel
theorem dX2_leaveOutEach_65 : decode cX2_leaveOutEach 65 = .ok (.goto (-63), 3) := z_o167 (z_wat (q := 64) (j := 1) zwX2_leaveOutEach_64 rfl) (z_wat (q := 64) (j := 2) zwX2_leaveOutEach_64 rfl) (z_wat (q := 64) (j := 3) zwX2_leaveOutEach_64 rfl) rfl
theorem dX2_leaveOutEach_68 : decode cX2_leaveOutEach 68 = .ok (.return_, 1) := z_o177 (z_wat (q := 64) (j := 4) zwX2_leaveOutEach_64 rfl)
theorem zwX2_weigh_0 : ((cX2_weigh.data.toList.drop 0).take 34).map UInt8.toNat = [42, 3, 181, 0, 37, 3, 61, 28, 42, 180, 0, 34, 162, 0, 65, 42, 180, 0, 25, 28, 3, 79, 42, 180, 0, 28, 28, 3, 79, 3, 62, 29, 16, 12] := by decide +kernel
theorem dX2_weigh_0 : decode cX2_weigh 0 = .ok (.aload_n 0, 1) := z_o42 (z_wat (q := 0) (j := 0) zwX2_weigh_0 rfl)
theorem dX2_weigh_1 : decode cX2_weigh 1 = .ok (.iconst 0, 1) := z_o3 (z_wat (q := 0) (j := 1) zwX2_weigh_0 rfl)
theorem dX2_weigh_2 : decode cX2_weigh 2 = .ok (.putfield 37, 3) := z_o181 (z_wat (q := 0) (j := 2) zwX2_weigh_0 rfl) (z_wat (q := 0) (j := 3) zwX2_weigh_0 rfl) (z_wat (q := 0) (j := 4) zwX2_weigh_0 rfl) rfl
theorem dX2_weigh_5 : decode cX2_weigh 5 = .ok (.iconst 0, 1) := z_o3 (z_wat (q := 0) (j := 5) zwX2_weigh_0 rfl)
theorem dX2_weigh_6 : decode cX2_weigh 6 = .ok (.istore_n 2, 1) := z_o61 (z_wat (q := 0) (j := 6) zwX2_weigh_0 rfl)
theorem dX2_weigh_7 : decode cX2_weigh 7 = .ok (.iload_n 2, 1) := z_o28 (z_wat (q := 0) (j := 7) zwX2_weigh_0 rfl)
theorem dX2_weigh_8 : decode cX2_weigh 8 = .ok (.aload_n 0, 1) := z_o42 (z_wat (q := 0) (j := 8) zwX2_weigh_0 rfl)
theorem dX2_weigh_9 : decode cX2_weigh 9 = .ok (.getfield 34, 3) := z_o180 (z_wat (q := 0) (j := 9) zwX2_weigh_0 rfl) (z_wat (q := 0) (j := 10) zwX2_weigh_0 rfl) (z_wat (q := 0) (j := 11) zwX2_weigh_0 rfl) rfl
theorem dX2_weigh_12 : decode cX2_weigh 12 = .ok (.if_icmp .ge 65, 3) := z_o162 (z_wat (q := 0) (j := 12) zwX2_weigh_0 rfl) (z_wat (q := 0) (j := 13) zwX2_weigh_0 rfl) (z_wat (q := 0) (j := 14) zwX2_weigh_0 rfl) rfl
theorem dX2_weigh_15 : decode cX2_weigh 15 = .ok (.aload_n 0, 1) := z_o42 (z_wat (q := 0) (j := 15) zwX2_weigh_0 rfl)
theorem dX2_weigh_16 : decode cX2_weigh 16 = .ok (.getfield 25, 3) := z_o180 (z_wat (q := 0) (j := 16) zwX2_weigh_0 rfl) (z_wat (q := 0) (j := 17) zwX2_weigh_0 rfl) (z_wat (q := 0) (j := 18) zwX2_weigh_0 rfl) rfl
theorem dX2_weigh_19 : decode cX2_weigh 19 = .ok (.iload_n 2, 1) := z_o28 (z_wat (q := 0) (j := 19) zwX2_weigh_0 rfl)
theorem dX2_weigh_20 : decode cX2_weigh 20 = .ok (.iconst 0, 1) := z_o3 (z_wat (q := 0) (j := 20) zwX2_weigh_0 rfl)
theorem dX2_weigh_21 : decode cX2_weigh 21 = .ok (.iastore, 1) := z_o79 (z_wat (q := 0) (j := 21) zwX2_weigh_0 rfl)
theorem dX2_weigh_22 : decode cX2_weigh 22 = .ok (.aload_n 0, 1) := z_o42 (z_wat (q := 0) (j := 22) zwX2_weigh_0 rfl)
theorem dX2_weigh_23 : decode cX2_weigh 23 = .ok (.getfield 28, 3) := z_o180 (z_wat (q := 0) (j := 23) zwX2_weigh_0 rfl) (z_wat (q := 0) (j := 24) zwX2_weigh_0 rfl) (z_wat (q := 0) (j := 25) zwX2_weigh_0 rfl) rfl
theorem dX2_weigh_26 : decode cX2_weigh 26 = .ok (.iload_n 2, 1) := z_o28 (z_wat (q := 0) (j := 26) zwX2_weigh_0 rfl)
theorem dX2_weigh_27 : decode cX2_weigh 27 = .ok (.iconst 0, 1) := z_o3 (z_wat (q := 0) (j := 27) zwX2_weigh_0 rfl)
theorem dX2_weigh_28 : decode cX2_weigh 28 = .ok (.iastore, 1) := z_o79 (z_wat (q := 0) (j := 28) zwX2_weigh_0 rfl)
theorem dX2_weigh_29 : decode cX2_weigh 29 = .ok (.iconst 0, 1) := z_o3 (z_wat (q := 0) (j := 29) zwX2_weigh_0 rfl)
theorem dX2_weigh_30 : decode cX2_weigh 30 = .ok (.istore_n 3, 1) := z_o62 (z_wat (q := 0) (j := 30) zwX2_weigh_0 rfl)
theorem dX2_weigh_31 : decode cX2_weigh 31 = .ok (.iload_n 3, 1) := z_o29 (z_wat (q := 0) (j := 31) zwX2_weigh_0 rfl)
theorem zwX2_weigh_32 : ((cX2_weigh.data.toList.drop 32).take 34).map UInt8.toNat = [16, 12, 162, 0, 37, 27, 29, 122, 4, 126, 153, 0, 23, 42, 180, 0, 25, 28, 92, 46, 42, 180, 0, 31, 28, 16, 12, 104, 29, 96, 46, 96, 79, 132] := by decide +kernel
theorem dX2_weigh_32 : decode cX2_weigh 32 = .ok (.bipush 12, 2) := z_o16 (z_wat (q := 32) (j := 0) zwX2_weigh_32 rfl) (z_wat (q := 32) (j := 1) zwX2_weigh_32 rfl) rfl
theorem dX2_weigh_34 : decode cX2_weigh 34 = .ok (.if_icmp .ge 37, 3) := z_o162 (z_wat (q := 32) (j := 2) zwX2_weigh_32 rfl) (z_wat (q := 32) (j := 3) zwX2_weigh_32 rfl) (z_wat (q := 32) (j := 4) zwX2_weigh_32 rfl) rfl
theorem dX2_weigh_37 : decode cX2_weigh 37 = .ok (.iload_n 1, 1) := z_o27 (z_wat (q := 32) (j := 5) zwX2_weigh_32 rfl)
theorem dX2_weigh_38 : decode cX2_weigh 38 = .ok (.iload_n 3, 1) := z_o29 (z_wat (q := 32) (j := 6) zwX2_weigh_32 rfl)
theorem dX2_weigh_39 : decode cX2_weigh 39 = .ok (.ishr, 1) := z_o122 (z_wat (q := 32) (j := 7) zwX2_weigh_32 rfl)
theorem dX2_weigh_40 : decode cX2_weigh 40 = .ok (.iconst 1, 1) := z_o4 (z_wat (q := 32) (j := 8) zwX2_weigh_32 rfl)
theorem dX2_weigh_41 : decode cX2_weigh 41 = .ok (.iand, 1) := z_o126 (z_wat (q := 32) (j := 9) zwX2_weigh_32 rfl)
theorem dX2_weigh_42 : decode cX2_weigh 42 = .ok (.ifCond .eq 23, 3) := z_o153 (z_wat (q := 32) (j := 10) zwX2_weigh_32 rfl) (z_wat (q := 32) (j := 11) zwX2_weigh_32 rfl) (z_wat (q := 32) (j := 12) zwX2_weigh_32 rfl) rfl
theorem dX2_weigh_45 : decode cX2_weigh 45 = .ok (.aload_n 0, 1) := z_o42 (z_wat (q := 32) (j := 13) zwX2_weigh_32 rfl)
theorem dX2_weigh_46 : decode cX2_weigh 46 = .ok (.getfield 25, 3) := z_o180 (z_wat (q := 32) (j := 14) zwX2_weigh_32 rfl) (z_wat (q := 32) (j := 15) zwX2_weigh_32 rfl) (z_wat (q := 32) (j := 16) zwX2_weigh_32 rfl) rfl
theorem dX2_weigh_49 : decode cX2_weigh 49 = .ok (.iload_n 2, 1) := z_o28 (z_wat (q := 32) (j := 17) zwX2_weigh_32 rfl)
theorem dX2_weigh_50 : decode cX2_weigh 50 = .ok (.dup2, 1) := z_o92 (z_wat (q := 32) (j := 18) zwX2_weigh_32 rfl)
theorem dX2_weigh_51 : decode cX2_weigh 51 = .ok (.iaload, 1) := z_o46 (z_wat (q := 32) (j := 19) zwX2_weigh_32 rfl)
theorem dX2_weigh_52 : decode cX2_weigh 52 = .ok (.aload_n 0, 1) := z_o42 (z_wat (q := 32) (j := 20) zwX2_weigh_32 rfl)
theorem dX2_weigh_53 : decode cX2_weigh 53 = .ok (.getfield 31, 3) := z_o180 (z_wat (q := 32) (j := 21) zwX2_weigh_32 rfl) (z_wat (q := 32) (j := 22) zwX2_weigh_32 rfl) (z_wat (q := 32) (j := 23) zwX2_weigh_32 rfl) rfl
theorem dX2_weigh_56 : decode cX2_weigh 56 = .ok (.iload_n 2, 1) := z_o28 (z_wat (q := 32) (j := 24) zwX2_weigh_32 rfl)
theorem dX2_weigh_57 : decode cX2_weigh 57 = .ok (.bipush 12, 2) := z_o16 (z_wat (q := 32) (j := 25) zwX2_weigh_32 rfl) (z_wat (q := 32) (j := 26) zwX2_weigh_32 rfl) rfl
theorem dX2_weigh_59 : decode cX2_weigh 59 = .ok (.imul, 1) := z_o104 (z_wat (q := 32) (j := 27) zwX2_weigh_32 rfl)
theorem dX2_weigh_60 : decode cX2_weigh 60 = .ok (.iload_n 3, 1) := z_o29 (z_wat (q := 32) (j := 28) zwX2_weigh_32 rfl)
theorem dX2_weigh_61 : decode cX2_weigh 61 = .ok (.iadd, 1) := z_o96 (z_wat (q := 32) (j := 29) zwX2_weigh_32 rfl)
theorem dX2_weigh_62 : decode cX2_weigh 62 = .ok (.iaload, 1) := z_o46 (z_wat (q := 32) (j := 30) zwX2_weigh_32 rfl)
theorem dX2_weigh_63 : decode cX2_weigh 63 = .ok (.iadd, 1) := z_o96 (z_wat (q := 32) (j := 31) zwX2_weigh_32 rfl)
theorem zwX2_weigh_64 : ((cX2_weigh.data.toList.drop 64).take 34).map UInt8.toNat = [79, 132, 3, 1, 167, 255, 219, 132, 2, 1, 167, 255, 189, 3, 61, 28, 42, 180, 0, 9, 162, 0, 31, 3, 62, 29, 42, 180, 0, 15, 162, 0, 15, 42] := by decide +kernel
theorem dX2_weigh_64 : decode cX2_weigh 64 = .ok (.iastore, 1) := z_o79 (z_wat (q := 64) (j := 0) zwX2_weigh_64 rfl)
theorem dX2_weigh_65 : decode cX2_weigh 65 = .ok (.iinc 3 1, 3) := z_o132 (z_wat (q := 64) (j := 1) zwX2_weigh_64 rfl) (z_wat (q := 64) (j := 2) zwX2_weigh_64 rfl) (z_wat (q := 64) (j := 3) zwX2_weigh_64 rfl) rfl
theorem dX2_weigh_68 : decode cX2_weigh 68 = .ok (.goto (-37), 3) := z_o167 (z_wat (q := 64) (j := 4) zwX2_weigh_64 rfl) (z_wat (q := 64) (j := 5) zwX2_weigh_64 rfl) (z_wat (q := 64) (j := 6) zwX2_weigh_64 rfl) rfl
theorem dX2_weigh_71 : decode cX2_weigh 71 = .ok (.iinc 2 1, 3) := z_o132 (z_wat (q := 64) (j := 7) zwX2_weigh_64 rfl) (z_wat (q := 64) (j := 8) zwX2_weigh_64 rfl) (z_wat (q := 64) (j := 9) zwX2_weigh_64 rfl) rfl
theorem dX2_weigh_74 : decode cX2_weigh 74 = .ok (.goto (-67), 3) := z_o167 (z_wat (q := 64) (j := 10) zwX2_weigh_64 rfl) (z_wat (q := 64) (j := 11) zwX2_weigh_64 rfl) (z_wat (q := 64) (j := 12) zwX2_weigh_64 rfl) rfl
theorem dX2_weigh_77 : decode cX2_weigh 77 = .ok (.iconst 0, 1) := z_o3 (z_wat (q := 64) (j := 13) zwX2_weigh_64 rfl)
theorem dX2_weigh_78 : decode cX2_weigh 78 = .ok (.istore_n 2, 1) := z_o61 (z_wat (q := 64) (j := 14) zwX2_weigh_64 rfl)
theorem dX2_weigh_79 : decode cX2_weigh 79 = .ok (.iload_n 2, 1) := z_o28 (z_wat (q := 64) (j := 15) zwX2_weigh_64 rfl)
theorem dX2_weigh_80 : decode cX2_weigh 80 = .ok (.aload_n 0, 1) := z_o42 (z_wat (q := 64) (j := 16) zwX2_weigh_64 rfl)
theorem dX2_weigh_81 : decode cX2_weigh 81 = .ok (.getfield 9, 3) := z_o180 (z_wat (q := 64) (j := 17) zwX2_weigh_64 rfl) (z_wat (q := 64) (j := 18) zwX2_weigh_64 rfl) (z_wat (q := 64) (j := 19) zwX2_weigh_64 rfl) rfl
theorem dX2_weigh_84 : decode cX2_weigh 84 = .ok (.if_icmp .ge 31, 3) := z_o162 (z_wat (q := 64) (j := 20) zwX2_weigh_64 rfl) (z_wat (q := 64) (j := 21) zwX2_weigh_64 rfl) (z_wat (q := 64) (j := 22) zwX2_weigh_64 rfl) rfl
theorem dX2_weigh_87 : decode cX2_weigh 87 = .ok (.iconst 0, 1) := z_o3 (z_wat (q := 64) (j := 23) zwX2_weigh_64 rfl)
theorem dX2_weigh_88 : decode cX2_weigh 88 = .ok (.istore_n 3, 1) := z_o62 (z_wat (q := 64) (j := 24) zwX2_weigh_64 rfl)
theorem dX2_weigh_89 : decode cX2_weigh 89 = .ok (.iload_n 3, 1) := z_o29 (z_wat (q := 64) (j := 25) zwX2_weigh_64 rfl)
theorem dX2_weigh_90 : decode cX2_weigh 90 = .ok (.aload_n 0, 1) := z_o42 (z_wat (q := 64) (j := 26) zwX2_weigh_64 rfl)
theorem dX2_weigh_91 : decode cX2_weigh 91 = .ok (.getfield 15, 3) := z_o180 (z_wat (q := 64) (j := 27) zwX2_weigh_64 rfl) (z_wat (q := 64) (j := 28) zwX2_weigh_64 rfl) (z_wat (q := 64) (j := 29) zwX2_weigh_64 rfl) rfl
theorem dX2_weigh_94 : decode cX2_weigh 94 = .ok (.if_icmp .ge 15, 3) := z_o162 (z_wat (q := 64) (j := 30) zwX2_weigh_64 rfl) (z_wat (q := 64) (j := 31) zwX2_weigh_64 rfl) (z_wat (q := 64) (j := 32) zwX2_weigh_64 rfl) rfl
theorem zwX2_weigh_96 : ((cX2_weigh.data.toList.drop 96).take 24).map UInt8.toNat = [15, 42, 28, 29, 182, 0, 50, 132, 3, 1, 167, 255, 239, 132, 2, 1, 167, 255, 223, 42, 182, 0, 54, 177] := by decide +kernel
theorem dX2_weigh_97 : decode cX2_weigh 97 = .ok (.aload_n 0, 1) := z_o42 (z_wat (q := 96) (j := 1) zwX2_weigh_96 rfl)
theorem dX2_weigh_98 : decode cX2_weigh 98 = .ok (.iload_n 2, 1) := z_o28 (z_wat (q := 96) (j := 2) zwX2_weigh_96 rfl)
theorem dX2_weigh_99 : decode cX2_weigh 99 = .ok (.iload_n 3, 1) := z_o29 (z_wat (q := 96) (j := 3) zwX2_weigh_96 rfl)
theorem dX2_weigh_100 : decode cX2_weigh 100 = .ok (.invokevirtual 50, 3) := z_o182 (z_wat (q := 96) (j := 4) zwX2_weigh_96 rfl) (z_wat (q := 96) (j := 5) zwX2_weigh_96 rfl) (z_wat (q := 96) (j := 6) zwX2_weigh_96 rfl) rfl
theorem dX2_weigh_103 : decode cX2_weigh 103 = .ok (.iinc 3 1, 3) := z_o132 (z_wat (q := 96) (j := 7) zwX2_weigh_96 rfl) (z_wat (q := 96) (j := 8) zwX2_weigh_96 rfl) (z_wat (q := 96) (j := 9) zwX2_weigh_96 rfl) rfl
theorem dX2_weigh_106 : decode cX2_weigh 106 = .ok (.goto (-17), 3) := z_o167 (z_wat (q := 96) (j := 10) zwX2_weigh_96 rfl) (z_wat (q := 96) (j := 11) zwX2_weigh_96 rfl) (z_wat (q := 96) (j := 12) zwX2_weigh_96 rfl) rfl
theorem dX2_weigh_109 : decode cX2_weigh 109 = .ok (.iinc 2 1, 3) := z_o132 (z_wat (q := 96) (j := 13) zwX2_weigh_96 rfl) (z_wat (q := 96) (j := 14) zwX2_weigh_96 rfl) (z_wat (q := 96) (j := 15) zwX2_weigh_96 rfl) rfl
theorem dX2_weigh_112 : decode cX2_weigh 112 = .ok (.goto (-33), 3) := z_o167 (z_wat (q := 96) (j := 16) zwX2_weigh_96 rfl) (z_wat (q := 96) (j := 17) zwX2_weigh_96 rfl) (z_wat (q := 96) (j := 18) zwX2_weigh_96 rfl) rfl
theorem dX2_weigh_115 : decode cX2_weigh 115 = .ok (.aload_n 0, 1) := z_o42 (z_wat (q := 96) (j := 19) zwX2_weigh_96 rfl)
theorem dX2_weigh_116 : decode cX2_weigh 116 = .ok (.invokevirtual 54, 3) := z_o182 (z_wat (q := 96) (j := 20) zwX2_weigh_96 rfl) (z_wat (q := 96) (j := 21) zwX2_weigh_96 rfl) (z_wat (q := 96) (j := 22) zwX2_weigh_96 rfl) rfl
theorem dX2_weigh_119 : decode cX2_weigh 119 = .ok (.return_, 1) := z_o177 (z_wat (q := 96) (j := 23) zwX2_weigh_96 rfl)
theorem zwX2_weighCell_0 : ((cX2_weighCell.data.toList.drop 0).take 34).map UInt8.toNat = [2, 62, 2, 54, 4, 3, 54, 5, 3, 54, 6, 3, 54, 7, 21, 7, 42, 180, 0, 34, 162, 0, 100, 42, 180, 0, 18, 21, 7, 46, 27, 100, 42, 180] := by decide +kernel
theorem dX2_weighCell_0 : decode cX2_weighCell 0 = .ok (.iconst (-1), 1) := z_o2 (z_wat (q := 0) (j := 0) zwX2_weighCell_0 rfl)
theorem dX2_weighCell_1 : decode cX2_weighCell 1 = .ok (.istore_n 3, 1) := z_o62 (z_wat (q := 0) (j := 1) zwX2_weighCell_0 rfl)
theorem dX2_weighCell_2 : decode cX2_weighCell 2 = .ok (.iconst (-1), 1) := z_o2 (z_wat (q := 0) (j := 2) zwX2_weighCell_0 rfl)
theorem dX2_weighCell_3 : decode cX2_weighCell 3 = .ok (.istore 4, 2) := z_o54 (z_wat (q := 0) (j := 3) zwX2_weighCell_0 rfl) (z_wat (q := 0) (j := 4) zwX2_weighCell_0 rfl)
theorem dX2_weighCell_5 : decode cX2_weighCell 5 = .ok (.iconst 0, 1) := z_o3 (z_wat (q := 0) (j := 5) zwX2_weighCell_0 rfl)
theorem dX2_weighCell_6 : decode cX2_weighCell 6 = .ok (.istore 5, 2) := z_o54 (z_wat (q := 0) (j := 6) zwX2_weighCell_0 rfl) (z_wat (q := 0) (j := 7) zwX2_weighCell_0 rfl)
theorem dX2_weighCell_8 : decode cX2_weighCell 8 = .ok (.iconst 0, 1) := z_o3 (z_wat (q := 0) (j := 8) zwX2_weighCell_0 rfl)
theorem dX2_weighCell_9 : decode cX2_weighCell 9 = .ok (.istore 6, 2) := z_o54 (z_wat (q := 0) (j := 9) zwX2_weighCell_0 rfl) (z_wat (q := 0) (j := 10) zwX2_weighCell_0 rfl)
theorem dX2_weighCell_11 : decode cX2_weighCell 11 = .ok (.iconst 0, 1) := z_o3 (z_wat (q := 0) (j := 11) zwX2_weighCell_0 rfl)
theorem dX2_weighCell_12 : decode cX2_weighCell 12 = .ok (.istore 7, 2) := z_o54 (z_wat (q := 0) (j := 12) zwX2_weighCell_0 rfl) (z_wat (q := 0) (j := 13) zwX2_weighCell_0 rfl)
theorem dX2_weighCell_14 : decode cX2_weighCell 14 = .ok (.iload 7, 2) := z_o21 (z_wat (q := 0) (j := 14) zwX2_weighCell_0 rfl) (z_wat (q := 0) (j := 15) zwX2_weighCell_0 rfl)
theorem dX2_weighCell_16 : decode cX2_weighCell 16 = .ok (.aload_n 0, 1) := z_o42 (z_wat (q := 0) (j := 16) zwX2_weighCell_0 rfl)
theorem dX2_weighCell_17 : decode cX2_weighCell 17 = .ok (.getfield 34, 3) := z_o180 (z_wat (q := 0) (j := 17) zwX2_weighCell_0 rfl) (z_wat (q := 0) (j := 18) zwX2_weighCell_0 rfl) (z_wat (q := 0) (j := 19) zwX2_weighCell_0 rfl) rfl
theorem dX2_weighCell_20 : decode cX2_weighCell 20 = .ok (.if_icmp .ge 100, 3) := z_o162 (z_wat (q := 0) (j := 20) zwX2_weighCell_0 rfl) (z_wat (q := 0) (j := 21) zwX2_weighCell_0 rfl) (z_wat (q := 0) (j := 22) zwX2_weighCell_0 rfl) rfl
theorem dX2_weighCell_23 : decode cX2_weighCell 23 = .ok (.aload_n 0, 1) := z_o42 (z_wat (q := 0) (j := 23) zwX2_weighCell_0 rfl)
theorem dX2_weighCell_24 : decode cX2_weighCell 24 = .ok (.getfield 18, 3) := z_o180 (z_wat (q := 0) (j := 24) zwX2_weighCell_0 rfl) (z_wat (q := 0) (j := 25) zwX2_weighCell_0 rfl) (z_wat (q := 0) (j := 26) zwX2_weighCell_0 rfl) rfl
theorem dX2_weighCell_27 : decode cX2_weighCell 27 = .ok (.iload 7, 2) := z_o21 (z_wat (q := 0) (j := 27) zwX2_weighCell_0 rfl) (z_wat (q := 0) (j := 28) zwX2_weighCell_0 rfl)
theorem dX2_weighCell_29 : decode cX2_weighCell 29 = .ok (.iaload, 1) := z_o46 (z_wat (q := 0) (j := 29) zwX2_weighCell_0 rfl)
theorem dX2_weighCell_30 : decode cX2_weighCell 30 = .ok (.iload_n 1, 1) := z_o27 (z_wat (q := 0) (j := 30) zwX2_weighCell_0 rfl)
theorem dX2_weighCell_31 : decode cX2_weighCell 31 = .ok (.isub, 1) := z_o100 (z_wat (q := 0) (j := 31) zwX2_weighCell_0 rfl)
theorem zwX2_weighCell_32 : ((cX2_weighCell.data.toList.drop 32).take 34).map UInt8.toNat = [42, 180, 0, 18, 21, 7, 46, 27, 100, 104, 42, 180, 0, 22, 21, 7, 46, 28, 100, 42, 180, 0, 22, 21, 7, 46, 28, 100, 104, 96, 54, 8, 29, 2] := by decide +kernel
theorem dX2_weighCell_32 : decode cX2_weighCell 32 = .ok (.aload_n 0, 1) := z_o42 (z_wat (q := 32) (j := 0) zwX2_weighCell_32 rfl)
theorem dX2_weighCell_33 : decode cX2_weighCell 33 = .ok (.getfield 18, 3) := z_o180 (z_wat (q := 32) (j := 1) zwX2_weighCell_32 rfl) (z_wat (q := 32) (j := 2) zwX2_weighCell_32 rfl) (z_wat (q := 32) (j := 3) zwX2_weighCell_32 rfl) rfl
theorem dX2_weighCell_36 : decode cX2_weighCell 36 = .ok (.iload 7, 2) := z_o21 (z_wat (q := 32) (j := 4) zwX2_weighCell_32 rfl) (z_wat (q := 32) (j := 5) zwX2_weighCell_32 rfl)
theorem dX2_weighCell_38 : decode cX2_weighCell 38 = .ok (.iaload, 1) := z_o46 (z_wat (q := 32) (j := 6) zwX2_weighCell_32 rfl)
theorem dX2_weighCell_39 : decode cX2_weighCell 39 = .ok (.iload_n 1, 1) := z_o27 (z_wat (q := 32) (j := 7) zwX2_weighCell_32 rfl)
theorem dX2_weighCell_40 : decode cX2_weighCell 40 = .ok (.isub, 1) := z_o100 (z_wat (q := 32) (j := 8) zwX2_weighCell_32 rfl)
theorem dX2_weighCell_41 : decode cX2_weighCell 41 = .ok (.imul, 1) := z_o104 (z_wat (q := 32) (j := 9) zwX2_weighCell_32 rfl)
theorem dX2_weighCell_42 : decode cX2_weighCell 42 = .ok (.aload_n 0, 1) := z_o42 (z_wat (q := 32) (j := 10) zwX2_weighCell_32 rfl)
theorem dX2_weighCell_43 : decode cX2_weighCell 43 = .ok (.getfield 22, 3) := z_o180 (z_wat (q := 32) (j := 11) zwX2_weighCell_32 rfl) (z_wat (q := 32) (j := 12) zwX2_weighCell_32 rfl) (z_wat (q := 32) (j := 13) zwX2_weighCell_32 rfl) rfl
theorem dX2_weighCell_46 : decode cX2_weighCell 46 = .ok (.iload 7, 2) := z_o21 (z_wat (q := 32) (j := 14) zwX2_weighCell_32 rfl) (z_wat (q := 32) (j := 15) zwX2_weighCell_32 rfl)
theorem dX2_weighCell_48 : decode cX2_weighCell 48 = .ok (.iaload, 1) := z_o46 (z_wat (q := 32) (j := 16) zwX2_weighCell_32 rfl)
theorem dX2_weighCell_49 : decode cX2_weighCell 49 = .ok (.iload_n 2, 1) := z_o28 (z_wat (q := 32) (j := 17) zwX2_weighCell_32 rfl)
theorem dX2_weighCell_50 : decode cX2_weighCell 50 = .ok (.isub, 1) := z_o100 (z_wat (q := 32) (j := 18) zwX2_weighCell_32 rfl)
theorem dX2_weighCell_51 : decode cX2_weighCell 51 = .ok (.aload_n 0, 1) := z_o42 (z_wat (q := 32) (j := 19) zwX2_weighCell_32 rfl)
theorem dX2_weighCell_52 : decode cX2_weighCell 52 = .ok (.getfield 22, 3) := z_o180 (z_wat (q := 32) (j := 20) zwX2_weighCell_32 rfl) (z_wat (q := 32) (j := 21) zwX2_weighCell_32 rfl) (z_wat (q := 32) (j := 22) zwX2_weighCell_32 rfl) rfl
theorem dX2_weighCell_55 : decode cX2_weighCell 55 = .ok (.iload 7, 2) := z_o21 (z_wat (q := 32) (j := 23) zwX2_weighCell_32 rfl) (z_wat (q := 32) (j := 24) zwX2_weighCell_32 rfl)
theorem dX2_weighCell_57 : decode cX2_weighCell 57 = .ok (.iaload, 1) := z_o46 (z_wat (q := 32) (j := 25) zwX2_weighCell_32 rfl)
theorem dX2_weighCell_58 : decode cX2_weighCell 58 = .ok (.iload_n 2, 1) := z_o28 (z_wat (q := 32) (j := 26) zwX2_weighCell_32 rfl)
theorem dX2_weighCell_59 : decode cX2_weighCell 59 = .ok (.isub, 1) := z_o100 (z_wat (q := 32) (j := 27) zwX2_weighCell_32 rfl)
theorem dX2_weighCell_60 : decode cX2_weighCell 60 = .ok (.imul, 1) := z_o104 (z_wat (q := 32) (j := 28) zwX2_weighCell_32 rfl)
theorem dX2_weighCell_61 : decode cX2_weighCell 61 = .ok (.iadd, 1) := z_o96 (z_wat (q := 32) (j := 29) zwX2_weighCell_32 rfl)
theorem dX2_weighCell_62 : decode cX2_weighCell 62 = .ok (.istore 8, 2) := z_o54 (z_wat (q := 32) (j := 30) zwX2_weighCell_32 rfl) (z_wat (q := 32) (j := 31) zwX2_weighCell_32 rfl)
theorem zwX2_weighCell_64 : ((cX2_weighCell.data.toList.drop 64).take 34).map UInt8.toNat = [29, 2, 159, 0, 10, 21, 8, 21, 5, 162, 0, 20, 29, 54, 4, 21, 5, 54, 6, 21, 7, 62, 21, 8, 54, 5, 167, 0, 24, 21, 4, 2, 159, 0] := by decide +kernel
theorem dX2_weighCell_64 : decode cX2_weighCell 64 = .ok (.iload_n 3, 1) := z_o29 (z_wat (q := 64) (j := 0) zwX2_weighCell_64 rfl)
theorem dX2_weighCell_65 : decode cX2_weighCell 65 = .ok (.iconst (-1), 1) := z_o2 (z_wat (q := 64) (j := 1) zwX2_weighCell_64 rfl)
theorem dX2_weighCell_66 : decode cX2_weighCell 66 = .ok (.if_icmp .eq 10, 3) := z_o159 (z_wat (q := 64) (j := 2) zwX2_weighCell_64 rfl) (z_wat (q := 64) (j := 3) zwX2_weighCell_64 rfl) (z_wat (q := 64) (j := 4) zwX2_weighCell_64 rfl) rfl
theorem dX2_weighCell_69 : decode cX2_weighCell 69 = .ok (.iload 8, 2) := z_o21 (z_wat (q := 64) (j := 5) zwX2_weighCell_64 rfl) (z_wat (q := 64) (j := 6) zwX2_weighCell_64 rfl)
theorem dX2_weighCell_71 : decode cX2_weighCell 71 = .ok (.iload 5, 2) := z_o21 (z_wat (q := 64) (j := 7) zwX2_weighCell_64 rfl) (z_wat (q := 64) (j := 8) zwX2_weighCell_64 rfl)
theorem dX2_weighCell_73 : decode cX2_weighCell 73 = .ok (.if_icmp .ge 20, 3) := z_o162 (z_wat (q := 64) (j := 9) zwX2_weighCell_64 rfl) (z_wat (q := 64) (j := 10) zwX2_weighCell_64 rfl) (z_wat (q := 64) (j := 11) zwX2_weighCell_64 rfl) rfl
theorem dX2_weighCell_76 : decode cX2_weighCell 76 = .ok (.iload_n 3, 1) := z_o29 (z_wat (q := 64) (j := 12) zwX2_weighCell_64 rfl)
theorem dX2_weighCell_77 : decode cX2_weighCell 77 = .ok (.istore 4, 2) := z_o54 (z_wat (q := 64) (j := 13) zwX2_weighCell_64 rfl) (z_wat (q := 64) (j := 14) zwX2_weighCell_64 rfl)
theorem dX2_weighCell_79 : decode cX2_weighCell 79 = .ok (.iload 5, 2) := z_o21 (z_wat (q := 64) (j := 15) zwX2_weighCell_64 rfl) (z_wat (q := 64) (j := 16) zwX2_weighCell_64 rfl)
theorem dX2_weighCell_81 : decode cX2_weighCell 81 = .ok (.istore 6, 2) := z_o54 (z_wat (q := 64) (j := 17) zwX2_weighCell_64 rfl) (z_wat (q := 64) (j := 18) zwX2_weighCell_64 rfl)
theorem dX2_weighCell_83 : decode cX2_weighCell 83 = .ok (.iload 7, 2) := z_o21 (z_wat (q := 64) (j := 19) zwX2_weighCell_64 rfl) (z_wat (q := 64) (j := 20) zwX2_weighCell_64 rfl)
theorem dX2_weighCell_85 : decode cX2_weighCell 85 = .ok (.istore_n 3, 1) := z_o62 (z_wat (q := 64) (j := 21) zwX2_weighCell_64 rfl)
theorem dX2_weighCell_86 : decode cX2_weighCell 86 = .ok (.iload 8, 2) := z_o21 (z_wat (q := 64) (j := 22) zwX2_weighCell_64 rfl) (z_wat (q := 64) (j := 23) zwX2_weighCell_64 rfl)
theorem dX2_weighCell_88 : decode cX2_weighCell 88 = .ok (.istore 5, 2) := z_o54 (z_wat (q := 64) (j := 24) zwX2_weighCell_64 rfl) (z_wat (q := 64) (j := 25) zwX2_weighCell_64 rfl)
theorem dX2_weighCell_90 : decode cX2_weighCell 90 = .ok (.goto 24, 3) := z_o167 (z_wat (q := 64) (j := 26) zwX2_weighCell_64 rfl) (z_wat (q := 64) (j := 27) zwX2_weighCell_64 rfl) (z_wat (q := 64) (j := 28) zwX2_weighCell_64 rfl) rfl
theorem dX2_weighCell_93 : decode cX2_weighCell 93 = .ok (.iload 4, 2) := z_o21 (z_wat (q := 64) (j := 29) zwX2_weighCell_64 rfl) (z_wat (q := 64) (j := 30) zwX2_weighCell_64 rfl)
theorem dX2_weighCell_95 : decode cX2_weighCell 95 = .ok (.iconst (-1), 1) := z_o2 (z_wat (q := 64) (j := 31) zwX2_weighCell_64 rfl)
theorem zwX2_weighCell_96 : ((cX2_weighCell.data.toList.drop 96).take 34).map UInt8.toNat = [159, 0, 10, 21, 8, 21, 6, 162, 0, 11, 21, 7, 54, 4, 21, 8, 54, 6, 132, 7, 1, 167, 255, 153, 29, 2, 160, 0, 4, 177, 42, 89, 180, 0] := by decide +kernel
theorem dX2_weighCell_96 : decode cX2_weighCell 96 = .ok (.if_icmp .eq 10, 3) := z_o159 (z_wat (q := 96) (j := 0) zwX2_weighCell_96 rfl) (z_wat (q := 96) (j := 1) zwX2_weighCell_96 rfl) (z_wat (q := 96) (j := 2) zwX2_weighCell_96 rfl) rfl
theorem dX2_weighCell_99 : decode cX2_weighCell 99 = .ok (.iload 8, 2) := z_o21 (z_wat (q := 96) (j := 3) zwX2_weighCell_96 rfl) (z_wat (q := 96) (j := 4) zwX2_weighCell_96 rfl)
theorem dX2_weighCell_101 : decode cX2_weighCell 101 = .ok (.iload 6, 2) := z_o21 (z_wat (q := 96) (j := 5) zwX2_weighCell_96 rfl) (z_wat (q := 96) (j := 6) zwX2_weighCell_96 rfl)
theorem dX2_weighCell_103 : decode cX2_weighCell 103 = .ok (.if_icmp .ge 11, 3) := z_o162 (z_wat (q := 96) (j := 7) zwX2_weighCell_96 rfl) (z_wat (q := 96) (j := 8) zwX2_weighCell_96 rfl) (z_wat (q := 96) (j := 9) zwX2_weighCell_96 rfl) rfl
theorem dX2_weighCell_106 : decode cX2_weighCell 106 = .ok (.iload 7, 2) := z_o21 (z_wat (q := 96) (j := 10) zwX2_weighCell_96 rfl) (z_wat (q := 96) (j := 11) zwX2_weighCell_96 rfl)
theorem dX2_weighCell_108 : decode cX2_weighCell 108 = .ok (.istore 4, 2) := z_o54 (z_wat (q := 96) (j := 12) zwX2_weighCell_96 rfl) (z_wat (q := 96) (j := 13) zwX2_weighCell_96 rfl)
theorem dX2_weighCell_110 : decode cX2_weighCell 110 = .ok (.iload 8, 2) := z_o21 (z_wat (q := 96) (j := 14) zwX2_weighCell_96 rfl) (z_wat (q := 96) (j := 15) zwX2_weighCell_96 rfl)
theorem dX2_weighCell_112 : decode cX2_weighCell 112 = .ok (.istore 6, 2) := z_o54 (z_wat (q := 96) (j := 16) zwX2_weighCell_96 rfl) (z_wat (q := 96) (j := 17) zwX2_weighCell_96 rfl)
theorem dX2_weighCell_114 : decode cX2_weighCell 114 = .ok (.iinc 7 1, 3) := z_o132 (z_wat (q := 96) (j := 18) zwX2_weighCell_96 rfl) (z_wat (q := 96) (j := 19) zwX2_weighCell_96 rfl) (z_wat (q := 96) (j := 20) zwX2_weighCell_96 rfl) rfl
theorem dX2_weighCell_117 : decode cX2_weighCell 117 = .ok (.goto (-103), 3) := z_o167 (z_wat (q := 96) (j := 21) zwX2_weighCell_96 rfl) (z_wat (q := 96) (j := 22) zwX2_weighCell_96 rfl) (z_wat (q := 96) (j := 23) zwX2_weighCell_96 rfl) rfl
theorem dX2_weighCell_120 : decode cX2_weighCell 120 = .ok (.iload_n 3, 1) := z_o29 (z_wat (q := 96) (j := 24) zwX2_weighCell_96 rfl)
theorem dX2_weighCell_121 : decode cX2_weighCell 121 = .ok (.iconst (-1), 1) := z_o2 (z_wat (q := 96) (j := 25) zwX2_weighCell_96 rfl)
theorem dX2_weighCell_122 : decode cX2_weighCell 122 = .ok (.if_icmp .ne 4, 3) := z_o160 (z_wat (q := 96) (j := 26) zwX2_weighCell_96 rfl) (z_wat (q := 96) (j := 27) zwX2_weighCell_96 rfl) (z_wat (q := 96) (j := 28) zwX2_weighCell_96 rfl) rfl
theorem dX2_weighCell_125 : decode cX2_weighCell 125 = .ok (.return_, 1) := z_o177 (z_wat (q := 96) (j := 29) zwX2_weighCell_96 rfl)
theorem dX2_weighCell_126 : decode cX2_weighCell 126 = .ok (.aload_n 0, 1) := z_o42 (z_wat (q := 96) (j := 30) zwX2_weighCell_96 rfl)
theorem dX2_weighCell_127 : decode cX2_weighCell 127 = .ok (.dup, 1) := z_o89 (z_wat (q := 96) (j := 31) zwX2_weighCell_96 rfl)
theorem zwX2_weighCell_128 : ((cX2_weighCell.data.toList.drop 128).take 34).map UInt8.toNat = [180, 0, 37, 42, 180, 0, 25, 29, 46, 96, 181, 0, 37, 21, 4, 2, 159, 0, 26, 42, 180, 0, 28, 29, 92, 46, 42, 180, 0, 25, 21, 4, 46, 42] := by decide +kernel
theorem dX2_weighCell_128 : decode cX2_weighCell 128 = .ok (.getfield 37, 3) := z_o180 (z_wat (q := 128) (j := 0) zwX2_weighCell_128 rfl) (z_wat (q := 128) (j := 1) zwX2_weighCell_128 rfl) (z_wat (q := 128) (j := 2) zwX2_weighCell_128 rfl) rfl
theorem dX2_weighCell_131 : decode cX2_weighCell 131 = .ok (.aload_n 0, 1) := z_o42 (z_wat (q := 128) (j := 3) zwX2_weighCell_128 rfl)
theorem dX2_weighCell_132 : decode cX2_weighCell 132 = .ok (.getfield 25, 3) := z_o180 (z_wat (q := 128) (j := 4) zwX2_weighCell_128 rfl) (z_wat (q := 128) (j := 5) zwX2_weighCell_128 rfl) (z_wat (q := 128) (j := 6) zwX2_weighCell_128 rfl) rfl
theorem dX2_weighCell_135 : decode cX2_weighCell 135 = .ok (.iload_n 3, 1) := z_o29 (z_wat (q := 128) (j := 7) zwX2_weighCell_128 rfl)
theorem dX2_weighCell_136 : decode cX2_weighCell 136 = .ok (.iaload, 1) := z_o46 (z_wat (q := 128) (j := 8) zwX2_weighCell_128 rfl)
theorem dX2_weighCell_137 : decode cX2_weighCell 137 = .ok (.iadd, 1) := z_o96 (z_wat (q := 128) (j := 9) zwX2_weighCell_128 rfl)
theorem dX2_weighCell_138 : decode cX2_weighCell 138 = .ok (.putfield 37, 3) := z_o181 (z_wat (q := 128) (j := 10) zwX2_weighCell_128 rfl) (z_wat (q := 128) (j := 11) zwX2_weighCell_128 rfl) (z_wat (q := 128) (j := 12) zwX2_weighCell_128 rfl) rfl
theorem dX2_weighCell_141 : decode cX2_weighCell 141 = .ok (.iload 4, 2) := z_o21 (z_wat (q := 128) (j := 13) zwX2_weighCell_128 rfl) (z_wat (q := 128) (j := 14) zwX2_weighCell_128 rfl)
theorem dX2_weighCell_143 : decode cX2_weighCell 143 = .ok (.iconst (-1), 1) := z_o2 (z_wat (q := 128) (j := 15) zwX2_weighCell_128 rfl)
theorem dX2_weighCell_144 : decode cX2_weighCell 144 = .ok (.if_icmp .eq 26, 3) := z_o159 (z_wat (q := 128) (j := 16) zwX2_weighCell_128 rfl) (z_wat (q := 128) (j := 17) zwX2_weighCell_128 rfl) (z_wat (q := 128) (j := 18) zwX2_weighCell_128 rfl) rfl
theorem dX2_weighCell_147 : decode cX2_weighCell 147 = .ok (.aload_n 0, 1) := z_o42 (z_wat (q := 128) (j := 19) zwX2_weighCell_128 rfl)
theorem dX2_weighCell_148 : decode cX2_weighCell 148 = .ok (.getfield 28, 3) := z_o180 (z_wat (q := 128) (j := 20) zwX2_weighCell_128 rfl) (z_wat (q := 128) (j := 21) zwX2_weighCell_128 rfl) (z_wat (q := 128) (j := 22) zwX2_weighCell_128 rfl) rfl
theorem dX2_weighCell_151 : decode cX2_weighCell 151 = .ok (.iload_n 3, 1) := z_o29 (z_wat (q := 128) (j := 23) zwX2_weighCell_128 rfl)
theorem dX2_weighCell_152 : decode cX2_weighCell 152 = .ok (.dup2, 1) := z_o92 (z_wat (q := 128) (j := 24) zwX2_weighCell_128 rfl)
theorem dX2_weighCell_153 : decode cX2_weighCell 153 = .ok (.iaload, 1) := z_o46 (z_wat (q := 128) (j := 25) zwX2_weighCell_128 rfl)
theorem dX2_weighCell_154 : decode cX2_weighCell 154 = .ok (.aload_n 0, 1) := z_o42 (z_wat (q := 128) (j := 26) zwX2_weighCell_128 rfl)
theorem dX2_weighCell_155 : decode cX2_weighCell 155 = .ok (.getfield 25, 3) := z_o180 (z_wat (q := 128) (j := 27) zwX2_weighCell_128 rfl) (z_wat (q := 128) (j := 28) zwX2_weighCell_128 rfl) (z_wat (q := 128) (j := 29) zwX2_weighCell_128 rfl) rfl
theorem dX2_weighCell_158 : decode cX2_weighCell 158 = .ok (.iload 4, 2) := z_o21 (z_wat (q := 128) (j := 30) zwX2_weighCell_128 rfl) (z_wat (q := 128) (j := 31) zwX2_weighCell_128 rfl)
theorem zwX2_weighCell_160 : ((cX2_weighCell.data.toList.drop 160).take 11).map UInt8.toNat = [46, 42, 180, 0, 25, 29, 46, 100, 96, 79, 177] := by decide +kernel
theorem dX2_weighCell_160 : decode cX2_weighCell 160 = .ok (.iaload, 1) := z_o46 (z_wat (q := 160) (j := 0) zwX2_weighCell_160 rfl)
theorem dX2_weighCell_161 : decode cX2_weighCell 161 = .ok (.aload_n 0, 1) := z_o42 (z_wat (q := 160) (j := 1) zwX2_weighCell_160 rfl)
theorem dX2_weighCell_162 : decode cX2_weighCell 162 = .ok (.getfield 25, 3) := z_o180 (z_wat (q := 160) (j := 2) zwX2_weighCell_160 rfl) (z_wat (q := 160) (j := 3) zwX2_weighCell_160 rfl) (z_wat (q := 160) (j := 4) zwX2_weighCell_160 rfl) rfl
theorem dX2_weighCell_165 : decode cX2_weighCell 165 = .ok (.iload_n 3, 1) := z_o29 (z_wat (q := 160) (j := 5) zwX2_weighCell_160 rfl)
theorem dX2_weighCell_166 : decode cX2_weighCell 166 = .ok (.iaload, 1) := z_o46 (z_wat (q := 160) (j := 6) zwX2_weighCell_160 rfl)
theorem dX2_weighCell_167 : decode cX2_weighCell 167 = .ok (.isub, 1) := z_o100 (z_wat (q := 160) (j := 7) zwX2_weighCell_160 rfl)
theorem dX2_weighCell_168 : decode cX2_weighCell 168 = .ok (.iadd, 1) := z_o96 (z_wat (q := 160) (j := 8) zwX2_weighCell_160 rfl)
theorem dX2_weighCell_169 : decode cX2_weighCell 169 = .ok (.iastore, 1) := z_o79 (z_wat (q := 160) (j := 9) zwX2_weighCell_160 rfl)
theorem dX2_weighCell_170 : decode cX2_weighCell 170 = .ok (.return_, 1) := z_o177 (z_wat (q := 160) (j := 10) zwX2_weighCell_160 rfl)
theorem zwX6_areWithin_0 : ((cX6_areWithin.data.toList.drop 0).take 34).map UInt8.toNat = [27, 155, 0, 41, 27, 26, 163, 0, 36, 28, 155, 0, 32, 28, 26, 163, 0, 27, 29, 155, 0, 23, 29, 26, 163, 0, 18, 21, 4, 155, 0, 13, 21, 4] := by decide +kernel
theorem dX6_areWithin_0 : decode cX6_areWithin 0 = .ok (.iload_n 1, 1) := z_o27 (z_wat (q := 0) (j := 0) zwX6_areWithin_0 rfl)
theorem dX6_areWithin_1 : decode cX6_areWithin 1 = .ok (.ifCond .lt 41, 3) := z_o155 (z_wat (q := 0) (j := 1) zwX6_areWithin_0 rfl) (z_wat (q := 0) (j := 2) zwX6_areWithin_0 rfl) (z_wat (q := 0) (j := 3) zwX6_areWithin_0 rfl) rfl
theorem dX6_areWithin_4 : decode cX6_areWithin 4 = .ok (.iload_n 1, 1) := z_o27 (z_wat (q := 0) (j := 4) zwX6_areWithin_0 rfl)
theorem dX6_areWithin_5 : decode cX6_areWithin 5 = .ok (.iload_n 0, 1) := z_o26 (z_wat (q := 0) (j := 5) zwX6_areWithin_0 rfl)
theorem dX6_areWithin_6 : decode cX6_areWithin 6 = .ok (.if_icmp .gt 36, 3) := z_o163 (z_wat (q := 0) (j := 6) zwX6_areWithin_0 rfl) (z_wat (q := 0) (j := 7) zwX6_areWithin_0 rfl) (z_wat (q := 0) (j := 8) zwX6_areWithin_0 rfl) rfl
theorem dX6_areWithin_9 : decode cX6_areWithin 9 = .ok (.iload_n 2, 1) := z_o28 (z_wat (q := 0) (j := 9) zwX6_areWithin_0 rfl)
theorem dX6_areWithin_10 : decode cX6_areWithin 10 = .ok (.ifCond .lt 32, 3) := z_o155 (z_wat (q := 0) (j := 10) zwX6_areWithin_0 rfl) (z_wat (q := 0) (j := 11) zwX6_areWithin_0 rfl) (z_wat (q := 0) (j := 12) zwX6_areWithin_0 rfl) rfl
theorem dX6_areWithin_13 : decode cX6_areWithin 13 = .ok (.iload_n 2, 1) := z_o28 (z_wat (q := 0) (j := 13) zwX6_areWithin_0 rfl)
theorem dX6_areWithin_14 : decode cX6_areWithin 14 = .ok (.iload_n 0, 1) := z_o26 (z_wat (q := 0) (j := 14) zwX6_areWithin_0 rfl)
theorem dX6_areWithin_15 : decode cX6_areWithin 15 = .ok (.if_icmp .gt 27, 3) := z_o163 (z_wat (q := 0) (j := 15) zwX6_areWithin_0 rfl) (z_wat (q := 0) (j := 16) zwX6_areWithin_0 rfl) (z_wat (q := 0) (j := 17) zwX6_areWithin_0 rfl) rfl
theorem dX6_areWithin_18 : decode cX6_areWithin 18 = .ok (.iload_n 3, 1) := z_o29 (z_wat (q := 0) (j := 18) zwX6_areWithin_0 rfl)
theorem dX6_areWithin_19 : decode cX6_areWithin 19 = .ok (.ifCond .lt 23, 3) := z_o155 (z_wat (q := 0) (j := 19) zwX6_areWithin_0 rfl) (z_wat (q := 0) (j := 20) zwX6_areWithin_0 rfl) (z_wat (q := 0) (j := 21) zwX6_areWithin_0 rfl) rfl
theorem dX6_areWithin_22 : decode cX6_areWithin 22 = .ok (.iload_n 3, 1) := z_o29 (z_wat (q := 0) (j := 22) zwX6_areWithin_0 rfl)
theorem dX6_areWithin_23 : decode cX6_areWithin 23 = .ok (.iload_n 0, 1) := z_o26 (z_wat (q := 0) (j := 23) zwX6_areWithin_0 rfl)
theorem dX6_areWithin_24 : decode cX6_areWithin 24 = .ok (.if_icmp .gt 18, 3) := z_o163 (z_wat (q := 0) (j := 24) zwX6_areWithin_0 rfl) (z_wat (q := 0) (j := 25) zwX6_areWithin_0 rfl) (z_wat (q := 0) (j := 26) zwX6_areWithin_0 rfl) rfl
theorem dX6_areWithin_27 : decode cX6_areWithin 27 = .ok (.iload 4, 2) := z_o21 (z_wat (q := 0) (j := 27) zwX6_areWithin_0 rfl) (z_wat (q := 0) (j := 28) zwX6_areWithin_0 rfl)
theorem dX6_areWithin_29 : decode cX6_areWithin 29 = .ok (.ifCond .lt 13, 3) := z_o155 (z_wat (q := 0) (j := 29) zwX6_areWithin_0 rfl) (z_wat (q := 0) (j := 30) zwX6_areWithin_0 rfl) (z_wat (q := 0) (j := 31) zwX6_areWithin_0 rfl) rfl
theorem zwX6_areWithin_32 : ((cX6_areWithin.data.toList.drop 32).take 12).map UInt8.toNat = [21, 4, 26, 163, 0, 7, 4, 167, 0, 4, 3, 172] := by decide +kernel
theorem dX6_areWithin_32 : decode cX6_areWithin 32 = .ok (.iload 4, 2) := z_o21 (z_wat (q := 32) (j := 0) zwX6_areWithin_32 rfl) (z_wat (q := 32) (j := 1) zwX6_areWithin_32 rfl)
theorem dX6_areWithin_34 : decode cX6_areWithin 34 = .ok (.iload_n 0, 1) := z_o26 (z_wat (q := 32) (j := 2) zwX6_areWithin_32 rfl)
theorem dX6_areWithin_35 : decode cX6_areWithin 35 = .ok (.if_icmp .gt 7, 3) := z_o163 (z_wat (q := 32) (j := 3) zwX6_areWithin_32 rfl) (z_wat (q := 32) (j := 4) zwX6_areWithin_32 rfl) (z_wat (q := 32) (j := 5) zwX6_areWithin_32 rfl) rfl
theorem dX6_areWithin_38 : decode cX6_areWithin 38 = .ok (.iconst 1, 1) := z_o4 (z_wat (q := 32) (j := 6) zwX6_areWithin_32 rfl)
theorem dX6_areWithin_39 : decode cX6_areWithin 39 = .ok (.goto 4, 3) := z_o167 (z_wat (q := 32) (j := 7) zwX6_areWithin_32 rfl) (z_wat (q := 32) (j := 8) zwX6_areWithin_32 rfl) (z_wat (q := 32) (j := 9) zwX6_areWithin_32 rfl) rfl
theorem dX6_areWithin_42 : decode cX6_areWithin 42 = .ok (.iconst 0, 1) := z_o3 (z_wat (q := 32) (j := 10) zwX6_areWithin_32 rfl)
theorem dX6_areWithin_43 : decode cX6_areWithin 43 = .ok (.ireturn, 1) := z_o172 (z_wat (q := 32) (j := 11) zwX6_areWithin_32 rfl)
theorem zwX6_has_0 : ((cX6_has.data.toList.drop 0).take 15).map UInt8.toNat = [26, 155, 0, 12, 26, 6, 162, 0, 7, 4, 167, 0, 4, 3, 172] := by decide +kernel
theorem dX6_has_0 : decode cX6_has 0 = .ok (.iload_n 0, 1) := z_o26 (z_wat (q := 0) (j := 0) zwX6_has_0 rfl)
theorem dX6_has_1 : decode cX6_has 1 = .ok (.ifCond .lt 12, 3) := z_o155 (z_wat (q := 0) (j := 1) zwX6_has_0 rfl) (z_wat (q := 0) (j := 2) zwX6_has_0 rfl) (z_wat (q := 0) (j := 3) zwX6_has_0 rfl) rfl
theorem dX6_has_4 : decode cX6_has 4 = .ok (.iload_n 0, 1) := z_o26 (z_wat (q := 0) (j := 4) zwX6_has_0 rfl)
theorem dX6_has_5 : decode cX6_has 5 = .ok (.iconst 3, 1) := z_o6 (z_wat (q := 0) (j := 5) zwX6_has_0 rfl)
theorem dX6_has_6 : decode cX6_has 6 = .ok (.if_icmp .ge 7, 3) := z_o162 (z_wat (q := 0) (j := 6) zwX6_has_0 rfl) (z_wat (q := 0) (j := 7) zwX6_has_0 rfl) (z_wat (q := 0) (j := 8) zwX6_has_0 rfl) rfl
theorem dX6_has_9 : decode cX6_has 9 = .ok (.iconst 1, 1) := z_o4 (z_wat (q := 0) (j := 9) zwX6_has_0 rfl)
theorem dX6_has_10 : decode cX6_has 10 = .ok (.goto 4, 3) := z_o167 (z_wat (q := 0) (j := 10) zwX6_has_0 rfl) (z_wat (q := 0) (j := 11) zwX6_has_0 rfl) (z_wat (q := 0) (j := 12) zwX6_has_0 rfl) rfl
theorem dX6_has_13 : decode cX6_has 13 = .ok (.iconst 0, 1) := z_o3 (z_wat (q := 0) (j := 13) zwX6_has_0 rfl)
theorem dX6_has_14 : decode cX6_has 14 = .ok (.ireturn, 1) := z_o172 (z_wat (q := 0) (j := 14) zwX6_has_0 rfl)
theorem zwX6_missAt_0 : ((cX6_missAt.data.toList.drop 0).take 34).map UInt8.toNat = [3, 61, 3, 62, 29, 7, 162, 0, 34, 42, 180, 0, 21, 29, 46, 27, 42, 180, 0, 24, 29, 46, 104, 100, 54, 4, 28, 21, 4, 21, 4, 104, 96, 61] := by decide +kernel
theorem dX6_missAt_0 : decode cX6_missAt 0 = .ok (.iconst 0, 1) := z_o3 (z_wat (q := 0) (j := 0) zwX6_missAt_0 rfl)
theorem dX6_missAt_1 : decode cX6_missAt 1 = .ok (.istore_n 2, 1) := z_o61 (z_wat (q := 0) (j := 1) zwX6_missAt_0 rfl)
theorem dX6_missAt_2 : decode cX6_missAt 2 = .ok (.iconst 0, 1) := z_o3 (z_wat (q := 0) (j := 2) zwX6_missAt_0 rfl)
theorem dX6_missAt_3 : decode cX6_missAt 3 = .ok (.istore_n 3, 1) := z_o62 (z_wat (q := 0) (j := 3) zwX6_missAt_0 rfl)
theorem dX6_missAt_4 : decode cX6_missAt 4 = .ok (.iload_n 3, 1) := z_o29 (z_wat (q := 0) (j := 4) zwX6_missAt_0 rfl)
theorem dX6_missAt_5 : decode cX6_missAt 5 = .ok (.iconst 4, 1) := z_o7 (z_wat (q := 0) (j := 5) zwX6_missAt_0 rfl)
theorem dX6_missAt_6 : decode cX6_missAt 6 = .ok (.if_icmp .ge 34, 3) := z_o162 (z_wat (q := 0) (j := 6) zwX6_missAt_0 rfl) (z_wat (q := 0) (j := 7) zwX6_missAt_0 rfl) (z_wat (q := 0) (j := 8) zwX6_missAt_0 rfl) rfl
theorem dX6_missAt_9 : decode cX6_missAt 9 = .ok (.aload_n 0, 1) := z_o42 (z_wat (q := 0) (j := 9) zwX6_missAt_0 rfl)
theorem dX6_missAt_10 : decode cX6_missAt 10 = .ok (.getfield 21, 3) := z_o180 (z_wat (q := 0) (j := 10) zwX6_missAt_0 rfl) (z_wat (q := 0) (j := 11) zwX6_missAt_0 rfl) (z_wat (q := 0) (j := 12) zwX6_missAt_0 rfl) rfl
theorem dX6_missAt_13 : decode cX6_missAt 13 = .ok (.iload_n 3, 1) := z_o29 (z_wat (q := 0) (j := 13) zwX6_missAt_0 rfl)
theorem dX6_missAt_14 : decode cX6_missAt 14 = .ok (.iaload, 1) := z_o46 (z_wat (q := 0) (j := 14) zwX6_missAt_0 rfl)
theorem dX6_missAt_15 : decode cX6_missAt 15 = .ok (.iload_n 1, 1) := z_o27 (z_wat (q := 0) (j := 15) zwX6_missAt_0 rfl)
theorem dX6_missAt_16 : decode cX6_missAt 16 = .ok (.aload_n 0, 1) := z_o42 (z_wat (q := 0) (j := 16) zwX6_missAt_0 rfl)
theorem dX6_missAt_17 : decode cX6_missAt 17 = .ok (.getfield 24, 3) := z_o180 (z_wat (q := 0) (j := 17) zwX6_missAt_0 rfl) (z_wat (q := 0) (j := 18) zwX6_missAt_0 rfl) (z_wat (q := 0) (j := 19) zwX6_missAt_0 rfl) rfl
theorem dX6_missAt_20 : decode cX6_missAt 20 = .ok (.iload_n 3, 1) := z_o29 (z_wat (q := 0) (j := 20) zwX6_missAt_0 rfl)
theorem dX6_missAt_21 : decode cX6_missAt 21 = .ok (.iaload, 1) := z_o46 (z_wat (q := 0) (j := 21) zwX6_missAt_0 rfl)
theorem dX6_missAt_22 : decode cX6_missAt 22 = .ok (.imul, 1) := z_o104 (z_wat (q := 0) (j := 22) zwX6_missAt_0 rfl)
theorem dX6_missAt_23 : decode cX6_missAt 23 = .ok (.isub, 1) := z_o100 (z_wat (q := 0) (j := 23) zwX6_missAt_0 rfl)
theorem dX6_missAt_24 : decode cX6_missAt 24 = .ok (.istore 4, 2) := z_o54 (z_wat (q := 0) (j := 24) zwX6_missAt_0 rfl) (z_wat (q := 0) (j := 25) zwX6_missAt_0 rfl)
theorem dX6_missAt_26 : decode cX6_missAt 26 = .ok (.iload_n 2, 1) := z_o28 (z_wat (q := 0) (j := 26) zwX6_missAt_0 rfl)
theorem dX6_missAt_27 : decode cX6_missAt 27 = .ok (.iload 4, 2) := z_o21 (z_wat (q := 0) (j := 27) zwX6_missAt_0 rfl) (z_wat (q := 0) (j := 28) zwX6_missAt_0 rfl)
theorem dX6_missAt_29 : decode cX6_missAt 29 = .ok (.iload 4, 2) := z_o21 (z_wat (q := 0) (j := 29) zwX6_missAt_0 rfl) (z_wat (q := 0) (j := 30) zwX6_missAt_0 rfl)
theorem dX6_missAt_31 : decode cX6_missAt 31 = .ok (.imul, 1) := z_o104 (z_wat (q := 0) (j := 31) zwX6_missAt_0 rfl)
theorem zwX6_missAt_32 : ((cX6_missAt.data.toList.drop 32).take 10).map UInt8.toNat = [96, 61, 132, 3, 1, 167, 255, 223, 28, 172] := by decide +kernel
theorem dX6_missAt_32 : decode cX6_missAt 32 = .ok (.iadd, 1) := z_o96 (z_wat (q := 32) (j := 0) zwX6_missAt_32 rfl)
theorem dX6_missAt_33 : decode cX6_missAt 33 = .ok (.istore_n 2, 1) := z_o61 (z_wat (q := 32) (j := 1) zwX6_missAt_32 rfl)
theorem dX6_missAt_34 : decode cX6_missAt 34 = .ok (.iinc 3 1, 3) := z_o132 (z_wat (q := 32) (j := 2) zwX6_missAt_32 rfl) (z_wat (q := 32) (j := 3) zwX6_missAt_32 rfl) (z_wat (q := 32) (j := 4) zwX6_missAt_32 rfl) rfl
theorem dX6_missAt_37 : decode cX6_missAt 37 = .ok (.goto (-33), 3) := z_o167 (z_wat (q := 32) (j := 5) zwX6_missAt_32 rfl) (z_wat (q := 32) (j := 6) zwX6_missAt_32 rfl) (z_wat (q := 32) (j := 7) zwX6_missAt_32 rfl) rfl
theorem dX6_missAt_40 : decode cX6_missAt 40 = .ok (.iload_n 2, 1) := z_o28 (z_wat (q := 32) (j := 8) zwX6_missAt_32 rfl)
theorem dX6_missAt_41 : decode cX6_missAt 41 = .ok (.ireturn, 1) := z_o172 (z_wat (q := 32) (j := 9) zwX6_missAt_32 rfl)
theorem zwX6_putRight_0 : ((cX6_putRight.data.toList.drop 0).take 34).map UInt8.toNat = [42, 27, 28, 182, 0, 34, 62, 29, 16, 40, 164, 0, 5, 3, 172, 42, 2, 181, 0, 30, 3, 54, 4, 21, 4, 29, 163, 0, 43, 3, 54, 5, 21, 4] := by decide +kernel
theorem dX6_putRight_0 : decode cX6_putRight 0 = .ok (.aload_n 0, 1) := z_o42 (z_wat (q := 0) (j := 0) zwX6_putRight_0 rfl)
theorem dX6_putRight_1 : decode cX6_putRight 1 = .ok (.iload_n 1, 1) := z_o27 (z_wat (q := 0) (j := 1) zwX6_putRight_0 rfl)
theorem dX6_putRight_2 : decode cX6_putRight 2 = .ok (.iload_n 2, 1) := z_o28 (z_wat (q := 0) (j := 2) zwX6_putRight_0 rfl)
theorem dX6_putRight_3 : decode cX6_putRight 3 = .ok (.invokevirtual 34, 3) := z_o182 (z_wat (q := 0) (j := 3) zwX6_putRight_0 rfl) (z_wat (q := 0) (j := 4) zwX6_putRight_0 rfl) (z_wat (q := 0) (j := 5) zwX6_putRight_0 rfl) rfl
theorem dX6_putRight_6 : decode cX6_putRight 6 = .ok (.istore_n 3, 1) := z_o62 (z_wat (q := 0) (j := 6) zwX6_putRight_0 rfl)
theorem dX6_putRight_7 : decode cX6_putRight 7 = .ok (.iload_n 3, 1) := z_o29 (z_wat (q := 0) (j := 7) zwX6_putRight_0 rfl)
theorem dX6_putRight_8 : decode cX6_putRight 8 = .ok (.bipush 40, 2) := z_o16 (z_wat (q := 0) (j := 8) zwX6_putRight_0 rfl) (z_wat (q := 0) (j := 9) zwX6_putRight_0 rfl) rfl
theorem dX6_putRight_10 : decode cX6_putRight 10 = .ok (.if_icmp .le 5, 3) := z_o164 (z_wat (q := 0) (j := 10) zwX6_putRight_0 rfl) (z_wat (q := 0) (j := 11) zwX6_putRight_0 rfl) (z_wat (q := 0) (j := 12) zwX6_putRight_0 rfl) rfl
theorem dX6_putRight_13 : decode cX6_putRight 13 = .ok (.iconst 0, 1) := z_o3 (z_wat (q := 0) (j := 13) zwX6_putRight_0 rfl)
theorem dX6_putRight_14 : decode cX6_putRight 14 = .ok (.ireturn, 1) := z_o172 (z_wat (q := 0) (j := 14) zwX6_putRight_0 rfl)
theorem dX6_putRight_15 : decode cX6_putRight 15 = .ok (.aload_n 0, 1) := z_o42 (z_wat (q := 0) (j := 15) zwX6_putRight_0 rfl)
theorem dX6_putRight_16 : decode cX6_putRight 16 = .ok (.iconst (-1), 1) := z_o2 (z_wat (q := 0) (j := 16) zwX6_putRight_0 rfl)
theorem dX6_putRight_17 : decode cX6_putRight 17 = .ok (.putfield 30, 3) := z_o181 (z_wat (q := 0) (j := 17) zwX6_putRight_0 rfl) (z_wat (q := 0) (j := 18) zwX6_putRight_0 rfl) (z_wat (q := 0) (j := 19) zwX6_putRight_0 rfl) rfl
theorem dX6_putRight_20 : decode cX6_putRight 20 = .ok (.iconst 0, 1) := z_o3 (z_wat (q := 0) (j := 20) zwX6_putRight_0 rfl)
theorem dX6_putRight_21 : decode cX6_putRight 21 = .ok (.istore 4, 2) := z_o54 (z_wat (q := 0) (j := 21) zwX6_putRight_0 rfl) (z_wat (q := 0) (j := 22) zwX6_putRight_0 rfl)
theorem dX6_putRight_23 : decode cX6_putRight 23 = .ok (.iload 4, 2) := z_o21 (z_wat (q := 0) (j := 23) zwX6_putRight_0 rfl) (z_wat (q := 0) (j := 24) zwX6_putRight_0 rfl)
theorem dX6_putRight_25 : decode cX6_putRight 25 = .ok (.iload_n 3, 1) := z_o29 (z_wat (q := 0) (j := 25) zwX6_putRight_0 rfl)
theorem dX6_putRight_26 : decode cX6_putRight 26 = .ok (.if_icmp .gt 43, 3) := z_o163 (z_wat (q := 0) (j := 26) zwX6_putRight_0 rfl) (z_wat (q := 0) (j := 27) zwX6_putRight_0 rfl) (z_wat (q := 0) (j := 28) zwX6_putRight_0 rfl) rfl
theorem dX6_putRight_29 : decode cX6_putRight 29 = .ok (.iconst 0, 1) := z_o3 (z_wat (q := 0) (j := 29) zwX6_putRight_0 rfl)
theorem dX6_putRight_30 : decode cX6_putRight 30 = .ok (.istore 5, 2) := z_o54 (z_wat (q := 0) (j := 30) zwX6_putRight_0 rfl) (z_wat (q := 0) (j := 31) zwX6_putRight_0 rfl)
theorem zwX6_putRight_32 : ((cX6_putRight.data.toList.drop 32).take 34).map UInt8.toNat = [21, 4, 21, 5, 96, 29, 163, 0, 25, 42, 28, 21, 4, 21, 5, 29, 21, 4, 100, 21, 5, 100, 182, 0, 38, 132, 5, 1, 167, 255, 228, 132, 4, 1] := by decide +kernel
theorem dX6_putRight_32 : decode cX6_putRight 32 = .ok (.iload 4, 2) := z_o21 (z_wat (q := 32) (j := 0) zwX6_putRight_32 rfl) (z_wat (q := 32) (j := 1) zwX6_putRight_32 rfl)
theorem dX6_putRight_34 : decode cX6_putRight 34 = .ok (.iload 5, 2) := z_o21 (z_wat (q := 32) (j := 2) zwX6_putRight_32 rfl) (z_wat (q := 32) (j := 3) zwX6_putRight_32 rfl)
theorem dX6_putRight_36 : decode cX6_putRight 36 = .ok (.iadd, 1) := z_o96 (z_wat (q := 32) (j := 4) zwX6_putRight_32 rfl)
theorem dX6_putRight_37 : decode cX6_putRight 37 = .ok (.iload_n 3, 1) := z_o29 (z_wat (q := 32) (j := 5) zwX6_putRight_32 rfl)
theorem dX6_putRight_38 : decode cX6_putRight 38 = .ok (.if_icmp .gt 25, 3) := z_o163 (z_wat (q := 32) (j := 6) zwX6_putRight_32 rfl) (z_wat (q := 32) (j := 7) zwX6_putRight_32 rfl) (z_wat (q := 32) (j := 8) zwX6_putRight_32 rfl) rfl
theorem dX6_putRight_41 : decode cX6_putRight 41 = .ok (.aload_n 0, 1) := z_o42 (z_wat (q := 32) (j := 9) zwX6_putRight_32 rfl)
theorem dX6_putRight_42 : decode cX6_putRight 42 = .ok (.iload_n 2, 1) := z_o28 (z_wat (q := 32) (j := 10) zwX6_putRight_32 rfl)
theorem dX6_putRight_43 : decode cX6_putRight 43 = .ok (.iload 4, 2) := z_o21 (z_wat (q := 32) (j := 11) zwX6_putRight_32 rfl) (z_wat (q := 32) (j := 12) zwX6_putRight_32 rfl)
theorem dX6_putRight_45 : decode cX6_putRight 45 = .ok (.iload 5, 2) := z_o21 (z_wat (q := 32) (j := 13) zwX6_putRight_32 rfl) (z_wat (q := 32) (j := 14) zwX6_putRight_32 rfl)
theorem dX6_putRight_47 : decode cX6_putRight 47 = .ok (.iload_n 3, 1) := z_o29 (z_wat (q := 32) (j := 15) zwX6_putRight_32 rfl)
theorem dX6_putRight_48 : decode cX6_putRight 48 = .ok (.iload 4, 2) := z_o21 (z_wat (q := 32) (j := 16) zwX6_putRight_32 rfl) (z_wat (q := 32) (j := 17) zwX6_putRight_32 rfl)
theorem dX6_putRight_50 : decode cX6_putRight 50 = .ok (.isub, 1) := z_o100 (z_wat (q := 32) (j := 18) zwX6_putRight_32 rfl)
theorem dX6_putRight_51 : decode cX6_putRight 51 = .ok (.iload 5, 2) := z_o21 (z_wat (q := 32) (j := 19) zwX6_putRight_32 rfl) (z_wat (q := 32) (j := 20) zwX6_putRight_32 rfl)
theorem dX6_putRight_53 : decode cX6_putRight 53 = .ok (.isub, 1) := z_o100 (z_wat (q := 32) (j := 21) zwX6_putRight_32 rfl)
theorem dX6_putRight_54 : decode cX6_putRight 54 = .ok (.invokevirtual 38, 3) := z_o182 (z_wat (q := 32) (j := 22) zwX6_putRight_32 rfl) (z_wat (q := 32) (j := 23) zwX6_putRight_32 rfl) (z_wat (q := 32) (j := 24) zwX6_putRight_32 rfl) rfl
theorem dX6_putRight_57 : decode cX6_putRight 57 = .ok (.iinc 5 1, 3) := z_o132 (z_wat (q := 32) (j := 25) zwX6_putRight_32 rfl) (z_wat (q := 32) (j := 26) zwX6_putRight_32 rfl) (z_wat (q := 32) (j := 27) zwX6_putRight_32 rfl) rfl
theorem dX6_putRight_60 : decode cX6_putRight 60 = .ok (.goto (-28), 3) := z_o167 (z_wat (q := 32) (j := 28) zwX6_putRight_32 rfl) (z_wat (q := 32) (j := 29) zwX6_putRight_32 rfl) (z_wat (q := 32) (j := 30) zwX6_putRight_32 rfl) rfl
theorem dX6_putRight_63 : decode cX6_putRight 63 = .ok (.iinc 4 1, 3) := z_o132 (z_wat (q := 32) (j := 31) zwX6_putRight_32 rfl) (z_wat (q := 32) (j := 32) zwX6_putRight_32 rfl) (z_wat (q := 32) (j := 33) zwX6_putRight_32 rfl) rfl
theorem zwX6_putRight_64 : ((cX6_putRight.data.toList.drop 64).take 7).map UInt8.toNat = [4, 1, 167, 255, 213, 4, 172] := by decide +kernel
theorem dX6_putRight_66 : decode cX6_putRight 66 = .ok (.goto (-43), 3) := z_o167 (z_wat (q := 64) (j := 2) zwX6_putRight_64 rfl) (z_wat (q := 64) (j := 3) zwX6_putRight_64 rfl) (z_wat (q := 64) (j := 4) zwX6_putRight_64 rfl) rfl
theorem dX6_putRight_69 : decode cX6_putRight 69 = .ok (.iconst 1, 1) := z_o4 (z_wat (q := 64) (j := 5) zwX6_putRight_64 rfl)
theorem dX6_putRight_70 : decode cX6_putRight 70 = .ok (.ireturn, 1) := z_o172 (z_wat (q := 64) (j := 6) zwX6_putRight_64 rfl)
theorem zwX6_seasonsMet_0 : ((cX6_seasonsMet.data.toList.drop 0).take 34).map UInt8.toNat = [3, 61, 3, 62, 29, 6, 162, 0, 52, 42, 27, 29, 182, 0, 51, 154, 0, 5, 2, 172, 3, 54, 4, 21, 4, 7, 162, 0, 26, 42, 180, 0, 27, 21] := by decide +kernel
theorem dX6_seasonsMet_0 : decode cX6_seasonsMet 0 = .ok (.iconst 0, 1) := z_o3 (z_wat (q := 0) (j := 0) zwX6_seasonsMet_0 rfl)
theorem dX6_seasonsMet_1 : decode cX6_seasonsMet 1 = .ok (.istore_n 2, 1) := z_o61 (z_wat (q := 0) (j := 1) zwX6_seasonsMet_0 rfl)
theorem dX6_seasonsMet_2 : decode cX6_seasonsMet 2 = .ok (.iconst 0, 1) := z_o3 (z_wat (q := 0) (j := 2) zwX6_seasonsMet_0 rfl)
theorem dX6_seasonsMet_3 : decode cX6_seasonsMet 3 = .ok (.istore_n 3, 1) := z_o62 (z_wat (q := 0) (j := 3) zwX6_seasonsMet_0 rfl)
theorem dX6_seasonsMet_4 : decode cX6_seasonsMet 4 = .ok (.iload_n 3, 1) := z_o29 (z_wat (q := 0) (j := 4) zwX6_seasonsMet_0 rfl)
theorem dX6_seasonsMet_5 : decode cX6_seasonsMet 5 = .ok (.iconst 3, 1) := z_o6 (z_wat (q := 0) (j := 5) zwX6_seasonsMet_0 rfl)
theorem dX6_seasonsMet_6 : decode cX6_seasonsMet 6 = .ok (.if_icmp .ge 52, 3) := z_o162 (z_wat (q := 0) (j := 6) zwX6_seasonsMet_0 rfl) (z_wat (q := 0) (j := 7) zwX6_seasonsMet_0 rfl) (z_wat (q := 0) (j := 8) zwX6_seasonsMet_0 rfl) rfl
theorem dX6_seasonsMet_9 : decode cX6_seasonsMet 9 = .ok (.aload_n 0, 1) := z_o42 (z_wat (q := 0) (j := 9) zwX6_seasonsMet_0 rfl)
theorem dX6_seasonsMet_10 : decode cX6_seasonsMet 10 = .ok (.iload_n 1, 1) := z_o27 (z_wat (q := 0) (j := 10) zwX6_seasonsMet_0 rfl)
theorem dX6_seasonsMet_11 : decode cX6_seasonsMet 11 = .ok (.iload_n 3, 1) := z_o29 (z_wat (q := 0) (j := 11) zwX6_seasonsMet_0 rfl)
theorem dX6_seasonsMet_12 : decode cX6_seasonsMet 12 = .ok (.invokevirtual 51, 3) := z_o182 (z_wat (q := 0) (j := 12) zwX6_seasonsMet_0 rfl) (z_wat (q := 0) (j := 13) zwX6_seasonsMet_0 rfl) (z_wat (q := 0) (j := 14) zwX6_seasonsMet_0 rfl) rfl
theorem dX6_seasonsMet_15 : decode cX6_seasonsMet 15 = .ok (.ifCond .ne 5, 3) := z_o154 (z_wat (q := 0) (j := 15) zwX6_seasonsMet_0 rfl) (z_wat (q := 0) (j := 16) zwX6_seasonsMet_0 rfl) (z_wat (q := 0) (j := 17) zwX6_seasonsMet_0 rfl) rfl
theorem dX6_seasonsMet_18 : decode cX6_seasonsMet 18 = .ok (.iconst (-1), 1) := z_o2 (z_wat (q := 0) (j := 18) zwX6_seasonsMet_0 rfl)
theorem dX6_seasonsMet_19 : decode cX6_seasonsMet 19 = .ok (.ireturn, 1) := z_o172 (z_wat (q := 0) (j := 19) zwX6_seasonsMet_0 rfl)
theorem dX6_seasonsMet_20 : decode cX6_seasonsMet 20 = .ok (.iconst 0, 1) := z_o3 (z_wat (q := 0) (j := 20) zwX6_seasonsMet_0 rfl)
theorem dX6_seasonsMet_21 : decode cX6_seasonsMet 21 = .ok (.istore 4, 2) := z_o54 (z_wat (q := 0) (j := 21) zwX6_seasonsMet_0 rfl) (z_wat (q := 0) (j := 22) zwX6_seasonsMet_0 rfl)
theorem dX6_seasonsMet_23 : decode cX6_seasonsMet 23 = .ok (.iload 4, 2) := z_o21 (z_wat (q := 0) (j := 23) zwX6_seasonsMet_0 rfl) (z_wat (q := 0) (j := 24) zwX6_seasonsMet_0 rfl)
theorem dX6_seasonsMet_25 : decode cX6_seasonsMet 25 = .ok (.iconst 4, 1) := z_o7 (z_wat (q := 0) (j := 25) zwX6_seasonsMet_0 rfl)
theorem dX6_seasonsMet_26 : decode cX6_seasonsMet 26 = .ok (.if_icmp .ge 26, 3) := z_o162 (z_wat (q := 0) (j := 26) zwX6_seasonsMet_0 rfl) (z_wat (q := 0) (j := 27) zwX6_seasonsMet_0 rfl) (z_wat (q := 0) (j := 28) zwX6_seasonsMet_0 rfl) rfl
theorem dX6_seasonsMet_29 : decode cX6_seasonsMet 29 = .ok (.aload_n 0, 1) := z_o42 (z_wat (q := 0) (j := 29) zwX6_seasonsMet_0 rfl)
theorem dX6_seasonsMet_30 : decode cX6_seasonsMet 30 = .ok (.getfield 27, 3) := z_o180 (z_wat (q := 0) (j := 30) zwX6_seasonsMet_0 rfl) (z_wat (q := 0) (j := 31) zwX6_seasonsMet_0 rfl) (z_wat (q := 0) (j := 32) zwX6_seasonsMet_0 rfl) rfl
theorem zwX6_seasonsMet_32 : ((cX6_seasonsMet.data.toList.drop 32).take 28).map UInt8.toNat = [27, 21, 4, 46, 158, 0, 10, 28, 4, 21, 4, 120, 128, 61, 132, 4, 1, 167, 255, 230, 132, 3, 1, 167, 255, 205, 28, 172] := by decide +kernel
theorem dX6_seasonsMet_33 : decode cX6_seasonsMet 33 = .ok (.iload 4, 2) := z_o21 (z_wat (q := 32) (j := 1) zwX6_seasonsMet_32 rfl) (z_wat (q := 32) (j := 2) zwX6_seasonsMet_32 rfl)
theorem dX6_seasonsMet_35 : decode cX6_seasonsMet 35 = .ok (.iaload, 1) := z_o46 (z_wat (q := 32) (j := 3) zwX6_seasonsMet_32 rfl)
theorem dX6_seasonsMet_36 : decode cX6_seasonsMet 36 = .ok (.ifCond .le 10, 3) := z_o158 (z_wat (q := 32) (j := 4) zwX6_seasonsMet_32 rfl) (z_wat (q := 32) (j := 5) zwX6_seasonsMet_32 rfl) (z_wat (q := 32) (j := 6) zwX6_seasonsMet_32 rfl) rfl
theorem dX6_seasonsMet_39 : decode cX6_seasonsMet 39 = .ok (.iload_n 2, 1) := z_o28 (z_wat (q := 32) (j := 7) zwX6_seasonsMet_32 rfl)
theorem dX6_seasonsMet_40 : decode cX6_seasonsMet 40 = .ok (.iconst 1, 1) := z_o4 (z_wat (q := 32) (j := 8) zwX6_seasonsMet_32 rfl)
theorem dX6_seasonsMet_41 : decode cX6_seasonsMet 41 = .ok (.iload 4, 2) := z_o21 (z_wat (q := 32) (j := 9) zwX6_seasonsMet_32 rfl) (z_wat (q := 32) (j := 10) zwX6_seasonsMet_32 rfl)
theorem dX6_seasonsMet_43 : decode cX6_seasonsMet 43 = .ok (.ishl, 1) := z_o120 (z_wat (q := 32) (j := 11) zwX6_seasonsMet_32 rfl)
theorem dX6_seasonsMet_44 : decode cX6_seasonsMet 44 = .ok (.ior, 1) := z_o128 (z_wat (q := 32) (j := 12) zwX6_seasonsMet_32 rfl)
theorem dX6_seasonsMet_45 : decode cX6_seasonsMet 45 = .ok (.istore_n 2, 1) := z_o61 (z_wat (q := 32) (j := 13) zwX6_seasonsMet_32 rfl)
theorem dX6_seasonsMet_46 : decode cX6_seasonsMet 46 = .ok (.iinc 4 1, 3) := z_o132 (z_wat (q := 32) (j := 14) zwX6_seasonsMet_32 rfl) (z_wat (q := 32) (j := 15) zwX6_seasonsMet_32 rfl) (z_wat (q := 32) (j := 16) zwX6_seasonsMet_32 rfl) rfl
theorem dX6_seasonsMet_49 : decode cX6_seasonsMet 49 = .ok (.goto (-26), 3) := z_o167 (z_wat (q := 32) (j := 17) zwX6_seasonsMet_32 rfl) (z_wat (q := 32) (j := 18) zwX6_seasonsMet_32 rfl) (z_wat (q := 32) (j := 19) zwX6_seasonsMet_32 rfl) rfl
theorem dX6_seasonsMet_52 : decode cX6_seasonsMet 52 = .ok (.iinc 3 1, 3) := z_o132 (z_wat (q := 32) (j := 20) zwX6_seasonsMet_32 rfl) (z_wat (q := 32) (j := 21) zwX6_seasonsMet_32 rfl) (z_wat (q := 32) (j := 22) zwX6_seasonsMet_32 rfl) rfl
theorem dX6_seasonsMet_55 : decode cX6_seasonsMet 55 = .ok (.goto (-51), 3) := z_o167 (z_wat (q := 32) (j := 23) zwX6_seasonsMet_32 rfl) (z_wat (q := 32) (j := 24) zwX6_seasonsMet_32 rfl) (z_wat (q := 32) (j := 25) zwX6_seasonsMet_32 rfl) rfl
theorem dX6_seasonsMet_58 : decode cX6_seasonsMet 58 = .ok (.iload_n 2, 1) := z_o28 (z_wat (q := 32) (j := 26) zwX6_seasonsMet_32 rfl)
theorem dX6_seasonsMet_59 : decode cX6_seasonsMet 59 = .ok (.ireturn, 1) := z_o172 (z_wat (q := 32) (j := 27) zwX6_seasonsMet_32 rfl)
theorem zwX6_setRow_0 : ((cX6_setRow.data.toList.drop 0).take 34).map UInt8.toNat = [27, 7, 104, 28, 96, 7, 104, 54, 7, 42, 180, 0, 11, 21, 7, 29, 79, 42, 180, 0, 11, 21, 7, 4, 96, 21, 4, 79, 42, 180, 0, 11, 21, 7] := by decide +kernel
theorem dX6_setRow_0 : decode cX6_setRow 0 = .ok (.iload_n 1, 1) := z_o27 (z_wat (q := 0) (j := 0) zwX6_setRow_0 rfl)
theorem dX6_setRow_1 : decode cX6_setRow 1 = .ok (.iconst 4, 1) := z_o7 (z_wat (q := 0) (j := 1) zwX6_setRow_0 rfl)
theorem dX6_setRow_2 : decode cX6_setRow 2 = .ok (.imul, 1) := z_o104 (z_wat (q := 0) (j := 2) zwX6_setRow_0 rfl)
theorem dX6_setRow_3 : decode cX6_setRow 3 = .ok (.iload_n 2, 1) := z_o28 (z_wat (q := 0) (j := 3) zwX6_setRow_0 rfl)
theorem dX6_setRow_4 : decode cX6_setRow 4 = .ok (.iadd, 1) := z_o96 (z_wat (q := 0) (j := 4) zwX6_setRow_0 rfl)
theorem dX6_setRow_5 : decode cX6_setRow 5 = .ok (.iconst 4, 1) := z_o7 (z_wat (q := 0) (j := 5) zwX6_setRow_0 rfl)
theorem dX6_setRow_6 : decode cX6_setRow 6 = .ok (.imul, 1) := z_o104 (z_wat (q := 0) (j := 6) zwX6_setRow_0 rfl)
theorem dX6_setRow_7 : decode cX6_setRow 7 = .ok (.istore 7, 2) := z_o54 (z_wat (q := 0) (j := 7) zwX6_setRow_0 rfl) (z_wat (q := 0) (j := 8) zwX6_setRow_0 rfl)
theorem dX6_setRow_9 : decode cX6_setRow 9 = .ok (.aload_n 0, 1) := z_o42 (z_wat (q := 0) (j := 9) zwX6_setRow_0 rfl)
theorem dX6_setRow_10 : decode cX6_setRow 10 = .ok (.getfield 11, 3) := z_o180 (z_wat (q := 0) (j := 10) zwX6_setRow_0 rfl) (z_wat (q := 0) (j := 11) zwX6_setRow_0 rfl) (z_wat (q := 0) (j := 12) zwX6_setRow_0 rfl) rfl
theorem dX6_setRow_13 : decode cX6_setRow 13 = .ok (.iload 7, 2) := z_o21 (z_wat (q := 0) (j := 13) zwX6_setRow_0 rfl) (z_wat (q := 0) (j := 14) zwX6_setRow_0 rfl)
theorem dX6_setRow_15 : decode cX6_setRow 15 = .ok (.iload_n 3, 1) := z_o29 (z_wat (q := 0) (j := 15) zwX6_setRow_0 rfl)
theorem dX6_setRow_16 : decode cX6_setRow 16 = .ok (.iastore, 1) := z_o79 (z_wat (q := 0) (j := 16) zwX6_setRow_0 rfl)
theorem dX6_setRow_17 : decode cX6_setRow 17 = .ok (.aload_n 0, 1) := z_o42 (z_wat (q := 0) (j := 17) zwX6_setRow_0 rfl)
theorem dX6_setRow_18 : decode cX6_setRow 18 = .ok (.getfield 11, 3) := z_o180 (z_wat (q := 0) (j := 18) zwX6_setRow_0 rfl) (z_wat (q := 0) (j := 19) zwX6_setRow_0 rfl) (z_wat (q := 0) (j := 20) zwX6_setRow_0 rfl) rfl
theorem dX6_setRow_21 : decode cX6_setRow 21 = .ok (.iload 7, 2) := z_o21 (z_wat (q := 0) (j := 21) zwX6_setRow_0 rfl) (z_wat (q := 0) (j := 22) zwX6_setRow_0 rfl)
theorem dX6_setRow_23 : decode cX6_setRow 23 = .ok (.iconst 1, 1) := z_o4 (z_wat (q := 0) (j := 23) zwX6_setRow_0 rfl)
theorem dX6_setRow_24 : decode cX6_setRow 24 = .ok (.iadd, 1) := z_o96 (z_wat (q := 0) (j := 24) zwX6_setRow_0 rfl)
theorem dX6_setRow_25 : decode cX6_setRow 25 = .ok (.iload 4, 2) := z_o21 (z_wat (q := 0) (j := 25) zwX6_setRow_0 rfl) (z_wat (q := 0) (j := 26) zwX6_setRow_0 rfl)
theorem dX6_setRow_27 : decode cX6_setRow 27 = .ok (.iastore, 1) := z_o79 (z_wat (q := 0) (j := 27) zwX6_setRow_0 rfl)
theorem dX6_setRow_28 : decode cX6_setRow 28 = .ok (.aload_n 0, 1) := z_o42 (z_wat (q := 0) (j := 28) zwX6_setRow_0 rfl)
theorem dX6_setRow_29 : decode cX6_setRow 29 = .ok (.getfield 11, 3) := z_o180 (z_wat (q := 0) (j := 29) zwX6_setRow_0 rfl) (z_wat (q := 0) (j := 30) zwX6_setRow_0 rfl) (z_wat (q := 0) (j := 31) zwX6_setRow_0 rfl) rfl
theorem zwX6_setRow_32 : ((cX6_setRow.data.toList.drop 32).take 19).map UInt8.toNat = [21, 7, 5, 96, 21, 5, 79, 42, 180, 0, 11, 21, 7, 6, 96, 21, 6, 79, 177] := by decide +kernel
theorem dX6_setRow_32 : decode cX6_setRow 32 = .ok (.iload 7, 2) := z_o21 (z_wat (q := 32) (j := 0) zwX6_setRow_32 rfl) (z_wat (q := 32) (j := 1) zwX6_setRow_32 rfl)
theorem dX6_setRow_34 : decode cX6_setRow 34 = .ok (.iconst 2, 1) := z_o5 (z_wat (q := 32) (j := 2) zwX6_setRow_32 rfl)
theorem dX6_setRow_35 : decode cX6_setRow 35 = .ok (.iadd, 1) := z_o96 (z_wat (q := 32) (j := 3) zwX6_setRow_32 rfl)
theorem dX6_setRow_36 : decode cX6_setRow 36 = .ok (.iload 5, 2) := z_o21 (z_wat (q := 32) (j := 4) zwX6_setRow_32 rfl) (z_wat (q := 32) (j := 5) zwX6_setRow_32 rfl)
theorem dX6_setRow_38 : decode cX6_setRow 38 = .ok (.iastore, 1) := z_o79 (z_wat (q := 32) (j := 6) zwX6_setRow_32 rfl)
theorem dX6_setRow_39 : decode cX6_setRow 39 = .ok (.aload_n 0, 1) := z_o42 (z_wat (q := 32) (j := 7) zwX6_setRow_32 rfl)
theorem dX6_setRow_40 : decode cX6_setRow 40 = .ok (.getfield 11, 3) := z_o180 (z_wat (q := 32) (j := 8) zwX6_setRow_32 rfl) (z_wat (q := 32) (j := 9) zwX6_setRow_32 rfl) (z_wat (q := 32) (j := 10) zwX6_setRow_32 rfl) rfl
theorem dX6_setRow_43 : decode cX6_setRow 43 = .ok (.iload 7, 2) := z_o21 (z_wat (q := 32) (j := 11) zwX6_setRow_32 rfl) (z_wat (q := 32) (j := 12) zwX6_setRow_32 rfl)
theorem dX6_setRow_45 : decode cX6_setRow 45 = .ok (.iconst 3, 1) := z_o6 (z_wat (q := 32) (j := 13) zwX6_setRow_32 rfl)
theorem dX6_setRow_46 : decode cX6_setRow 46 = .ok (.iadd, 1) := z_o96 (z_wat (q := 32) (j := 14) zwX6_setRow_32 rfl)
theorem dX6_setRow_47 : decode cX6_setRow 47 = .ok (.iload 6, 2) := z_o21 (z_wat (q := 32) (j := 15) zwX6_setRow_32 rfl) (z_wat (q := 32) (j := 16) zwX6_setRow_32 rfl)
theorem dX6_setRow_49 : decode cX6_setRow 49 = .ok (.iastore, 1) := z_o79 (z_wat (q := 32) (j := 17) zwX6_setRow_32 rfl)
theorem dX6_setRow_50 : decode cX6_setRow 50 = .ok (.return_, 1) := z_o177 (z_wat (q := 32) (j := 18) zwX6_setRow_32 rfl)
theorem zwX6_sum_0 : ((cX6_sum.data.toList.drop 0).take 34).map UInt8.toNat = [3, 62, 3, 54, 4, 21, 4, 7, 162, 0, 78, 42, 180, 0, 18, 21, 4, 3, 79, 3, 54, 5, 21, 5, 16, 12, 162, 0, 44, 27, 21, 5, 122, 4] := by decide +kernel
theorem dX6_sum_0 : decode cX6_sum 0 = .ok (.iconst 0, 1) := z_o3 (z_wat (q := 0) (j := 0) zwX6_sum_0 rfl)
theorem dX6_sum_1 : decode cX6_sum 1 = .ok (.istore_n 3, 1) := z_o62 (z_wat (q := 0) (j := 1) zwX6_sum_0 rfl)
theorem dX6_sum_2 : decode cX6_sum 2 = .ok (.iconst 0, 1) := z_o3 (z_wat (q := 0) (j := 2) zwX6_sum_0 rfl)
theorem dX6_sum_3 : decode cX6_sum 3 = .ok (.istore 4, 2) := z_o54 (z_wat (q := 0) (j := 3) zwX6_sum_0 rfl) (z_wat (q := 0) (j := 4) zwX6_sum_0 rfl)
theorem dX6_sum_5 : decode cX6_sum 5 = .ok (.iload 4, 2) := z_o21 (z_wat (q := 0) (j := 5) zwX6_sum_0 rfl) (z_wat (q := 0) (j := 6) zwX6_sum_0 rfl)
theorem dX6_sum_7 : decode cX6_sum 7 = .ok (.iconst 4, 1) := z_o7 (z_wat (q := 0) (j := 7) zwX6_sum_0 rfl)
theorem dX6_sum_8 : decode cX6_sum 8 = .ok (.if_icmp .ge 78, 3) := z_o162 (z_wat (q := 0) (j := 8) zwX6_sum_0 rfl) (z_wat (q := 0) (j := 9) zwX6_sum_0 rfl) (z_wat (q := 0) (j := 10) zwX6_sum_0 rfl) rfl
theorem dX6_sum_11 : decode cX6_sum 11 = .ok (.aload_n 0, 1) := z_o42 (z_wat (q := 0) (j := 11) zwX6_sum_0 rfl)
theorem dX6_sum_12 : decode cX6_sum 12 = .ok (.getfield 18, 3) := z_o180 (z_wat (q := 0) (j := 12) zwX6_sum_0 rfl) (z_wat (q := 0) (j := 13) zwX6_sum_0 rfl) (z_wat (q := 0) (j := 14) zwX6_sum_0 rfl) rfl
theorem dX6_sum_15 : decode cX6_sum 15 = .ok (.iload 4, 2) := z_o21 (z_wat (q := 0) (j := 15) zwX6_sum_0 rfl) (z_wat (q := 0) (j := 16) zwX6_sum_0 rfl)
theorem dX6_sum_17 : decode cX6_sum 17 = .ok (.iconst 0, 1) := z_o3 (z_wat (q := 0) (j := 17) zwX6_sum_0 rfl)
theorem dX6_sum_18 : decode cX6_sum 18 = .ok (.iastore, 1) := z_o79 (z_wat (q := 0) (j := 18) zwX6_sum_0 rfl)
theorem dX6_sum_19 : decode cX6_sum 19 = .ok (.iconst 0, 1) := z_o3 (z_wat (q := 0) (j := 19) zwX6_sum_0 rfl)
theorem dX6_sum_20 : decode cX6_sum 20 = .ok (.istore 5, 2) := z_o54 (z_wat (q := 0) (j := 20) zwX6_sum_0 rfl) (z_wat (q := 0) (j := 21) zwX6_sum_0 rfl)
theorem dX6_sum_22 : decode cX6_sum 22 = .ok (.iload 5, 2) := z_o21 (z_wat (q := 0) (j := 22) zwX6_sum_0 rfl) (z_wat (q := 0) (j := 23) zwX6_sum_0 rfl)
theorem dX6_sum_24 : decode cX6_sum 24 = .ok (.bipush 12, 2) := z_o16 (z_wat (q := 0) (j := 24) zwX6_sum_0 rfl) (z_wat (q := 0) (j := 25) zwX6_sum_0 rfl) rfl
theorem dX6_sum_26 : decode cX6_sum 26 = .ok (.if_icmp .ge 44, 3) := z_o162 (z_wat (q := 0) (j := 26) zwX6_sum_0 rfl) (z_wat (q := 0) (j := 27) zwX6_sum_0 rfl) (z_wat (q := 0) (j := 28) zwX6_sum_0 rfl) rfl
theorem dX6_sum_29 : decode cX6_sum 29 = .ok (.iload_n 1, 1) := z_o27 (z_wat (q := 0) (j := 29) zwX6_sum_0 rfl)
theorem dX6_sum_30 : decode cX6_sum 30 = .ok (.iload 5, 2) := z_o21 (z_wat (q := 0) (j := 30) zwX6_sum_0 rfl) (z_wat (q := 0) (j := 31) zwX6_sum_0 rfl)
theorem zwX6_sum_32 : ((cX6_sum.data.toList.drop 32).take 34).map UInt8.toNat = [122, 4, 126, 153, 0, 29, 42, 180, 0, 18, 21, 4, 92, 46, 42, 180, 0, 15, 21, 5, 6, 104, 28, 96, 7, 104, 21, 4, 96, 46, 96, 79, 132, 5] := by decide +kernel
theorem dX6_sum_32 : decode cX6_sum 32 = .ok (.ishr, 1) := z_o122 (z_wat (q := 32) (j := 0) zwX6_sum_32 rfl)
theorem dX6_sum_33 : decode cX6_sum 33 = .ok (.iconst 1, 1) := z_o4 (z_wat (q := 32) (j := 1) zwX6_sum_32 rfl)
theorem dX6_sum_34 : decode cX6_sum 34 = .ok (.iand, 1) := z_o126 (z_wat (q := 32) (j := 2) zwX6_sum_32 rfl)
theorem dX6_sum_35 : decode cX6_sum 35 = .ok (.ifCond .eq 29, 3) := z_o153 (z_wat (q := 32) (j := 3) zwX6_sum_32 rfl) (z_wat (q := 32) (j := 4) zwX6_sum_32 rfl) (z_wat (q := 32) (j := 5) zwX6_sum_32 rfl) rfl
theorem dX6_sum_38 : decode cX6_sum 38 = .ok (.aload_n 0, 1) := z_o42 (z_wat (q := 32) (j := 6) zwX6_sum_32 rfl)
theorem dX6_sum_39 : decode cX6_sum 39 = .ok (.getfield 18, 3) := z_o180 (z_wat (q := 32) (j := 7) zwX6_sum_32 rfl) (z_wat (q := 32) (j := 8) zwX6_sum_32 rfl) (z_wat (q := 32) (j := 9) zwX6_sum_32 rfl) rfl
theorem dX6_sum_42 : decode cX6_sum 42 = .ok (.iload 4, 2) := z_o21 (z_wat (q := 32) (j := 10) zwX6_sum_32 rfl) (z_wat (q := 32) (j := 11) zwX6_sum_32 rfl)
theorem dX6_sum_44 : decode cX6_sum 44 = .ok (.dup2, 1) := z_o92 (z_wat (q := 32) (j := 12) zwX6_sum_32 rfl)
theorem dX6_sum_45 : decode cX6_sum 45 = .ok (.iaload, 1) := z_o46 (z_wat (q := 32) (j := 13) zwX6_sum_32 rfl)
theorem dX6_sum_46 : decode cX6_sum 46 = .ok (.aload_n 0, 1) := z_o42 (z_wat (q := 32) (j := 14) zwX6_sum_32 rfl)
theorem dX6_sum_47 : decode cX6_sum 47 = .ok (.getfield 15, 3) := z_o180 (z_wat (q := 32) (j := 15) zwX6_sum_32 rfl) (z_wat (q := 32) (j := 16) zwX6_sum_32 rfl) (z_wat (q := 32) (j := 17) zwX6_sum_32 rfl) rfl
theorem dX6_sum_50 : decode cX6_sum 50 = .ok (.iload 5, 2) := z_o21 (z_wat (q := 32) (j := 18) zwX6_sum_32 rfl) (z_wat (q := 32) (j := 19) zwX6_sum_32 rfl)
theorem dX6_sum_52 : decode cX6_sum 52 = .ok (.iconst 3, 1) := z_o6 (z_wat (q := 32) (j := 20) zwX6_sum_32 rfl)
theorem dX6_sum_53 : decode cX6_sum 53 = .ok (.imul, 1) := z_o104 (z_wat (q := 32) (j := 21) zwX6_sum_32 rfl)
theorem dX6_sum_54 : decode cX6_sum 54 = .ok (.iload_n 2, 1) := z_o28 (z_wat (q := 32) (j := 22) zwX6_sum_32 rfl)
theorem dX6_sum_55 : decode cX6_sum 55 = .ok (.iadd, 1) := z_o96 (z_wat (q := 32) (j := 23) zwX6_sum_32 rfl)
theorem dX6_sum_56 : decode cX6_sum 56 = .ok (.iconst 4, 1) := z_o7 (z_wat (q := 32) (j := 24) zwX6_sum_32 rfl)
theorem dX6_sum_57 : decode cX6_sum 57 = .ok (.imul, 1) := z_o104 (z_wat (q := 32) (j := 25) zwX6_sum_32 rfl)
theorem dX6_sum_58 : decode cX6_sum 58 = .ok (.iload 4, 2) := z_o21 (z_wat (q := 32) (j := 26) zwX6_sum_32 rfl) (z_wat (q := 32) (j := 27) zwX6_sum_32 rfl)
theorem dX6_sum_60 : decode cX6_sum 60 = .ok (.iadd, 1) := z_o96 (z_wat (q := 32) (j := 28) zwX6_sum_32 rfl)
theorem dX6_sum_61 : decode cX6_sum 61 = .ok (.iaload, 1) := z_o46 (z_wat (q := 32) (j := 29) zwX6_sum_32 rfl)
theorem dX6_sum_62 : decode cX6_sum 62 = .ok (.iadd, 1) := z_o96 (z_wat (q := 32) (j := 30) zwX6_sum_32 rfl)
theorem dX6_sum_63 : decode cX6_sum 63 = .ok (.iastore, 1) := z_o79 (z_wat (q := 32) (j := 31) zwX6_sum_32 rfl)
theorem zwX6_sum_64 : ((cX6_sum.data.toList.drop 64).take 24).map UInt8.toNat = [132, 5, 1, 167, 255, 211, 29, 42, 180, 0, 18, 21, 4, 46, 96, 62, 132, 4, 1, 167, 255, 178, 29, 172] := by decide +kernel
theorem dX6_sum_64 : decode cX6_sum 64 = .ok (.iinc 5 1, 3) := z_o132 (z_wat (q := 64) (j := 0) zwX6_sum_64 rfl) (z_wat (q := 64) (j := 1) zwX6_sum_64 rfl) (z_wat (q := 64) (j := 2) zwX6_sum_64 rfl) rfl
theorem dX6_sum_67 : decode cX6_sum 67 = .ok (.goto (-45), 3) := z_o167 (z_wat (q := 64) (j := 3) zwX6_sum_64 rfl) (z_wat (q := 64) (j := 4) zwX6_sum_64 rfl) (z_wat (q := 64) (j := 5) zwX6_sum_64 rfl) rfl
theorem dX6_sum_70 : decode cX6_sum 70 = .ok (.iload_n 3, 1) := z_o29 (z_wat (q := 64) (j := 6) zwX6_sum_64 rfl)
theorem dX6_sum_71 : decode cX6_sum 71 = .ok (.aload_n 0, 1) := z_o42 (z_wat (q := 64) (j := 7) zwX6_sum_64 rfl)
theorem dX6_sum_72 : decode cX6_sum 72 = .ok (.getfield 18, 3) := z_o180 (z_wat (q := 64) (j := 8) zwX6_sum_64 rfl) (z_wat (q := 64) (j := 9) zwX6_sum_64 rfl) (z_wat (q := 64) (j := 10) zwX6_sum_64 rfl) rfl
theorem dX6_sum_75 : decode cX6_sum 75 = .ok (.iload 4, 2) := z_o21 (z_wat (q := 64) (j := 11) zwX6_sum_64 rfl) (z_wat (q := 64) (j := 12) zwX6_sum_64 rfl)
theorem dX6_sum_77 : decode cX6_sum 77 = .ok (.iaload, 1) := z_o46 (z_wat (q := 64) (j := 13) zwX6_sum_64 rfl)
theorem dX6_sum_78 : decode cX6_sum 78 = .ok (.iadd, 1) := z_o96 (z_wat (q := 64) (j := 14) zwX6_sum_64 rfl)
theorem dX6_sum_79 : decode cX6_sum 79 = .ok (.istore_n 3, 1) := z_o62 (z_wat (q := 64) (j := 15) zwX6_sum_64 rfl)
theorem dX6_sum_80 : decode cX6_sum 80 = .ok (.iinc 4 1, 3) := z_o132 (z_wat (q := 64) (j := 16) zwX6_sum_64 rfl) (z_wat (q := 64) (j := 17) zwX6_sum_64 rfl) (z_wat (q := 64) (j := 18) zwX6_sum_64 rfl) rfl
theorem dX6_sum_83 : decode cX6_sum 83 = .ok (.goto (-78), 3) := z_o167 (z_wat (q := 64) (j := 19) zwX6_sum_64 rfl) (z_wat (q := 64) (j := 20) zwX6_sum_64 rfl) (z_wat (q := 64) (j := 21) zwX6_sum_64 rfl) rfl
theorem dX6_sum_86 : decode cX6_sum 86 = .ok (.iload_n 3, 1) := z_o29 (z_wat (q := 64) (j := 22) zwX6_sum_64 rfl)
theorem dX6_sum_87 : decode cX6_sum 87 = .ok (.ireturn, 1) := z_o172 (z_wat (q := 64) (j := 23) zwX6_sum_64 rfl)
theorem zwX6_tell_0 : ((cX6_tell.data.toList.drop 0).take 34).map UInt8.toNat = [27, 6, 104, 28, 96, 7, 104, 54, 7, 42, 180, 0, 15, 21, 7, 92, 46, 29, 96, 79, 42, 180, 0, 15, 21, 7, 4, 96, 92, 46, 21, 4, 96, 79] := by decide +kernel
theorem dX6_tell_0 : decode cX6_tell 0 = .ok (.iload_n 1, 1) := z_o27 (z_wat (q := 0) (j := 0) zwX6_tell_0 rfl)
theorem dX6_tell_1 : decode cX6_tell 1 = .ok (.iconst 3, 1) := z_o6 (z_wat (q := 0) (j := 1) zwX6_tell_0 rfl)
theorem dX6_tell_2 : decode cX6_tell 2 = .ok (.imul, 1) := z_o104 (z_wat (q := 0) (j := 2) zwX6_tell_0 rfl)
theorem dX6_tell_3 : decode cX6_tell 3 = .ok (.iload_n 2, 1) := z_o28 (z_wat (q := 0) (j := 3) zwX6_tell_0 rfl)
theorem dX6_tell_4 : decode cX6_tell 4 = .ok (.iadd, 1) := z_o96 (z_wat (q := 0) (j := 4) zwX6_tell_0 rfl)
theorem dX6_tell_5 : decode cX6_tell 5 = .ok (.iconst 4, 1) := z_o7 (z_wat (q := 0) (j := 5) zwX6_tell_0 rfl)
theorem dX6_tell_6 : decode cX6_tell 6 = .ok (.imul, 1) := z_o104 (z_wat (q := 0) (j := 6) zwX6_tell_0 rfl)
theorem dX6_tell_7 : decode cX6_tell 7 = .ok (.istore 7, 2) := z_o54 (z_wat (q := 0) (j := 7) zwX6_tell_0 rfl) (z_wat (q := 0) (j := 8) zwX6_tell_0 rfl)
theorem dX6_tell_9 : decode cX6_tell 9 = .ok (.aload_n 0, 1) := z_o42 (z_wat (q := 0) (j := 9) zwX6_tell_0 rfl)
theorem dX6_tell_10 : decode cX6_tell 10 = .ok (.getfield 15, 3) := z_o180 (z_wat (q := 0) (j := 10) zwX6_tell_0 rfl) (z_wat (q := 0) (j := 11) zwX6_tell_0 rfl) (z_wat (q := 0) (j := 12) zwX6_tell_0 rfl) rfl
theorem dX6_tell_13 : decode cX6_tell 13 = .ok (.iload 7, 2) := z_o21 (z_wat (q := 0) (j := 13) zwX6_tell_0 rfl) (z_wat (q := 0) (j := 14) zwX6_tell_0 rfl)
theorem dX6_tell_15 : decode cX6_tell 15 = .ok (.dup2, 1) := z_o92 (z_wat (q := 0) (j := 15) zwX6_tell_0 rfl)
theorem dX6_tell_16 : decode cX6_tell 16 = .ok (.iaload, 1) := z_o46 (z_wat (q := 0) (j := 16) zwX6_tell_0 rfl)
theorem dX6_tell_17 : decode cX6_tell 17 = .ok (.iload_n 3, 1) := z_o29 (z_wat (q := 0) (j := 17) zwX6_tell_0 rfl)
theorem dX6_tell_18 : decode cX6_tell 18 = .ok (.iadd, 1) := z_o96 (z_wat (q := 0) (j := 18) zwX6_tell_0 rfl)
theorem dX6_tell_19 : decode cX6_tell 19 = .ok (.iastore, 1) := z_o79 (z_wat (q := 0) (j := 19) zwX6_tell_0 rfl)
theorem dX6_tell_20 : decode cX6_tell 20 = .ok (.aload_n 0, 1) := z_o42 (z_wat (q := 0) (j := 20) zwX6_tell_0 rfl)
theorem dX6_tell_21 : decode cX6_tell 21 = .ok (.getfield 15, 3) := z_o180 (z_wat (q := 0) (j := 21) zwX6_tell_0 rfl) (z_wat (q := 0) (j := 22) zwX6_tell_0 rfl) (z_wat (q := 0) (j := 23) zwX6_tell_0 rfl) rfl
theorem dX6_tell_24 : decode cX6_tell 24 = .ok (.iload 7, 2) := z_o21 (z_wat (q := 0) (j := 24) zwX6_tell_0 rfl) (z_wat (q := 0) (j := 25) zwX6_tell_0 rfl)
theorem dX6_tell_26 : decode cX6_tell 26 = .ok (.iconst 1, 1) := z_o4 (z_wat (q := 0) (j := 26) zwX6_tell_0 rfl)
theorem dX6_tell_27 : decode cX6_tell 27 = .ok (.iadd, 1) := z_o96 (z_wat (q := 0) (j := 27) zwX6_tell_0 rfl)
theorem dX6_tell_28 : decode cX6_tell 28 = .ok (.dup2, 1) := z_o92 (z_wat (q := 0) (j := 28) zwX6_tell_0 rfl)
theorem dX6_tell_29 : decode cX6_tell 29 = .ok (.iaload, 1) := z_o46 (z_wat (q := 0) (j := 29) zwX6_tell_0 rfl)
theorem dX6_tell_30 : decode cX6_tell 30 = .ok (.iload 4, 2) := z_o21 (z_wat (q := 0) (j := 30) zwX6_tell_0 rfl) (z_wat (q := 0) (j := 31) zwX6_tell_0 rfl)
theorem zwX6_tell_32 : ((cX6_tell.data.toList.drop 32).take 31).map UInt8.toNat = [96, 79, 42, 180, 0, 15, 21, 7, 5, 96, 92, 46, 21, 5, 96, 79, 42, 180, 0, 15, 21, 7, 6, 96, 92, 46, 21, 6, 96, 79, 177] := by decide +kernel
theorem dX6_tell_32 : decode cX6_tell 32 = .ok (.iadd, 1) := z_o96 (z_wat (q := 32) (j := 0) zwX6_tell_32 rfl)
theorem dX6_tell_33 : decode cX6_tell 33 = .ok (.iastore, 1) := z_o79 (z_wat (q := 32) (j := 1) zwX6_tell_32 rfl)
theorem dX6_tell_34 : decode cX6_tell 34 = .ok (.aload_n 0, 1) := z_o42 (z_wat (q := 32) (j := 2) zwX6_tell_32 rfl)
theorem dX6_tell_35 : decode cX6_tell 35 = .ok (.getfield 15, 3) := z_o180 (z_wat (q := 32) (j := 3) zwX6_tell_32 rfl) (z_wat (q := 32) (j := 4) zwX6_tell_32 rfl) (z_wat (q := 32) (j := 5) zwX6_tell_32 rfl) rfl
theorem dX6_tell_38 : decode cX6_tell 38 = .ok (.iload 7, 2) := z_o21 (z_wat (q := 32) (j := 6) zwX6_tell_32 rfl) (z_wat (q := 32) (j := 7) zwX6_tell_32 rfl)
theorem dX6_tell_40 : decode cX6_tell 40 = .ok (.iconst 2, 1) := z_o5 (z_wat (q := 32) (j := 8) zwX6_tell_32 rfl)
theorem dX6_tell_41 : decode cX6_tell 41 = .ok (.iadd, 1) := z_o96 (z_wat (q := 32) (j := 9) zwX6_tell_32 rfl)
theorem dX6_tell_42 : decode cX6_tell 42 = .ok (.dup2, 1) := z_o92 (z_wat (q := 32) (j := 10) zwX6_tell_32 rfl)
theorem dX6_tell_43 : decode cX6_tell 43 = .ok (.iaload, 1) := z_o46 (z_wat (q := 32) (j := 11) zwX6_tell_32 rfl)
theorem dX6_tell_44 : decode cX6_tell 44 = .ok (.iload 5, 2) := z_o21 (z_wat (q := 32) (j := 12) zwX6_tell_32 rfl) (z_wat (q := 32) (j := 13) zwX6_tell_32 rfl)
theorem dX6_tell_46 : decode cX6_tell 46 = .ok (.iadd, 1) := z_o96 (z_wat (q := 32) (j := 14) zwX6_tell_32 rfl)
theorem dX6_tell_47 : decode cX6_tell 47 = .ok (.iastore, 1) := z_o79 (z_wat (q := 32) (j := 15) zwX6_tell_32 rfl)
theorem dX6_tell_48 : decode cX6_tell 48 = .ok (.aload_n 0, 1) := z_o42 (z_wat (q := 32) (j := 16) zwX6_tell_32 rfl)
theorem dX6_tell_49 : decode cX6_tell 49 = .ok (.getfield 15, 3) := z_o180 (z_wat (q := 32) (j := 17) zwX6_tell_32 rfl) (z_wat (q := 32) (j := 18) zwX6_tell_32 rfl) (z_wat (q := 32) (j := 19) zwX6_tell_32 rfl) rfl
theorem dX6_tell_52 : decode cX6_tell 52 = .ok (.iload 7, 2) := z_o21 (z_wat (q := 32) (j := 20) zwX6_tell_32 rfl) (z_wat (q := 32) (j := 21) zwX6_tell_32 rfl)
theorem dX6_tell_54 : decode cX6_tell 54 = .ok (.iconst 3, 1) := z_o6 (z_wat (q := 32) (j := 22) zwX6_tell_32 rfl)
theorem dX6_tell_55 : decode cX6_tell 55 = .ok (.iadd, 1) := z_o96 (z_wat (q := 32) (j := 23) zwX6_tell_32 rfl)
theorem dX6_tell_56 : decode cX6_tell 56 = .ok (.dup2, 1) := z_o92 (z_wat (q := 32) (j := 24) zwX6_tell_32 rfl)
theorem dX6_tell_57 : decode cX6_tell 57 = .ok (.iaload, 1) := z_o46 (z_wat (q := 32) (j := 25) zwX6_tell_32 rfl)
theorem dX6_tell_58 : decode cX6_tell 58 = .ok (.iload 6, 2) := z_o21 (z_wat (q := 32) (j := 26) zwX6_tell_32 rfl) (z_wat (q := 32) (j := 27) zwX6_tell_32 rfl)
theorem dX6_tell_60 : decode cX6_tell 60 = .ok (.iadd, 1) := z_o96 (z_wat (q := 32) (j := 28) zwX6_tell_32 rfl)
theorem dX6_tell_61 : decode cX6_tell 61 = .ok (.iastore, 1) := z_o79 (z_wat (q := 32) (j := 29) zwX6_tell_32 rfl)
theorem dX6_tell_62 : decode cX6_tell 62 = .ok (.return_, 1) := z_o177 (z_wat (q := 32) (j := 30) zwX6_tell_32 rfl)
theorem zwX6_tryPair_0 : ((cX6_tryPair.data.toList.drop 0).take 34).map UInt8.toNat = [27, 7, 104, 7, 104, 54, 5, 3, 54, 6, 3, 54, 7, 3, 54, 8, 21, 8, 7, 162, 0, 138, 42, 180, 0, 11, 21, 5, 16, 12, 96, 21, 8, 96] := by decide +kernel
theorem dX6_tryPair_0 : decode cX6_tryPair 0 = .ok (.iload_n 1, 1) := z_o27 (z_wat (q := 0) (j := 0) zwX6_tryPair_0 rfl)
theorem dX6_tryPair_1 : decode cX6_tryPair 1 = .ok (.iconst 4, 1) := z_o7 (z_wat (q := 0) (j := 1) zwX6_tryPair_0 rfl)
theorem dX6_tryPair_2 : decode cX6_tryPair 2 = .ok (.imul, 1) := z_o104 (z_wat (q := 0) (j := 2) zwX6_tryPair_0 rfl)
theorem dX6_tryPair_3 : decode cX6_tryPair 3 = .ok (.iconst 4, 1) := z_o7 (z_wat (q := 0) (j := 3) zwX6_tryPair_0 rfl)
theorem dX6_tryPair_4 : decode cX6_tryPair 4 = .ok (.imul, 1) := z_o104 (z_wat (q := 0) (j := 4) zwX6_tryPair_0 rfl)
theorem dX6_tryPair_5 : decode cX6_tryPair 5 = .ok (.istore 5, 2) := z_o54 (z_wat (q := 0) (j := 5) zwX6_tryPair_0 rfl) (z_wat (q := 0) (j := 6) zwX6_tryPair_0 rfl)
theorem dX6_tryPair_7 : decode cX6_tryPair 7 = .ok (.iconst 0, 1) := z_o3 (z_wat (q := 0) (j := 7) zwX6_tryPair_0 rfl)
theorem dX6_tryPair_8 : decode cX6_tryPair 8 = .ok (.istore 6, 2) := z_o54 (z_wat (q := 0) (j := 8) zwX6_tryPair_0 rfl) (z_wat (q := 0) (j := 9) zwX6_tryPair_0 rfl)
theorem dX6_tryPair_10 : decode cX6_tryPair 10 = .ok (.iconst 0, 1) := z_o3 (z_wat (q := 0) (j := 10) zwX6_tryPair_0 rfl)
theorem dX6_tryPair_11 : decode cX6_tryPair 11 = .ok (.istore 7, 2) := z_o54 (z_wat (q := 0) (j := 11) zwX6_tryPair_0 rfl) (z_wat (q := 0) (j := 12) zwX6_tryPair_0 rfl)
theorem dX6_tryPair_13 : decode cX6_tryPair 13 = .ok (.iconst 0, 1) := z_o3 (z_wat (q := 0) (j := 13) zwX6_tryPair_0 rfl)
theorem dX6_tryPair_14 : decode cX6_tryPair 14 = .ok (.istore 8, 2) := z_o54 (z_wat (q := 0) (j := 14) zwX6_tryPair_0 rfl) (z_wat (q := 0) (j := 15) zwX6_tryPair_0 rfl)
theorem dX6_tryPair_16 : decode cX6_tryPair 16 = .ok (.iload 8, 2) := z_o21 (z_wat (q := 0) (j := 16) zwX6_tryPair_0 rfl) (z_wat (q := 0) (j := 17) zwX6_tryPair_0 rfl)
theorem dX6_tryPair_18 : decode cX6_tryPair 18 = .ok (.iconst 4, 1) := z_o7 (z_wat (q := 0) (j := 18) zwX6_tryPair_0 rfl)
theorem dX6_tryPair_19 : decode cX6_tryPair 19 = .ok (.if_icmp .ge 138, 3) := z_o162 (z_wat (q := 0) (j := 19) zwX6_tryPair_0 rfl) (z_wat (q := 0) (j := 20) zwX6_tryPair_0 rfl) (z_wat (q := 0) (j := 21) zwX6_tryPair_0 rfl) rfl
theorem dX6_tryPair_22 : decode cX6_tryPair 22 = .ok (.aload_n 0, 1) := z_o42 (z_wat (q := 0) (j := 22) zwX6_tryPair_0 rfl)
theorem dX6_tryPair_23 : decode cX6_tryPair 23 = .ok (.getfield 11, 3) := z_o180 (z_wat (q := 0) (j := 23) zwX6_tryPair_0 rfl) (z_wat (q := 0) (j := 24) zwX6_tryPair_0 rfl) (z_wat (q := 0) (j := 25) zwX6_tryPair_0 rfl) rfl
theorem dX6_tryPair_26 : decode cX6_tryPair 26 = .ok (.iload 5, 2) := z_o21 (z_wat (q := 0) (j := 26) zwX6_tryPair_0 rfl) (z_wat (q := 0) (j := 27) zwX6_tryPair_0 rfl)
theorem dX6_tryPair_28 : decode cX6_tryPair 28 = .ok (.bipush 12, 2) := z_o16 (z_wat (q := 0) (j := 28) zwX6_tryPair_0 rfl) (z_wat (q := 0) (j := 29) zwX6_tryPair_0 rfl) rfl
theorem dX6_tryPair_30 : decode cX6_tryPair 30 = .ok (.iadd, 1) := z_o96 (z_wat (q := 0) (j := 30) zwX6_tryPair_0 rfl)
theorem dX6_tryPair_31 : decode cX6_tryPair 31 = .ok (.iload 8, 2) := z_o21 (z_wat (q := 0) (j := 31) zwX6_tryPair_0 rfl) (z_wat (q := 0) (j := 32) zwX6_tryPair_0 rfl)
theorem zwX6_tryPair_32 : ((cX6_tryPair.data.toList.drop 32).take 34).map UInt8.toNat = [8, 96, 46, 54, 9, 42, 180, 0, 24, 21, 8, 42, 180, 0, 11, 21, 5, 16, 8, 96, 21, 8, 96, 46, 21, 9, 100, 79, 42, 180, 0, 21, 21, 8] := by decide +kernel
theorem dX6_tryPair_33 : decode cX6_tryPair 33 = .ok (.iadd, 1) := z_o96 (z_wat (q := 32) (j := 1) zwX6_tryPair_32 rfl)
theorem dX6_tryPair_34 : decode cX6_tryPair 34 = .ok (.iaload, 1) := z_o46 (z_wat (q := 32) (j := 2) zwX6_tryPair_32 rfl)
theorem dX6_tryPair_35 : decode cX6_tryPair 35 = .ok (.istore 9, 2) := z_o54 (z_wat (q := 32) (j := 3) zwX6_tryPair_32 rfl) (z_wat (q := 32) (j := 4) zwX6_tryPair_32 rfl)
theorem dX6_tryPair_37 : decode cX6_tryPair 37 = .ok (.aload_n 0, 1) := z_o42 (z_wat (q := 32) (j := 5) zwX6_tryPair_32 rfl)
theorem dX6_tryPair_38 : decode cX6_tryPair 38 = .ok (.getfield 24, 3) := z_o180 (z_wat (q := 32) (j := 6) zwX6_tryPair_32 rfl) (z_wat (q := 32) (j := 7) zwX6_tryPair_32 rfl) (z_wat (q := 32) (j := 8) zwX6_tryPair_32 rfl) rfl
theorem dX6_tryPair_41 : decode cX6_tryPair 41 = .ok (.iload 8, 2) := z_o21 (z_wat (q := 32) (j := 9) zwX6_tryPair_32 rfl) (z_wat (q := 32) (j := 10) zwX6_tryPair_32 rfl)
theorem dX6_tryPair_43 : decode cX6_tryPair 43 = .ok (.aload_n 0, 1) := z_o42 (z_wat (q := 32) (j := 11) zwX6_tryPair_32 rfl)
theorem dX6_tryPair_44 : decode cX6_tryPair 44 = .ok (.getfield 11, 3) := z_o180 (z_wat (q := 32) (j := 12) zwX6_tryPair_32 rfl) (z_wat (q := 32) (j := 13) zwX6_tryPair_32 rfl) (z_wat (q := 32) (j := 14) zwX6_tryPair_32 rfl) rfl
theorem dX6_tryPair_47 : decode cX6_tryPair 47 = .ok (.iload 5, 2) := z_o21 (z_wat (q := 32) (j := 15) zwX6_tryPair_32 rfl) (z_wat (q := 32) (j := 16) zwX6_tryPair_32 rfl)
theorem dX6_tryPair_49 : decode cX6_tryPair 49 = .ok (.bipush 8, 2) := z_o16 (z_wat (q := 32) (j := 17) zwX6_tryPair_32 rfl) (z_wat (q := 32) (j := 18) zwX6_tryPair_32 rfl) rfl
theorem dX6_tryPair_51 : decode cX6_tryPair 51 = .ok (.iadd, 1) := z_o96 (z_wat (q := 32) (j := 19) zwX6_tryPair_32 rfl)
theorem dX6_tryPair_52 : decode cX6_tryPair 52 = .ok (.iload 8, 2) := z_o21 (z_wat (q := 32) (j := 20) zwX6_tryPair_32 rfl) (z_wat (q := 32) (j := 21) zwX6_tryPair_32 rfl)
theorem dX6_tryPair_54 : decode cX6_tryPair 54 = .ok (.iadd, 1) := z_o96 (z_wat (q := 32) (j := 22) zwX6_tryPair_32 rfl)
theorem dX6_tryPair_55 : decode cX6_tryPair 55 = .ok (.iaload, 1) := z_o46 (z_wat (q := 32) (j := 23) zwX6_tryPair_32 rfl)
theorem dX6_tryPair_56 : decode cX6_tryPair 56 = .ok (.iload 9, 2) := z_o21 (z_wat (q := 32) (j := 24) zwX6_tryPair_32 rfl) (z_wat (q := 32) (j := 25) zwX6_tryPair_32 rfl)
theorem dX6_tryPair_58 : decode cX6_tryPair 58 = .ok (.isub, 1) := z_o100 (z_wat (q := 32) (j := 26) zwX6_tryPair_32 rfl)
theorem dX6_tryPair_59 : decode cX6_tryPair 59 = .ok (.iastore, 1) := z_o79 (z_wat (q := 32) (j := 27) zwX6_tryPair_32 rfl)
theorem dX6_tryPair_60 : decode cX6_tryPair 60 = .ok (.aload_n 0, 1) := z_o42 (z_wat (q := 32) (j := 28) zwX6_tryPair_32 rfl)
theorem dX6_tryPair_61 : decode cX6_tryPair 61 = .ok (.getfield 21, 3) := z_o180 (z_wat (q := 32) (j := 29) zwX6_tryPair_32 rfl) (z_wat (q := 32) (j := 30) zwX6_tryPair_32 rfl) (z_wat (q := 32) (j := 31) zwX6_tryPair_32 rfl) rfl
theorem zwX6_tryPair_64 : ((cX6_tryPair.data.toList.drop 64).take 34).map UInt8.toNat = [21, 8, 16, 16, 42, 180, 0, 18, 21, 8, 46, 104, 28, 42, 180, 0, 11, 21, 5, 21, 8, 96, 46, 104, 100, 29, 42, 180, 0, 11, 21, 5, 7, 96] := by decide +kernel
theorem dX6_tryPair_64 : decode cX6_tryPair 64 = .ok (.iload 8, 2) := z_o21 (z_wat (q := 64) (j := 0) zwX6_tryPair_64 rfl) (z_wat (q := 64) (j := 1) zwX6_tryPair_64 rfl)
theorem dX6_tryPair_66 : decode cX6_tryPair 66 = .ok (.bipush 16, 2) := z_o16 (z_wat (q := 64) (j := 2) zwX6_tryPair_64 rfl) (z_wat (q := 64) (j := 3) zwX6_tryPair_64 rfl) rfl
theorem dX6_tryPair_68 : decode cX6_tryPair 68 = .ok (.aload_n 0, 1) := z_o42 (z_wat (q := 64) (j := 4) zwX6_tryPair_64 rfl)
theorem dX6_tryPair_69 : decode cX6_tryPair 69 = .ok (.getfield 18, 3) := z_o180 (z_wat (q := 64) (j := 5) zwX6_tryPair_64 rfl) (z_wat (q := 64) (j := 6) zwX6_tryPair_64 rfl) (z_wat (q := 64) (j := 7) zwX6_tryPair_64 rfl) rfl
theorem dX6_tryPair_72 : decode cX6_tryPair 72 = .ok (.iload 8, 2) := z_o21 (z_wat (q := 64) (j := 8) zwX6_tryPair_64 rfl) (z_wat (q := 64) (j := 9) zwX6_tryPair_64 rfl)
theorem dX6_tryPair_74 : decode cX6_tryPair 74 = .ok (.iaload, 1) := z_o46 (z_wat (q := 64) (j := 10) zwX6_tryPair_64 rfl)
theorem dX6_tryPair_75 : decode cX6_tryPair 75 = .ok (.imul, 1) := z_o104 (z_wat (q := 64) (j := 11) zwX6_tryPair_64 rfl)
theorem dX6_tryPair_76 : decode cX6_tryPair 76 = .ok (.iload_n 2, 1) := z_o28 (z_wat (q := 64) (j := 12) zwX6_tryPair_64 rfl)
theorem dX6_tryPair_77 : decode cX6_tryPair 77 = .ok (.aload_n 0, 1) := z_o42 (z_wat (q := 64) (j := 13) zwX6_tryPair_64 rfl)
theorem dX6_tryPair_78 : decode cX6_tryPair 78 = .ok (.getfield 11, 3) := z_o180 (z_wat (q := 64) (j := 14) zwX6_tryPair_64 rfl) (z_wat (q := 64) (j := 15) zwX6_tryPair_64 rfl) (z_wat (q := 64) (j := 16) zwX6_tryPair_64 rfl) rfl
theorem dX6_tryPair_81 : decode cX6_tryPair 81 = .ok (.iload 5, 2) := z_o21 (z_wat (q := 64) (j := 17) zwX6_tryPair_64 rfl) (z_wat (q := 64) (j := 18) zwX6_tryPair_64 rfl)
theorem dX6_tryPair_83 : decode cX6_tryPair 83 = .ok (.iload 8, 2) := z_o21 (z_wat (q := 64) (j := 19) zwX6_tryPair_64 rfl) (z_wat (q := 64) (j := 20) zwX6_tryPair_64 rfl)
theorem dX6_tryPair_85 : decode cX6_tryPair 85 = .ok (.iadd, 1) := z_o96 (z_wat (q := 64) (j := 21) zwX6_tryPair_64 rfl)
theorem dX6_tryPair_86 : decode cX6_tryPair 86 = .ok (.iaload, 1) := z_o46 (z_wat (q := 64) (j := 22) zwX6_tryPair_64 rfl)
theorem dX6_tryPair_87 : decode cX6_tryPair 87 = .ok (.imul, 1) := z_o104 (z_wat (q := 64) (j := 23) zwX6_tryPair_64 rfl)
theorem dX6_tryPair_88 : decode cX6_tryPair 88 = .ok (.isub, 1) := z_o100 (z_wat (q := 64) (j := 24) zwX6_tryPair_64 rfl)
theorem dX6_tryPair_89 : decode cX6_tryPair 89 = .ok (.iload_n 3, 1) := z_o29 (z_wat (q := 64) (j := 25) zwX6_tryPair_64 rfl)
theorem dX6_tryPair_90 : decode cX6_tryPair 90 = .ok (.aload_n 0, 1) := z_o42 (z_wat (q := 64) (j := 26) zwX6_tryPair_64 rfl)
theorem dX6_tryPair_91 : decode cX6_tryPair 91 = .ok (.getfield 11, 3) := z_o180 (z_wat (q := 64) (j := 27) zwX6_tryPair_64 rfl) (z_wat (q := 64) (j := 28) zwX6_tryPair_64 rfl) (z_wat (q := 64) (j := 29) zwX6_tryPair_64 rfl) rfl
theorem dX6_tryPair_94 : decode cX6_tryPair 94 = .ok (.iload 5, 2) := z_o21 (z_wat (q := 64) (j := 30) zwX6_tryPair_64 rfl) (z_wat (q := 64) (j := 31) zwX6_tryPair_64 rfl)
theorem zwX6_tryPair_96 : ((cX6_tryPair.data.toList.drop 96).take 34).map UInt8.toNat = [7, 96, 21, 8, 96, 46, 104, 100, 21, 4, 21, 9, 104, 100, 79, 21, 6, 42, 180, 0, 21, 21, 8, 46, 42, 180, 0, 24, 21, 8, 46, 104, 96, 54] := by decide +kernel
theorem dX6_tryPair_96 : decode cX6_tryPair 96 = .ok (.iconst 4, 1) := z_o7 (z_wat (q := 96) (j := 0) zwX6_tryPair_96 rfl)
theorem dX6_tryPair_97 : decode cX6_tryPair 97 = .ok (.iadd, 1) := z_o96 (z_wat (q := 96) (j := 1) zwX6_tryPair_96 rfl)
theorem dX6_tryPair_98 : decode cX6_tryPair 98 = .ok (.iload 8, 2) := z_o21 (z_wat (q := 96) (j := 2) zwX6_tryPair_96 rfl) (z_wat (q := 96) (j := 3) zwX6_tryPair_96 rfl)
theorem dX6_tryPair_100 : decode cX6_tryPair 100 = .ok (.iadd, 1) := z_o96 (z_wat (q := 96) (j := 4) zwX6_tryPair_96 rfl)
theorem dX6_tryPair_101 : decode cX6_tryPair 101 = .ok (.iaload, 1) := z_o46 (z_wat (q := 96) (j := 5) zwX6_tryPair_96 rfl)
theorem dX6_tryPair_102 : decode cX6_tryPair 102 = .ok (.imul, 1) := z_o104 (z_wat (q := 96) (j := 6) zwX6_tryPair_96 rfl)
theorem dX6_tryPair_103 : decode cX6_tryPair 103 = .ok (.isub, 1) := z_o100 (z_wat (q := 96) (j := 7) zwX6_tryPair_96 rfl)
theorem dX6_tryPair_104 : decode cX6_tryPair 104 = .ok (.iload 4, 2) := z_o21 (z_wat (q := 96) (j := 8) zwX6_tryPair_96 rfl) (z_wat (q := 96) (j := 9) zwX6_tryPair_96 rfl)
theorem dX6_tryPair_106 : decode cX6_tryPair 106 = .ok (.iload 9, 2) := z_o21 (z_wat (q := 96) (j := 10) zwX6_tryPair_96 rfl) (z_wat (q := 96) (j := 11) zwX6_tryPair_96 rfl)
theorem dX6_tryPair_108 : decode cX6_tryPair 108 = .ok (.imul, 1) := z_o104 (z_wat (q := 96) (j := 12) zwX6_tryPair_96 rfl)
theorem dX6_tryPair_109 : decode cX6_tryPair 109 = .ok (.isub, 1) := z_o100 (z_wat (q := 96) (j := 13) zwX6_tryPair_96 rfl)
theorem dX6_tryPair_110 : decode cX6_tryPair 110 = .ok (.iastore, 1) := z_o79 (z_wat (q := 96) (j := 14) zwX6_tryPair_96 rfl)
theorem dX6_tryPair_111 : decode cX6_tryPair 111 = .ok (.iload 6, 2) := z_o21 (z_wat (q := 96) (j := 15) zwX6_tryPair_96 rfl) (z_wat (q := 96) (j := 16) zwX6_tryPair_96 rfl)
theorem dX6_tryPair_113 : decode cX6_tryPair 113 = .ok (.aload_n 0, 1) := z_o42 (z_wat (q := 96) (j := 17) zwX6_tryPair_96 rfl)
theorem dX6_tryPair_114 : decode cX6_tryPair 114 = .ok (.getfield 21, 3) := z_o180 (z_wat (q := 96) (j := 18) zwX6_tryPair_96 rfl) (z_wat (q := 96) (j := 19) zwX6_tryPair_96 rfl) (z_wat (q := 96) (j := 20) zwX6_tryPair_96 rfl) rfl
theorem dX6_tryPair_117 : decode cX6_tryPair 117 = .ok (.iload 8, 2) := z_o21 (z_wat (q := 96) (j := 21) zwX6_tryPair_96 rfl) (z_wat (q := 96) (j := 22) zwX6_tryPair_96 rfl)
theorem dX6_tryPair_119 : decode cX6_tryPair 119 = .ok (.iaload, 1) := z_o46 (z_wat (q := 96) (j := 23) zwX6_tryPair_96 rfl)
theorem dX6_tryPair_120 : decode cX6_tryPair 120 = .ok (.aload_n 0, 1) := z_o42 (z_wat (q := 96) (j := 24) zwX6_tryPair_96 rfl)
theorem dX6_tryPair_121 : decode cX6_tryPair 121 = .ok (.getfield 24, 3) := z_o180 (z_wat (q := 96) (j := 25) zwX6_tryPair_96 rfl) (z_wat (q := 96) (j := 26) zwX6_tryPair_96 rfl) (z_wat (q := 96) (j := 27) zwX6_tryPair_96 rfl) rfl
theorem dX6_tryPair_124 : decode cX6_tryPair 124 = .ok (.iload 8, 2) := z_o21 (z_wat (q := 96) (j := 28) zwX6_tryPair_96 rfl) (z_wat (q := 96) (j := 29) zwX6_tryPair_96 rfl)
theorem dX6_tryPair_126 : decode cX6_tryPair 126 = .ok (.iaload, 1) := z_o46 (z_wat (q := 96) (j := 30) zwX6_tryPair_96 rfl)
theorem dX6_tryPair_127 : decode cX6_tryPair 127 = .ok (.imul, 1) := z_o104 (z_wat (q := 96) (j := 31) zwX6_tryPair_96 rfl)
theorem zwX6_tryPair_128 : ((cX6_tryPair.data.toList.drop 128).take 34).map UInt8.toNat = [96, 54, 6, 21, 7, 42, 180, 0, 24, 21, 8, 46, 42, 180, 0, 24, 21, 8, 46, 104, 96, 54, 7, 132, 8, 1, 167, 255, 118, 21, 7, 158, 0, 21] := by decide +kernel
theorem dX6_tryPair_128 : decode cX6_tryPair 128 = .ok (.iadd, 1) := z_o96 (z_wat (q := 128) (j := 0) zwX6_tryPair_128 rfl)
theorem dX6_tryPair_129 : decode cX6_tryPair 129 = .ok (.istore 6, 2) := z_o54 (z_wat (q := 128) (j := 1) zwX6_tryPair_128 rfl) (z_wat (q := 128) (j := 2) zwX6_tryPair_128 rfl)
theorem dX6_tryPair_131 : decode cX6_tryPair 131 = .ok (.iload 7, 2) := z_o21 (z_wat (q := 128) (j := 3) zwX6_tryPair_128 rfl) (z_wat (q := 128) (j := 4) zwX6_tryPair_128 rfl)
theorem dX6_tryPair_133 : decode cX6_tryPair 133 = .ok (.aload_n 0, 1) := z_o42 (z_wat (q := 128) (j := 5) zwX6_tryPair_128 rfl)
theorem dX6_tryPair_134 : decode cX6_tryPair 134 = .ok (.getfield 24, 3) := z_o180 (z_wat (q := 128) (j := 6) zwX6_tryPair_128 rfl) (z_wat (q := 128) (j := 7) zwX6_tryPair_128 rfl) (z_wat (q := 128) (j := 8) zwX6_tryPair_128 rfl) rfl
theorem dX6_tryPair_137 : decode cX6_tryPair 137 = .ok (.iload 8, 2) := z_o21 (z_wat (q := 128) (j := 9) zwX6_tryPair_128 rfl) (z_wat (q := 128) (j := 10) zwX6_tryPair_128 rfl)
theorem dX6_tryPair_139 : decode cX6_tryPair 139 = .ok (.iaload, 1) := z_o46 (z_wat (q := 128) (j := 11) zwX6_tryPair_128 rfl)
theorem dX6_tryPair_140 : decode cX6_tryPair 140 = .ok (.aload_n 0, 1) := z_o42 (z_wat (q := 128) (j := 12) zwX6_tryPair_128 rfl)
theorem dX6_tryPair_141 : decode cX6_tryPair 141 = .ok (.getfield 24, 3) := z_o180 (z_wat (q := 128) (j := 13) zwX6_tryPair_128 rfl) (z_wat (q := 128) (j := 14) zwX6_tryPair_128 rfl) (z_wat (q := 128) (j := 15) zwX6_tryPair_128 rfl) rfl
theorem dX6_tryPair_144 : decode cX6_tryPair 144 = .ok (.iload 8, 2) := z_o21 (z_wat (q := 128) (j := 16) zwX6_tryPair_128 rfl) (z_wat (q := 128) (j := 17) zwX6_tryPair_128 rfl)
theorem dX6_tryPair_146 : decode cX6_tryPair 146 = .ok (.iaload, 1) := z_o46 (z_wat (q := 128) (j := 18) zwX6_tryPair_128 rfl)
theorem dX6_tryPair_147 : decode cX6_tryPair 147 = .ok (.imul, 1) := z_o104 (z_wat (q := 128) (j := 19) zwX6_tryPair_128 rfl)
theorem dX6_tryPair_148 : decode cX6_tryPair 148 = .ok (.iadd, 1) := z_o96 (z_wat (q := 128) (j := 20) zwX6_tryPair_128 rfl)
theorem dX6_tryPair_149 : decode cX6_tryPair 149 = .ok (.istore 7, 2) := z_o54 (z_wat (q := 128) (j := 21) zwX6_tryPair_128 rfl) (z_wat (q := 128) (j := 22) zwX6_tryPair_128 rfl)
theorem dX6_tryPair_151 : decode cX6_tryPair 151 = .ok (.iinc 8 1, 3) := z_o132 (z_wat (q := 128) (j := 23) zwX6_tryPair_128 rfl) (z_wat (q := 128) (j := 24) zwX6_tryPair_128 rfl) (z_wat (q := 128) (j := 25) zwX6_tryPair_128 rfl) rfl
theorem dX6_tryPair_154 : decode cX6_tryPair 154 = .ok (.goto (-138), 3) := z_o167 (z_wat (q := 128) (j := 26) zwX6_tryPair_128 rfl) (z_wat (q := 128) (j := 27) zwX6_tryPair_128 rfl) (z_wat (q := 128) (j := 28) zwX6_tryPair_128 rfl) rfl
theorem dX6_tryPair_157 : decode cX6_tryPair 157 = .ok (.iload 7, 2) := z_o21 (z_wat (q := 128) (j := 29) zwX6_tryPair_128 rfl) (z_wat (q := 128) (j := 30) zwX6_tryPair_128 rfl)
theorem dX6_tryPair_159 : decode cX6_tryPair 159 = .ok (.ifCond .le 21, 3) := z_o158 (z_wat (q := 128) (j := 31) zwX6_tryPair_128 rfl) (z_wat (q := 128) (j := 32) zwX6_tryPair_128 rfl) (z_wat (q := 128) (j := 33) zwX6_tryPair_128 rfl) rfl
theorem zwX6_tryPair_160 : ((cX6_tryPair.data.toList.drop 160).take 34).map UInt8.toNat = [0, 21, 21, 6, 158, 0, 16, 21, 6, 21, 7, 108, 21, 4, 184, 0, 42, 167, 0, 4, 3, 54, 8, 42, 21, 8, 182, 0, 47, 54, 9, 21, 8, 21] := by decide +kernel
theorem dX6_tryPair_162 : decode cX6_tryPair 162 = .ok (.iload 6, 2) := z_o21 (z_wat (q := 160) (j := 2) zwX6_tryPair_160 rfl) (z_wat (q := 160) (j := 3) zwX6_tryPair_160 rfl)
theorem dX6_tryPair_164 : decode cX6_tryPair 164 = .ok (.ifCond .le 16, 3) := z_o158 (z_wat (q := 160) (j := 4) zwX6_tryPair_160 rfl) (z_wat (q := 160) (j := 5) zwX6_tryPair_160 rfl) (z_wat (q := 160) (j := 6) zwX6_tryPair_160 rfl) rfl
theorem dX6_tryPair_167 : decode cX6_tryPair 167 = .ok (.iload 6, 2) := z_o21 (z_wat (q := 160) (j := 7) zwX6_tryPair_160 rfl) (z_wat (q := 160) (j := 8) zwX6_tryPair_160 rfl)
theorem dX6_tryPair_169 : decode cX6_tryPair 169 = .ok (.iload 7, 2) := z_o21 (z_wat (q := 160) (j := 9) zwX6_tryPair_160 rfl) (z_wat (q := 160) (j := 10) zwX6_tryPair_160 rfl)
theorem dX6_tryPair_171 : decode cX6_tryPair 171 = .ok (.idiv, 1) := z_o108 (z_wat (q := 160) (j := 11) zwX6_tryPair_160 rfl)
theorem dX6_tryPair_172 : decode cX6_tryPair 172 = .ok (.iload 4, 2) := z_o21 (z_wat (q := 160) (j := 12) zwX6_tryPair_160 rfl) (z_wat (q := 160) (j := 13) zwX6_tryPair_160 rfl)
theorem dX6_tryPair_174 : decode cX6_tryPair 174 = .ok (.invokestatic 42, 3) := z_o184 (z_wat (q := 160) (j := 14) zwX6_tryPair_160 rfl) (z_wat (q := 160) (j := 15) zwX6_tryPair_160 rfl) (z_wat (q := 160) (j := 16) zwX6_tryPair_160 rfl) rfl
theorem dX6_tryPair_177 : decode cX6_tryPair 177 = .ok (.goto 4, 3) := z_o167 (z_wat (q := 160) (j := 17) zwX6_tryPair_160 rfl) (z_wat (q := 160) (j := 18) zwX6_tryPair_160 rfl) (z_wat (q := 160) (j := 19) zwX6_tryPair_160 rfl) rfl
theorem dX6_tryPair_180 : decode cX6_tryPair 180 = .ok (.iconst 0, 1) := z_o3 (z_wat (q := 160) (j := 20) zwX6_tryPair_160 rfl)
theorem dX6_tryPair_181 : decode cX6_tryPair 181 = .ok (.istore 8, 2) := z_o54 (z_wat (q := 160) (j := 21) zwX6_tryPair_160 rfl) (z_wat (q := 160) (j := 22) zwX6_tryPair_160 rfl)
theorem dX6_tryPair_183 : decode cX6_tryPair 183 = .ok (.aload_n 0, 1) := z_o42 (z_wat (q := 160) (j := 23) zwX6_tryPair_160 rfl)
theorem dX6_tryPair_184 : decode cX6_tryPair 184 = .ok (.iload 8, 2) := z_o21 (z_wat (q := 160) (j := 24) zwX6_tryPair_160 rfl) (z_wat (q := 160) (j := 25) zwX6_tryPair_160 rfl)
theorem dX6_tryPair_186 : decode cX6_tryPair 186 = .ok (.invokevirtual 47, 3) := z_o182 (z_wat (q := 160) (j := 26) zwX6_tryPair_160 rfl) (z_wat (q := 160) (j := 27) zwX6_tryPair_160 rfl) (z_wat (q := 160) (j := 28) zwX6_tryPair_160 rfl) rfl
theorem dX6_tryPair_189 : decode cX6_tryPair 189 = .ok (.istore 9, 2) := z_o54 (z_wat (q := 160) (j := 29) zwX6_tryPair_160 rfl) (z_wat (q := 160) (j := 30) zwX6_tryPair_160 rfl)
theorem dX6_tryPair_191 : decode cX6_tryPair 191 = .ok (.iload 8, 2) := z_o21 (z_wat (q := 160) (j := 31) zwX6_tryPair_160 rfl) (z_wat (q := 160) (j := 32) zwX6_tryPair_160 rfl)
theorem zwX6_tryPair_192 : ((cX6_tryPair.data.toList.drop 192).take 34).map UInt8.toNat = [8, 21, 4, 162, 0, 27, 42, 21, 8, 4, 96, 182, 0, 47, 21, 9, 162, 0, 14, 132, 8, 1, 42, 21, 8, 182, 0, 47, 54, 9, 42, 180, 0, 30] := by decide +kernel
theorem dX6_tryPair_193 : decode cX6_tryPair 193 = .ok (.iload 4, 2) := z_o21 (z_wat (q := 192) (j := 1) zwX6_tryPair_192 rfl) (z_wat (q := 192) (j := 2) zwX6_tryPair_192 rfl)
theorem dX6_tryPair_195 : decode cX6_tryPair 195 = .ok (.if_icmp .ge 27, 3) := z_o162 (z_wat (q := 192) (j := 3) zwX6_tryPair_192 rfl) (z_wat (q := 192) (j := 4) zwX6_tryPair_192 rfl) (z_wat (q := 192) (j := 5) zwX6_tryPair_192 rfl) rfl
theorem dX6_tryPair_198 : decode cX6_tryPair 198 = .ok (.aload_n 0, 1) := z_o42 (z_wat (q := 192) (j := 6) zwX6_tryPair_192 rfl)
theorem dX6_tryPair_199 : decode cX6_tryPair 199 = .ok (.iload 8, 2) := z_o21 (z_wat (q := 192) (j := 7) zwX6_tryPair_192 rfl) (z_wat (q := 192) (j := 8) zwX6_tryPair_192 rfl)
theorem dX6_tryPair_201 : decode cX6_tryPair 201 = .ok (.iconst 1, 1) := z_o4 (z_wat (q := 192) (j := 9) zwX6_tryPair_192 rfl)
theorem dX6_tryPair_202 : decode cX6_tryPair 202 = .ok (.iadd, 1) := z_o96 (z_wat (q := 192) (j := 10) zwX6_tryPair_192 rfl)
theorem dX6_tryPair_203 : decode cX6_tryPair 203 = .ok (.invokevirtual 47, 3) := z_o182 (z_wat (q := 192) (j := 11) zwX6_tryPair_192 rfl) (z_wat (q := 192) (j := 12) zwX6_tryPair_192 rfl) (z_wat (q := 192) (j := 13) zwX6_tryPair_192 rfl) rfl
theorem dX6_tryPair_206 : decode cX6_tryPair 206 = .ok (.iload 9, 2) := z_o21 (z_wat (q := 192) (j := 14) zwX6_tryPair_192 rfl) (z_wat (q := 192) (j := 15) zwX6_tryPair_192 rfl)
theorem dX6_tryPair_208 : decode cX6_tryPair 208 = .ok (.if_icmp .ge 14, 3) := z_o162 (z_wat (q := 192) (j := 16) zwX6_tryPair_192 rfl) (z_wat (q := 192) (j := 17) zwX6_tryPair_192 rfl) (z_wat (q := 192) (j := 18) zwX6_tryPair_192 rfl) rfl
theorem dX6_tryPair_211 : decode cX6_tryPair 211 = .ok (.iinc 8 1, 3) := z_o132 (z_wat (q := 192) (j := 19) zwX6_tryPair_192 rfl) (z_wat (q := 192) (j := 20) zwX6_tryPair_192 rfl) (z_wat (q := 192) (j := 21) zwX6_tryPair_192 rfl) rfl
theorem dX6_tryPair_214 : decode cX6_tryPair 214 = .ok (.aload_n 0, 1) := z_o42 (z_wat (q := 192) (j := 22) zwX6_tryPair_192 rfl)
theorem dX6_tryPair_215 : decode cX6_tryPair 215 = .ok (.iload 8, 2) := z_o21 (z_wat (q := 192) (j := 23) zwX6_tryPair_192 rfl) (z_wat (q := 192) (j := 24) zwX6_tryPair_192 rfl)
theorem dX6_tryPair_217 : decode cX6_tryPair 217 = .ok (.invokevirtual 47, 3) := z_o182 (z_wat (q := 192) (j := 25) zwX6_tryPair_192 rfl) (z_wat (q := 192) (j := 26) zwX6_tryPair_192 rfl) (z_wat (q := 192) (j := 27) zwX6_tryPair_192 rfl) rfl
theorem dX6_tryPair_220 : decode cX6_tryPair 220 = .ok (.istore 9, 2) := z_o54 (z_wat (q := 192) (j := 28) zwX6_tryPair_192 rfl) (z_wat (q := 192) (j := 29) zwX6_tryPair_192 rfl)
theorem dX6_tryPair_222 : decode cX6_tryPair 222 = .ok (.aload_n 0, 1) := z_o42 (z_wat (q := 192) (j := 30) zwX6_tryPair_192 rfl)
theorem dX6_tryPair_223 : decode cX6_tryPair 223 = .ok (.getfield 30, 3) := z_o180 (z_wat (q := 192) (j := 31) zwX6_tryPair_192 rfl) (z_wat (q := 192) (j := 32) zwX6_tryPair_192 rfl) (z_wat (q := 192) (j := 33) zwX6_tryPair_192 rfl) rfl
theorem zwX6_tryPair_224 : ((cX6_tryPair.data.toList.drop 224).take 34).map UInt8.toNat = [0, 30, 2, 159, 0, 12, 21, 9, 42, 180, 0, 30, 162, 0, 42, 42, 21, 9, 181, 0, 30, 42, 180, 0, 27, 3, 28, 79, 42, 180, 0, 27, 4, 29] := by decide +kernel
theorem dX6_tryPair_226 : decode cX6_tryPair 226 = .ok (.iconst (-1), 1) := z_o2 (z_wat (q := 224) (j := 2) zwX6_tryPair_224 rfl)
theorem dX6_tryPair_227 : decode cX6_tryPair 227 = .ok (.if_icmp .eq 12, 3) := z_o159 (z_wat (q := 224) (j := 3) zwX6_tryPair_224 rfl) (z_wat (q := 224) (j := 4) zwX6_tryPair_224 rfl) (z_wat (q := 224) (j := 5) zwX6_tryPair_224 rfl) rfl
theorem dX6_tryPair_230 : decode cX6_tryPair 230 = .ok (.iload 9, 2) := z_o21 (z_wat (q := 224) (j := 6) zwX6_tryPair_224 rfl) (z_wat (q := 224) (j := 7) zwX6_tryPair_224 rfl)
theorem dX6_tryPair_232 : decode cX6_tryPair 232 = .ok (.aload_n 0, 1) := z_o42 (z_wat (q := 224) (j := 8) zwX6_tryPair_224 rfl)
theorem dX6_tryPair_233 : decode cX6_tryPair 233 = .ok (.getfield 30, 3) := z_o180 (z_wat (q := 224) (j := 9) zwX6_tryPair_224 rfl) (z_wat (q := 224) (j := 10) zwX6_tryPair_224 rfl) (z_wat (q := 224) (j := 11) zwX6_tryPair_224 rfl) rfl
theorem dX6_tryPair_236 : decode cX6_tryPair 236 = .ok (.if_icmp .ge 42, 3) := z_o162 (z_wat (q := 224) (j := 12) zwX6_tryPair_224 rfl) (z_wat (q := 224) (j := 13) zwX6_tryPair_224 rfl) (z_wat (q := 224) (j := 14) zwX6_tryPair_224 rfl) rfl
theorem dX6_tryPair_239 : decode cX6_tryPair 239 = .ok (.aload_n 0, 1) := z_o42 (z_wat (q := 224) (j := 15) zwX6_tryPair_224 rfl)
theorem dX6_tryPair_240 : decode cX6_tryPair 240 = .ok (.iload 9, 2) := z_o21 (z_wat (q := 224) (j := 16) zwX6_tryPair_224 rfl) (z_wat (q := 224) (j := 17) zwX6_tryPair_224 rfl)
theorem dX6_tryPair_242 : decode cX6_tryPair 242 = .ok (.putfield 30, 3) := z_o181 (z_wat (q := 224) (j := 18) zwX6_tryPair_224 rfl) (z_wat (q := 224) (j := 19) zwX6_tryPair_224 rfl) (z_wat (q := 224) (j := 20) zwX6_tryPair_224 rfl) rfl
theorem dX6_tryPair_245 : decode cX6_tryPair 245 = .ok (.aload_n 0, 1) := z_o42 (z_wat (q := 224) (j := 21) zwX6_tryPair_224 rfl)
theorem dX6_tryPair_246 : decode cX6_tryPair 246 = .ok (.getfield 27, 3) := z_o180 (z_wat (q := 224) (j := 22) zwX6_tryPair_224 rfl) (z_wat (q := 224) (j := 23) zwX6_tryPair_224 rfl) (z_wat (q := 224) (j := 24) zwX6_tryPair_224 rfl) rfl
theorem dX6_tryPair_249 : decode cX6_tryPair 249 = .ok (.iconst 0, 1) := z_o3 (z_wat (q := 224) (j := 25) zwX6_tryPair_224 rfl)
theorem dX6_tryPair_250 : decode cX6_tryPair 250 = .ok (.iload_n 2, 1) := z_o28 (z_wat (q := 224) (j := 26) zwX6_tryPair_224 rfl)
theorem dX6_tryPair_251 : decode cX6_tryPair 251 = .ok (.iastore, 1) := z_o79 (z_wat (q := 224) (j := 27) zwX6_tryPair_224 rfl)
theorem dX6_tryPair_252 : decode cX6_tryPair 252 = .ok (.aload_n 0, 1) := z_o42 (z_wat (q := 224) (j := 28) zwX6_tryPair_224 rfl)
theorem dX6_tryPair_253 : decode cX6_tryPair 253 = .ok (.getfield 27, 3) := z_o180 (z_wat (q := 224) (j := 29) zwX6_tryPair_224 rfl) (z_wat (q := 224) (j := 30) zwX6_tryPair_224 rfl) (z_wat (q := 224) (j := 31) zwX6_tryPair_224 rfl) rfl
theorem zwX6_tryPair_256 : ((cX6_tryPair.data.toList.drop 256).take 23).map UInt8.toNat = [4, 29, 79, 42, 180, 0, 27, 5, 21, 8, 79, 42, 180, 0, 27, 6, 21, 4, 21, 8, 100, 79, 177] := by decide +kernel
theorem dX6_tryPair_256 : decode cX6_tryPair 256 = .ok (.iconst 1, 1) := z_o4 (z_wat (q := 256) (j := 0) zwX6_tryPair_256 rfl)
theorem dX6_tryPair_257 : decode cX6_tryPair 257 = .ok (.iload_n 3, 1) := z_o29 (z_wat (q := 256) (j := 1) zwX6_tryPair_256 rfl)
theorem dX6_tryPair_258 : decode cX6_tryPair 258 = .ok (.iastore, 1) := z_o79 (z_wat (q := 256) (j := 2) zwX6_tryPair_256 rfl)
theorem dX6_tryPair_259 : decode cX6_tryPair 259 = .ok (.aload_n 0, 1) := z_o42 (z_wat (q := 256) (j := 3) zwX6_tryPair_256 rfl)
theorem dX6_tryPair_260 : decode cX6_tryPair 260 = .ok (.getfield 27, 3) := z_o180 (z_wat (q := 256) (j := 4) zwX6_tryPair_256 rfl) (z_wat (q := 256) (j := 5) zwX6_tryPair_256 rfl) (z_wat (q := 256) (j := 6) zwX6_tryPair_256 rfl) rfl
theorem dX6_tryPair_263 : decode cX6_tryPair 263 = .ok (.iconst 2, 1) := z_o5 (z_wat (q := 256) (j := 7) zwX6_tryPair_256 rfl)
theorem dX6_tryPair_264 : decode cX6_tryPair 264 = .ok (.iload 8, 2) := z_o21 (z_wat (q := 256) (j := 8) zwX6_tryPair_256 rfl) (z_wat (q := 256) (j := 9) zwX6_tryPair_256 rfl)
theorem dX6_tryPair_266 : decode cX6_tryPair 266 = .ok (.iastore, 1) := z_o79 (z_wat (q := 256) (j := 10) zwX6_tryPair_256 rfl)
theorem dX6_tryPair_267 : decode cX6_tryPair 267 = .ok (.aload_n 0, 1) := z_o42 (z_wat (q := 256) (j := 11) zwX6_tryPair_256 rfl)
theorem dX6_tryPair_268 : decode cX6_tryPair 268 = .ok (.getfield 27, 3) := z_o180 (z_wat (q := 256) (j := 12) zwX6_tryPair_256 rfl) (z_wat (q := 256) (j := 13) zwX6_tryPair_256 rfl) (z_wat (q := 256) (j := 14) zwX6_tryPair_256 rfl) rfl
theorem dX6_tryPair_271 : decode cX6_tryPair 271 = .ok (.iconst 3, 1) := z_o6 (z_wat (q := 256) (j := 15) zwX6_tryPair_256 rfl)
theorem dX6_tryPair_272 : decode cX6_tryPair 272 = .ok (.iload 4, 2) := z_o21 (z_wat (q := 256) (j := 16) zwX6_tryPair_256 rfl) (z_wat (q := 256) (j := 17) zwX6_tryPair_256 rfl)
theorem dX6_tryPair_274 : decode cX6_tryPair 274 = .ok (.iload 8, 2) := z_o21 (z_wat (q := 256) (j := 18) zwX6_tryPair_256 rfl) (z_wat (q := 256) (j := 19) zwX6_tryPair_256 rfl)
theorem dX6_tryPair_276 : decode cX6_tryPair 276 = .ok (.isub, 1) := z_o100 (z_wat (q := 256) (j := 20) zwX6_tryPair_256 rfl)
theorem dX6_tryPair_277 : decode cX6_tryPair 277 = .ok (.iastore, 1) := z_o79 (z_wat (q := 256) (j := 21) zwX6_tryPair_256 rfl)
theorem dX6_tryPair_278 : decode cX6_tryPair 278 = .ok (.return_, 1) := z_o177 (z_wat (q := 256) (j := 22) zwX6_tryPair_256 rfl)
theorem zwX7_add_0 : ((cX7_add.data.toList.drop 0).take 34).map UInt8.toNat = [42, 180, 0, 19, 16, 96, 162, 0, 33, 42, 180, 0, 9, 42, 180, 0, 19, 27, 79, 42, 180, 0, 13, 42, 180, 0, 19, 28, 79, 42, 89, 180, 0, 19] := by decide +kernel
theorem dX7_add_0 : decode cX7_add 0 = .ok (.aload_n 0, 1) := z_o42 (z_wat (q := 0) (j := 0) zwX7_add_0 rfl)
theorem dX7_add_1 : decode cX7_add 1 = .ok (.getfield 19, 3) := z_o180 (z_wat (q := 0) (j := 1) zwX7_add_0 rfl) (z_wat (q := 0) (j := 2) zwX7_add_0 rfl) (z_wat (q := 0) (j := 3) zwX7_add_0 rfl) rfl
theorem dX7_add_4 : decode cX7_add 4 = .ok (.bipush 96, 2) := z_o16 (z_wat (q := 0) (j := 4) zwX7_add_0 rfl) (z_wat (q := 0) (j := 5) zwX7_add_0 rfl) rfl
theorem dX7_add_6 : decode cX7_add 6 = .ok (.if_icmp .ge 33, 3) := z_o162 (z_wat (q := 0) (j := 6) zwX7_add_0 rfl) (z_wat (q := 0) (j := 7) zwX7_add_0 rfl) (z_wat (q := 0) (j := 8) zwX7_add_0 rfl) rfl
theorem dX7_add_9 : decode cX7_add 9 = .ok (.aload_n 0, 1) := z_o42 (z_wat (q := 0) (j := 9) zwX7_add_0 rfl)
theorem dX7_add_10 : decode cX7_add 10 = .ok (.getfield 9, 3) := z_o180 (z_wat (q := 0) (j := 10) zwX7_add_0 rfl) (z_wat (q := 0) (j := 11) zwX7_add_0 rfl) (z_wat (q := 0) (j := 12) zwX7_add_0 rfl) rfl
theorem dX7_add_13 : decode cX7_add 13 = .ok (.aload_n 0, 1) := z_o42 (z_wat (q := 0) (j := 13) zwX7_add_0 rfl)
theorem dX7_add_14 : decode cX7_add 14 = .ok (.getfield 19, 3) := z_o180 (z_wat (q := 0) (j := 14) zwX7_add_0 rfl) (z_wat (q := 0) (j := 15) zwX7_add_0 rfl) (z_wat (q := 0) (j := 16) zwX7_add_0 rfl) rfl
theorem dX7_add_17 : decode cX7_add 17 = .ok (.iload_n 1, 1) := z_o27 (z_wat (q := 0) (j := 17) zwX7_add_0 rfl)
theorem dX7_add_18 : decode cX7_add 18 = .ok (.iastore, 1) := z_o79 (z_wat (q := 0) (j := 18) zwX7_add_0 rfl)
theorem dX7_add_19 : decode cX7_add 19 = .ok (.aload_n 0, 1) := z_o42 (z_wat (q := 0) (j := 19) zwX7_add_0 rfl)
theorem dX7_add_20 : decode cX7_add 20 = .ok (.getfield 13, 3) := z_o180 (z_wat (q := 0) (j := 20) zwX7_add_0 rfl) (z_wat (q := 0) (j := 21) zwX7_add_0 rfl) (z_wat (q := 0) (j := 22) zwX7_add_0 rfl) rfl
theorem dX7_add_23 : decode cX7_add 23 = .ok (.aload_n 0, 1) := z_o42 (z_wat (q := 0) (j := 23) zwX7_add_0 rfl)
theorem dX7_add_24 : decode cX7_add 24 = .ok (.getfield 19, 3) := z_o180 (z_wat (q := 0) (j := 24) zwX7_add_0 rfl) (z_wat (q := 0) (j := 25) zwX7_add_0 rfl) (z_wat (q := 0) (j := 26) zwX7_add_0 rfl) rfl
theorem dX7_add_27 : decode cX7_add 27 = .ok (.iload_n 2, 1) := z_o28 (z_wat (q := 0) (j := 27) zwX7_add_0 rfl)
theorem dX7_add_28 : decode cX7_add 28 = .ok (.iastore, 1) := z_o79 (z_wat (q := 0) (j := 28) zwX7_add_0 rfl)
theorem dX7_add_29 : decode cX7_add 29 = .ok (.aload_n 0, 1) := z_o42 (z_wat (q := 0) (j := 29) zwX7_add_0 rfl)
theorem dX7_add_30 : decode cX7_add 30 = .ok (.dup, 1) := z_o89 (z_wat (q := 0) (j := 30) zwX7_add_0 rfl)
theorem dX7_add_31 : decode cX7_add 31 = .ok (.getfield 19, 3) := z_o180 (z_wat (q := 0) (j := 31) zwX7_add_0 rfl) (z_wat (q := 0) (j := 32) zwX7_add_0 rfl) (z_wat (q := 0) (j := 33) zwX7_add_0 rfl) rfl
theorem zwX7_add_32 : ((cX7_add.data.toList.drop 32).take 8).map UInt8.toNat = [0, 19, 4, 96, 181, 0, 19, 177] := by decide +kernel
theorem dX7_add_34 : decode cX7_add 34 = .ok (.iconst 1, 1) := z_o4 (z_wat (q := 32) (j := 2) zwX7_add_32 rfl)
theorem dX7_add_35 : decode cX7_add 35 = .ok (.iadd, 1) := z_o96 (z_wat (q := 32) (j := 3) zwX7_add_32 rfl)
theorem dX7_add_36 : decode cX7_add 36 = .ok (.putfield 19, 3) := z_o181 (z_wat (q := 32) (j := 4) zwX7_add_32 rfl) (z_wat (q := 32) (j := 5) zwX7_add_32 rfl) (z_wat (q := 32) (j := 6) zwX7_add_32 rfl) rfl
theorem dX7_add_39 : decode cX7_add 39 = .ok (.return_, 1) := z_o177 (z_wat (q := 32) (j := 7) zwX7_add_32 rfl)
theorem zwX7_clear_0 : ((cX7_clear.data.toList.drop 0).take 16).map UInt8.toNat = [42, 3, 181, 0, 19, 42, 3, 181, 0, 23, 42, 3, 181, 0, 26, 177] := by decide +kernel
theorem dX7_clear_0 : decode cX7_clear 0 = .ok (.aload_n 0, 1) := z_o42 (z_wat (q := 0) (j := 0) zwX7_clear_0 rfl)
theorem dX7_clear_1 : decode cX7_clear 1 = .ok (.iconst 0, 1) := z_o3 (z_wat (q := 0) (j := 1) zwX7_clear_0 rfl)
theorem dX7_clear_2 : decode cX7_clear 2 = .ok (.putfield 19, 3) := z_o181 (z_wat (q := 0) (j := 2) zwX7_clear_0 rfl) (z_wat (q := 0) (j := 3) zwX7_clear_0 rfl) (z_wat (q := 0) (j := 4) zwX7_clear_0 rfl) rfl
theorem dX7_clear_5 : decode cX7_clear 5 = .ok (.aload_n 0, 1) := z_o42 (z_wat (q := 0) (j := 5) zwX7_clear_0 rfl)
theorem dX7_clear_6 : decode cX7_clear 6 = .ok (.iconst 0, 1) := z_o3 (z_wat (q := 0) (j := 6) zwX7_clear_0 rfl)
theorem dX7_clear_7 : decode cX7_clear 7 = .ok (.putfield 23, 3) := z_o181 (z_wat (q := 0) (j := 7) zwX7_clear_0 rfl) (z_wat (q := 0) (j := 8) zwX7_clear_0 rfl) (z_wat (q := 0) (j := 9) zwX7_clear_0 rfl) rfl
theorem dX7_clear_10 : decode cX7_clear 10 = .ok (.aload_n 0, 1) := z_o42 (z_wat (q := 0) (j := 10) zwX7_clear_0 rfl)
theorem dX7_clear_11 : decode cX7_clear 11 = .ok (.iconst 0, 1) := z_o3 (z_wat (q := 0) (j := 11) zwX7_clear_0 rfl)
theorem dX7_clear_12 : decode cX7_clear 12 = .ok (.putfield 26, 3) := z_o181 (z_wat (q := 0) (j := 12) zwX7_clear_0 rfl) (z_wat (q := 0) (j := 13) zwX7_clear_0 rfl) (z_wat (q := 0) (j := 14) zwX7_clear_0 rfl) rfl
theorem dX7_clear_15 : decode cX7_clear 15 = .ok (.return_, 1) := z_o177 (z_wat (q := 0) (j := 15) zwX7_clear_0 rfl)
theorem zwX7_endCause_0 : ((cX7_endCause.data.toList.drop 0).take 33).map UInt8.toNat = [42, 180, 0, 23, 16, 6, 162, 0, 26, 42, 89, 180, 0, 23, 4, 96, 181, 0, 23, 42, 180, 0, 16, 42, 180, 0, 23, 42, 180, 0, 19, 79, 177] := by decide +kernel
theorem dX7_endCause_0 : decode cX7_endCause 0 = .ok (.aload_n 0, 1) := z_o42 (z_wat (q := 0) (j := 0) zwX7_endCause_0 rfl)
theorem dX7_endCause_1 : decode cX7_endCause 1 = .ok (.getfield 23, 3) := z_o180 (z_wat (q := 0) (j := 1) zwX7_endCause_0 rfl) (z_wat (q := 0) (j := 2) zwX7_endCause_0 rfl) (z_wat (q := 0) (j := 3) zwX7_endCause_0 rfl) rfl
theorem dX7_endCause_4 : decode cX7_endCause 4 = .ok (.bipush 6, 2) := z_o16 (z_wat (q := 0) (j := 4) zwX7_endCause_0 rfl) (z_wat (q := 0) (j := 5) zwX7_endCause_0 rfl) rfl
theorem dX7_endCause_6 : decode cX7_endCause 6 = .ok (.if_icmp .ge 26, 3) := z_o162 (z_wat (q := 0) (j := 6) zwX7_endCause_0 rfl) (z_wat (q := 0) (j := 7) zwX7_endCause_0 rfl) (z_wat (q := 0) (j := 8) zwX7_endCause_0 rfl) rfl
theorem dX7_endCause_9 : decode cX7_endCause 9 = .ok (.aload_n 0, 1) := z_o42 (z_wat (q := 0) (j := 9) zwX7_endCause_0 rfl)
theorem dX7_endCause_10 : decode cX7_endCause 10 = .ok (.dup, 1) := z_o89 (z_wat (q := 0) (j := 10) zwX7_endCause_0 rfl)
theorem dX7_endCause_11 : decode cX7_endCause 11 = .ok (.getfield 23, 3) := z_o180 (z_wat (q := 0) (j := 11) zwX7_endCause_0 rfl) (z_wat (q := 0) (j := 12) zwX7_endCause_0 rfl) (z_wat (q := 0) (j := 13) zwX7_endCause_0 rfl) rfl
theorem dX7_endCause_14 : decode cX7_endCause 14 = .ok (.iconst 1, 1) := z_o4 (z_wat (q := 0) (j := 14) zwX7_endCause_0 rfl)
theorem dX7_endCause_15 : decode cX7_endCause 15 = .ok (.iadd, 1) := z_o96 (z_wat (q := 0) (j := 15) zwX7_endCause_0 rfl)
theorem dX7_endCause_16 : decode cX7_endCause 16 = .ok (.putfield 23, 3) := z_o181 (z_wat (q := 0) (j := 16) zwX7_endCause_0 rfl) (z_wat (q := 0) (j := 17) zwX7_endCause_0 rfl) (z_wat (q := 0) (j := 18) zwX7_endCause_0 rfl) rfl
theorem dX7_endCause_19 : decode cX7_endCause 19 = .ok (.aload_n 0, 1) := z_o42 (z_wat (q := 0) (j := 19) zwX7_endCause_0 rfl)
theorem dX7_endCause_20 : decode cX7_endCause 20 = .ok (.getfield 16, 3) := z_o180 (z_wat (q := 0) (j := 20) zwX7_endCause_0 rfl) (z_wat (q := 0) (j := 21) zwX7_endCause_0 rfl) (z_wat (q := 0) (j := 22) zwX7_endCause_0 rfl) rfl
theorem dX7_endCause_23 : decode cX7_endCause 23 = .ok (.aload_n 0, 1) := z_o42 (z_wat (q := 0) (j := 23) zwX7_endCause_0 rfl)
theorem dX7_endCause_24 : decode cX7_endCause 24 = .ok (.getfield 23, 3) := z_o180 (z_wat (q := 0) (j := 24) zwX7_endCause_0 rfl) (z_wat (q := 0) (j := 25) zwX7_endCause_0 rfl) (z_wat (q := 0) (j := 26) zwX7_endCause_0 rfl) rfl
theorem dX7_endCause_27 : decode cX7_endCause 27 = .ok (.aload_n 0, 1) := z_o42 (z_wat (q := 0) (j := 27) zwX7_endCause_0 rfl)
theorem dX7_endCause_28 : decode cX7_endCause 28 = .ok (.getfield 19, 3) := z_o180 (z_wat (q := 0) (j := 28) zwX7_endCause_0 rfl) (z_wat (q := 0) (j := 29) zwX7_endCause_0 rfl) (z_wat (q := 0) (j := 30) zwX7_endCause_0 rfl) rfl
theorem dX7_endCause_31 : decode cX7_endCause 31 = .ok (.iastore, 1) := z_o79 (z_wat (q := 0) (j := 31) zwX7_endCause_0 rfl)
theorem zwX7_endCause_32 : ((cX7_endCause.data.toList.drop 32).take 1).map UInt8.toNat = [177] := by decide +kernel
theorem dX7_endCause_32 : decode cX7_endCause 32 = .ok (.return_, 1) := z_o177 (z_wat (q := 32) (j := 0) zwX7_endCause_32 rfl)
