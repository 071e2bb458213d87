theorem zwX4_ahead_0 : ((cX4_ahead.data.toList.drop 0).take 34).map UInt8.toNat = [2, 61, 3, 62, 29, 42, 180, 0, 15, 162, 0, 48, 42, 180, 0, 38, 4, 159, 0, 40, 42, 27, 29, 182, 0, 95, 153, 0, 25, 28, 2, 159, 0, 18] := by decide +kernel
theorem dX4_ahead_0 : decode cX4_ahead 0 = .ok (.iconst (-1), 1) := z_o2 (z_wat (q := 0) (j := 0) zwX4_ahead_0 rfl)
theorem dX4_ahead_1 : decode cX4_ahead 1 = .ok (.istore_n 2, 1) := z_o61 (z_wat (q := 0) (j := 1) zwX4_ahead_0 rfl)
theorem dX4_ahead_2 : decode cX4_ahead 2 = .ok (.iconst 0, 1) := z_o3 (z_wat (q := 0) (j := 2) zwX4_ahead_0 rfl)
theorem dX4_ahead_3 : decode cX4_ahead 3 = .ok (.istore_n 3, 1) := z_o62 (z_wat (q := 0) (j := 3) zwX4_ahead_0 rfl)
theorem dX4_ahead_4 : decode cX4_ahead 4 = .ok (.iload_n 3, 1) := z_o29 (z_wat (q := 0) (j := 4) zwX4_ahead_0 rfl)
theorem dX4_ahead_5 : decode cX4_ahead 5 = .ok (.aload_n 0, 1) := z_o42 (z_wat (q := 0) (j := 5) zwX4_ahead_0 rfl)
theorem dX4_ahead_6 : decode cX4_ahead 6 = .ok (.getfield 15, 3) := z_o180 (z_wat (q := 0) (j := 6) zwX4_ahead_0 rfl) (z_wat (q := 0) (j := 7) zwX4_ahead_0 rfl) (z_wat (q := 0) (j := 8) zwX4_ahead_0 rfl) rfl
theorem dX4_ahead_9 : decode cX4_ahead 9 = .ok (.if_icmp .ge 48, 3) := z_o162 (z_wat (q := 0) (j := 9) zwX4_ahead_0 rfl) (z_wat (q := 0) (j := 10) zwX4_ahead_0 rfl) (z_wat (q := 0) (j := 11) zwX4_ahead_0 rfl) rfl
theorem dX4_ahead_12 : decode cX4_ahead 12 = .ok (.aload_n 0, 1) := z_o42 (z_wat (q := 0) (j := 12) zwX4_ahead_0 rfl)
theorem dX4_ahead_13 : decode cX4_ahead 13 = .ok (.getfield 38, 3) := z_o180 (z_wat (q := 0) (j := 13) zwX4_ahead_0 rfl) (z_wat (q := 0) (j := 14) zwX4_ahead_0 rfl) (z_wat (q := 0) (j := 15) zwX4_ahead_0 rfl) rfl
theorem dX4_ahead_16 : decode cX4_ahead 16 = .ok (.iconst 1, 1) := z_o4 (z_wat (q := 0) (j := 16) zwX4_ahead_0 rfl)
theorem dX4_ahead_17 : decode cX4_ahead 17 = .ok (.if_icmp .eq 40, 3) := z_o159 (z_wat (q := 0) (j := 17) zwX4_ahead_0 rfl) (z_wat (q := 0) (j := 18) zwX4_ahead_0 rfl) (z_wat (q := 0) (j := 19) zwX4_ahead_0 rfl) rfl
theorem dX4_ahead_20 : decode cX4_ahead 20 = .ok (.aload_n 0, 1) := z_o42 (z_wat (q := 0) (j := 20) zwX4_ahead_0 rfl)
theorem dX4_ahead_21 : decode cX4_ahead 21 = .ok (.iload_n 1, 1) := z_o27 (z_wat (q := 0) (j := 21) zwX4_ahead_0 rfl)
theorem dX4_ahead_22 : decode cX4_ahead 22 = .ok (.iload_n 3, 1) := z_o29 (z_wat (q := 0) (j := 22) zwX4_ahead_0 rfl)
theorem dX4_ahead_23 : decode cX4_ahead 23 = .ok (.invokevirtual 95, 3) := z_o182 (z_wat (q := 0) (j := 23) zwX4_ahead_0 rfl) (z_wat (q := 0) (j := 24) zwX4_ahead_0 rfl) (z_wat (q := 0) (j := 25) zwX4_ahead_0 rfl) rfl
theorem dX4_ahead_26 : decode cX4_ahead 26 = .ok (.ifCond .eq 25, 3) := z_o153 (z_wat (q := 0) (j := 26) zwX4_ahead_0 rfl) (z_wat (q := 0) (j := 27) zwX4_ahead_0 rfl) (z_wat (q := 0) (j := 28) zwX4_ahead_0 rfl) rfl
theorem dX4_ahead_29 : decode cX4_ahead 29 = .ok (.iload_n 2, 1) := z_o28 (z_wat (q := 0) (j := 29) zwX4_ahead_0 rfl)
theorem dX4_ahead_30 : decode cX4_ahead 30 = .ok (.iconst (-1), 1) := z_o2 (z_wat (q := 0) (j := 30) zwX4_ahead_0 rfl)
theorem dX4_ahead_31 : decode cX4_ahead 31 = .ok (.if_icmp .eq 18, 3) := z_o159 (z_wat (q := 0) (j := 31) zwX4_ahead_0 rfl) (z_wat (q := 0) (j := 32) zwX4_ahead_0 rfl) (z_wat (q := 0) (j := 33) zwX4_ahead_0 rfl) rfl
theorem zwX4_ahead_32 : ((cX4_ahead.data.toList.drop 32).take 27).map UInt8.toNat = [0, 18, 42, 180, 0, 26, 29, 46, 42, 180, 0, 26, 28, 46, 164, 0, 5, 29, 61, 132, 3, 1, 167, 255, 206, 28, 172] := by decide +kernel
theorem dX4_ahead_34 : decode cX4_ahead 34 = .ok (.aload_n 0, 1) := z_o42 (z_wat (q := 32) (j := 2) zwX4_ahead_32 rfl)
theorem dX4_ahead_35 : decode cX4_ahead 35 = .ok (.getfield 26, 3) := z_o180 (z_wat (q := 32) (j := 3) zwX4_ahead_32 rfl) (z_wat (q := 32) (j := 4) zwX4_ahead_32 rfl) (z_wat (q := 32) (j := 5) zwX4_ahead_32 rfl) rfl
theorem dX4_ahead_38 : decode cX4_ahead 38 = .ok (.iload_n 3, 1) := z_o29 (z_wat (q := 32) (j := 6) zwX4_ahead_32 rfl)
theorem dX4_ahead_39 : decode cX4_ahead 39 = .ok (.iaload, 1) := z_o46 (z_wat (q := 32) (j := 7) zwX4_ahead_32 rfl)
theorem dX4_ahead_40 : decode cX4_ahead 40 = .ok (.aload_n 0, 1) := z_o42 (z_wat (q := 32) (j := 8) zwX4_ahead_32 rfl)
theorem dX4_ahead_41 : decode cX4_ahead 41 = .ok (.getfield 26, 3) := z_o180 (z_wat (q := 32) (j := 9) zwX4_ahead_32 rfl) (z_wat (q := 32) (j := 10) zwX4_ahead_32 rfl) (z_wat (q := 32) (j := 11) zwX4_ahead_32 rfl) rfl
theorem dX4_ahead_44 : decode cX4_ahead 44 = .ok (.iload_n 2, 1) := z_o28 (z_wat (q := 32) (j := 12) zwX4_ahead_32 rfl)
theorem dX4_ahead_45 : decode cX4_ahead 45 = .ok (.iaload, 1) := z_o46 (z_wat (q := 32) (j := 13) zwX4_ahead_32 rfl)
theorem dX4_ahead_46 : decode cX4_ahead 46 = .ok (.if_icmp .le 5, 3) := z_o164 (z_wat (q := 32) (j := 14) zwX4_ahead_32 rfl) (z_wat (q := 32) (j := 15) zwX4_ahead_32 rfl) (z_wat (q := 32) (j := 16) zwX4_ahead_32 rfl) rfl
theorem dX4_ahead_49 : decode cX4_ahead 49 = .ok (.iload_n 3, 1) := z_o29 (z_wat (q := 32) (j := 17) zwX4_ahead_32 rfl)
theorem dX4_ahead_50 : decode cX4_ahead 50 = .ok (.istore_n 2, 1) := z_o61 (z_wat (q := 32) (j := 18) zwX4_ahead_32 rfl)
theorem dX4_ahead_51 : decode cX4_ahead 51 = .ok (.iinc 3 1, 3) := z_o132 (z_wat (q := 32) (j := 19) zwX4_ahead_32 rfl) (z_wat (q := 32) (j := 20) zwX4_ahead_32 rfl) (z_wat (q := 32) (j := 21) zwX4_ahead_32 rfl) rfl
theorem dX4_ahead_54 : decode cX4_ahead 54 = .ok (.goto (-50), 3) := z_o167 (z_wat (q := 32) (j := 22) zwX4_ahead_32 rfl) (z_wat (q := 32) (j := 23) zwX4_ahead_32 rfl) (z_wat (q := 32) (j := 24) zwX4_ahead_32 rfl) rfl
theorem dX4_ahead_57 : decode cX4_ahead 57 = .ok (.iload_n 2, 1) := z_o28 (z_wat (q := 32) (j := 25) zwX4_ahead_32 rfl)
theorem dX4_ahead_58 : decode cX4_ahead 58 = .ok (.ireturn, 1) := z_o172 (z_wat (q := 32) (j := 26) zwX4_ahead_32 rfl)
theorem zwX4_bedsInAll_0 : ((cX4_bedsInAll.data.toList.drop 0).take 33).map UInt8.toNat = [3, 60, 3, 61, 28, 42, 180, 0, 15, 162, 0, 22, 42, 180, 0, 29, 28, 46, 28, 160, 0, 6, 132, 1, 1, 132, 2, 1, 167, 255, 232, 27, 172] := by decide +kernel
theorem dX4_bedsInAll_0 : decode cX4_bedsInAll 0 = .ok (.iconst 0, 1) := z_o3 (z_wat (q := 0) (j := 0) zwX4_bedsInAll_0 rfl)
theorem dX4_bedsInAll_1 : decode cX4_bedsInAll 1 = .ok (.istore_n 1, 1) := z_o60 (z_wat (q := 0) (j := 1) zwX4_bedsInAll_0 rfl)
theorem dX4_bedsInAll_2 : decode cX4_bedsInAll 2 = .ok (.iconst 0, 1) := z_o3 (z_wat (q := 0) (j := 2) zwX4_bedsInAll_0 rfl)
theorem dX4_bedsInAll_3 : decode cX4_bedsInAll 3 = .ok (.istore_n 2, 1) := z_o61 (z_wat (q := 0) (j := 3) zwX4_bedsInAll_0 rfl)
theorem dX4_bedsInAll_4 : decode cX4_bedsInAll 4 = .ok (.iload_n 2, 1) := z_o28 (z_wat (q := 0) (j := 4) zwX4_bedsInAll_0 rfl)
theorem dX4_bedsInAll_5 : decode cX4_bedsInAll 5 = .ok (.aload_n 0, 1) := z_o42 (z_wat (q := 0) (j := 5) zwX4_bedsInAll_0 rfl)
theorem dX4_bedsInAll_6 : decode cX4_bedsInAll 6 = .ok (.getfield 15, 3) := z_o180 (z_wat (q := 0) (j := 6) zwX4_bedsInAll_0 rfl) (z_wat (q := 0) (j := 7) zwX4_bedsInAll_0 rfl) (z_wat (q := 0) (j := 8) zwX4_bedsInAll_0 rfl) rfl
theorem dX4_bedsInAll_9 : decode cX4_bedsInAll 9 = .ok (.if_icmp .ge 22, 3) := z_o162 (z_wat (q := 0) (j := 9) zwX4_bedsInAll_0 rfl) (z_wat (q := 0) (j := 10) zwX4_bedsInAll_0 rfl) (z_wat (q := 0) (j := 11) zwX4_bedsInAll_0 rfl) rfl
theorem dX4_bedsInAll_12 : decode cX4_bedsInAll 12 = .ok (.aload_n 0, 1) := z_o42 (z_wat (q := 0) (j := 12) zwX4_bedsInAll_0 rfl)
theorem dX4_bedsInAll_13 : decode cX4_bedsInAll 13 = .ok (.getfield 29, 3) := z_o180 (z_wat (q := 0) (j := 13) zwX4_bedsInAll_0 rfl) (z_wat (q := 0) (j := 14) zwX4_bedsInAll_0 rfl) (z_wat (q := 0) (j := 15) zwX4_bedsInAll_0 rfl) rfl
theorem dX4_bedsInAll_16 : decode cX4_bedsInAll 16 = .ok (.iload_n 2, 1) := z_o28 (z_wat (q := 0) (j := 16) zwX4_bedsInAll_0 rfl)
theorem dX4_bedsInAll_17 : decode cX4_bedsInAll 17 = .ok (.iaload, 1) := z_o46 (z_wat (q := 0) (j := 17) zwX4_bedsInAll_0 rfl)
theorem dX4_bedsInAll_18 : decode cX4_bedsInAll 18 = .ok (.iload_n 2, 1) := z_o28 (z_wat (q := 0) (j := 18) zwX4_bedsInAll_0 rfl)
theorem dX4_bedsInAll_19 : decode cX4_bedsInAll 19 = .ok (.if_icmp .ne 6, 3) := z_o160 (z_wat (q := 0) (j := 19) zwX4_bedsInAll_0 rfl) (z_wat (q := 0) (j := 20) zwX4_bedsInAll_0 rfl) (z_wat (q := 0) (j := 21) zwX4_bedsInAll_0 rfl) rfl
theorem dX4_bedsInAll_22 : decode cX4_bedsInAll 22 = .ok (.iinc 1 1, 3) := z_o132 (z_wat (q := 0) (j := 22) zwX4_bedsInAll_0 rfl) (z_wat (q := 0) (j := 23) zwX4_bedsInAll_0 rfl) (z_wat (q := 0) (j := 24) zwX4_bedsInAll_0 rfl) rfl
theorem dX4_bedsInAll_25 : decode cX4_bedsInAll 25 = .ok (.iinc 2 1, 3) := z_o132 (z_wat (q := 0) (j := 25) zwX4_bedsInAll_0 rfl) (z_wat (q := 0) (j := 26) zwX4_bedsInAll_0 rfl) (z_wat (q := 0) (j := 27) zwX4_bedsInAll_0 rfl) rfl
theorem dX4_bedsInAll_28 : decode cX4_bedsInAll 28 = .ok (.goto (-24), 3) := z_o167 (z_wat (q := 0) (j := 28) zwX4_bedsInAll_0 rfl) (z_wat (q := 0) (j := 29) zwX4_bedsInAll_0 rfl) (z_wat (q := 0) (j := 30) zwX4_bedsInAll_0 rfl) rfl
theorem dX4_bedsInAll_31 : decode cX4_bedsInAll 31 = .ok (.iload_n 1, 1) := z_o27 (z_wat (q := 0) (j := 31) zwX4_bedsInAll_0 rfl)
theorem zwX4_bedsInAll_32 : ((cX4_bedsInAll.data.toList.drop 32).take 1).map UInt8.toNat = [172] := by decide +kernel
theorem dX4_bedsInAll_32 : decode cX4_bedsInAll 32 = .ok (.ireturn, 1) := z_o172 (z_wat (q := 32) (j := 0) zwX4_bedsInAll_32 rfl)
theorem zwX4_hasRing_0 : ((cX4_hasRing.data.toList.drop 0).take 29).map UInt8.toNat = [3, 60, 27, 42, 180, 0, 15, 162, 0, 20, 42, 27, 27, 182, 0, 95, 153, 0, 5, 4, 172, 132, 1, 1, 167, 255, 234, 3, 172] := by decide +kernel
theorem dX4_hasRing_0 : decode cX4_hasRing 0 = .ok (.iconst 0, 1) := z_o3 (z_wat (q := 0) (j := 0) zwX4_hasRing_0 rfl)
theorem dX4_hasRing_1 : decode cX4_hasRing 1 = .ok (.istore_n 1, 1) := z_o60 (z_wat (q := 0) (j := 1) zwX4_hasRing_0 rfl)
theorem dX4_hasRing_2 : decode cX4_hasRing 2 = .ok (.iload_n 1, 1) := z_o27 (z_wat (q := 0) (j := 2) zwX4_hasRing_0 rfl)
theorem dX4_hasRing_3 : decode cX4_hasRing 3 = .ok (.aload_n 0, 1) := z_o42 (z_wat (q := 0) (j := 3) zwX4_hasRing_0 rfl)
theorem dX4_hasRing_4 : decode cX4_hasRing 4 = .ok (.getfield 15, 3) := z_o180 (z_wat (q := 0) (j := 4) zwX4_hasRing_0 rfl) (z_wat (q := 0) (j := 5) zwX4_hasRing_0 rfl) (z_wat (q := 0) (j := 6) zwX4_hasRing_0 rfl) rfl
theorem dX4_hasRing_7 : decode cX4_hasRing 7 = .ok (.if_icmp .ge 20, 3) := z_o162 (z_wat (q := 0) (j := 7) zwX4_hasRing_0 rfl) (z_wat (q := 0) (j := 8) zwX4_hasRing_0 rfl) (z_wat (q := 0) (j := 9) zwX4_hasRing_0 rfl) rfl
theorem dX4_hasRing_10 : decode cX4_hasRing 10 = .ok (.aload_n 0, 1) := z_o42 (z_wat (q := 0) (j := 10) zwX4_hasRing_0 rfl)
theorem dX4_hasRing_11 : decode cX4_hasRing 11 = .ok (.iload_n 1, 1) := z_o27 (z_wat (q := 0) (j := 11) zwX4_hasRing_0 rfl)
theorem dX4_hasRing_12 : decode cX4_hasRing 12 = .ok (.iload_n 1, 1) := z_o27 (z_wat (q := 0) (j := 12) zwX4_hasRing_0 rfl)
theorem dX4_hasRing_13 : decode cX4_hasRing 13 = .ok (.invokevirtual 95, 3) := z_o182 (z_wat (q := 0) (j := 13) zwX4_hasRing_0 rfl) (z_wat (q := 0) (j := 14) zwX4_hasRing_0 rfl) (z_wat (q := 0) (j := 15) zwX4_hasRing_0 rfl) rfl
theorem dX4_hasRing_16 : decode cX4_hasRing 16 = .ok (.ifCond .eq 5, 3) := z_o153 (z_wat (q := 0) (j := 16) zwX4_hasRing_0 rfl) (z_wat (q := 0) (j := 17) zwX4_hasRing_0 rfl) (z_wat (q := 0) (j := 18) zwX4_hasRing_0 rfl) rfl
theorem dX4_hasRing_19 : decode cX4_hasRing 19 = .ok (.iconst 1, 1) := z_o4 (z_wat (q := 0) (j := 19) zwX4_hasRing_0 rfl)
theorem dX4_hasRing_20 : decode cX4_hasRing 20 = .ok (.ireturn, 1) := z_o172 (z_wat (q := 0) (j := 20) zwX4_hasRing_0 rfl)
theorem dX4_hasRing_21 : decode cX4_hasRing 21 = .ok (.iinc 1 1, 3) := z_o132 (z_wat (q := 0) (j := 21) zwX4_hasRing_0 rfl) (z_wat (q := 0) (j := 22) zwX4_hasRing_0 rfl) (z_wat (q := 0) (j := 23) zwX4_hasRing_0 rfl) rfl
theorem dX4_hasRing_24 : decode cX4_hasRing 24 = .ok (.goto (-22), 3) := z_o167 (z_wat (q := 0) (j := 24) zwX4_hasRing_0 rfl) (z_wat (q := 0) (j := 25) zwX4_hasRing_0 rfl) (z_wat (q := 0) (j := 26) zwX4_hasRing_0 rfl) rfl
theorem dX4_hasRing_27 : decode cX4_hasRing 27 = .ok (.iconst 0, 1) := z_o3 (z_wat (q := 0) (j := 27) zwX4_hasRing_0 rfl)
theorem dX4_hasRing_28 : decode cX4_hasRing 28 = .ok (.ireturn, 1) := z_o172 (z_wat (q := 0) (j := 28) zwX4_hasRing_0 rfl)
theorem zwX4_isLater_0 : ((cX4_isLater.data.toList.drop 0).take 19).map UInt8.toNat = [42, 180, 0, 22, 27, 46, 28, 122, 4, 126, 153, 0, 7, 4, 167, 0, 4, 3, 172] := by decide +kernel
theorem dX4_isLater_0 : decode cX4_isLater 0 = .ok (.aload_n 0, 1) := z_o42 (z_wat (q := 0) (j := 0) zwX4_isLater_0 rfl)
theorem dX4_isLater_1 : decode cX4_isLater 1 = .ok (.getfield 22, 3) := z_o180 (z_wat (q := 0) (j := 1) zwX4_isLater_0 rfl) (z_wat (q := 0) (j := 2) zwX4_isLater_0 rfl) (z_wat (q := 0) (j := 3) zwX4_isLater_0 rfl) rfl
theorem dX4_isLater_4 : decode cX4_isLater 4 = .ok (.iload_n 1, 1) := z_o27 (z_wat (q := 0) (j := 4) zwX4_isLater_0 rfl)
theorem dX4_isLater_5 : decode cX4_isLater 5 = .ok (.iaload, 1) := z_o46 (z_wat (q := 0) (j := 5) zwX4_isLater_0 rfl)
theorem dX4_isLater_6 : decode cX4_isLater 6 = .ok (.iload_n 2, 1) := z_o28 (z_wat (q := 0) (j := 6) zwX4_isLater_0 rfl)
theorem dX4_isLater_7 : decode cX4_isLater 7 = .ok (.ishr, 1) := z_o122 (z_wat (q := 0) (j := 7) zwX4_isLater_0 rfl)
theorem dX4_isLater_8 : decode cX4_isLater 8 = .ok (.iconst 1, 1) := z_o4 (z_wat (q := 0) (j := 8) zwX4_isLater_0 rfl)
theorem dX4_isLater_9 : decode cX4_isLater 9 = .ok (.iand, 1) := z_o126 (z_wat (q := 0) (j := 9) zwX4_isLater_0 rfl)
theorem dX4_isLater_10 : decode cX4_isLater 10 = .ok (.ifCond .eq 7, 3) := z_o153 (z_wat (q := 0) (j := 10) zwX4_isLater_0 rfl) (z_wat (q := 0) (j := 11) zwX4_isLater_0 rfl) (z_wat (q := 0) (j := 12) zwX4_isLater_0 rfl) rfl
theorem dX4_isLater_13 : decode cX4_isLater 13 = .ok (.iconst 1, 1) := z_o4 (z_wat (q := 0) (j := 13) zwX4_isLater_0 rfl)
theorem dX4_isLater_14 : decode cX4_isLater 14 = .ok (.goto 4, 3) := z_o167 (z_wat (q := 0) (j := 14) zwX4_isLater_0 rfl) (z_wat (q := 0) (j := 15) zwX4_isLater_0 rfl) (z_wat (q := 0) (j := 16) zwX4_isLater_0 rfl) rfl
theorem dX4_isLater_17 : decode cX4_isLater 17 = .ok (.iconst 0, 1) := z_o3 (z_wat (q := 0) (j := 17) zwX4_isLater_0 rfl)
theorem dX4_isLater_18 : decode cX4_isLater 18 = .ok (.ireturn, 1) := z_o172 (z_wat (q := 0) (j := 18) zwX4_isLater_0 rfl)
theorem zwX4_join_0 : ((cX4_join.data.toList.drop 0).take 34).map UInt8.toNat = [27, 28, 184, 0, 86, 62, 27, 28, 184, 0, 92, 54, 4, 3, 54, 5, 21, 5, 42, 180, 0, 15, 162, 0, 29, 42, 180, 0, 29, 21, 5, 46, 21, 4] := by decide +kernel
theorem dX4_join_0 : decode cX4_join 0 = .ok (.iload_n 1, 1) := z_o27 (z_wat (q := 0) (j := 0) zwX4_join_0 rfl)
theorem dX4_join_1 : decode cX4_join 1 = .ok (.iload_n 2, 1) := z_o28 (z_wat (q := 0) (j := 1) zwX4_join_0 rfl)
theorem dX4_join_2 : decode cX4_join 2 = .ok (.invokestatic 86, 3) := z_o184 (z_wat (q := 0) (j := 2) zwX4_join_0 rfl) (z_wat (q := 0) (j := 3) zwX4_join_0 rfl) (z_wat (q := 0) (j := 4) zwX4_join_0 rfl) rfl
theorem dX4_join_5 : decode cX4_join 5 = .ok (.istore_n 3, 1) := z_o62 (z_wat (q := 0) (j := 5) zwX4_join_0 rfl)
theorem dX4_join_6 : decode cX4_join 6 = .ok (.iload_n 1, 1) := z_o27 (z_wat (q := 0) (j := 6) zwX4_join_0 rfl)
theorem dX4_join_7 : decode cX4_join 7 = .ok (.iload_n 2, 1) := z_o28 (z_wat (q := 0) (j := 7) zwX4_join_0 rfl)
theorem dX4_join_8 : decode cX4_join 8 = .ok (.invokestatic 92, 3) := z_o184 (z_wat (q := 0) (j := 8) zwX4_join_0 rfl) (z_wat (q := 0) (j := 9) zwX4_join_0 rfl) (z_wat (q := 0) (j := 10) zwX4_join_0 rfl) rfl
theorem dX4_join_11 : decode cX4_join 11 = .ok (.istore 4, 2) := z_o54 (z_wat (q := 0) (j := 11) zwX4_join_0 rfl) (z_wat (q := 0) (j := 12) zwX4_join_0 rfl)
theorem dX4_join_13 : decode cX4_join 13 = .ok (.iconst 0, 1) := z_o3 (z_wat (q := 0) (j := 13) zwX4_join_0 rfl)
theorem dX4_join_14 : decode cX4_join 14 = .ok (.istore 5, 2) := z_o54 (z_wat (q := 0) (j := 14) zwX4_join_0 rfl) (z_wat (q := 0) (j := 15) zwX4_join_0 rfl)
theorem dX4_join_16 : decode cX4_join 16 = .ok (.iload 5, 2) := z_o21 (z_wat (q := 0) (j := 16) zwX4_join_0 rfl) (z_wat (q := 0) (j := 17) zwX4_join_0 rfl)
theorem dX4_join_18 : decode cX4_join 18 = .ok (.aload_n 0, 1) := z_o42 (z_wat (q := 0) (j := 18) zwX4_join_0 rfl)
theorem dX4_join_19 : decode cX4_join 19 = .ok (.getfield 15, 3) := z_o180 (z_wat (q := 0) (j := 19) zwX4_join_0 rfl) (z_wat (q := 0) (j := 20) zwX4_join_0 rfl) (z_wat (q := 0) (j := 21) zwX4_join_0 rfl) rfl
theorem dX4_join_22 : decode cX4_join 22 = .ok (.if_icmp .ge 29, 3) := z_o162 (z_wat (q := 0) (j := 22) zwX4_join_0 rfl) (z_wat (q := 0) (j := 23) zwX4_join_0 rfl) (z_wat (q := 0) (j := 24) zwX4_join_0 rfl) rfl
theorem dX4_join_25 : decode cX4_join 25 = .ok (.aload_n 0, 1) := z_o42 (z_wat (q := 0) (j := 25) zwX4_join_0 rfl)
theorem dX4_join_26 : decode cX4_join 26 = .ok (.getfield 29, 3) := z_o180 (z_wat (q := 0) (j := 26) zwX4_join_0 rfl) (z_wat (q := 0) (j := 27) zwX4_join_0 rfl) (z_wat (q := 0) (j := 28) zwX4_join_0 rfl) rfl
theorem dX4_join_29 : decode cX4_join 29 = .ok (.iload 5, 2) := z_o21 (z_wat (q := 0) (j := 29) zwX4_join_0 rfl) (z_wat (q := 0) (j := 30) zwX4_join_0 rfl)
theorem dX4_join_31 : decode cX4_join 31 = .ok (.iaload, 1) := z_o46 (z_wat (q := 0) (j := 31) zwX4_join_0 rfl)
theorem zwX4_join_32 : ((cX4_join.data.toList.drop 32).take 20).map UInt8.toNat = [21, 4, 160, 0, 11, 42, 180, 0, 29, 21, 5, 29, 79, 132, 5, 1, 167, 255, 224, 177] := by decide +kernel
theorem dX4_join_32 : decode cX4_join 32 = .ok (.iload 4, 2) := z_o21 (z_wat (q := 32) (j := 0) zwX4_join_32 rfl) (z_wat (q := 32) (j := 1) zwX4_join_32 rfl)
theorem dX4_join_34 : decode cX4_join 34 = .ok (.if_icmp .ne 11, 3) := z_o160 (z_wat (q := 32) (j := 2) zwX4_join_32 rfl) (z_wat (q := 32) (j := 3) zwX4_join_32 rfl) (z_wat (q := 32) (j := 4) zwX4_join_32 rfl) rfl
theorem dX4_join_37 : decode cX4_join 37 = .ok (.aload_n 0, 1) := z_o42 (z_wat (q := 32) (j := 5) zwX4_join_32 rfl)
theorem dX4_join_38 : decode cX4_join 38 = .ok (.getfield 29, 3) := z_o180 (z_wat (q := 32) (j := 6) zwX4_join_32 rfl) (z_wat (q := 32) (j := 7) zwX4_join_32 rfl) (z_wat (q := 32) (j := 8) zwX4_join_32 rfl) rfl
theorem dX4_join_41 : decode cX4_join 41 = .ok (.iload 5, 2) := z_o21 (z_wat (q := 32) (j := 9) zwX4_join_32 rfl) (z_wat (q := 32) (j := 10) zwX4_join_32 rfl)
theorem dX4_join_43 : decode cX4_join 43 = .ok (.iload_n 3, 1) := z_o29 (z_wat (q := 32) (j := 11) zwX4_join_32 rfl)
theorem dX4_join_44 : decode cX4_join 44 = .ok (.iastore, 1) := z_o79 (z_wat (q := 32) (j := 12) zwX4_join_32 rfl)
theorem dX4_join_45 : decode cX4_join 45 = .ok (.iinc 5 1, 3) := z_o132 (z_wat (q := 32) (j := 13) zwX4_join_32 rfl) (z_wat (q := 32) (j := 14) zwX4_join_32 rfl) (z_wat (q := 32) (j := 15) zwX4_join_32 rfl) rfl
theorem dX4_join_48 : decode cX4_join 48 = .ok (.goto (-32), 3) := z_o167 (z_wat (q := 32) (j := 16) zwX4_join_32 rfl) (z_wat (q := 32) (j := 17) zwX4_join_32 rfl) (z_wat (q := 32) (j := 18) zwX4_join_32 rfl) rfl
theorem dX4_join_51 : decode cX4_join 51 = .ok (.return_, 1) := z_o177 (z_wat (q := 32) (j := 19) zwX4_join_32 rfl)
theorem zwX4_layersOf_0 : ((cX4_layersOf.data.toList.drop 0).take 34).map UInt8.toNat = [3, 61, 3, 62, 29, 42, 180, 0, 15, 162, 0, 25, 42, 180, 0, 29, 29, 46, 27, 160, 0, 9, 28, 4, 29, 120, 128, 61, 132, 3, 1, 167, 255, 229] := by decide +kernel
theorem dX4_layersOf_0 : decode cX4_layersOf 0 = .ok (.iconst 0, 1) := z_o3 (z_wat (q := 0) (j := 0) zwX4_layersOf_0 rfl)
theorem dX4_layersOf_1 : decode cX4_layersOf 1 = .ok (.istore_n 2, 1) := z_o61 (z_wat (q := 0) (j := 1) zwX4_layersOf_0 rfl)
theorem dX4_layersOf_2 : decode cX4_layersOf 2 = .ok (.iconst 0, 1) := z_o3 (z_wat (q := 0) (j := 2) zwX4_layersOf_0 rfl)
theorem dX4_layersOf_3 : decode cX4_layersOf 3 = .ok (.istore_n 3, 1) := z_o62 (z_wat (q := 0) (j := 3) zwX4_layersOf_0 rfl)
theorem dX4_layersOf_4 : decode cX4_layersOf 4 = .ok (.iload_n 3, 1) := z_o29 (z_wat (q := 0) (j := 4) zwX4_layersOf_0 rfl)
theorem dX4_layersOf_5 : decode cX4_layersOf 5 = .ok (.aload_n 0, 1) := z_o42 (z_wat (q := 0) (j := 5) zwX4_layersOf_0 rfl)
theorem dX4_layersOf_6 : decode cX4_layersOf 6 = .ok (.getfield 15, 3) := z_o180 (z_wat (q := 0) (j := 6) zwX4_layersOf_0 rfl) (z_wat (q := 0) (j := 7) zwX4_layersOf_0 rfl) (z_wat (q := 0) (j := 8) zwX4_layersOf_0 rfl) rfl
theorem dX4_layersOf_9 : decode cX4_layersOf 9 = .ok (.if_icmp .ge 25, 3) := z_o162 (z_wat (q := 0) (j := 9) zwX4_layersOf_0 rfl) (z_wat (q := 0) (j := 10) zwX4_layersOf_0 rfl) (z_wat (q := 0) (j := 11) zwX4_layersOf_0 rfl) rfl
theorem dX4_layersOf_12 : decode cX4_layersOf 12 = .ok (.aload_n 0, 1) := z_o42 (z_wat (q := 0) (j := 12) zwX4_layersOf_0 rfl)
theorem dX4_layersOf_13 : decode cX4_layersOf 13 = .ok (.getfield 29, 3) := z_o180 (z_wat (q := 0) (j := 13) zwX4_layersOf_0 rfl) (z_wat (q := 0) (j := 14) zwX4_layersOf_0 rfl) (z_wat (q := 0) (j := 15) zwX4_layersOf_0 rfl) rfl
theorem dX4_layersOf_16 : decode cX4_layersOf 16 = .ok (.iload_n 3, 1) := z_o29 (z_wat (q := 0) (j := 16) zwX4_layersOf_0 rfl)
theorem dX4_layersOf_17 : decode cX4_layersOf 17 = .ok (.iaload, 1) := z_o46 (z_wat (q := 0) (j := 17) zwX4_layersOf_0 rfl)
theorem dX4_layersOf_18 : decode cX4_layersOf 18 = .ok (.iload_n 1, 1) := z_o27 (z_wat (q := 0) (j := 18) zwX4_layersOf_0 rfl)
theorem dX4_layersOf_19 : decode cX4_layersOf 19 = .ok (.if_icmp .ne 9, 3) := z_o160 (z_wat (q := 0) (j := 19) zwX4_layersOf_0 rfl) (z_wat (q := 0) (j := 20) zwX4_layersOf_0 rfl) (z_wat (q := 0) (j := 21) zwX4_layersOf_0 rfl) rfl
theorem dX4_layersOf_22 : decode cX4_layersOf 22 = .ok (.iload_n 2, 1) := z_o28 (z_wat (q := 0) (j := 22) zwX4_layersOf_0 rfl)
theorem dX4_layersOf_23 : decode cX4_layersOf 23 = .ok (.iconst 1, 1) := z_o4 (z_wat (q := 0) (j := 23) zwX4_layersOf_0 rfl)
theorem dX4_layersOf_24 : decode cX4_layersOf 24 = .ok (.iload_n 3, 1) := z_o29 (z_wat (q := 0) (j := 24) zwX4_layersOf_0 rfl)
theorem dX4_layersOf_25 : decode cX4_layersOf 25 = .ok (.ishl, 1) := z_o120 (z_wat (q := 0) (j := 25) zwX4_layersOf_0 rfl)
theorem dX4_layersOf_26 : decode cX4_layersOf 26 = .ok (.ior, 1) := z_o128 (z_wat (q := 0) (j := 26) zwX4_layersOf_0 rfl)
theorem dX4_layersOf_27 : decode cX4_layersOf 27 = .ok (.istore_n 2, 1) := z_o61 (z_wat (q := 0) (j := 27) zwX4_layersOf_0 rfl)
theorem dX4_layersOf_28 : decode cX4_layersOf 28 = .ok (.iinc 3 1, 3) := z_o132 (z_wat (q := 0) (j := 28) zwX4_layersOf_0 rfl) (z_wat (q := 0) (j := 29) zwX4_layersOf_0 rfl) (z_wat (q := 0) (j := 30) zwX4_layersOf_0 rfl) rfl
theorem dX4_layersOf_31 : decode cX4_layersOf 31 = .ok (.goto (-27), 3) := z_o167 (z_wat (q := 0) (j := 31) zwX4_layersOf_0 rfl) (z_wat (q := 0) (j := 32) zwX4_layersOf_0 rfl) (z_wat (q := 0) (j := 33) zwX4_layersOf_0 rfl) rfl
theorem zwX4_layersOf_32 : ((cX4_layersOf.data.toList.drop 32).take 4).map UInt8.toNat = [255, 229, 28, 172] := by decide +kernel
theorem dX4_layersOf_34 : decode cX4_layersOf 34 = .ok (.iload_n 2, 1) := z_o28 (z_wat (q := 32) (j := 2) zwX4_layersOf_32 rfl)
theorem dX4_layersOf_35 : decode cX4_layersOf 35 = .ok (.ireturn, 1) := z_o172 (z_wat (q := 32) (j := 3) zwX4_layersOf_32 rfl)
theorem zwX4_leadYears_0 : ((cX4_leadYears.data.toList.drop 0).take 34).map UInt8.toNat = [3, 60, 27, 42, 180, 0, 15, 162, 0, 76, 3, 61, 28, 42, 180, 0, 15, 162, 0, 60, 42, 27, 28, 182, 0, 95, 153, 0, 45, 42, 180, 0, 32, 27] := by decide +kernel
theorem dX4_leadYears_0 : decode cX4_leadYears 0 = .ok (.iconst 0, 1) := z_o3 (z_wat (q := 0) (j := 0) zwX4_leadYears_0 rfl)
theorem dX4_leadYears_1 : decode cX4_leadYears 1 = .ok (.istore_n 1, 1) := z_o60 (z_wat (q := 0) (j := 1) zwX4_leadYears_0 rfl)
theorem dX4_leadYears_2 : decode cX4_leadYears 2 = .ok (.iload_n 1, 1) := z_o27 (z_wat (q := 0) (j := 2) zwX4_leadYears_0 rfl)
theorem dX4_leadYears_3 : decode cX4_leadYears 3 = .ok (.aload_n 0, 1) := z_o42 (z_wat (q := 0) (j := 3) zwX4_leadYears_0 rfl)
theorem dX4_leadYears_4 : decode cX4_leadYears 4 = .ok (.getfield 15, 3) := z_o180 (z_wat (q := 0) (j := 4) zwX4_leadYears_0 rfl) (z_wat (q := 0) (j := 5) zwX4_leadYears_0 rfl) (z_wat (q := 0) (j := 6) zwX4_leadYears_0 rfl) rfl
theorem dX4_leadYears_7 : decode cX4_leadYears 7 = .ok (.if_icmp .ge 76, 3) := z_o162 (z_wat (q := 0) (j := 7) zwX4_leadYears_0 rfl) (z_wat (q := 0) (j := 8) zwX4_leadYears_0 rfl) (z_wat (q := 0) (j := 9) zwX4_leadYears_0 rfl) rfl
theorem dX4_leadYears_10 : decode cX4_leadYears 10 = .ok (.iconst 0, 1) := z_o3 (z_wat (q := 0) (j := 10) zwX4_leadYears_0 rfl)
theorem dX4_leadYears_11 : decode cX4_leadYears 11 = .ok (.istore_n 2, 1) := z_o61 (z_wat (q := 0) (j := 11) zwX4_leadYears_0 rfl)
theorem dX4_leadYears_12 : decode cX4_leadYears 12 = .ok (.iload_n 2, 1) := z_o28 (z_wat (q := 0) (j := 12) zwX4_leadYears_0 rfl)
theorem dX4_leadYears_13 : decode cX4_leadYears 13 = .ok (.aload_n 0, 1) := z_o42 (z_wat (q := 0) (j := 13) zwX4_leadYears_0 rfl)
theorem dX4_leadYears_14 : decode cX4_leadYears 14 = .ok (.getfield 15, 3) := z_o180 (z_wat (q := 0) (j := 14) zwX4_leadYears_0 rfl) (z_wat (q := 0) (j := 15) zwX4_leadYears_0 rfl) (z_wat (q := 0) (j := 16) zwX4_leadYears_0 rfl) rfl
theorem dX4_leadYears_17 : decode cX4_leadYears 17 = .ok (.if_icmp .ge 60, 3) := z_o162 (z_wat (q := 0) (j := 17) zwX4_leadYears_0 rfl) (z_wat (q := 0) (j := 18) zwX4_leadYears_0 rfl) (z_wat (q := 0) (j := 19) zwX4_leadYears_0 rfl) rfl
theorem dX4_leadYears_20 : decode cX4_leadYears 20 = .ok (.aload_n 0, 1) := z_o42 (z_wat (q := 0) (j := 20) zwX4_leadYears_0 rfl)
theorem dX4_leadYears_21 : decode cX4_leadYears 21 = .ok (.iload_n 1, 1) := z_o27 (z_wat (q := 0) (j := 21) zwX4_leadYears_0 rfl)
theorem dX4_leadYears_22 : decode cX4_leadYears 22 = .ok (.iload_n 2, 1) := z_o28 (z_wat (q := 0) (j := 22) zwX4_leadYears_0 rfl)
theorem dX4_leadYears_23 : decode cX4_leadYears 23 = .ok (.invokevirtual 95, 3) := z_o182 (z_wat (q := 0) (j := 23) zwX4_leadYears_0 rfl) (z_wat (q := 0) (j := 24) zwX4_leadYears_0 rfl) (z_wat (q := 0) (j := 25) zwX4_leadYears_0 rfl) rfl
theorem dX4_leadYears_26 : decode cX4_leadYears 26 = .ok (.ifCond .eq 45, 3) := z_o153 (z_wat (q := 0) (j := 26) zwX4_leadYears_0 rfl) (z_wat (q := 0) (j := 27) zwX4_leadYears_0 rfl) (z_wat (q := 0) (j := 28) zwX4_leadYears_0 rfl) rfl
theorem dX4_leadYears_29 : decode cX4_leadYears 29 = .ok (.aload_n 0, 1) := z_o42 (z_wat (q := 0) (j := 29) zwX4_leadYears_0 rfl)
theorem dX4_leadYears_30 : decode cX4_leadYears 30 = .ok (.getfield 32, 3) := z_o180 (z_wat (q := 0) (j := 30) zwX4_leadYears_0 rfl) (z_wat (q := 0) (j := 31) zwX4_leadYears_0 rfl) (z_wat (q := 0) (j := 32) zwX4_leadYears_0 rfl) rfl
theorem zwX4_leadYears_32 : ((cX4_leadYears.data.toList.drop 32).take 34).map UInt8.toNat = [32, 27, 42, 180, 0, 32, 27, 46, 42, 180, 0, 32, 28, 46, 184, 0, 92, 79, 42, 180, 0, 35, 28, 42, 180, 0, 35, 28, 46, 42, 180, 0, 35, 27] := by decide +kernel
theorem dX4_leadYears_33 : decode cX4_leadYears 33 = .ok (.iload_n 1, 1) := z_o27 (z_wat (q := 32) (j := 1) zwX4_leadYears_32 rfl)
theorem dX4_leadYears_34 : decode cX4_leadYears 34 = .ok (.aload_n 0, 1) := z_o42 (z_wat (q := 32) (j := 2) zwX4_leadYears_32 rfl)
theorem dX4_leadYears_35 : decode cX4_leadYears 35 = .ok (.getfield 32, 3) := z_o180 (z_wat (q := 32) (j := 3) zwX4_leadYears_32 rfl) (z_wat (q := 32) (j := 4) zwX4_leadYears_32 rfl) (z_wat (q := 32) (j := 5) zwX4_leadYears_32 rfl) rfl
theorem dX4_leadYears_38 : decode cX4_leadYears 38 = .ok (.iload_n 1, 1) := z_o27 (z_wat (q := 32) (j := 6) zwX4_leadYears_32 rfl)
theorem dX4_leadYears_39 : decode cX4_leadYears 39 = .ok (.iaload, 1) := z_o46 (z_wat (q := 32) (j := 7) zwX4_leadYears_32 rfl)
theorem dX4_leadYears_40 : decode cX4_leadYears 40 = .ok (.aload_n 0, 1) := z_o42 (z_wat (q := 32) (j := 8) zwX4_leadYears_32 rfl)
theorem dX4_leadYears_41 : decode cX4_leadYears 41 = .ok (.getfield 32, 3) := z_o180 (z_wat (q := 32) (j := 9) zwX4_leadYears_32 rfl) (z_wat (q := 32) (j := 10) zwX4_leadYears_32 rfl) (z_wat (q := 32) (j := 11) zwX4_leadYears_32 rfl) rfl
theorem dX4_leadYears_44 : decode cX4_leadYears 44 = .ok (.iload_n 2, 1) := z_o28 (z_wat (q := 32) (j := 12) zwX4_leadYears_32 rfl)
theorem dX4_leadYears_45 : decode cX4_leadYears 45 = .ok (.iaload, 1) := z_o46 (z_wat (q := 32) (j := 13) zwX4_leadYears_32 rfl)
theorem dX4_leadYears_46 : decode cX4_leadYears 46 = .ok (.invokestatic 92, 3) := z_o184 (z_wat (q := 32) (j := 14) zwX4_leadYears_32 rfl) (z_wat (q := 32) (j := 15) zwX4_leadYears_32 rfl) (z_wat (q := 32) (j := 16) zwX4_leadYears_32 rfl) rfl
theorem dX4_leadYears_49 : decode cX4_leadYears 49 = .ok (.iastore, 1) := z_o79 (z_wat (q := 32) (j := 17) zwX4_leadYears_32 rfl)
theorem dX4_leadYears_50 : decode cX4_leadYears 50 = .ok (.aload_n 0, 1) := z_o42 (z_wat (q := 32) (j := 18) zwX4_leadYears_32 rfl)
theorem dX4_leadYears_51 : decode cX4_leadYears 51 = .ok (.getfield 35, 3) := z_o180 (z_wat (q := 32) (j := 19) zwX4_leadYears_32 rfl) (z_wat (q := 32) (j := 20) zwX4_leadYears_32 rfl) (z_wat (q := 32) (j := 21) zwX4_leadYears_32 rfl) rfl
theorem dX4_leadYears_54 : decode cX4_leadYears 54 = .ok (.iload_n 2, 1) := z_o28 (z_wat (q := 32) (j := 22) zwX4_leadYears_32 rfl)
theorem dX4_leadYears_55 : decode cX4_leadYears 55 = .ok (.aload_n 0, 1) := z_o42 (z_wat (q := 32) (j := 23) zwX4_leadYears_32 rfl)
theorem dX4_leadYears_56 : decode cX4_leadYears 56 = .ok (.getfield 35, 3) := z_o180 (z_wat (q := 32) (j := 24) zwX4_leadYears_32 rfl) (z_wat (q := 32) (j := 25) zwX4_leadYears_32 rfl) (z_wat (q := 32) (j := 26) zwX4_leadYears_32 rfl) rfl
theorem dX4_leadYears_59 : decode cX4_leadYears 59 = .ok (.iload_n 2, 1) := z_o28 (z_wat (q := 32) (j := 27) zwX4_leadYears_32 rfl)
theorem dX4_leadYears_60 : decode cX4_leadYears 60 = .ok (.iaload, 1) := z_o46 (z_wat (q := 32) (j := 28) zwX4_leadYears_32 rfl)
theorem dX4_leadYears_61 : decode cX4_leadYears 61 = .ok (.aload_n 0, 1) := z_o42 (z_wat (q := 32) (j := 29) zwX4_leadYears_32 rfl)
theorem dX4_leadYears_62 : decode cX4_leadYears 62 = .ok (.getfield 35, 3) := z_o180 (z_wat (q := 32) (j := 30) zwX4_leadYears_32 rfl) (z_wat (q := 32) (j := 31) zwX4_leadYears_32 rfl) (z_wat (q := 32) (j := 32) zwX4_leadYears_32 rfl) rfl
theorem zwX4_leadYears_64 : ((cX4_leadYears.data.toList.drop 64).take 20).map UInt8.toNat = [35, 27, 46, 184, 0, 86, 79, 132, 2, 1, 167, 255, 194, 132, 1, 1, 167, 255, 178, 177] := by decide +kernel
theorem dX4_leadYears_65 : decode cX4_leadYears 65 = .ok (.iload_n 1, 1) := z_o27 (z_wat (q := 64) (j := 1) zwX4_leadYears_64 rfl)
theorem dX4_leadYears_66 : decode cX4_leadYears 66 = .ok (.iaload, 1) := z_o46 (z_wat (q := 64) (j := 2) zwX4_leadYears_64 rfl)
theorem dX4_leadYears_67 : decode cX4_leadYears 67 = .ok (.invokestatic 86, 3) := z_o184 (z_wat (q := 64) (j := 3) zwX4_leadYears_64 rfl) (z_wat (q := 64) (j := 4) zwX4_leadYears_64 rfl) (z_wat (q := 64) (j := 5) zwX4_leadYears_64 rfl) rfl
theorem dX4_leadYears_70 : decode cX4_leadYears 70 = .ok (.iastore, 1) := z_o79 (z_wat (q := 64) (j := 6) zwX4_leadYears_64 rfl)
theorem dX4_leadYears_71 : decode cX4_leadYears 71 = .ok (.iinc 2 1, 3) := z_o132 (z_wat (q := 64) (j := 7) zwX4_leadYears_64 rfl) (z_wat (q := 64) (j := 8) zwX4_leadYears_64 rfl) (z_wat (q := 64) (j := 9) zwX4_leadYears_64 rfl) rfl
theorem dX4_leadYears_74 : decode cX4_leadYears 74 = .ok (.goto (-62), 3) := z_o167 (z_wat (q := 64) (j := 10) zwX4_leadYears_64 rfl) (z_wat (q := 64) (j := 11) zwX4_leadYears_64 rfl) (z_wat (q := 64) (j := 12) zwX4_leadYears_64 rfl) rfl
theorem dX4_leadYears_77 : decode cX4_leadYears 77 = .ok (.iinc 1 1, 3) := z_o132 (z_wat (q := 64) (j := 13) zwX4_leadYears_64 rfl) (z_wat (q := 64) (j := 14) zwX4_leadYears_64 rfl) (z_wat (q := 64) (j := 15) zwX4_leadYears_64 rfl) rfl
theorem dX4_leadYears_80 : decode cX4_leadYears 80 = .ok (.goto (-78), 3) := z_o167 (z_wat (q := 64) (j := 16) zwX4_leadYears_64 rfl) (z_wat (q := 64) (j := 17) zwX4_leadYears_64 rfl) (z_wat (q := 64) (j := 18) zwX4_leadYears_64 rfl) rfl
theorem dX4_leadYears_83 : decode cX4_leadYears 83 = .ok (.return_, 1) := z_o177 (z_wat (q := 64) (j := 19) zwX4_leadYears_64 rfl)
theorem zwX4_raiseRank_0 : ((cX4_raiseRank.data.toList.drop 0).take 34).map UInt8.toNat = [3, 61, 28, 42, 180, 0, 15, 162, 0, 41, 42, 27, 28, 182, 0, 95, 153, 0, 26, 42, 180, 0, 26, 27, 42, 180, 0, 26, 27, 46, 42, 180, 0, 26] := by decide +kernel
theorem dX4_raiseRank_0 : decode cX4_raiseRank 0 = .ok (.iconst 0, 1) := z_o3 (z_wat (q := 0) (j := 0) zwX4_raiseRank_0 rfl)
theorem dX4_raiseRank_1 : decode cX4_raiseRank 1 = .ok (.istore_n 2, 1) := z_o61 (z_wat (q := 0) (j := 1) zwX4_raiseRank_0 rfl)
theorem dX4_raiseRank_2 : decode cX4_raiseRank 2 = .ok (.iload_n 2, 1) := z_o28 (z_wat (q := 0) (j := 2) zwX4_raiseRank_0 rfl)
theorem dX4_raiseRank_3 : decode cX4_raiseRank 3 = .ok (.aload_n 0, 1) := z_o42 (z_wat (q := 0) (j := 3) zwX4_raiseRank_0 rfl)
theorem dX4_raiseRank_4 : decode cX4_raiseRank 4 = .ok (.getfield 15, 3) := z_o180 (z_wat (q := 0) (j := 4) zwX4_raiseRank_0 rfl) (z_wat (q := 0) (j := 5) zwX4_raiseRank_0 rfl) (z_wat (q := 0) (j := 6) zwX4_raiseRank_0 rfl) rfl
theorem dX4_raiseRank_7 : decode cX4_raiseRank 7 = .ok (.if_icmp .ge 41, 3) := z_o162 (z_wat (q := 0) (j := 7) zwX4_raiseRank_0 rfl) (z_wat (q := 0) (j := 8) zwX4_raiseRank_0 rfl) (z_wat (q := 0) (j := 9) zwX4_raiseRank_0 rfl) rfl
theorem dX4_raiseRank_10 : decode cX4_raiseRank 10 = .ok (.aload_n 0, 1) := z_o42 (z_wat (q := 0) (j := 10) zwX4_raiseRank_0 rfl)
theorem dX4_raiseRank_11 : decode cX4_raiseRank 11 = .ok (.iload_n 1, 1) := z_o27 (z_wat (q := 0) (j := 11) zwX4_raiseRank_0 rfl)
theorem dX4_raiseRank_12 : decode cX4_raiseRank 12 = .ok (.iload_n 2, 1) := z_o28 (z_wat (q := 0) (j := 12) zwX4_raiseRank_0 rfl)
theorem dX4_raiseRank_13 : decode cX4_raiseRank 13 = .ok (.invokevirtual 95, 3) := z_o182 (z_wat (q := 0) (j := 13) zwX4_raiseRank_0 rfl) (z_wat (q := 0) (j := 14) zwX4_raiseRank_0 rfl) (z_wat (q := 0) (j := 15) zwX4_raiseRank_0 rfl) rfl
theorem dX4_raiseRank_16 : decode cX4_raiseRank 16 = .ok (.ifCond .eq 26, 3) := z_o153 (z_wat (q := 0) (j := 16) zwX4_raiseRank_0 rfl) (z_wat (q := 0) (j := 17) zwX4_raiseRank_0 rfl) (z_wat (q := 0) (j := 18) zwX4_raiseRank_0 rfl) rfl
theorem dX4_raiseRank_19 : decode cX4_raiseRank 19 = .ok (.aload_n 0, 1) := z_o42 (z_wat (q := 0) (j := 19) zwX4_raiseRank_0 rfl)
theorem dX4_raiseRank_20 : decode cX4_raiseRank 20 = .ok (.getfield 26, 3) := z_o180 (z_wat (q := 0) (j := 20) zwX4_raiseRank_0 rfl) (z_wat (q := 0) (j := 21) zwX4_raiseRank_0 rfl) (z_wat (q := 0) (j := 22) zwX4_raiseRank_0 rfl) rfl
theorem dX4_raiseRank_23 : decode cX4_raiseRank 23 = .ok (.iload_n 1, 1) := z_o27 (z_wat (q := 0) (j := 23) zwX4_raiseRank_0 rfl)
theorem dX4_raiseRank_24 : decode cX4_raiseRank 24 = .ok (.aload_n 0, 1) := z_o42 (z_wat (q := 0) (j := 24) zwX4_raiseRank_0 rfl)
theorem dX4_raiseRank_25 : decode cX4_raiseRank 25 = .ok (.getfield 26, 3) := z_o180 (z_wat (q := 0) (j := 25) zwX4_raiseRank_0 rfl) (z_wat (q := 0) (j := 26) zwX4_raiseRank_0 rfl) (z_wat (q := 0) (j := 27) zwX4_raiseRank_0 rfl) rfl
theorem dX4_raiseRank_28 : decode cX4_raiseRank 28 = .ok (.iload_n 1, 1) := z_o27 (z_wat (q := 0) (j := 28) zwX4_raiseRank_0 rfl)
theorem dX4_raiseRank_29 : decode cX4_raiseRank 29 = .ok (.iaload, 1) := z_o46 (z_wat (q := 0) (j := 29) zwX4_raiseRank_0 rfl)
theorem dX4_raiseRank_30 : decode cX4_raiseRank 30 = .ok (.aload_n 0, 1) := z_o42 (z_wat (q := 0) (j := 30) zwX4_raiseRank_0 rfl)
theorem dX4_raiseRank_31 : decode cX4_raiseRank 31 = .ok (.getfield 26, 3) := z_o180 (z_wat (q := 0) (j := 31) zwX4_raiseRank_0 rfl) (z_wat (q := 0) (j := 32) zwX4_raiseRank_0 rfl) (z_wat (q := 0) (j := 33) zwX4_raiseRank_0 rfl) rfl
theorem zwX4_raiseRank_32 : ((cX4_raiseRank.data.toList.drop 32).take 17).map UInt8.toNat = [0, 26, 28, 46, 4, 96, 184, 0, 92, 79, 132, 2, 1, 167, 255, 213, 177] := by decide +kernel
theorem dX4_raiseRank_34 : decode cX4_raiseRank 34 = .ok (.iload_n 2, 1) := z_o28 (z_wat (q := 32) (j := 2) zwX4_raiseRank_32 rfl)
theorem dX4_raiseRank_35 : decode cX4_raiseRank 35 = .ok (.iaload, 1) := z_o46 (z_wat (q := 32) (j := 3) zwX4_raiseRank_32 rfl)
theorem dX4_raiseRank_36 : decode cX4_raiseRank 36 = .ok (.iconst 1, 1) := z_o4 (z_wat (q := 32) (j := 4) zwX4_raiseRank_32 rfl)
theorem dX4_raiseRank_37 : decode cX4_raiseRank 37 = .ok (.iadd, 1) := z_o96 (z_wat (q := 32) (j := 5) zwX4_raiseRank_32 rfl)
theorem dX4_raiseRank_38 : decode cX4_raiseRank 38 = .ok (.invokestatic 92, 3) := z_o184 (z_wat (q := 32) (j := 6) zwX4_raiseRank_32 rfl) (z_wat (q := 32) (j := 7) zwX4_raiseRank_32 rfl) (z_wat (q := 32) (j := 8) zwX4_raiseRank_32 rfl) rfl
theorem dX4_raiseRank_41 : decode cX4_raiseRank 41 = .ok (.iastore, 1) := z_o79 (z_wat (q := 32) (j := 9) zwX4_raiseRank_32 rfl)
theorem dX4_raiseRank_42 : decode cX4_raiseRank 42 = .ok (.iinc 2 1, 3) := z_o132 (z_wat (q := 32) (j := 10) zwX4_raiseRank_32 rfl) (z_wat (q := 32) (j := 11) zwX4_raiseRank_32 rfl) (z_wat (q := 32) (j := 12) zwX4_raiseRank_32 rfl) rfl
theorem dX4_raiseRank_45 : decode cX4_raiseRank 45 = .ok (.goto (-43), 3) := z_o167 (z_wat (q := 32) (j := 13) zwX4_raiseRank_32 rfl) (z_wat (q := 32) (j := 14) zwX4_raiseRank_32 rfl) (z_wat (q := 32) (j := 15) zwX4_raiseRank_32 rfl) rfl
theorem dX4_raiseRank_48 : decode cX4_raiseRank 48 = .ok (.return_, 1) := z_o177 (z_wat (q := 32) (j := 16) zwX4_raiseRank_32 rfl)
theorem zwX4_rankOf_0 : ((cX4_rankOf.data.toList.drop 0).take 19).map UInt8.toNat = [42, 180, 0, 38, 4, 160, 0, 7, 2, 167, 0, 9, 42, 180, 0, 26, 27, 46, 172] := by decide +kernel
theorem dX4_rankOf_0 : decode cX4_rankOf 0 = .ok (.aload_n 0, 1) := z_o42 (z_wat (q := 0) (j := 0) zwX4_rankOf_0 rfl)
theorem dX4_rankOf_1 : decode cX4_rankOf 1 = .ok (.getfield 38, 3) := z_o180 (z_wat (q := 0) (j := 1) zwX4_rankOf_0 rfl) (z_wat (q := 0) (j := 2) zwX4_rankOf_0 rfl) (z_wat (q := 0) (j := 3) zwX4_rankOf_0 rfl) rfl
theorem dX4_rankOf_4 : decode cX4_rankOf 4 = .ok (.iconst 1, 1) := z_o4 (z_wat (q := 0) (j := 4) zwX4_rankOf_0 rfl)
theorem dX4_rankOf_5 : decode cX4_rankOf 5 = .ok (.if_icmp .ne 7, 3) := z_o160 (z_wat (q := 0) (j := 5) zwX4_rankOf_0 rfl) (z_wat (q := 0) (j := 6) zwX4_rankOf_0 rfl) (z_wat (q := 0) (j := 7) zwX4_rankOf_0 rfl) rfl
theorem dX4_rankOf_8 : decode cX4_rankOf 8 = .ok (.iconst (-1), 1) := z_o2 (z_wat (q := 0) (j := 8) zwX4_rankOf_0 rfl)
theorem dX4_rankOf_9 : decode cX4_rankOf 9 = .ok (.goto 9, 3) := z_o167 (z_wat (q := 0) (j := 9) zwX4_rankOf_0 rfl) (z_wat (q := 0) (j := 10) zwX4_rankOf_0 rfl) (z_wat (q := 0) (j := 11) zwX4_rankOf_0 rfl) rfl
theorem dX4_rankOf_12 : decode cX4_rankOf 12 = .ok (.aload_n 0, 1) := z_o42 (z_wat (q := 0) (j := 12) zwX4_rankOf_0 rfl)
theorem dX4_rankOf_13 : decode cX4_rankOf 13 = .ok (.getfield 26, 3) := z_o180 (z_wat (q := 0) (j := 13) zwX4_rankOf_0 rfl) (z_wat (q := 0) (j := 14) zwX4_rankOf_0 rfl) (z_wat (q := 0) (j := 15) zwX4_rankOf_0 rfl) rfl
theorem dX4_rankOf_16 : decode cX4_rankOf 16 = .ok (.iload_n 1, 1) := z_o27 (z_wat (q := 0) (j := 16) zwX4_rankOf_0 rfl)
theorem dX4_rankOf_17 : decode cX4_rankOf 17 = .ok (.iaload, 1) := z_o46 (z_wat (q := 0) (j := 17) zwX4_rankOf_0 rfl)
theorem dX4_rankOf_18 : decode cX4_rankOf 18 = .ok (.ireturn, 1) := z_o172 (z_wat (q := 0) (j := 18) zwX4_rankOf_0 rfl)
theorem zwX4_setRanks_0 : ((cX4_setRanks.data.toList.drop 0).take 34).map UInt8.toNat = [3, 60, 27, 42, 180, 0, 15, 162, 0, 16, 42, 180, 0, 26, 27, 3, 79, 132, 1, 1, 167, 255, 238, 3, 60, 27, 42, 180, 0, 15, 162, 0, 30, 3] := by decide +kernel
theorem dX4_setRanks_0 : decode cX4_setRanks 0 = .ok (.iconst 0, 1) := z_o3 (z_wat (q := 0) (j := 0) zwX4_setRanks_0 rfl)
theorem dX4_setRanks_1 : decode cX4_setRanks 1 = .ok (.istore_n 1, 1) := z_o60 (z_wat (q := 0) (j := 1) zwX4_setRanks_0 rfl)
theorem dX4_setRanks_2 : decode cX4_setRanks 2 = .ok (.iload_n 1, 1) := z_o27 (z_wat (q := 0) (j := 2) zwX4_setRanks_0 rfl)
theorem dX4_setRanks_3 : decode cX4_setRanks 3 = .ok (.aload_n 0, 1) := z_o42 (z_wat (q := 0) (j := 3) zwX4_setRanks_0 rfl)
theorem dX4_setRanks_4 : decode cX4_setRanks 4 = .ok (.getfield 15, 3) := z_o180 (z_wat (q := 0) (j := 4) zwX4_setRanks_0 rfl) (z_wat (q := 0) (j := 5) zwX4_setRanks_0 rfl) (z_wat (q := 0) (j := 6) zwX4_setRanks_0 rfl) rfl
theorem dX4_setRanks_7 : decode cX4_setRanks 7 = .ok (.if_icmp .ge 16, 3) := z_o162 (z_wat (q := 0) (j := 7) zwX4_setRanks_0 rfl) (z_wat (q := 0) (j := 8) zwX4_setRanks_0 rfl) (z_wat (q := 0) (j := 9) zwX4_setRanks_0 rfl) rfl
theorem dX4_setRanks_10 : decode cX4_setRanks 10 = .ok (.aload_n 0, 1) := z_o42 (z_wat (q := 0) (j := 10) zwX4_setRanks_0 rfl)
theorem dX4_setRanks_11 : decode cX4_setRanks 11 = .ok (.getfield 26, 3) := z_o180 (z_wat (q := 0) (j := 11) zwX4_setRanks_0 rfl) (z_wat (q := 0) (j := 12) zwX4_setRanks_0 rfl) (z_wat (q := 0) (j := 13) zwX4_setRanks_0 rfl) rfl
theorem dX4_setRanks_14 : decode cX4_setRanks 14 = .ok (.iload_n 1, 1) := z_o27 (z_wat (q := 0) (j := 14) zwX4_setRanks_0 rfl)
theorem dX4_setRanks_15 : decode cX4_setRanks 15 = .ok (.iconst 0, 1) := z_o3 (z_wat (q := 0) (j := 15) zwX4_setRanks_0 rfl)
theorem dX4_setRanks_16 : decode cX4_setRanks 16 = .ok (.iastore, 1) := z_o79 (z_wat (q := 0) (j := 16) zwX4_setRanks_0 rfl)
theorem dX4_setRanks_17 : decode cX4_setRanks 17 = .ok (.iinc 1 1, 3) := z_o132 (z_wat (q := 0) (j := 17) zwX4_setRanks_0 rfl) (z_wat (q := 0) (j := 18) zwX4_setRanks_0 rfl) (z_wat (q := 0) (j := 19) zwX4_setRanks_0 rfl) rfl
theorem dX4_setRanks_20 : decode cX4_setRanks 20 = .ok (.goto (-18), 3) := z_o167 (z_wat (q := 0) (j := 20) zwX4_setRanks_0 rfl) (z_wat (q := 0) (j := 21) zwX4_setRanks_0 rfl) (z_wat (q := 0) (j := 22) zwX4_setRanks_0 rfl) rfl
theorem dX4_setRanks_23 : decode cX4_setRanks 23 = .ok (.iconst 0, 1) := z_o3 (z_wat (q := 0) (j := 23) zwX4_setRanks_0 rfl)
theorem dX4_setRanks_24 : decode cX4_setRanks 24 = .ok (.istore_n 1, 1) := z_o60 (z_wat (q := 0) (j := 24) zwX4_setRanks_0 rfl)
theorem dX4_setRanks_25 : decode cX4_setRanks 25 = .ok (.iload_n 1, 1) := z_o27 (z_wat (q := 0) (j := 25) zwX4_setRanks_0 rfl)
theorem dX4_setRanks_26 : decode cX4_setRanks 26 = .ok (.aload_n 0, 1) := z_o42 (z_wat (q := 0) (j := 26) zwX4_setRanks_0 rfl)
theorem dX4_setRanks_27 : decode cX4_setRanks 27 = .ok (.getfield 15, 3) := z_o180 (z_wat (q := 0) (j := 27) zwX4_setRanks_0 rfl) (z_wat (q := 0) (j := 28) zwX4_setRanks_0 rfl) (z_wat (q := 0) (j := 29) zwX4_setRanks_0 rfl) rfl
theorem dX4_setRanks_30 : decode cX4_setRanks 30 = .ok (.if_icmp .ge 30, 3) := z_o162 (z_wat (q := 0) (j := 30) zwX4_setRanks_0 rfl) (z_wat (q := 0) (j := 31) zwX4_setRanks_0 rfl) (z_wat (q := 0) (j := 32) zwX4_setRanks_0 rfl) rfl
theorem zwX4_setRanks_32 : ((cX4_setRanks.data.toList.drop 32).take 29).map UInt8.toNat = [30, 3, 61, 28, 42, 180, 0, 15, 162, 0, 14, 42, 28, 182, 0, 98, 132, 2, 1, 167, 255, 240, 132, 1, 1, 167, 255, 224, 177] := by decide +kernel
theorem dX4_setRanks_33 : decode cX4_setRanks 33 = .ok (.iconst 0, 1) := z_o3 (z_wat (q := 32) (j := 1) zwX4_setRanks_32 rfl)
theorem dX4_setRanks_34 : decode cX4_setRanks 34 = .ok (.istore_n 2, 1) := z_o61 (z_wat (q := 32) (j := 2) zwX4_setRanks_32 rfl)
theorem dX4_setRanks_35 : decode cX4_setRanks 35 = .ok (.iload_n 2, 1) := z_o28 (z_wat (q := 32) (j := 3) zwX4_setRanks_32 rfl)
theorem dX4_setRanks_36 : decode cX4_setRanks 36 = .ok (.aload_n 0, 1) := z_o42 (z_wat (q := 32) (j := 4) zwX4_setRanks_32 rfl)
theorem dX4_setRanks_37 : decode cX4_setRanks 37 = .ok (.getfield 15, 3) := z_o180 (z_wat (q := 32) (j := 5) zwX4_setRanks_32 rfl) (z_wat (q := 32) (j := 6) zwX4_setRanks_32 rfl) (z_wat (q := 32) (j := 7) zwX4_setRanks_32 rfl) rfl
theorem dX4_setRanks_40 : decode cX4_setRanks 40 = .ok (.if_icmp .ge 14, 3) := z_o162 (z_wat (q := 32) (j := 8) zwX4_setRanks_32 rfl) (z_wat (q := 32) (j := 9) zwX4_setRanks_32 rfl) (z_wat (q := 32) (j := 10) zwX4_setRanks_32 rfl) rfl
theorem dX4_setRanks_43 : decode cX4_setRanks 43 = .ok (.aload_n 0, 1) := z_o42 (z_wat (q := 32) (j := 11) zwX4_setRanks_32 rfl)
theorem dX4_setRanks_44 : decode cX4_setRanks 44 = .ok (.iload_n 2, 1) := z_o28 (z_wat (q := 32) (j := 12) zwX4_setRanks_32 rfl)
theorem dX4_setRanks_45 : decode cX4_setRanks 45 = .ok (.invokevirtual 98, 3) := z_o182 (z_wat (q := 32) (j := 13) zwX4_setRanks_32 rfl) (z_wat (q := 32) (j := 14) zwX4_setRanks_32 rfl) (z_wat (q := 32) (j := 15) zwX4_setRanks_32 rfl) rfl
theorem dX4_setRanks_48 : decode cX4_setRanks 48 = .ok (.iinc 2 1, 3) := z_o132 (z_wat (q := 32) (j := 16) zwX4_setRanks_32 rfl) (z_wat (q := 32) (j := 17) zwX4_setRanks_32 rfl) (z_wat (q := 32) (j := 18) zwX4_setRanks_32 rfl) rfl
theorem dX4_setRanks_51 : decode cX4_setRanks 51 = .ok (.goto (-16), 3) := z_o167 (z_wat (q := 32) (j := 19) zwX4_setRanks_32 rfl) (z_wat (q := 32) (j := 20) zwX4_setRanks_32 rfl) (z_wat (q := 32) (j := 21) zwX4_setRanks_32 rfl) rfl
theorem dX4_setRanks_54 : decode cX4_setRanks 54 = .ok (.iinc 1 1, 3) := z_o132 (z_wat (q := 32) (j := 22) zwX4_setRanks_32 rfl) (z_wat (q := 32) (j := 23) zwX4_setRanks_32 rfl) (z_wat (q := 32) (j := 24) zwX4_setRanks_32 rfl) rfl
theorem dX4_setRanks_57 : decode cX4_setRanks 57 = .ok (.goto (-32), 3) := z_o167 (z_wat (q := 32) (j := 25) zwX4_setRanks_32 rfl) (z_wat (q := 32) (j := 26) zwX4_setRanks_32 rfl) (z_wat (q := 32) (j := 27) zwX4_setRanks_32 rfl) rfl
theorem dX4_setRanks_60 : decode cX4_setRanks 60 = .ok (.return_, 1) := z_o177 (z_wat (q := 32) (j := 28) zwX4_setRanks_32 rfl)
theorem zwX5_add_0 : ((cX5_add.data.toList.drop 0).take 28).map UInt8.toNat = [42, 180, 0, 18, 27, 17, 0, 144, 104, 28, 7, 104, 29, 96, 16, 6, 104, 96, 21, 4, 96, 92, 46, 21, 5, 96, 79, 177] := by decide +kernel
theorem dX5_add_0 : decode cX5_add 0 = .ok (.aload_n 0, 1) := z_o42 (z_wat (q := 0) (j := 0) zwX5_add_0 rfl)
theorem dX5_add_1 : decode cX5_add 1 = .ok (.getfield 18, 3) := z_o180 (z_wat (q := 0) (j := 1) zwX5_add_0 rfl) (z_wat (q := 0) (j := 2) zwX5_add_0 rfl) (z_wat (q := 0) (j := 3) zwX5_add_0 rfl) rfl
theorem dX5_add_4 : decode cX5_add 4 = .ok (.iload_n 1, 1) := z_o27 (z_wat (q := 0) (j := 4) zwX5_add_0 rfl)
theorem dX5_add_5 : decode cX5_add 5 = .ok (.sipush 144, 3) := z_o17 (z_wat (q := 0) (j := 5) zwX5_add_0 rfl) (z_wat (q := 0) (j := 6) zwX5_add_0 rfl) (z_wat (q := 0) (j := 7) zwX5_add_0 rfl) rfl
theorem dX5_add_8 : decode cX5_add 8 = .ok (.imul, 1) := z_o104 (z_wat (q := 0) (j := 8) zwX5_add_0 rfl)
theorem dX5_add_9 : decode cX5_add 9 = .ok (.iload_n 2, 1) := z_o28 (z_wat (q := 0) (j := 9) zwX5_add_0 rfl)
theorem dX5_add_10 : decode cX5_add 10 = .ok (.iconst 4, 1) := z_o7 (z_wat (q := 0) (j := 10) zwX5_add_0 rfl)
theorem dX5_add_11 : decode cX5_add 11 = .ok (.imul, 1) := z_o104 (z_wat (q := 0) (j := 11) zwX5_add_0 rfl)
theorem dX5_add_12 : decode cX5_add 12 = .ok (.iload_n 3, 1) := z_o29 (z_wat (q := 0) (j := 12) zwX5_add_0 rfl)
theorem dX5_add_13 : decode cX5_add 13 = .ok (.iadd, 1) := z_o96 (z_wat (q := 0) (j := 13) zwX5_add_0 rfl)
theorem dX5_add_14 : decode cX5_add 14 = .ok (.bipush 6, 2) := z_o16 (z_wat (q := 0) (j := 14) zwX5_add_0 rfl) (z_wat (q := 0) (j := 15) zwX5_add_0 rfl) rfl
theorem dX5_add_16 : decode cX5_add 16 = .ok (.imul, 1) := z_o104 (z_wat (q := 0) (j := 16) zwX5_add_0 rfl)
theorem dX5_add_17 : decode cX5_add 17 = .ok (.iadd, 1) := z_o96 (z_wat (q := 0) (j := 17) zwX5_add_0 rfl)
theorem dX5_add_18 : decode cX5_add 18 = .ok (.iload 4, 2) := z_o21 (z_wat (q := 0) (j := 18) zwX5_add_0 rfl) (z_wat (q := 0) (j := 19) zwX5_add_0 rfl)
theorem dX5_add_20 : decode cX5_add 20 = .ok (.iadd, 1) := z_o96 (z_wat (q := 0) (j := 20) zwX5_add_0 rfl)
theorem dX5_add_21 : decode cX5_add 21 = .ok (.dup2, 1) := z_o92 (z_wat (q := 0) (j := 21) zwX5_add_0 rfl)
theorem dX5_add_22 : decode cX5_add 22 = .ok (.iaload, 1) := z_o46 (z_wat (q := 0) (j := 22) zwX5_add_0 rfl)
theorem dX5_add_23 : decode cX5_add 23 = .ok (.iload 5, 2) := z_o21 (z_wat (q := 0) (j := 23) zwX5_add_0 rfl) (z_wat (q := 0) (j := 24) zwX5_add_0 rfl)
theorem dX5_add_25 : decode cX5_add 25 = .ok (.iadd, 1) := z_o96 (z_wat (q := 0) (j := 25) zwX5_add_0 rfl)
theorem dX5_add_26 : decode cX5_add 26 = .ok (.iastore, 1) := z_o79 (z_wat (q := 0) (j := 26) zwX5_add_0 rfl)
theorem dX5_add_27 : decode cX5_add 27 = .ok (.return_, 1) := z_o177 (z_wat (q := 0) (j := 27) zwX5_add_0 rfl)
theorem zwX5_clear_0 : ((cX5_clear.data.toList.drop 0).take 29).map UInt8.toNat = [3, 61, 28, 17, 0, 144, 162, 0, 22, 42, 180, 0, 18, 27, 17, 0, 144, 104, 28, 96, 3, 79, 132, 2, 1, 167, 255, 233, 177] := by decide +kernel
theorem dX5_clear_0 : decode cX5_clear 0 = .ok (.iconst 0, 1) := z_o3 (z_wat (q := 0) (j := 0) zwX5_clear_0 rfl)
theorem dX5_clear_1 : decode cX5_clear 1 = .ok (.istore_n 2, 1) := z_o61 (z_wat (q := 0) (j := 1) zwX5_clear_0 rfl)
theorem dX5_clear_2 : decode cX5_clear 2 = .ok (.iload_n 2, 1) := z_o28 (z_wat (q := 0) (j := 2) zwX5_clear_0 rfl)
theorem dX5_clear_3 : decode cX5_clear 3 = .ok (.sipush 144, 3) := z_o17 (z_wat (q := 0) (j := 3) zwX5_clear_0 rfl) (z_wat (q := 0) (j := 4) zwX5_clear_0 rfl) (z_wat (q := 0) (j := 5) zwX5_clear_0 rfl) rfl
theorem dX5_clear_6 : decode cX5_clear 6 = .ok (.if_icmp .ge 22, 3) := z_o162 (z_wat (q := 0) (j := 6) zwX5_clear_0 rfl) (z_wat (q := 0) (j := 7) zwX5_clear_0 rfl) (z_wat (q := 0) (j := 8) zwX5_clear_0 rfl) rfl
theorem dX5_clear_9 : decode cX5_clear 9 = .ok (.aload_n 0, 1) := z_o42 (z_wat (q := 0) (j := 9) zwX5_clear_0 rfl)
theorem dX5_clear_10 : decode cX5_clear 10 = .ok (.getfield 18, 3) := z_o180 (z_wat (q := 0) (j := 10) zwX5_clear_0 rfl) (z_wat (q := 0) (j := 11) zwX5_clear_0 rfl) (z_wat (q := 0) (j := 12) zwX5_clear_0 rfl) rfl
theorem dX5_clear_13 : decode cX5_clear 13 = .ok (.iload_n 1, 1) := z_o27 (z_wat (q := 0) (j := 13) zwX5_clear_0 rfl)
theorem dX5_clear_14 : decode cX5_clear 14 = .ok (.sipush 144, 3) := z_o17 (z_wat (q := 0) (j := 14) zwX5_clear_0 rfl) (z_wat (q := 0) (j := 15) zwX5_clear_0 rfl) (z_wat (q := 0) (j := 16) zwX5_clear_0 rfl) rfl
theorem dX5_clear_17 : decode cX5_clear 17 = .ok (.imul, 1) := z_o104 (z_wat (q := 0) (j := 17) zwX5_clear_0 rfl)
theorem dX5_clear_18 : decode cX5_clear 18 = .ok (.iload_n 2, 1) := z_o28 (z_wat (q := 0) (j := 18) zwX5_clear_0 rfl)
theorem dX5_clear_19 : decode cX5_clear 19 = .ok (.iadd, 1) := z_o96 (z_wat (q := 0) (j := 19) zwX5_clear_0 rfl)
theorem dX5_clear_20 : decode cX5_clear 20 = .ok (.iconst 0, 1) := z_o3 (z_wat (q := 0) (j := 20) zwX5_clear_0 rfl)
theorem dX5_clear_21 : decode cX5_clear 21 = .ok (.iastore, 1) := z_o79 (z_wat (q := 0) (j := 21) zwX5_clear_0 rfl)
theorem dX5_clear_22 : decode cX5_clear 22 = .ok (.iinc 2 1, 3) := z_o132 (z_wat (q := 0) (j := 22) zwX5_clear_0 rfl) (z_wat (q := 0) (j := 23) zwX5_clear_0 rfl) (z_wat (q := 0) (j := 24) zwX5_clear_0 rfl) rfl
theorem dX5_clear_25 : decode cX5_clear 25 = .ok (.goto (-23), 3) := z_o167 (z_wat (q := 0) (j := 25) zwX5_clear_0 rfl) (z_wat (q := 0) (j := 26) zwX5_clear_0 rfl) (z_wat (q := 0) (j := 27) zwX5_clear_0 rfl) rfl
theorem dX5_clear_28 : decode cX5_clear 28 = .ok (.return_, 1) := z_o177 (z_wat (q := 0) (j := 28) zwX5_clear_0 rfl)
theorem zwX5_findLost_0 : ((cX5_findLost.data.toList.drop 0).take 34).map UInt8.toNat = [9, 64, 9, 66, 3, 54, 5, 21, 5, 17, 0, 144, 162, 0, 38, 33, 42, 180, 0, 21, 21, 5, 47, 97, 66, 21, 5, 16, 6, 112, 8, 160, 0, 13] := by decide +kernel
theorem dX5_findLost_0 : decode cX5_findLost 0 = .ok (.lconst 0, 1) := z_o9 (z_wat (q := 0) (j := 0) zwX5_findLost_0 rfl)
theorem dX5_findLost_1 : decode cX5_findLost 1 = .ok (.lstore_n 1, 1) := z_o64 (z_wat (q := 0) (j := 1) zwX5_findLost_0 rfl)
theorem dX5_findLost_2 : decode cX5_findLost 2 = .ok (.lconst 0, 1) := z_o9 (z_wat (q := 0) (j := 2) zwX5_findLost_0 rfl)
theorem dX5_findLost_3 : decode cX5_findLost 3 = .ok (.lstore_n 3, 1) := z_o66 (z_wat (q := 0) (j := 3) zwX5_findLost_0 rfl)
theorem dX5_findLost_4 : decode cX5_findLost 4 = .ok (.iconst 0, 1) := z_o3 (z_wat (q := 0) (j := 4) zwX5_findLost_0 rfl)
theorem dX5_findLost_5 : decode cX5_findLost 5 = .ok (.istore 5, 2) := z_o54 (z_wat (q := 0) (j := 5) zwX5_findLost_0 rfl) (z_wat (q := 0) (j := 6) zwX5_findLost_0 rfl)
theorem dX5_findLost_7 : decode cX5_findLost 7 = .ok (.iload 5, 2) := z_o21 (z_wat (q := 0) (j := 7) zwX5_findLost_0 rfl) (z_wat (q := 0) (j := 8) zwX5_findLost_0 rfl)
theorem dX5_findLost_9 : decode cX5_findLost 9 = .ok (.sipush 144, 3) := z_o17 (z_wat (q := 0) (j := 9) zwX5_findLost_0 rfl) (z_wat (q := 0) (j := 10) zwX5_findLost_0 rfl) (z_wat (q := 0) (j := 11) zwX5_findLost_0 rfl) rfl
theorem dX5_findLost_12 : decode cX5_findLost 12 = .ok (.if_icmp .ge 38, 3) := z_o162 (z_wat (q := 0) (j := 12) zwX5_findLost_0 rfl) (z_wat (q := 0) (j := 13) zwX5_findLost_0 rfl) (z_wat (q := 0) (j := 14) zwX5_findLost_0 rfl) rfl
theorem dX5_findLost_15 : decode cX5_findLost 15 = .ok (.lload_n 3, 1) := z_o33 (z_wat (q := 0) (j := 15) zwX5_findLost_0 rfl)
theorem dX5_findLost_16 : decode cX5_findLost 16 = .ok (.aload_n 0, 1) := z_o42 (z_wat (q := 0) (j := 16) zwX5_findLost_0 rfl)
theorem dX5_findLost_17 : decode cX5_findLost 17 = .ok (.getfield 21, 3) := z_o180 (z_wat (q := 0) (j := 17) zwX5_findLost_0 rfl) (z_wat (q := 0) (j := 18) zwX5_findLost_0 rfl) (z_wat (q := 0) (j := 19) zwX5_findLost_0 rfl) rfl
theorem dX5_findLost_20 : decode cX5_findLost 20 = .ok (.iload 5, 2) := z_o21 (z_wat (q := 0) (j := 20) zwX5_findLost_0 rfl) (z_wat (q := 0) (j := 21) zwX5_findLost_0 rfl)
theorem dX5_findLost_22 : decode cX5_findLost 22 = .ok (.laload, 1) := z_o47 (z_wat (q := 0) (j := 22) zwX5_findLost_0 rfl)
theorem dX5_findLost_23 : decode cX5_findLost 23 = .ok (.ladd, 1) := z_o97 (z_wat (q := 0) (j := 23) zwX5_findLost_0 rfl)
theorem dX5_findLost_24 : decode cX5_findLost 24 = .ok (.lstore_n 3, 1) := z_o66 (z_wat (q := 0) (j := 24) zwX5_findLost_0 rfl)
theorem dX5_findLost_25 : decode cX5_findLost 25 = .ok (.iload 5, 2) := z_o21 (z_wat (q := 0) (j := 25) zwX5_findLost_0 rfl) (z_wat (q := 0) (j := 26) zwX5_findLost_0 rfl)
theorem dX5_findLost_27 : decode cX5_findLost 27 = .ok (.bipush 6, 2) := z_o16 (z_wat (q := 0) (j := 27) zwX5_findLost_0 rfl) (z_wat (q := 0) (j := 28) zwX5_findLost_0 rfl) rfl
theorem dX5_findLost_29 : decode cX5_findLost 29 = .ok (.irem, 1) := z_o112 (z_wat (q := 0) (j := 29) zwX5_findLost_0 rfl)
theorem dX5_findLost_30 : decode cX5_findLost 30 = .ok (.iconst 5, 1) := z_o8 (z_wat (q := 0) (j := 30) zwX5_findLost_0 rfl)
theorem dX5_findLost_31 : decode cX5_findLost 31 = .ok (.if_icmp .ne 13, 3) := z_o160 (z_wat (q := 0) (j := 31) zwX5_findLost_0 rfl) (z_wat (q := 0) (j := 32) zwX5_findLost_0 rfl) (z_wat (q := 0) (j := 33) zwX5_findLost_0 rfl) rfl
theorem zwX5_findLost_32 : ((cX5_findLost.data.toList.drop 32).take 34).map UInt8.toNat = [0, 13, 31, 42, 180, 0, 21, 21, 5, 47, 97, 64, 132, 5, 1, 167, 255, 216, 42, 33, 9, 148, 158, 0, 13, 31, 20, 0, 72, 105, 33, 109, 167, 0] := by decide +kernel
theorem dX5_findLost_34 : decode cX5_findLost 34 = .ok (.lload_n 1, 1) := z_o31 (z_wat (q := 32) (j := 2) zwX5_findLost_32 rfl)
theorem dX5_findLost_35 : decode cX5_findLost 35 = .ok (.aload_n 0, 1) := z_o42 (z_wat (q := 32) (j := 3) zwX5_findLost_32 rfl)
theorem dX5_findLost_36 : decode cX5_findLost 36 = .ok (.getfield 21, 3) := z_o180 (z_wat (q := 32) (j := 4) zwX5_findLost_32 rfl) (z_wat (q := 32) (j := 5) zwX5_findLost_32 rfl) (z_wat (q := 32) (j := 6) zwX5_findLost_32 rfl) rfl
theorem dX5_findLost_39 : decode cX5_findLost 39 = .ok (.iload 5, 2) := z_o21 (z_wat (q := 32) (j := 7) zwX5_findLost_32 rfl) (z_wat (q := 32) (j := 8) zwX5_findLost_32 rfl)
theorem dX5_findLost_41 : decode cX5_findLost 41 = .ok (.laload, 1) := z_o47 (z_wat (q := 32) (j := 9) zwX5_findLost_32 rfl)
theorem dX5_findLost_42 : decode cX5_findLost 42 = .ok (.ladd, 1) := z_o97 (z_wat (q := 32) (j := 10) zwX5_findLost_32 rfl)
theorem dX5_findLost_43 : decode cX5_findLost 43 = .ok (.lstore_n 1, 1) := z_o64 (z_wat (q := 32) (j := 11) zwX5_findLost_32 rfl)
theorem dX5_findLost_44 : decode cX5_findLost 44 = .ok (.iinc 5 1, 3) := z_o132 (z_wat (q := 32) (j := 12) zwX5_findLost_32 rfl) (z_wat (q := 32) (j := 13) zwX5_findLost_32 rfl) (z_wat (q := 32) (j := 14) zwX5_findLost_32 rfl) rfl
theorem dX5_findLost_47 : decode cX5_findLost 47 = .ok (.goto (-40), 3) := z_o167 (z_wat (q := 32) (j := 15) zwX5_findLost_32 rfl) (z_wat (q := 32) (j := 16) zwX5_findLost_32 rfl) (z_wat (q := 32) (j := 17) zwX5_findLost_32 rfl) rfl
theorem dX5_findLost_50 : decode cX5_findLost 50 = .ok (.aload_n 0, 1) := z_o42 (z_wat (q := 32) (j := 18) zwX5_findLost_32 rfl)
theorem dX5_findLost_51 : decode cX5_findLost 51 = .ok (.lload_n 3, 1) := z_o33 (z_wat (q := 32) (j := 19) zwX5_findLost_32 rfl)
theorem dX5_findLost_52 : decode cX5_findLost 52 = .ok (.lconst 0, 1) := z_o9 (z_wat (q := 32) (j := 20) zwX5_findLost_32 rfl)
theorem dX5_findLost_53 : decode cX5_findLost 53 = .ok (.lcmp, 1) := z_o148 (z_wat (q := 32) (j := 21) zwX5_findLost_32 rfl)
theorem dX5_findLost_54 : decode cX5_findLost 54 = .ok (.ifCond .le 13, 3) := z_o158 (z_wat (q := 32) (j := 22) zwX5_findLost_32 rfl) (z_wat (q := 32) (j := 23) zwX5_findLost_32 rfl) (z_wat (q := 32) (j := 24) zwX5_findLost_32 rfl) rfl
theorem dX5_findLost_57 : decode cX5_findLost 57 = .ok (.lload_n 1, 1) := z_o31 (z_wat (q := 32) (j := 25) zwX5_findLost_32 rfl)
theorem dX5_findLost_58 : decode cX5_findLost 58 = .ok (.ldc2_w 72, 3) := z_o20 (z_wat (q := 32) (j := 26) zwX5_findLost_32 rfl) (z_wat (q := 32) (j := 27) zwX5_findLost_32 rfl) (z_wat (q := 32) (j := 28) zwX5_findLost_32 rfl) rfl
theorem dX5_findLost_61 : decode cX5_findLost 61 = .ok (.lmul, 1) := z_o105 (z_wat (q := 32) (j := 29) zwX5_findLost_32 rfl)
theorem dX5_findLost_62 : decode cX5_findLost 62 = .ok (.lload_n 3, 1) := z_o33 (z_wat (q := 32) (j := 30) zwX5_findLost_32 rfl)
theorem dX5_findLost_63 : decode cX5_findLost 63 = .ok (.ldiv, 1) := z_o109 (z_wat (q := 32) (j := 31) zwX5_findLost_32 rfl)
theorem zwX5_findLost_64 : ((cX5_findLost.data.toList.drop 64).take 8).map UInt8.toNat = [167, 0, 4, 9, 181, 0, 38, 177] := by decide +kernel
theorem dX5_findLost_64 : decode cX5_findLost 64 = .ok (.goto 4, 3) := z_o167 (z_wat (q := 64) (j := 0) zwX5_findLost_64 rfl) (z_wat (q := 64) (j := 1) zwX5_findLost_64 rfl) (z_wat (q := 64) (j := 2) zwX5_findLost_64 rfl) rfl
theorem dX5_findLost_67 : decode cX5_findLost 67 = .ok (.lconst 0, 1) := z_o9 (z_wat (q := 64) (j := 3) zwX5_findLost_64 rfl)
theorem dX5_findLost_68 : decode cX5_findLost 68 = .ok (.putfield 38, 3) := z_o181 (z_wat (q := 64) (j := 4) zwX5_findLost_64 rfl) (z_wat (q := 64) (j := 5) zwX5_findLost_64 rfl) (z_wat (q := 64) (j := 6) zwX5_findLost_64 rfl) rfl
theorem dX5_findLost_71 : decode cX5_findLost 71 = .ok (.return_, 1) := z_o177 (z_wat (q := 64) (j := 7) zwX5_findLost_64 rfl)
theorem zwX5_hasKind_0 : ((cX5_hasKind.data.toList.drop 0).take 18).map UInt8.toNat = [27, 155, 0, 15, 27, 42, 180, 0, 41, 162, 0, 7, 4, 167, 0, 4, 3, 172] := by decide +kernel
theorem dX5_hasKind_0 : decode cX5_hasKind 0 = .ok (.iload_n 1, 1) := z_o27 (z_wat (q := 0) (j := 0) zwX5_hasKind_0 rfl)
theorem dX5_hasKind_1 : decode cX5_hasKind 1 = .ok (.ifCond .lt 15, 3) := z_o155 (z_wat (q := 0) (j := 1) zwX5_hasKind_0 rfl) (z_wat (q := 0) (j := 2) zwX5_hasKind_0 rfl) (z_wat (q := 0) (j := 3) zwX5_hasKind_0 rfl) rfl
theorem dX5_hasKind_4 : decode cX5_hasKind 4 = .ok (.iload_n 1, 1) := z_o27 (z_wat (q := 0) (j := 4) zwX5_hasKind_0 rfl)
theorem dX5_hasKind_5 : decode cX5_hasKind 5 = .ok (.aload_n 0, 1) := z_o42 (z_wat (q := 0) (j := 5) zwX5_hasKind_0 rfl)
theorem dX5_hasKind_6 : decode cX5_hasKind 6 = .ok (.getfield 41, 3) := z_o180 (z_wat (q := 0) (j := 6) zwX5_hasKind_0 rfl) (z_wat (q := 0) (j := 7) zwX5_hasKind_0 rfl) (z_wat (q := 0) (j := 8) zwX5_hasKind_0 rfl) rfl
theorem dX5_hasKind_9 : decode cX5_hasKind 9 = .ok (.if_icmp .ge 7, 3) := z_o162 (z_wat (q := 0) (j := 9) zwX5_hasKind_0 rfl) (z_wat (q := 0) (j := 10) zwX5_hasKind_0 rfl) (z_wat (q := 0) (j := 11) zwX5_hasKind_0 rfl) rfl
theorem dX5_hasKind_12 : decode cX5_hasKind 12 = .ok (.iconst 1, 1) := z_o4 (z_wat (q := 0) (j := 12) zwX5_hasKind_0 rfl)
theorem dX5_hasKind_13 : decode cX5_hasKind 13 = .ok (.goto 4, 3) := z_o167 (z_wat (q := 0) (j := 13) zwX5_hasKind_0 rfl) (z_wat (q := 0) (j := 14) zwX5_hasKind_0 rfl) (z_wat (q := 0) (j := 15) zwX5_hasKind_0 rfl) rfl
theorem dX5_hasKind_16 : decode cX5_hasKind 16 = .ok (.iconst 0, 1) := z_o3 (z_wat (q := 0) (j := 16) zwX5_hasKind_0 rfl)
theorem dX5_hasKind_17 : decode cX5_hasKind 17 = .ok (.ireturn, 1) := z_o172 (z_wat (q := 0) (j := 17) zwX5_hasKind_0 rfl)
theorem zwX5_hinges_0 : ((cX5_hinges.data.toList.drop 0).take 34).map UInt8.toNat = [27, 7, 104, 28, 96, 16, 6, 104, 62, 42, 180, 0, 21, 29, 3, 96, 47, 55, 4, 42, 180, 0, 21, 29, 4, 96, 47, 55, 6, 42, 180, 0, 15, 27] := by decide +kernel
theorem dX5_hinges_0 : decode cX5_hinges 0 = .ok (.iload_n 1, 1) := z_o27 (z_wat (q := 0) (j := 0) zwX5_hinges_0 rfl)
theorem dX5_hinges_1 : decode cX5_hinges 1 = .ok (.iconst 4, 1) := z_o7 (z_wat (q := 0) (j := 1) zwX5_hinges_0 rfl)
theorem dX5_hinges_2 : decode cX5_hinges 2 = .ok (.imul, 1) := z_o104 (z_wat (q := 0) (j := 2) zwX5_hinges_0 rfl)
theorem dX5_hinges_3 : decode cX5_hinges 3 = .ok (.iload_n 2, 1) := z_o28 (z_wat (q := 0) (j := 3) zwX5_hinges_0 rfl)
theorem dX5_hinges_4 : decode cX5_hinges 4 = .ok (.iadd, 1) := z_o96 (z_wat (q := 0) (j := 4) zwX5_hinges_0 rfl)
theorem dX5_hinges_5 : decode cX5_hinges 5 = .ok (.bipush 6, 2) := z_o16 (z_wat (q := 0) (j := 5) zwX5_hinges_0 rfl) (z_wat (q := 0) (j := 6) zwX5_hinges_0 rfl) rfl
theorem dX5_hinges_7 : decode cX5_hinges 7 = .ok (.imul, 1) := z_o104 (z_wat (q := 0) (j := 7) zwX5_hinges_0 rfl)
theorem dX5_hinges_8 : decode cX5_hinges 8 = .ok (.istore_n 3, 1) := z_o62 (z_wat (q := 0) (j := 8) zwX5_hinges_0 rfl)
theorem dX5_hinges_9 : decode cX5_hinges 9 = .ok (.aload_n 0, 1) := z_o42 (z_wat (q := 0) (j := 9) zwX5_hinges_0 rfl)
theorem dX5_hinges_10 : decode cX5_hinges 10 = .ok (.getfield 21, 3) := z_o180 (z_wat (q := 0) (j := 10) zwX5_hinges_0 rfl) (z_wat (q := 0) (j := 11) zwX5_hinges_0 rfl) (z_wat (q := 0) (j := 12) zwX5_hinges_0 rfl) rfl
theorem dX5_hinges_13 : decode cX5_hinges 13 = .ok (.iload_n 3, 1) := z_o29 (z_wat (q := 0) (j := 13) zwX5_hinges_0 rfl)
theorem dX5_hinges_14 : decode cX5_hinges 14 = .ok (.iconst 0, 1) := z_o3 (z_wat (q := 0) (j := 14) zwX5_hinges_0 rfl)
theorem dX5_hinges_15 : decode cX5_hinges 15 = .ok (.iadd, 1) := z_o96 (z_wat (q := 0) (j := 15) zwX5_hinges_0 rfl)
theorem dX5_hinges_16 : decode cX5_hinges 16 = .ok (.laload, 1) := z_o47 (z_wat (q := 0) (j := 16) zwX5_hinges_0 rfl)
theorem dX5_hinges_17 : decode cX5_hinges 17 = .ok (.lstore 4, 2) := z_o55 (z_wat (q := 0) (j := 17) zwX5_hinges_0 rfl) (z_wat (q := 0) (j := 18) zwX5_hinges_0 rfl)
theorem dX5_hinges_19 : decode cX5_hinges 19 = .ok (.aload_n 0, 1) := z_o42 (z_wat (q := 0) (j := 19) zwX5_hinges_0 rfl)
theorem dX5_hinges_20 : decode cX5_hinges 20 = .ok (.getfield 21, 3) := z_o180 (z_wat (q := 0) (j := 20) zwX5_hinges_0 rfl) (z_wat (q := 0) (j := 21) zwX5_hinges_0 rfl) (z_wat (q := 0) (j := 22) zwX5_hinges_0 rfl) rfl
theorem dX5_hinges_23 : decode cX5_hinges 23 = .ok (.iload_n 3, 1) := z_o29 (z_wat (q := 0) (j := 23) zwX5_hinges_0 rfl)
theorem dX5_hinges_24 : decode cX5_hinges 24 = .ok (.iconst 1, 1) := z_o4 (z_wat (q := 0) (j := 24) zwX5_hinges_0 rfl)
theorem dX5_hinges_25 : decode cX5_hinges 25 = .ok (.iadd, 1) := z_o96 (z_wat (q := 0) (j := 25) zwX5_hinges_0 rfl)
theorem dX5_hinges_26 : decode cX5_hinges 26 = .ok (.laload, 1) := z_o47 (z_wat (q := 0) (j := 26) zwX5_hinges_0 rfl)
theorem dX5_hinges_27 : decode cX5_hinges 27 = .ok (.lstore 6, 2) := z_o55 (z_wat (q := 0) (j := 27) zwX5_hinges_0 rfl) (z_wat (q := 0) (j := 28) zwX5_hinges_0 rfl)
theorem dX5_hinges_29 : decode cX5_hinges 29 = .ok (.aload_n 0, 1) := z_o42 (z_wat (q := 0) (j := 29) zwX5_hinges_0 rfl)
theorem dX5_hinges_30 : decode cX5_hinges 30 = .ok (.getfield 15, 3) := z_o180 (z_wat (q := 0) (j := 30) zwX5_hinges_0 rfl) (z_wat (q := 0) (j := 31) zwX5_hinges_0 rfl) (z_wat (q := 0) (j := 32) zwX5_hinges_0 rfl) rfl
theorem zwX5_hinges_32 : ((cX5_hinges.data.toList.drop 32).take 34).map UInt8.toNat = [15, 27, 46, 4, 160, 0, 11, 22, 4, 22, 6, 97, 167, 0, 10, 22, 4, 22, 6, 184, 0, 66, 55, 8, 42, 180, 0, 21, 29, 5, 96, 47, 22, 8] := by decide +kernel
theorem dX5_hinges_33 : decode cX5_hinges 33 = .ok (.iload_n 1, 1) := z_o27 (z_wat (q := 32) (j := 1) zwX5_hinges_32 rfl)
theorem dX5_hinges_34 : decode cX5_hinges 34 = .ok (.iaload, 1) := z_o46 (z_wat (q := 32) (j := 2) zwX5_hinges_32 rfl)
theorem dX5_hinges_35 : decode cX5_hinges 35 = .ok (.iconst 1, 1) := z_o4 (z_wat (q := 32) (j := 3) zwX5_hinges_32 rfl)
theorem dX5_hinges_36 : decode cX5_hinges 36 = .ok (.if_icmp .ne 11, 3) := z_o160 (z_wat (q := 32) (j := 4) zwX5_hinges_32 rfl) (z_wat (q := 32) (j := 5) zwX5_hinges_32 rfl) (z_wat (q := 32) (j := 6) zwX5_hinges_32 rfl) rfl
theorem dX5_hinges_39 : decode cX5_hinges 39 = .ok (.lload 4, 2) := z_o22 (z_wat (q := 32) (j := 7) zwX5_hinges_32 rfl) (z_wat (q := 32) (j := 8) zwX5_hinges_32 rfl)
theorem dX5_hinges_41 : decode cX5_hinges 41 = .ok (.lload 6, 2) := z_o22 (z_wat (q := 32) (j := 9) zwX5_hinges_32 rfl) (z_wat (q := 32) (j := 10) zwX5_hinges_32 rfl)
theorem dX5_hinges_43 : decode cX5_hinges 43 = .ok (.ladd, 1) := z_o97 (z_wat (q := 32) (j := 11) zwX5_hinges_32 rfl)
theorem dX5_hinges_44 : decode cX5_hinges 44 = .ok (.goto 10, 3) := z_o167 (z_wat (q := 32) (j := 12) zwX5_hinges_32 rfl) (z_wat (q := 32) (j := 13) zwX5_hinges_32 rfl) (z_wat (q := 32) (j := 14) zwX5_hinges_32 rfl) rfl
theorem dX5_hinges_47 : decode cX5_hinges 47 = .ok (.lload 4, 2) := z_o22 (z_wat (q := 32) (j := 15) zwX5_hinges_32 rfl) (z_wat (q := 32) (j := 16) zwX5_hinges_32 rfl)
theorem dX5_hinges_49 : decode cX5_hinges 49 = .ok (.lload 6, 2) := z_o22 (z_wat (q := 32) (j := 17) zwX5_hinges_32 rfl) (z_wat (q := 32) (j := 18) zwX5_hinges_32 rfl)
theorem dX5_hinges_51 : decode cX5_hinges 51 = .ok (.invokestatic 66, 3) := z_o184 (z_wat (q := 32) (j := 19) zwX5_hinges_32 rfl) (z_wat (q := 32) (j := 20) zwX5_hinges_32 rfl) (z_wat (q := 32) (j := 21) zwX5_hinges_32 rfl) rfl
theorem dX5_hinges_54 : decode cX5_hinges 54 = .ok (.lstore 8, 2) := z_o55 (z_wat (q := 32) (j := 22) zwX5_hinges_32 rfl) (z_wat (q := 32) (j := 23) zwX5_hinges_32 rfl)
theorem dX5_hinges_56 : decode cX5_hinges 56 = .ok (.aload_n 0, 1) := z_o42 (z_wat (q := 32) (j := 24) zwX5_hinges_32 rfl)
theorem dX5_hinges_57 : decode cX5_hinges 57 = .ok (.getfield 21, 3) := z_o180 (z_wat (q := 32) (j := 25) zwX5_hinges_32 rfl) (z_wat (q := 32) (j := 26) zwX5_hinges_32 rfl) (z_wat (q := 32) (j := 27) zwX5_hinges_32 rfl) rfl
theorem dX5_hinges_60 : decode cX5_hinges 60 = .ok (.iload_n 3, 1) := z_o29 (z_wat (q := 32) (j := 28) zwX5_hinges_32 rfl)
theorem dX5_hinges_61 : decode cX5_hinges 61 = .ok (.iconst 2, 1) := z_o5 (z_wat (q := 32) (j := 29) zwX5_hinges_32 rfl)
theorem dX5_hinges_62 : decode cX5_hinges 62 = .ok (.iadd, 1) := z_o96 (z_wat (q := 32) (j := 30) zwX5_hinges_32 rfl)
theorem dX5_hinges_63 : decode cX5_hinges 63 = .ok (.laload, 1) := z_o47 (z_wat (q := 32) (j := 31) zwX5_hinges_32 rfl)
theorem zwX5_hinges_64 : ((cX5_hinges.data.toList.drop 64).take 4).map UInt8.toNat = [22, 8, 97, 173] := by decide +kernel
theorem dX5_hinges_64 : decode cX5_hinges 64 = .ok (.lload 8, 2) := z_o22 (z_wat (q := 64) (j := 0) zwX5_hinges_64 rfl) (z_wat (q := 64) (j := 1) zwX5_hinges_64 rfl)
theorem dX5_hinges_66 : decode cX5_hinges 66 = .ok (.ladd, 1) := z_o97 (z_wat (q := 64) (j := 2) zwX5_hinges_64 rfl)
theorem dX5_hinges_67 : decode cX5_hinges 67 = .ok (.lreturn, 1) := z_o173 (z_wat (q := 64) (j := 3) zwX5_hinges_64 rfl)
theorem zwX5_lasts_0 : ((cX5_lasts.data.toList.drop 0).take 27).map UInt8.toNat = [27, 133, 28, 133, 105, 66, 33, 9, 148, 158, 0, 16, 42, 180, 0, 34, 20, 0, 74, 105, 33, 109, 167, 0, 4, 9, 173] := by decide +kernel
theorem dX5_lasts_0 : decode cX5_lasts 0 = .ok (.iload_n 1, 1) := z_o27 (z_wat (q := 0) (j := 0) zwX5_lasts_0 rfl)
theorem dX5_lasts_1 : decode cX5_lasts 1 = .ok (.i2l, 1) := z_o133 (z_wat (q := 0) (j := 1) zwX5_lasts_0 rfl)
theorem dX5_lasts_2 : decode cX5_lasts 2 = .ok (.iload_n 2, 1) := z_o28 (z_wat (q := 0) (j := 2) zwX5_lasts_0 rfl)
theorem dX5_lasts_3 : decode cX5_lasts 3 = .ok (.i2l, 1) := z_o133 (z_wat (q := 0) (j := 3) zwX5_lasts_0 rfl)
theorem dX5_lasts_4 : decode cX5_lasts 4 = .ok (.lmul, 1) := z_o105 (z_wat (q := 0) (j := 4) zwX5_lasts_0 rfl)
theorem dX5_lasts_5 : decode cX5_lasts 5 = .ok (.lstore_n 3, 1) := z_o66 (z_wat (q := 0) (j := 5) zwX5_lasts_0 rfl)
theorem dX5_lasts_6 : decode cX5_lasts 6 = .ok (.lload_n 3, 1) := z_o33 (z_wat (q := 0) (j := 6) zwX5_lasts_0 rfl)
theorem dX5_lasts_7 : decode cX5_lasts 7 = .ok (.lconst 0, 1) := z_o9 (z_wat (q := 0) (j := 7) zwX5_lasts_0 rfl)
theorem dX5_lasts_8 : decode cX5_lasts 8 = .ok (.lcmp, 1) := z_o148 (z_wat (q := 0) (j := 8) zwX5_lasts_0 rfl)
theorem dX5_lasts_9 : decode cX5_lasts 9 = .ok (.ifCond .le 16, 3) := z_o158 (z_wat (q := 0) (j := 9) zwX5_lasts_0 rfl) (z_wat (q := 0) (j := 10) zwX5_lasts_0 rfl) (z_wat (q := 0) (j := 11) zwX5_lasts_0 rfl) rfl
theorem dX5_lasts_12 : decode cX5_lasts 12 = .ok (.aload_n 0, 1) := z_o42 (z_wat (q := 0) (j := 12) zwX5_lasts_0 rfl)
theorem dX5_lasts_13 : decode cX5_lasts 13 = .ok (.getfield 34, 3) := z_o180 (z_wat (q := 0) (j := 13) zwX5_lasts_0 rfl) (z_wat (q := 0) (j := 14) zwX5_lasts_0 rfl) (z_wat (q := 0) (j := 15) zwX5_lasts_0 rfl) rfl
theorem dX5_lasts_16 : decode cX5_lasts 16 = .ok (.ldc2_w 74, 3) := z_o20 (z_wat (q := 0) (j := 16) zwX5_lasts_0 rfl) (z_wat (q := 0) (j := 17) zwX5_lasts_0 rfl) (z_wat (q := 0) (j := 18) zwX5_lasts_0 rfl) rfl
theorem dX5_lasts_19 : decode cX5_lasts 19 = .ok (.lmul, 1) := z_o105 (z_wat (q := 0) (j := 19) zwX5_lasts_0 rfl)
theorem dX5_lasts_20 : decode cX5_lasts 20 = .ok (.lload_n 3, 1) := z_o33 (z_wat (q := 0) (j := 20) zwX5_lasts_0 rfl)
theorem dX5_lasts_21 : decode cX5_lasts 21 = .ok (.ldiv, 1) := z_o109 (z_wat (q := 0) (j := 21) zwX5_lasts_0 rfl)
theorem dX5_lasts_22 : decode cX5_lasts 22 = .ok (.goto 4, 3) := z_o167 (z_wat (q := 0) (j := 22) zwX5_lasts_0 rfl) (z_wat (q := 0) (j := 23) zwX5_lasts_0 rfl) (z_wat (q := 0) (j := 24) zwX5_lasts_0 rfl) rfl
theorem dX5_lasts_25 : decode cX5_lasts 25 = .ok (.lconst 0, 1) := z_o9 (z_wat (q := 0) (j := 25) zwX5_lasts_0 rfl)
theorem dX5_lasts_26 : decode cX5_lasts 26 = .ok (.lreturn, 1) := z_o173 (z_wat (q := 0) (j := 26) zwX5_lasts_0 rfl)
theorem zwX5_name_0 : ((cX5_name.data.toList.drop 0).take 34).map UInt8.toNat = [27, 155, 0, 29, 27, 17, 3, 231, 163, 0, 22, 28, 4, 161, 0, 17, 28, 5, 163, 0, 12, 42, 180, 0, 41, 16, 6, 161, 0, 5, 2, 172, 42, 180] := by decide +kernel
theorem dX5_name_0 : decode cX5_name 0 = .ok (.iload_n 1, 1) := z_o27 (z_wat (q := 0) (j := 0) zwX5_name_0 rfl)
theorem dX5_name_1 : decode cX5_name 1 = .ok (.ifCond .lt 29, 3) := z_o155 (z_wat (q := 0) (j := 1) zwX5_name_0 rfl) (z_wat (q := 0) (j := 2) zwX5_name_0 rfl) (z_wat (q := 0) (j := 3) zwX5_name_0 rfl) rfl
theorem dX5_name_4 : decode cX5_name 4 = .ok (.iload_n 1, 1) := z_o27 (z_wat (q := 0) (j := 4) zwX5_name_0 rfl)
theorem dX5_name_5 : decode cX5_name 5 = .ok (.sipush 999, 3) := z_o17 (z_wat (q := 0) (j := 5) zwX5_name_0 rfl) (z_wat (q := 0) (j := 6) zwX5_name_0 rfl) (z_wat (q := 0) (j := 7) zwX5_name_0 rfl) rfl
theorem dX5_name_8 : decode cX5_name 8 = .ok (.if_icmp .gt 22, 3) := z_o163 (z_wat (q := 0) (j := 8) zwX5_name_0 rfl) (z_wat (q := 0) (j := 9) zwX5_name_0 rfl) (z_wat (q := 0) (j := 10) zwX5_name_0 rfl) rfl
theorem dX5_name_11 : decode cX5_name 11 = .ok (.iload_n 2, 1) := z_o28 (z_wat (q := 0) (j := 11) zwX5_name_0 rfl)
theorem dX5_name_12 : decode cX5_name 12 = .ok (.iconst 1, 1) := z_o4 (z_wat (q := 0) (j := 12) zwX5_name_0 rfl)
theorem dX5_name_13 : decode cX5_name 13 = .ok (.if_icmp .lt 17, 3) := z_o161 (z_wat (q := 0) (j := 13) zwX5_name_0 rfl) (z_wat (q := 0) (j := 14) zwX5_name_0 rfl) (z_wat (q := 0) (j := 15) zwX5_name_0 rfl) rfl
theorem dX5_name_16 : decode cX5_name 16 = .ok (.iload_n 2, 1) := z_o28 (z_wat (q := 0) (j := 16) zwX5_name_0 rfl)
theorem dX5_name_17 : decode cX5_name 17 = .ok (.iconst 2, 1) := z_o5 (z_wat (q := 0) (j := 17) zwX5_name_0 rfl)
theorem dX5_name_18 : decode cX5_name 18 = .ok (.if_icmp .gt 12, 3) := z_o163 (z_wat (q := 0) (j := 18) zwX5_name_0 rfl) (z_wat (q := 0) (j := 19) zwX5_name_0 rfl) (z_wat (q := 0) (j := 20) zwX5_name_0 rfl) rfl
theorem dX5_name_21 : decode cX5_name 21 = .ok (.aload_n 0, 1) := z_o42 (z_wat (q := 0) (j := 21) zwX5_name_0 rfl)
theorem dX5_name_22 : decode cX5_name 22 = .ok (.getfield 41, 3) := z_o180 (z_wat (q := 0) (j := 22) zwX5_name_0 rfl) (z_wat (q := 0) (j := 23) zwX5_name_0 rfl) (z_wat (q := 0) (j := 24) zwX5_name_0 rfl) rfl
theorem dX5_name_25 : decode cX5_name 25 = .ok (.bipush 6, 2) := z_o16 (z_wat (q := 0) (j := 25) zwX5_name_0 rfl) (z_wat (q := 0) (j := 26) zwX5_name_0 rfl) rfl
theorem dX5_name_27 : decode cX5_name 27 = .ok (.if_icmp .lt 5, 3) := z_o161 (z_wat (q := 0) (j := 27) zwX5_name_0 rfl) (z_wat (q := 0) (j := 28) zwX5_name_0 rfl) (z_wat (q := 0) (j := 29) zwX5_name_0 rfl) rfl
theorem dX5_name_30 : decode cX5_name 30 = .ok (.iconst (-1), 1) := z_o2 (z_wat (q := 0) (j := 30) zwX5_name_0 rfl)
theorem dX5_name_31 : decode cX5_name 31 = .ok (.ireturn, 1) := z_o172 (z_wat (q := 0) (j := 31) zwX5_name_0 rfl)
theorem zwX5_name_32 : ((cX5_name.data.toList.drop 32).take 34).map UInt8.toNat = [42, 180, 0, 11, 42, 180, 0, 41, 27, 79, 42, 180, 0, 15, 42, 180, 0, 41, 28, 79, 3, 62, 29, 7, 162, 0, 24, 42, 180, 0, 25, 42, 180, 0] := by decide +kernel
theorem dX5_name_32 : decode cX5_name 32 = .ok (.aload_n 0, 1) := z_o42 (z_wat (q := 32) (j := 0) zwX5_name_32 rfl)
theorem dX5_name_33 : decode cX5_name 33 = .ok (.getfield 11, 3) := z_o180 (z_wat (q := 32) (j := 1) zwX5_name_32 rfl) (z_wat (q := 32) (j := 2) zwX5_name_32 rfl) (z_wat (q := 32) (j := 3) zwX5_name_32 rfl) rfl
theorem dX5_name_36 : decode cX5_name 36 = .ok (.aload_n 0, 1) := z_o42 (z_wat (q := 32) (j := 4) zwX5_name_32 rfl)
theorem dX5_name_37 : decode cX5_name 37 = .ok (.getfield 41, 3) := z_o180 (z_wat (q := 32) (j := 5) zwX5_name_32 rfl) (z_wat (q := 32) (j := 6) zwX5_name_32 rfl) (z_wat (q := 32) (j := 7) zwX5_name_32 rfl) rfl
theorem dX5_name_40 : decode cX5_name 40 = .ok (.iload_n 1, 1) := z_o27 (z_wat (q := 32) (j := 8) zwX5_name_32 rfl)
theorem dX5_name_41 : decode cX5_name 41 = .ok (.iastore, 1) := z_o79 (z_wat (q := 32) (j := 9) zwX5_name_32 rfl)
theorem dX5_name_42 : decode cX5_name 42 = .ok (.aload_n 0, 1) := z_o42 (z_wat (q := 32) (j := 10) zwX5_name_32 rfl)
theorem dX5_name_43 : decode cX5_name 43 = .ok (.getfield 15, 3) := z_o180 (z_wat (q := 32) (j := 11) zwX5_name_32 rfl) (z_wat (q := 32) (j := 12) zwX5_name_32 rfl) (z_wat (q := 32) (j := 13) zwX5_name_32 rfl) rfl
theorem dX5_name_46 : decode cX5_name 46 = .ok (.aload_n 0, 1) := z_o42 (z_wat (q := 32) (j := 14) zwX5_name_32 rfl)
theorem dX5_name_47 : decode cX5_name 47 = .ok (.getfield 41, 3) := z_o180 (z_wat (q := 32) (j := 15) zwX5_name_32 rfl) (z_wat (q := 32) (j := 16) zwX5_name_32 rfl) (z_wat (q := 32) (j := 17) zwX5_name_32 rfl) rfl
theorem dX5_name_50 : decode cX5_name 50 = .ok (.iload_n 2, 1) := z_o28 (z_wat (q := 32) (j := 18) zwX5_name_32 rfl)
theorem dX5_name_51 : decode cX5_name 51 = .ok (.iastore, 1) := z_o79 (z_wat (q := 32) (j := 19) zwX5_name_32 rfl)
theorem dX5_name_52 : decode cX5_name 52 = .ok (.iconst 0, 1) := z_o3 (z_wat (q := 32) (j := 20) zwX5_name_32 rfl)
theorem dX5_name_53 : decode cX5_name 53 = .ok (.istore_n 3, 1) := z_o62 (z_wat (q := 32) (j := 21) zwX5_name_32 rfl)
theorem dX5_name_54 : decode cX5_name 54 = .ok (.iload_n 3, 1) := z_o29 (z_wat (q := 32) (j := 22) zwX5_name_32 rfl)
theorem dX5_name_55 : decode cX5_name 55 = .ok (.iconst 4, 1) := z_o7 (z_wat (q := 32) (j := 23) zwX5_name_32 rfl)
theorem dX5_name_56 : decode cX5_name 56 = .ok (.if_icmp .ge 24, 3) := z_o162 (z_wat (q := 32) (j := 24) zwX5_name_32 rfl) (z_wat (q := 32) (j := 25) zwX5_name_32 rfl) (z_wat (q := 32) (j := 26) zwX5_name_32 rfl) rfl
theorem dX5_name_59 : decode cX5_name 59 = .ok (.aload_n 0, 1) := z_o42 (z_wat (q := 32) (j := 27) zwX5_name_32 rfl)
theorem dX5_name_60 : decode cX5_name 60 = .ok (.getfield 25, 3) := z_o180 (z_wat (q := 32) (j := 28) zwX5_name_32 rfl) (z_wat (q := 32) (j := 29) zwX5_name_32 rfl) (z_wat (q := 32) (j := 30) zwX5_name_32 rfl) rfl
theorem dX5_name_63 : decode cX5_name 63 = .ok (.aload_n 0, 1) := z_o42 (z_wat (q := 32) (j := 31) zwX5_name_32 rfl)
theorem zwX5_name_64 : ((cX5_name.data.toList.drop 64).take 33).map UInt8.toNat = [180, 0, 41, 7, 104, 29, 96, 16, 16, 79, 132, 3, 1, 167, 255, 233, 42, 89, 180, 0, 41, 4, 96, 181, 0, 41, 42, 180, 0, 41, 4, 100, 172] := by decide +kernel
theorem dX5_name_64 : decode cX5_name 64 = .ok (.getfield 41, 3) := z_o180 (z_wat (q := 64) (j := 0) zwX5_name_64 rfl) (z_wat (q := 64) (j := 1) zwX5_name_64 rfl) (z_wat (q := 64) (j := 2) zwX5_name_64 rfl) rfl
theorem dX5_name_67 : decode cX5_name 67 = .ok (.iconst 4, 1) := z_o7 (z_wat (q := 64) (j := 3) zwX5_name_64 rfl)
theorem dX5_name_68 : decode cX5_name 68 = .ok (.imul, 1) := z_o104 (z_wat (q := 64) (j := 4) zwX5_name_64 rfl)
theorem dX5_name_69 : decode cX5_name 69 = .ok (.iload_n 3, 1) := z_o29 (z_wat (q := 64) (j := 5) zwX5_name_64 rfl)
theorem dX5_name_70 : decode cX5_name 70 = .ok (.iadd, 1) := z_o96 (z_wat (q := 64) (j := 6) zwX5_name_64 rfl)
theorem dX5_name_71 : decode cX5_name 71 = .ok (.bipush 16, 2) := z_o16 (z_wat (q := 64) (j := 7) zwX5_name_64 rfl) (z_wat (q := 64) (j := 8) zwX5_name_64 rfl) rfl
theorem dX5_name_73 : decode cX5_name 73 = .ok (.iastore, 1) := z_o79 (z_wat (q := 64) (j := 9) zwX5_name_64 rfl)
theorem dX5_name_74 : decode cX5_name 74 = .ok (.iinc 3 1, 3) := z_o132 (z_wat (q := 64) (j := 10) zwX5_name_64 rfl) (z_wat (q := 64) (j := 11) zwX5_name_64 rfl) (z_wat (q := 64) (j := 12) zwX5_name_64 rfl) rfl
theorem dX5_name_77 : decode cX5_name 77 = .ok (.goto (-23), 3) := z_o167 (z_wat (q := 64) (j := 13) zwX5_name_64 rfl) (z_wat (q := 64) (j := 14) zwX5_name_64 rfl) (z_wat (q := 64) (j := 15) zwX5_name_64 rfl) rfl
theorem dX5_name_80 : decode cX5_name 80 = .ok (.aload_n 0, 1) := z_o42 (z_wat (q := 64) (j := 16) zwX5_name_64 rfl)
theorem dX5_name_81 : decode cX5_name 81 = .ok (.dup, 1) := z_o89 (z_wat (q := 64) (j := 17) zwX5_name_64 rfl)
theorem dX5_name_82 : decode cX5_name 82 = .ok (.getfield 41, 3) := z_o180 (z_wat (q := 64) (j := 18) zwX5_name_64 rfl) (z_wat (q := 64) (j := 19) zwX5_name_64 rfl) (z_wat (q := 64) (j := 20) zwX5_name_64 rfl) rfl
theorem dX5_name_85 : decode cX5_name 85 = .ok (.iconst 1, 1) := z_o4 (z_wat (q := 64) (j := 21) zwX5_name_64 rfl)
theorem dX5_name_86 : decode cX5_name 86 = .ok (.iadd, 1) := z_o96 (z_wat (q := 64) (j := 22) zwX5_name_64 rfl)
theorem dX5_name_87 : decode cX5_name 87 = .ok (.putfield 41, 3) := z_o181 (z_wat (q := 64) (j := 23) zwX5_name_64 rfl) (z_wat (q := 64) (j := 24) zwX5_name_64 rfl) (z_wat (q := 64) (j := 25) zwX5_name_64 rfl) rfl
theorem dX5_name_90 : decode cX5_name 90 = .ok (.aload_n 0, 1) := z_o42 (z_wat (q := 64) (j := 26) zwX5_name_64 rfl)
theorem dX5_name_91 : decode cX5_name 91 = .ok (.getfield 41, 3) := z_o180 (z_wat (q := 64) (j := 27) zwX5_name_64 rfl) (z_wat (q := 64) (j := 28) zwX5_name_64 rfl) (z_wat (q := 64) (j := 29) zwX5_name_64 rfl) rfl
theorem dX5_name_94 : decode cX5_name 94 = .ok (.iconst 1, 1) := z_o4 (z_wat (q := 64) (j := 30) zwX5_name_64 rfl)
theorem dX5_name_95 : decode cX5_name 95 = .ok (.isub, 1) := z_o100 (z_wat (q := 64) (j := 31) zwX5_name_64 rfl)
theorem zwX5_name_96 : ((cX5_name.data.toList.drop 96).take 1).map UInt8.toNat = [172] := by decide +kernel
theorem dX5_name_96 : decode cX5_name 96 = .ok (.ireturn, 1) := z_o172 (z_wat (q := 96) (j := 0) zwX5_name_96 rfl)
theorem zwX5_putRight_0 : ((cX5_putRight.data.toList.drop 0).take 34).map UInt8.toNat = [9, 65, 9, 55, 4, 3, 54, 6, 21, 6, 7, 162, 0, 60, 42, 27, 21, 6, 182, 0, 58, 55, 7, 42, 180, 0, 25, 27, 7, 104, 21, 6, 96, 46] := by decide +kernel
theorem dX5_putRight_0 : decode cX5_putRight 0 = .ok (.lconst 0, 1) := z_o9 (z_wat (q := 0) (j := 0) zwX5_putRight_0 rfl)
theorem dX5_putRight_1 : decode cX5_putRight 1 = .ok (.lstore_n 2, 1) := z_o65 (z_wat (q := 0) (j := 1) zwX5_putRight_0 rfl)
theorem dX5_putRight_2 : decode cX5_putRight 2 = .ok (.lconst 0, 1) := z_o9 (z_wat (q := 0) (j := 2) zwX5_putRight_0 rfl)
theorem dX5_putRight_3 : decode cX5_putRight 3 = .ok (.lstore 4, 2) := z_o55 (z_wat (q := 0) (j := 3) zwX5_putRight_0 rfl) (z_wat (q := 0) (j := 4) zwX5_putRight_0 rfl)
theorem dX5_putRight_5 : decode cX5_putRight 5 = .ok (.iconst 0, 1) := z_o3 (z_wat (q := 0) (j := 5) zwX5_putRight_0 rfl)
theorem dX5_putRight_6 : decode cX5_putRight 6 = .ok (.istore 6, 2) := z_o54 (z_wat (q := 0) (j := 6) zwX5_putRight_0 rfl) (z_wat (q := 0) (j := 7) zwX5_putRight_0 rfl)
theorem dX5_putRight_8 : decode cX5_putRight 8 = .ok (.iload 6, 2) := z_o21 (z_wat (q := 0) (j := 8) zwX5_putRight_0 rfl) (z_wat (q := 0) (j := 9) zwX5_putRight_0 rfl)
theorem dX5_putRight_10 : decode cX5_putRight 10 = .ok (.iconst 4, 1) := z_o7 (z_wat (q := 0) (j := 10) zwX5_putRight_0 rfl)
theorem dX5_putRight_11 : decode cX5_putRight 11 = .ok (.if_icmp .ge 60, 3) := z_o162 (z_wat (q := 0) (j := 11) zwX5_putRight_0 rfl) (z_wat (q := 0) (j := 12) zwX5_putRight_0 rfl) (z_wat (q := 0) (j := 13) zwX5_putRight_0 rfl) rfl
theorem dX5_putRight_14 : decode cX5_putRight 14 = .ok (.aload_n 0, 1) := z_o42 (z_wat (q := 0) (j := 14) zwX5_putRight_0 rfl)
theorem dX5_putRight_15 : decode cX5_putRight 15 = .ok (.iload_n 1, 1) := z_o27 (z_wat (q := 0) (j := 15) zwX5_putRight_0 rfl)
theorem dX5_putRight_16 : decode cX5_putRight 16 = .ok (.iload 6, 2) := z_o21 (z_wat (q := 0) (j := 16) zwX5_putRight_0 rfl) (z_wat (q := 0) (j := 17) zwX5_putRight_0 rfl)
theorem dX5_putRight_18 : decode cX5_putRight 18 = .ok (.invokevirtual 58, 3) := z_o182 (z_wat (q := 0) (j := 18) zwX5_putRight_0 rfl) (z_wat (q := 0) (j := 19) zwX5_putRight_0 rfl) (z_wat (q := 0) (j := 20) zwX5_putRight_0 rfl) rfl
theorem dX5_putRight_21 : decode cX5_putRight 21 = .ok (.lstore 7, 2) := z_o55 (z_wat (q := 0) (j := 21) zwX5_putRight_0 rfl) (z_wat (q := 0) (j := 22) zwX5_putRight_0 rfl)
theorem dX5_putRight_23 : decode cX5_putRight 23 = .ok (.aload_n 0, 1) := z_o42 (z_wat (q := 0) (j := 23) zwX5_putRight_0 rfl)
theorem dX5_putRight_24 : decode cX5_putRight 24 = .ok (.getfield 25, 3) := z_o180 (z_wat (q := 0) (j := 24) zwX5_putRight_0 rfl) (z_wat (q := 0) (j := 25) zwX5_putRight_0 rfl) (z_wat (q := 0) (j := 26) zwX5_putRight_0 rfl) rfl
theorem dX5_putRight_27 : decode cX5_putRight 27 = .ok (.iload_n 1, 1) := z_o27 (z_wat (q := 0) (j := 27) zwX5_putRight_0 rfl)
theorem dX5_putRight_28 : decode cX5_putRight 28 = .ok (.iconst 4, 1) := z_o7 (z_wat (q := 0) (j := 28) zwX5_putRight_0 rfl)
theorem dX5_putRight_29 : decode cX5_putRight 29 = .ok (.imul, 1) := z_o104 (z_wat (q := 0) (j := 29) zwX5_putRight_0 rfl)
theorem dX5_putRight_30 : decode cX5_putRight 30 = .ok (.iload 6, 2) := z_o21 (z_wat (q := 0) (j := 30) zwX5_putRight_0 rfl) (z_wat (q := 0) (j := 31) zwX5_putRight_0 rfl)
theorem zwX5_putRight_32 : ((cX5_putRight.data.toList.drop 32).take 34).map UInt8.toNat = [96, 46, 54, 9, 32, 22, 7, 97, 65, 21, 9, 158, 0, 22, 22, 4, 22, 7, 20, 0, 62, 105, 20, 0, 64, 21, 9, 133, 109, 105, 97, 55, 4, 132] := by decide +kernel
theorem dX5_putRight_32 : decode cX5_putRight 32 = .ok (.iadd, 1) := z_o96 (z_wat (q := 32) (j := 0) zwX5_putRight_32 rfl)
theorem dX5_putRight_33 : decode cX5_putRight 33 = .ok (.iaload, 1) := z_o46 (z_wat (q := 32) (j := 1) zwX5_putRight_32 rfl)
theorem dX5_putRight_34 : decode cX5_putRight 34 = .ok (.istore 9, 2) := z_o54 (z_wat (q := 32) (j := 2) zwX5_putRight_32 rfl) (z_wat (q := 32) (j := 3) zwX5_putRight_32 rfl)
theorem dX5_putRight_36 : decode cX5_putRight 36 = .ok (.lload_n 2, 1) := z_o32 (z_wat (q := 32) (j := 4) zwX5_putRight_32 rfl)
theorem dX5_putRight_37 : decode cX5_putRight 37 = .ok (.lload 7, 2) := z_o22 (z_wat (q := 32) (j := 5) zwX5_putRight_32 rfl) (z_wat (q := 32) (j := 6) zwX5_putRight_32 rfl)
theorem dX5_putRight_39 : decode cX5_putRight 39 = .ok (.ladd, 1) := z_o97 (z_wat (q := 32) (j := 7) zwX5_putRight_32 rfl)
theorem dX5_putRight_40 : decode cX5_putRight 40 = .ok (.lstore_n 2, 1) := z_o65 (z_wat (q := 32) (j := 8) zwX5_putRight_32 rfl)
theorem dX5_putRight_41 : decode cX5_putRight 41 = .ok (.iload 9, 2) := z_o21 (z_wat (q := 32) (j := 9) zwX5_putRight_32 rfl) (z_wat (q := 32) (j := 10) zwX5_putRight_32 rfl)
theorem dX5_putRight_43 : decode cX5_putRight 43 = .ok (.ifCond .le 22, 3) := z_o158 (z_wat (q := 32) (j := 11) zwX5_putRight_32 rfl) (z_wat (q := 32) (j := 12) zwX5_putRight_32 rfl) (z_wat (q := 32) (j := 13) zwX5_putRight_32 rfl) rfl
theorem dX5_putRight_46 : decode cX5_putRight 46 = .ok (.lload 4, 2) := z_o22 (z_wat (q := 32) (j := 14) zwX5_putRight_32 rfl) (z_wat (q := 32) (j := 15) zwX5_putRight_32 rfl)
theorem dX5_putRight_48 : decode cX5_putRight 48 = .ok (.lload 7, 2) := z_o22 (z_wat (q := 32) (j := 16) zwX5_putRight_32 rfl) (z_wat (q := 32) (j := 17) zwX5_putRight_32 rfl)
theorem dX5_putRight_50 : decode cX5_putRight 50 = .ok (.ldc2_w 62, 3) := z_o20 (z_wat (q := 32) (j := 18) zwX5_putRight_32 rfl) (z_wat (q := 32) (j := 19) zwX5_putRight_32 rfl) (z_wat (q := 32) (j := 20) zwX5_putRight_32 rfl) rfl
theorem dX5_putRight_53 : decode cX5_putRight 53 = .ok (.lmul, 1) := z_o105 (z_wat (q := 32) (j := 21) zwX5_putRight_32 rfl)
theorem dX5_putRight_54 : decode cX5_putRight 54 = .ok (.ldc2_w 64, 3) := z_o20 (z_wat (q := 32) (j := 22) zwX5_putRight_32 rfl) (z_wat (q := 32) (j := 23) zwX5_putRight_32 rfl) (z_wat (q := 32) (j := 24) zwX5_putRight_32 rfl) rfl
theorem dX5_putRight_57 : decode cX5_putRight 57 = .ok (.iload 9, 2) := z_o21 (z_wat (q := 32) (j := 25) zwX5_putRight_32 rfl) (z_wat (q := 32) (j := 26) zwX5_putRight_32 rfl)
theorem dX5_putRight_59 : decode cX5_putRight 59 = .ok (.i2l, 1) := z_o133 (z_wat (q := 32) (j := 27) zwX5_putRight_32 rfl)
theorem dX5_putRight_60 : decode cX5_putRight 60 = .ok (.ldiv, 1) := z_o109 (z_wat (q := 32) (j := 28) zwX5_putRight_32 rfl)
theorem dX5_putRight_61 : decode cX5_putRight 61 = .ok (.lmul, 1) := z_o105 (z_wat (q := 32) (j := 29) zwX5_putRight_32 rfl)
theorem dX5_putRight_62 : decode cX5_putRight 62 = .ok (.ladd, 1) := z_o97 (z_wat (q := 32) (j := 30) zwX5_putRight_32 rfl)
theorem dX5_putRight_63 : decode cX5_putRight 63 = .ok (.lstore 4, 2) := z_o55 (z_wat (q := 32) (j := 31) zwX5_putRight_32 rfl) (z_wat (q := 32) (j := 32) zwX5_putRight_32 rfl)
theorem zwX5_putRight_64 : ((cX5_putRight.data.toList.drop 64).take 27).map UInt8.toNat = [4, 132, 6, 1, 167, 255, 196, 42, 180, 0, 28, 27, 32, 80, 42, 180, 0, 31, 27, 22, 4, 20, 0, 64, 109, 80, 177] := by decide +kernel
theorem dX5_putRight_65 : decode cX5_putRight 65 = .ok (.iinc 6 1, 3) := z_o132 (z_wat (q := 64) (j := 1) zwX5_putRight_64 rfl) (z_wat (q := 64) (j := 2) zwX5_putRight_64 rfl) (z_wat (q := 64) (j := 3) zwX5_putRight_64 rfl) rfl
theorem dX5_putRight_68 : decode cX5_putRight 68 = .ok (.goto (-60), 3) := z_o167 (z_wat (q := 64) (j := 4) zwX5_putRight_64 rfl) (z_wat (q := 64) (j := 5) zwX5_putRight_64 rfl) (z_wat (q := 64) (j := 6) zwX5_putRight_64 rfl) rfl
theorem dX5_putRight_71 : decode cX5_putRight 71 = .ok (.aload_n 0, 1) := z_o42 (z_wat (q := 64) (j := 7) zwX5_putRight_64 rfl)
theorem dX5_putRight_72 : decode cX5_putRight 72 = .ok (.getfield 28, 3) := z_o180 (z_wat (q := 64) (j := 8) zwX5_putRight_64 rfl) (z_wat (q := 64) (j := 9) zwX5_putRight_64 rfl) (z_wat (q := 64) (j := 10) zwX5_putRight_64 rfl) rfl
theorem dX5_putRight_75 : decode cX5_putRight 75 = .ok (.iload_n 1, 1) := z_o27 (z_wat (q := 64) (j := 11) zwX5_putRight_64 rfl)
theorem dX5_putRight_76 : decode cX5_putRight 76 = .ok (.lload_n 2, 1) := z_o32 (z_wat (q := 64) (j := 12) zwX5_putRight_64 rfl)
theorem dX5_putRight_77 : decode cX5_putRight 77 = .ok (.lastore, 1) := z_o80 (z_wat (q := 64) (j := 13) zwX5_putRight_64 rfl)
theorem dX5_putRight_78 : decode cX5_putRight 78 = .ok (.aload_n 0, 1) := z_o42 (z_wat (q := 64) (j := 14) zwX5_putRight_64 rfl)
theorem dX5_putRight_79 : decode cX5_putRight 79 = .ok (.getfield 31, 3) := z_o180 (z_wat (q := 64) (j := 15) zwX5_putRight_64 rfl) (z_wat (q := 64) (j := 16) zwX5_putRight_64 rfl) (z_wat (q := 64) (j := 17) zwX5_putRight_64 rfl) rfl
theorem dX5_putRight_82 : decode cX5_putRight 82 = .ok (.iload_n 1, 1) := z_o27 (z_wat (q := 64) (j := 18) zwX5_putRight_64 rfl)
theorem dX5_putRight_83 : decode cX5_putRight 83 = .ok (.lload 4, 2) := z_o22 (z_wat (q := 64) (j := 19) zwX5_putRight_64 rfl) (z_wat (q := 64) (j := 20) zwX5_putRight_64 rfl)
theorem dX5_putRight_85 : decode cX5_putRight 85 = .ok (.ldc2_w 64, 3) := z_o20 (z_wat (q := 64) (j := 21) zwX5_putRight_64 rfl) (z_wat (q := 64) (j := 22) zwX5_putRight_64 rfl) (z_wat (q := 64) (j := 23) zwX5_putRight_64 rfl) rfl
theorem dX5_putRight_88 : decode cX5_putRight 88 = .ok (.ldiv, 1) := z_o109 (z_wat (q := 64) (j := 24) zwX5_putRight_64 rfl)
theorem dX5_putRight_89 : decode cX5_putRight 89 = .ok (.lastore, 1) := z_o80 (z_wat (q := 64) (j := 25) zwX5_putRight_64 rfl)
theorem dX5_putRight_90 : decode cX5_putRight 90 = .ok (.return_, 1) := z_o177 (z_wat (q := 64) (j := 26) zwX5_putRight_64 rfl)
