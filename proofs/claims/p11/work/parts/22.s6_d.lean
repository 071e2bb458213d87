theorem zwX12_aheadOf_0 : ((cX12_aheadOf.data.toList.drop 0).take 34).map UInt8.toNat = [42, 180, 0, 167, 4, 160, 0, 5, 2, 172, 2, 61, 3, 62, 29, 16, 12, 162, 0, 44, 42, 180, 0, 35, 16, 12, 27, 104, 29, 96, 51, 153, 0, 24] := by decide +kernel
theorem dX12_aheadOf_0 : decode cX12_aheadOf 0 = .ok (.aload_n 0, 1) := z_o42 (z_wat (q := 0) (j := 0) zwX12_aheadOf_0 rfl)
theorem dX12_aheadOf_1 : decode cX12_aheadOf 1 = .ok (.getfield 167, 3) := z_o180 (z_wat (q := 0) (j := 1) zwX12_aheadOf_0 rfl) (z_wat (q := 0) (j := 2) zwX12_aheadOf_0 rfl) (z_wat (q := 0) (j := 3) zwX12_aheadOf_0 rfl) rfl
theorem dX12_aheadOf_4 : decode cX12_aheadOf 4 = .ok (.iconst 1, 1) := z_o4 (z_wat (q := 0) (j := 4) zwX12_aheadOf_0 rfl)
theorem dX12_aheadOf_5 : decode cX12_aheadOf 5 = .ok (.if_icmp .ne 5, 3) := z_o160 (z_wat (q := 0) (j := 5) zwX12_aheadOf_0 rfl) (z_wat (q := 0) (j := 6) zwX12_aheadOf_0 rfl) (z_wat (q := 0) (j := 7) zwX12_aheadOf_0 rfl) rfl
theorem dX12_aheadOf_8 : decode cX12_aheadOf 8 = .ok (.iconst (-1), 1) := z_o2 (z_wat (q := 0) (j := 8) zwX12_aheadOf_0 rfl)
theorem dX12_aheadOf_9 : decode cX12_aheadOf 9 = .ok (.ireturn, 1) := z_o172 (z_wat (q := 0) (j := 9) zwX12_aheadOf_0 rfl)
theorem dX12_aheadOf_10 : decode cX12_aheadOf 10 = .ok (.iconst (-1), 1) := z_o2 (z_wat (q := 0) (j := 10) zwX12_aheadOf_0 rfl)
theorem dX12_aheadOf_11 : decode cX12_aheadOf 11 = .ok (.istore_n 2, 1) := z_o61 (z_wat (q := 0) (j := 11) zwX12_aheadOf_0 rfl)
theorem dX12_aheadOf_12 : decode cX12_aheadOf 12 = .ok (.iconst 0, 1) := z_o3 (z_wat (q := 0) (j := 12) zwX12_aheadOf_0 rfl)
theorem dX12_aheadOf_13 : decode cX12_aheadOf 13 = .ok (.istore_n 3, 1) := z_o62 (z_wat (q := 0) (j := 13) zwX12_aheadOf_0 rfl)
theorem dX12_aheadOf_14 : decode cX12_aheadOf 14 = .ok (.iload_n 3, 1) := z_o29 (z_wat (q := 0) (j := 14) zwX12_aheadOf_0 rfl)
theorem dX12_aheadOf_15 : decode cX12_aheadOf 15 = .ok (.bipush 12, 2) := z_o16 (z_wat (q := 0) (j := 15) zwX12_aheadOf_0 rfl) (z_wat (q := 0) (j := 16) zwX12_aheadOf_0 rfl) rfl
theorem dX12_aheadOf_17 : decode cX12_aheadOf 17 = .ok (.if_icmp .ge 44, 3) := z_o162 (z_wat (q := 0) (j := 17) zwX12_aheadOf_0 rfl) (z_wat (q := 0) (j := 18) zwX12_aheadOf_0 rfl) (z_wat (q := 0) (j := 19) zwX12_aheadOf_0 rfl) rfl
theorem dX12_aheadOf_20 : decode cX12_aheadOf 20 = .ok (.aload_n 0, 1) := z_o42 (z_wat (q := 0) (j := 20) zwX12_aheadOf_0 rfl)
theorem dX12_aheadOf_21 : decode cX12_aheadOf 21 = .ok (.getfield 35, 3) := z_o180 (z_wat (q := 0) (j := 21) zwX12_aheadOf_0 rfl) (z_wat (q := 0) (j := 22) zwX12_aheadOf_0 rfl) (z_wat (q := 0) (j := 23) zwX12_aheadOf_0 rfl) rfl
theorem dX12_aheadOf_24 : decode cX12_aheadOf 24 = .ok (.bipush 12, 2) := z_o16 (z_wat (q := 0) (j := 24) zwX12_aheadOf_0 rfl) (z_wat (q := 0) (j := 25) zwX12_aheadOf_0 rfl) rfl
theorem dX12_aheadOf_26 : decode cX12_aheadOf 26 = .ok (.iload_n 1, 1) := z_o27 (z_wat (q := 0) (j := 26) zwX12_aheadOf_0 rfl)
theorem dX12_aheadOf_27 : decode cX12_aheadOf 27 = .ok (.imul, 1) := z_o104 (z_wat (q := 0) (j := 27) zwX12_aheadOf_0 rfl)
theorem dX12_aheadOf_28 : decode cX12_aheadOf 28 = .ok (.iload_n 3, 1) := z_o29 (z_wat (q := 0) (j := 28) zwX12_aheadOf_0 rfl)
theorem dX12_aheadOf_29 : decode cX12_aheadOf 29 = .ok (.iadd, 1) := z_o96 (z_wat (q := 0) (j := 29) zwX12_aheadOf_0 rfl)
theorem dX12_aheadOf_30 : decode cX12_aheadOf 30 = .ok (.baload, 1) := z_o51 (z_wat (q := 0) (j := 30) zwX12_aheadOf_0 rfl)
theorem dX12_aheadOf_31 : decode cX12_aheadOf 31 = .ok (.ifCond .eq 24, 3) := z_o153 (z_wat (q := 0) (j := 31) zwX12_aheadOf_0 rfl) (z_wat (q := 0) (j := 32) zwX12_aheadOf_0 rfl) (z_wat (q := 0) (j := 33) zwX12_aheadOf_0 rfl) rfl
theorem zwX12_aheadOf_32 : ((cX12_aheadOf.data.toList.drop 32).take 31).map UInt8.toNat = [0, 24, 28, 155, 0, 18, 42, 180, 0, 38, 29, 46, 42, 180, 0, 38, 28, 46, 164, 0, 5, 29, 61, 132, 3, 1, 167, 255, 212, 28, 172] := by decide +kernel
theorem dX12_aheadOf_34 : decode cX12_aheadOf 34 = .ok (.iload_n 2, 1) := z_o28 (z_wat (q := 32) (j := 2) zwX12_aheadOf_32 rfl)
theorem dX12_aheadOf_35 : decode cX12_aheadOf 35 = .ok (.ifCond .lt 18, 3) := z_o155 (z_wat (q := 32) (j := 3) zwX12_aheadOf_32 rfl) (z_wat (q := 32) (j := 4) zwX12_aheadOf_32 rfl) (z_wat (q := 32) (j := 5) zwX12_aheadOf_32 rfl) rfl
theorem dX12_aheadOf_38 : decode cX12_aheadOf 38 = .ok (.aload_n 0, 1) := z_o42 (z_wat (q := 32) (j := 6) zwX12_aheadOf_32 rfl)
theorem dX12_aheadOf_39 : decode cX12_aheadOf 39 = .ok (.getfield 38, 3) := z_o180 (z_wat (q := 32) (j := 7) zwX12_aheadOf_32 rfl) (z_wat (q := 32) (j := 8) zwX12_aheadOf_32 rfl) (z_wat (q := 32) (j := 9) zwX12_aheadOf_32 rfl) rfl
theorem dX12_aheadOf_42 : decode cX12_aheadOf 42 = .ok (.iload_n 3, 1) := z_o29 (z_wat (q := 32) (j := 10) zwX12_aheadOf_32 rfl)
theorem dX12_aheadOf_43 : decode cX12_aheadOf 43 = .ok (.iaload, 1) := z_o46 (z_wat (q := 32) (j := 11) zwX12_aheadOf_32 rfl)
theorem dX12_aheadOf_44 : decode cX12_aheadOf 44 = .ok (.aload_n 0, 1) := z_o42 (z_wat (q := 32) (j := 12) zwX12_aheadOf_32 rfl)
theorem dX12_aheadOf_45 : decode cX12_aheadOf 45 = .ok (.getfield 38, 3) := z_o180 (z_wat (q := 32) (j := 13) zwX12_aheadOf_32 rfl) (z_wat (q := 32) (j := 14) zwX12_aheadOf_32 rfl) (z_wat (q := 32) (j := 15) zwX12_aheadOf_32 rfl) rfl
theorem dX12_aheadOf_48 : decode cX12_aheadOf 48 = .ok (.iload_n 2, 1) := z_o28 (z_wat (q := 32) (j := 16) zwX12_aheadOf_32 rfl)
theorem dX12_aheadOf_49 : decode cX12_aheadOf 49 = .ok (.iaload, 1) := z_o46 (z_wat (q := 32) (j := 17) zwX12_aheadOf_32 rfl)
theorem dX12_aheadOf_50 : decode cX12_aheadOf 50 = .ok (.if_icmp .le 5, 3) := z_o164 (z_wat (q := 32) (j := 18) zwX12_aheadOf_32 rfl) (z_wat (q := 32) (j := 19) zwX12_aheadOf_32 rfl) (z_wat (q := 32) (j := 20) zwX12_aheadOf_32 rfl) rfl
theorem dX12_aheadOf_53 : decode cX12_aheadOf 53 = .ok (.iload_n 3, 1) := z_o29 (z_wat (q := 32) (j := 21) zwX12_aheadOf_32 rfl)
theorem dX12_aheadOf_54 : decode cX12_aheadOf 54 = .ok (.istore_n 2, 1) := z_o61 (z_wat (q := 32) (j := 22) zwX12_aheadOf_32 rfl)
theorem dX12_aheadOf_55 : decode cX12_aheadOf 55 = .ok (.iinc 3 1, 3) := z_o132 (z_wat (q := 32) (j := 23) zwX12_aheadOf_32 rfl) (z_wat (q := 32) (j := 24) zwX12_aheadOf_32 rfl) (z_wat (q := 32) (j := 25) zwX12_aheadOf_32 rfl) rfl
theorem dX12_aheadOf_58 : decode cX12_aheadOf 58 = .ok (.goto (-44), 3) := z_o167 (z_wat (q := 32) (j := 26) zwX12_aheadOf_32 rfl) (z_wat (q := 32) (j := 27) zwX12_aheadOf_32 rfl) (z_wat (q := 32) (j := 28) zwX12_aheadOf_32 rfl) rfl
theorem dX12_aheadOf_61 : decode cX12_aheadOf 61 = .ok (.iload_n 2, 1) := z_o28 (z_wat (q := 32) (j := 29) zwX12_aheadOf_32 rfl)
theorem dX12_aheadOf_62 : decode cX12_aheadOf 62 = .ok (.ireturn, 1) := z_o172 (z_wat (q := 32) (j := 30) zwX12_aheadOf_32 rfl)
theorem zwX12_big_0 : ((cX12_big.data.toList.drop 0).take 13).map UInt8.toNat = [30, 9, 148, 156, 0, 8, 30, 117, 167, 0, 4, 30, 173] := by decide +kernel
theorem dX12_big_0 : decode cX12_big 0 = .ok (.lload_n 0, 1) := z_o30 (z_wat (q := 0) (j := 0) zwX12_big_0 rfl)
theorem dX12_big_1 : decode cX12_big 1 = .ok (.lconst 0, 1) := z_o9 (z_wat (q := 0) (j := 1) zwX12_big_0 rfl)
theorem dX12_big_2 : decode cX12_big 2 = .ok (.lcmp, 1) := z_o148 (z_wat (q := 0) (j := 2) zwX12_big_0 rfl)
theorem dX12_big_3 : decode cX12_big 3 = .ok (.ifCond .ge 8, 3) := z_o156 (z_wat (q := 0) (j := 3) zwX12_big_0 rfl) (z_wat (q := 0) (j := 4) zwX12_big_0 rfl) (z_wat (q := 0) (j := 5) zwX12_big_0 rfl) rfl
theorem dX12_big_6 : decode cX12_big 6 = .ok (.lload_n 0, 1) := z_o30 (z_wat (q := 0) (j := 6) zwX12_big_0 rfl)
theorem dX12_big_7 : decode cX12_big 7 = .ok (.lneg, 1) := z_o117 (z_wat (q := 0) (j := 7) zwX12_big_0 rfl)
theorem dX12_big_8 : decode cX12_big 8 = .ok (.goto 4, 3) := z_o167 (z_wat (q := 0) (j := 8) zwX12_big_0 rfl) (z_wat (q := 0) (j := 9) zwX12_big_0 rfl) (z_wat (q := 0) (j := 10) zwX12_big_0 rfl) rfl
theorem dX12_big_11 : decode cX12_big 11 = .ok (.lload_n 0, 1) := z_o30 (z_wat (q := 0) (j := 11) zwX12_big_0 rfl)
theorem dX12_big_12 : decode cX12_big 12 = .ok (.lreturn, 1) := z_o173 (z_wat (q := 0) (j := 12) zwX12_big_0 rfl)
theorem zwX12_column_0 : ((cX12_column.data.toList.drop 0).take 34).map UInt8.toNat = [42, 3, 181, 0, 145, 42, 180, 0, 181, 16, 10, 159, 0, 27, 27, 155, 0, 23, 27, 42, 180, 0, 47, 162, 0, 15, 28, 155, 0, 11, 28, 42, 180, 0] := by decide +kernel
theorem dX12_column_0 : decode cX12_column 0 = .ok (.aload_n 0, 1) := z_o42 (z_wat (q := 0) (j := 0) zwX12_column_0 rfl)
theorem dX12_column_1 : decode cX12_column 1 = .ok (.iconst 0, 1) := z_o3 (z_wat (q := 0) (j := 1) zwX12_column_0 rfl)
theorem dX12_column_2 : decode cX12_column 2 = .ok (.putfield 145, 3) := z_o181 (z_wat (q := 0) (j := 2) zwX12_column_0 rfl) (z_wat (q := 0) (j := 3) zwX12_column_0 rfl) (z_wat (q := 0) (j := 4) zwX12_column_0 rfl) rfl
theorem dX12_column_5 : decode cX12_column 5 = .ok (.aload_n 0, 1) := z_o42 (z_wat (q := 0) (j := 5) zwX12_column_0 rfl)
theorem dX12_column_6 : decode cX12_column 6 = .ok (.getfield 181, 3) := z_o180 (z_wat (q := 0) (j := 6) zwX12_column_0 rfl) (z_wat (q := 0) (j := 7) zwX12_column_0 rfl) (z_wat (q := 0) (j := 8) zwX12_column_0 rfl) rfl
theorem dX12_column_9 : decode cX12_column 9 = .ok (.bipush 10, 2) := z_o16 (z_wat (q := 0) (j := 9) zwX12_column_0 rfl) (z_wat (q := 0) (j := 10) zwX12_column_0 rfl) rfl
theorem dX12_column_11 : decode cX12_column 11 = .ok (.if_icmp .eq 27, 3) := z_o159 (z_wat (q := 0) (j := 11) zwX12_column_0 rfl) (z_wat (q := 0) (j := 12) zwX12_column_0 rfl) (z_wat (q := 0) (j := 13) zwX12_column_0 rfl) rfl
theorem dX12_column_14 : decode cX12_column 14 = .ok (.iload_n 1, 1) := z_o27 (z_wat (q := 0) (j := 14) zwX12_column_0 rfl)
theorem dX12_column_15 : decode cX12_column 15 = .ok (.ifCond .lt 23, 3) := z_o155 (z_wat (q := 0) (j := 15) zwX12_column_0 rfl) (z_wat (q := 0) (j := 16) zwX12_column_0 rfl) (z_wat (q := 0) (j := 17) zwX12_column_0 rfl) rfl
theorem dX12_column_18 : decode cX12_column 18 = .ok (.iload_n 1, 1) := z_o27 (z_wat (q := 0) (j := 18) zwX12_column_0 rfl)
theorem dX12_column_19 : decode cX12_column 19 = .ok (.aload_n 0, 1) := z_o42 (z_wat (q := 0) (j := 19) zwX12_column_0 rfl)
theorem dX12_column_20 : decode cX12_column 20 = .ok (.getfield 47, 3) := z_o180 (z_wat (q := 0) (j := 20) zwX12_column_0 rfl) (z_wat (q := 0) (j := 21) zwX12_column_0 rfl) (z_wat (q := 0) (j := 22) zwX12_column_0 rfl) rfl
theorem dX12_column_23 : decode cX12_column 23 = .ok (.if_icmp .ge 15, 3) := z_o162 (z_wat (q := 0) (j := 23) zwX12_column_0 rfl) (z_wat (q := 0) (j := 24) zwX12_column_0 rfl) (z_wat (q := 0) (j := 25) zwX12_column_0 rfl) rfl
theorem dX12_column_26 : decode cX12_column 26 = .ok (.iload_n 2, 1) := z_o28 (z_wat (q := 0) (j := 26) zwX12_column_0 rfl)
theorem dX12_column_27 : decode cX12_column 27 = .ok (.ifCond .lt 11, 3) := z_o155 (z_wat (q := 0) (j := 27) zwX12_column_0 rfl) (z_wat (q := 0) (j := 28) zwX12_column_0 rfl) (z_wat (q := 0) (j := 29) zwX12_column_0 rfl) rfl
theorem dX12_column_30 : decode cX12_column 30 = .ok (.iload_n 2, 1) := z_o28 (z_wat (q := 0) (j := 30) zwX12_column_0 rfl)
theorem dX12_column_31 : decode cX12_column 31 = .ok (.aload_n 0, 1) := z_o42 (z_wat (q := 0) (j := 31) zwX12_column_0 rfl)
theorem zwX12_column_32 : ((cX12_column.data.toList.drop 32).take 34).map UInt8.toNat = [180, 0, 51, 161, 0, 5, 2, 172, 3, 62, 29, 42, 180, 0, 181, 162, 0, 31, 42, 180, 0, 54, 29, 46, 27, 160, 0, 15, 42, 180, 0, 57, 29, 46] := by decide +kernel
theorem dX12_column_32 : decode cX12_column 32 = .ok (.getfield 51, 3) := z_o180 (z_wat (q := 32) (j := 0) zwX12_column_32 rfl) (z_wat (q := 32) (j := 1) zwX12_column_32 rfl) (z_wat (q := 32) (j := 2) zwX12_column_32 rfl) rfl
theorem dX12_column_35 : decode cX12_column 35 = .ok (.if_icmp .lt 5, 3) := z_o161 (z_wat (q := 32) (j := 3) zwX12_column_32 rfl) (z_wat (q := 32) (j := 4) zwX12_column_32 rfl) (z_wat (q := 32) (j := 5) zwX12_column_32 rfl) rfl
theorem dX12_column_38 : decode cX12_column 38 = .ok (.iconst (-1), 1) := z_o2 (z_wat (q := 32) (j := 6) zwX12_column_32 rfl)
theorem dX12_column_39 : decode cX12_column 39 = .ok (.ireturn, 1) := z_o172 (z_wat (q := 32) (j := 7) zwX12_column_32 rfl)
theorem dX12_column_40 : decode cX12_column 40 = .ok (.iconst 0, 1) := z_o3 (z_wat (q := 32) (j := 8) zwX12_column_32 rfl)
theorem dX12_column_41 : decode cX12_column 41 = .ok (.istore_n 3, 1) := z_o62 (z_wat (q := 32) (j := 9) zwX12_column_32 rfl)
theorem dX12_column_42 : decode cX12_column 42 = .ok (.iload_n 3, 1) := z_o29 (z_wat (q := 32) (j := 10) zwX12_column_32 rfl)
theorem dX12_column_43 : decode cX12_column 43 = .ok (.aload_n 0, 1) := z_o42 (z_wat (q := 32) (j := 11) zwX12_column_32 rfl)
theorem dX12_column_44 : decode cX12_column 44 = .ok (.getfield 181, 3) := z_o180 (z_wat (q := 32) (j := 12) zwX12_column_32 rfl) (z_wat (q := 32) (j := 13) zwX12_column_32 rfl) (z_wat (q := 32) (j := 14) zwX12_column_32 rfl) rfl
theorem dX12_column_47 : decode cX12_column 47 = .ok (.if_icmp .ge 31, 3) := z_o162 (z_wat (q := 32) (j := 15) zwX12_column_32 rfl) (z_wat (q := 32) (j := 16) zwX12_column_32 rfl) (z_wat (q := 32) (j := 17) zwX12_column_32 rfl) rfl
theorem dX12_column_50 : decode cX12_column 50 = .ok (.aload_n 0, 1) := z_o42 (z_wat (q := 32) (j := 18) zwX12_column_32 rfl)
theorem dX12_column_51 : decode cX12_column 51 = .ok (.getfield 54, 3) := z_o180 (z_wat (q := 32) (j := 19) zwX12_column_32 rfl) (z_wat (q := 32) (j := 20) zwX12_column_32 rfl) (z_wat (q := 32) (j := 21) zwX12_column_32 rfl) rfl
theorem dX12_column_54 : decode cX12_column 54 = .ok (.iload_n 3, 1) := z_o29 (z_wat (q := 32) (j := 22) zwX12_column_32 rfl)
theorem dX12_column_55 : decode cX12_column 55 = .ok (.iaload, 1) := z_o46 (z_wat (q := 32) (j := 23) zwX12_column_32 rfl)
theorem dX12_column_56 : decode cX12_column 56 = .ok (.iload_n 1, 1) := z_o27 (z_wat (q := 32) (j := 24) zwX12_column_32 rfl)
theorem dX12_column_57 : decode cX12_column 57 = .ok (.if_icmp .ne 15, 3) := z_o160 (z_wat (q := 32) (j := 25) zwX12_column_32 rfl) (z_wat (q := 32) (j := 26) zwX12_column_32 rfl) (z_wat (q := 32) (j := 27) zwX12_column_32 rfl) rfl
theorem dX12_column_60 : decode cX12_column 60 = .ok (.aload_n 0, 1) := z_o42 (z_wat (q := 32) (j := 28) zwX12_column_32 rfl)
theorem dX12_column_61 : decode cX12_column 61 = .ok (.getfield 57, 3) := z_o180 (z_wat (q := 32) (j := 29) zwX12_column_32 rfl) (z_wat (q := 32) (j := 30) zwX12_column_32 rfl) (z_wat (q := 32) (j := 31) zwX12_column_32 rfl) rfl
theorem zwX12_column_64 : ((cX12_column.data.toList.drop 64).take 34).map UInt8.toNat = [29, 46, 28, 160, 0, 5, 2, 172, 132, 3, 1, 167, 255, 223, 42, 180, 0, 54, 42, 180, 0, 181, 27, 79, 42, 180, 0, 57, 42, 180, 0, 181, 28, 79] := by decide +kernel
theorem dX12_column_64 : decode cX12_column 64 = .ok (.iload_n 3, 1) := z_o29 (z_wat (q := 64) (j := 0) zwX12_column_64 rfl)
theorem dX12_column_65 : decode cX12_column 65 = .ok (.iaload, 1) := z_o46 (z_wat (q := 64) (j := 1) zwX12_column_64 rfl)
theorem dX12_column_66 : decode cX12_column 66 = .ok (.iload_n 2, 1) := z_o28 (z_wat (q := 64) (j := 2) zwX12_column_64 rfl)
theorem dX12_column_67 : decode cX12_column 67 = .ok (.if_icmp .ne 5, 3) := z_o160 (z_wat (q := 64) (j := 3) zwX12_column_64 rfl) (z_wat (q := 64) (j := 4) zwX12_column_64 rfl) (z_wat (q := 64) (j := 5) zwX12_column_64 rfl) rfl
theorem dX12_column_70 : decode cX12_column 70 = .ok (.iconst (-1), 1) := z_o2 (z_wat (q := 64) (j := 6) zwX12_column_64 rfl)
theorem dX12_column_71 : decode cX12_column 71 = .ok (.ireturn, 1) := z_o172 (z_wat (q := 64) (j := 7) zwX12_column_64 rfl)
theorem dX12_column_72 : decode cX12_column 72 = .ok (.iinc 3 1, 3) := z_o132 (z_wat (q := 64) (j := 8) zwX12_column_64 rfl) (z_wat (q := 64) (j := 9) zwX12_column_64 rfl) (z_wat (q := 64) (j := 10) zwX12_column_64 rfl) rfl
theorem dX12_column_75 : decode cX12_column 75 = .ok (.goto (-33), 3) := z_o167 (z_wat (q := 64) (j := 11) zwX12_column_64 rfl) (z_wat (q := 64) (j := 12) zwX12_column_64 rfl) (z_wat (q := 64) (j := 13) zwX12_column_64 rfl) rfl
theorem dX12_column_78 : decode cX12_column 78 = .ok (.aload_n 0, 1) := z_o42 (z_wat (q := 64) (j := 14) zwX12_column_64 rfl)
theorem dX12_column_79 : decode cX12_column 79 = .ok (.getfield 54, 3) := z_o180 (z_wat (q := 64) (j := 15) zwX12_column_64 rfl) (z_wat (q := 64) (j := 16) zwX12_column_64 rfl) (z_wat (q := 64) (j := 17) zwX12_column_64 rfl) rfl
theorem dX12_column_82 : decode cX12_column 82 = .ok (.aload_n 0, 1) := z_o42 (z_wat (q := 64) (j := 18) zwX12_column_64 rfl)
theorem dX12_column_83 : decode cX12_column 83 = .ok (.getfield 181, 3) := z_o180 (z_wat (q := 64) (j := 19) zwX12_column_64 rfl) (z_wat (q := 64) (j := 20) zwX12_column_64 rfl) (z_wat (q := 64) (j := 21) zwX12_column_64 rfl) rfl
theorem dX12_column_86 : decode cX12_column 86 = .ok (.iload_n 1, 1) := z_o27 (z_wat (q := 64) (j := 22) zwX12_column_64 rfl)
theorem dX12_column_87 : decode cX12_column 87 = .ok (.iastore, 1) := z_o79 (z_wat (q := 64) (j := 23) zwX12_column_64 rfl)
theorem dX12_column_88 : decode cX12_column 88 = .ok (.aload_n 0, 1) := z_o42 (z_wat (q := 64) (j := 24) zwX12_column_64 rfl)
theorem dX12_column_89 : decode cX12_column 89 = .ok (.getfield 57, 3) := z_o180 (z_wat (q := 64) (j := 25) zwX12_column_64 rfl) (z_wat (q := 64) (j := 26) zwX12_column_64 rfl) (z_wat (q := 64) (j := 27) zwX12_column_64 rfl) rfl
theorem dX12_column_92 : decode cX12_column 92 = .ok (.aload_n 0, 1) := z_o42 (z_wat (q := 64) (j := 28) zwX12_column_64 rfl)
theorem dX12_column_93 : decode cX12_column 93 = .ok (.getfield 181, 3) := z_o180 (z_wat (q := 64) (j := 29) zwX12_column_64 rfl) (z_wat (q := 64) (j := 30) zwX12_column_64 rfl) (z_wat (q := 64) (j := 31) zwX12_column_64 rfl) rfl
theorem zwX12_column_96 : ((cX12_column.data.toList.drop 96).take 34).map UInt8.toNat = [28, 79, 3, 62, 29, 16, 12, 162, 0, 24, 42, 180, 0, 60, 16, 12, 42, 180, 0, 181, 104, 29, 96, 3, 79, 132, 3, 1, 167, 255, 232, 42, 89, 180] := by decide +kernel
theorem dX12_column_96 : decode cX12_column 96 = .ok (.iload_n 2, 1) := z_o28 (z_wat (q := 96) (j := 0) zwX12_column_96 rfl)
theorem dX12_column_97 : decode cX12_column 97 = .ok (.iastore, 1) := z_o79 (z_wat (q := 96) (j := 1) zwX12_column_96 rfl)
theorem dX12_column_98 : decode cX12_column 98 = .ok (.iconst 0, 1) := z_o3 (z_wat (q := 96) (j := 2) zwX12_column_96 rfl)
theorem dX12_column_99 : decode cX12_column 99 = .ok (.istore_n 3, 1) := z_o62 (z_wat (q := 96) (j := 3) zwX12_column_96 rfl)
theorem dX12_column_100 : decode cX12_column 100 = .ok (.iload_n 3, 1) := z_o29 (z_wat (q := 96) (j := 4) zwX12_column_96 rfl)
theorem dX12_column_101 : decode cX12_column 101 = .ok (.bipush 12, 2) := z_o16 (z_wat (q := 96) (j := 5) zwX12_column_96 rfl) (z_wat (q := 96) (j := 6) zwX12_column_96 rfl) rfl
theorem dX12_column_103 : decode cX12_column 103 = .ok (.if_icmp .ge 24, 3) := z_o162 (z_wat (q := 96) (j := 7) zwX12_column_96 rfl) (z_wat (q := 96) (j := 8) zwX12_column_96 rfl) (z_wat (q := 96) (j := 9) zwX12_column_96 rfl) rfl
theorem dX12_column_106 : decode cX12_column 106 = .ok (.aload_n 0, 1) := z_o42 (z_wat (q := 96) (j := 10) zwX12_column_96 rfl)
theorem dX12_column_107 : decode cX12_column 107 = .ok (.getfield 60, 3) := z_o180 (z_wat (q := 96) (j := 11) zwX12_column_96 rfl) (z_wat (q := 96) (j := 12) zwX12_column_96 rfl) (z_wat (q := 96) (j := 13) zwX12_column_96 rfl) rfl
theorem dX12_column_110 : decode cX12_column 110 = .ok (.bipush 12, 2) := z_o16 (z_wat (q := 96) (j := 14) zwX12_column_96 rfl) (z_wat (q := 96) (j := 15) zwX12_column_96 rfl) rfl
theorem dX12_column_112 : decode cX12_column 112 = .ok (.aload_n 0, 1) := z_o42 (z_wat (q := 96) (j := 16) zwX12_column_96 rfl)
theorem dX12_column_113 : decode cX12_column 113 = .ok (.getfield 181, 3) := z_o180 (z_wat (q := 96) (j := 17) zwX12_column_96 rfl) (z_wat (q := 96) (j := 18) zwX12_column_96 rfl) (z_wat (q := 96) (j := 19) zwX12_column_96 rfl) rfl
theorem dX12_column_116 : decode cX12_column 116 = .ok (.imul, 1) := z_o104 (z_wat (q := 96) (j := 20) zwX12_column_96 rfl)
theorem dX12_column_117 : decode cX12_column 117 = .ok (.iload_n 3, 1) := z_o29 (z_wat (q := 96) (j := 21) zwX12_column_96 rfl)
theorem dX12_column_118 : decode cX12_column 118 = .ok (.iadd, 1) := z_o96 (z_wat (q := 96) (j := 22) zwX12_column_96 rfl)
theorem dX12_column_119 : decode cX12_column 119 = .ok (.iconst 0, 1) := z_o3 (z_wat (q := 96) (j := 23) zwX12_column_96 rfl)
theorem dX12_column_120 : decode cX12_column 120 = .ok (.iastore, 1) := z_o79 (z_wat (q := 96) (j := 24) zwX12_column_96 rfl)
theorem dX12_column_121 : decode cX12_column 121 = .ok (.iinc 3 1, 3) := z_o132 (z_wat (q := 96) (j := 25) zwX12_column_96 rfl) (z_wat (q := 96) (j := 26) zwX12_column_96 rfl) (z_wat (q := 96) (j := 27) zwX12_column_96 rfl) rfl
theorem dX12_column_124 : decode cX12_column 124 = .ok (.goto (-24), 3) := z_o167 (z_wat (q := 96) (j := 28) zwX12_column_96 rfl) (z_wat (q := 96) (j := 29) zwX12_column_96 rfl) (z_wat (q := 96) (j := 30) zwX12_column_96 rfl) rfl
theorem dX12_column_127 : decode cX12_column 127 = .ok (.aload_n 0, 1) := z_o42 (z_wat (q := 96) (j := 31) zwX12_column_96 rfl)
theorem zwX12_column_128 : ((cX12_column.data.toList.drop 128).take 16).map UInt8.toNat = [89, 180, 0, 181, 4, 96, 181, 0, 181, 42, 180, 0, 181, 4, 100, 172] := by decide +kernel
theorem dX12_column_128 : decode cX12_column 128 = .ok (.dup, 1) := z_o89 (z_wat (q := 128) (j := 0) zwX12_column_128 rfl)
theorem dX12_column_129 : decode cX12_column 129 = .ok (.getfield 181, 3) := z_o180 (z_wat (q := 128) (j := 1) zwX12_column_128 rfl) (z_wat (q := 128) (j := 2) zwX12_column_128 rfl) (z_wat (q := 128) (j := 3) zwX12_column_128 rfl) rfl
theorem dX12_column_132 : decode cX12_column 132 = .ok (.iconst 1, 1) := z_o4 (z_wat (q := 128) (j := 4) zwX12_column_128 rfl)
theorem dX12_column_133 : decode cX12_column 133 = .ok (.iadd, 1) := z_o96 (z_wat (q := 128) (j := 5) zwX12_column_128 rfl)
theorem dX12_column_134 : decode cX12_column 134 = .ok (.putfield 181, 3) := z_o181 (z_wat (q := 128) (j := 6) zwX12_column_128 rfl) (z_wat (q := 128) (j := 7) zwX12_column_128 rfl) (z_wat (q := 128) (j := 8) zwX12_column_128 rfl) rfl
theorem dX12_column_137 : decode cX12_column 137 = .ok (.aload_n 0, 1) := z_o42 (z_wat (q := 128) (j := 9) zwX12_column_128 rfl)
theorem dX12_column_138 : decode cX12_column 138 = .ok (.getfield 181, 3) := z_o180 (z_wat (q := 128) (j := 10) zwX12_column_128 rfl) (z_wat (q := 128) (j := 11) zwX12_column_128 rfl) (z_wat (q := 128) (j := 12) zwX12_column_128 rfl) rfl
theorem dX12_column_141 : decode cX12_column 141 = .ok (.iconst 1, 1) := z_o4 (z_wat (q := 128) (j := 13) zwX12_column_128 rfl)
theorem dX12_column_142 : decode cX12_column 142 = .ok (.isub, 1) := z_o100 (z_wat (q := 128) (j := 14) zwX12_column_128 rfl)
theorem dX12_column_143 : decode cX12_column 143 = .ok (.ireturn, 1) := z_o172 (z_wat (q := 128) (j := 15) zwX12_column_128 rfl)
theorem zwX12_fails_0 : ((cX12_fails.data.toList.drop 0).take 7).map UInt8.toNat = [42, 27, 181, 0, 145, 3, 172] := by decide +kernel
theorem dX12_fails_0 : decode cX12_fails 0 = .ok (.aload_n 0, 1) := z_o42 (z_wat (q := 0) (j := 0) zwX12_fails_0 rfl)
theorem dX12_fails_1 : decode cX12_fails 1 = .ok (.iload_n 1, 1) := z_o27 (z_wat (q := 0) (j := 1) zwX12_fails_0 rfl)
theorem dX12_fails_2 : decode cX12_fails 2 = .ok (.putfield 145, 3) := z_o181 (z_wat (q := 0) (j := 2) zwX12_fails_0 rfl) (z_wat (q := 0) (j := 3) zwX12_fails_0 rfl) (z_wat (q := 0) (j := 4) zwX12_fails_0 rfl) rfl
theorem dX12_fails_5 : decode cX12_fails 5 = .ok (.iconst 0, 1) := z_o3 (z_wat (q := 0) (j := 5) zwX12_fails_0 rfl)
theorem dX12_fails_6 : decode cX12_fails 6 = .ok (.ireturn, 1) := z_o172 (z_wat (q := 0) (j := 6) zwX12_fails_0 rfl)
theorem zwX12_far_0 : ((cX12_far.data.toList.drop 0).take 34).map UInt8.toNat = [42, 180, 0, 54, 27, 46, 28, 100, 42, 180, 0, 54, 27, 46, 28, 100, 104, 42, 180, 0, 57, 27, 46, 29, 100, 42, 180, 0, 57, 27, 46, 29, 100, 104] := by decide +kernel
theorem dX12_far_0 : decode cX12_far 0 = .ok (.aload_n 0, 1) := z_o42 (z_wat (q := 0) (j := 0) zwX12_far_0 rfl)
theorem dX12_far_1 : decode cX12_far 1 = .ok (.getfield 54, 3) := z_o180 (z_wat (q := 0) (j := 1) zwX12_far_0 rfl) (z_wat (q := 0) (j := 2) zwX12_far_0 rfl) (z_wat (q := 0) (j := 3) zwX12_far_0 rfl) rfl
theorem dX12_far_4 : decode cX12_far 4 = .ok (.iload_n 1, 1) := z_o27 (z_wat (q := 0) (j := 4) zwX12_far_0 rfl)
theorem dX12_far_5 : decode cX12_far 5 = .ok (.iaload, 1) := z_o46 (z_wat (q := 0) (j := 5) zwX12_far_0 rfl)
theorem dX12_far_6 : decode cX12_far 6 = .ok (.iload_n 2, 1) := z_o28 (z_wat (q := 0) (j := 6) zwX12_far_0 rfl)
theorem dX12_far_7 : decode cX12_far 7 = .ok (.isub, 1) := z_o100 (z_wat (q := 0) (j := 7) zwX12_far_0 rfl)
theorem dX12_far_8 : decode cX12_far 8 = .ok (.aload_n 0, 1) := z_o42 (z_wat (q := 0) (j := 8) zwX12_far_0 rfl)
theorem dX12_far_9 : decode cX12_far 9 = .ok (.getfield 54, 3) := z_o180 (z_wat (q := 0) (j := 9) zwX12_far_0 rfl) (z_wat (q := 0) (j := 10) zwX12_far_0 rfl) (z_wat (q := 0) (j := 11) zwX12_far_0 rfl) rfl
theorem dX12_far_12 : decode cX12_far 12 = .ok (.iload_n 1, 1) := z_o27 (z_wat (q := 0) (j := 12) zwX12_far_0 rfl)
theorem dX12_far_13 : decode cX12_far 13 = .ok (.iaload, 1) := z_o46 (z_wat (q := 0) (j := 13) zwX12_far_0 rfl)
theorem dX12_far_14 : decode cX12_far 14 = .ok (.iload_n 2, 1) := z_o28 (z_wat (q := 0) (j := 14) zwX12_far_0 rfl)
theorem dX12_far_15 : decode cX12_far 15 = .ok (.isub, 1) := z_o100 (z_wat (q := 0) (j := 15) zwX12_far_0 rfl)
theorem dX12_far_16 : decode cX12_far 16 = .ok (.imul, 1) := z_o104 (z_wat (q := 0) (j := 16) zwX12_far_0 rfl)
theorem dX12_far_17 : decode cX12_far 17 = .ok (.aload_n 0, 1) := z_o42 (z_wat (q := 0) (j := 17) zwX12_far_0 rfl)
theorem dX12_far_18 : decode cX12_far 18 = .ok (.getfield 57, 3) := z_o180 (z_wat (q := 0) (j := 18) zwX12_far_0 rfl) (z_wat (q := 0) (j := 19) zwX12_far_0 rfl) (z_wat (q := 0) (j := 20) zwX12_far_0 rfl) rfl
theorem dX12_far_21 : decode cX12_far 21 = .ok (.iload_n 1, 1) := z_o27 (z_wat (q := 0) (j := 21) zwX12_far_0 rfl)
theorem dX12_far_22 : decode cX12_far 22 = .ok (.iaload, 1) := z_o46 (z_wat (q := 0) (j := 22) zwX12_far_0 rfl)
theorem dX12_far_23 : decode cX12_far 23 = .ok (.iload_n 3, 1) := z_o29 (z_wat (q := 0) (j := 23) zwX12_far_0 rfl)
theorem dX12_far_24 : decode cX12_far 24 = .ok (.isub, 1) := z_o100 (z_wat (q := 0) (j := 24) zwX12_far_0 rfl)
theorem dX12_far_25 : decode cX12_far 25 = .ok (.aload_n 0, 1) := z_o42 (z_wat (q := 0) (j := 25) zwX12_far_0 rfl)
theorem dX12_far_26 : decode cX12_far 26 = .ok (.getfield 57, 3) := z_o180 (z_wat (q := 0) (j := 26) zwX12_far_0 rfl) (z_wat (q := 0) (j := 27) zwX12_far_0 rfl) (z_wat (q := 0) (j := 28) zwX12_far_0 rfl) rfl
theorem dX12_far_29 : decode cX12_far 29 = .ok (.iload_n 1, 1) := z_o27 (z_wat (q := 0) (j := 29) zwX12_far_0 rfl)
theorem dX12_far_30 : decode cX12_far 30 = .ok (.iaload, 1) := z_o46 (z_wat (q := 0) (j := 30) zwX12_far_0 rfl)
theorem dX12_far_31 : decode cX12_far 31 = .ok (.iload_n 3, 1) := z_o29 (z_wat (q := 0) (j := 31) zwX12_far_0 rfl)
theorem zwX12_far_32 : ((cX12_far.data.toList.drop 32).take 4).map UInt8.toNat = [100, 104, 96, 172] := by decide +kernel
theorem dX12_far_32 : decode cX12_far 32 = .ok (.isub, 1) := z_o100 (z_wat (q := 32) (j := 0) zwX12_far_32 rfl)
theorem dX12_far_33 : decode cX12_far 33 = .ok (.imul, 1) := z_o104 (z_wat (q := 32) (j := 1) zwX12_far_32 rfl)
theorem dX12_far_34 : decode cX12_far 34 = .ok (.iadd, 1) := z_o96 (z_wat (q := 32) (j := 2) zwX12_far_32 rfl)
theorem dX12_far_35 : decode cX12_far 35 = .ok (.ireturn, 1) := z_o172 (z_wat (q := 32) (j := 3) zwX12_far_32 rfl)
theorem zwX12_fault_0 : ((cX12_fault.data.toList.drop 0).take 30).map UInt8.toNat = [42, 3, 181, 0, 145, 27, 154, 0, 10, 42, 180, 0, 198, 167, 0, 16, 27, 4, 160, 0, 10, 42, 180, 0, 75, 167, 0, 4, 2, 172] := by decide +kernel
theorem dX12_fault_0 : decode cX12_fault 0 = .ok (.aload_n 0, 1) := z_o42 (z_wat (q := 0) (j := 0) zwX12_fault_0 rfl)
theorem dX12_fault_1 : decode cX12_fault 1 = .ok (.iconst 0, 1) := z_o3 (z_wat (q := 0) (j := 1) zwX12_fault_0 rfl)
theorem dX12_fault_2 : decode cX12_fault 2 = .ok (.putfield 145, 3) := z_o181 (z_wat (q := 0) (j := 2) zwX12_fault_0 rfl) (z_wat (q := 0) (j := 3) zwX12_fault_0 rfl) (z_wat (q := 0) (j := 4) zwX12_fault_0 rfl) rfl
theorem dX12_fault_5 : decode cX12_fault 5 = .ok (.iload_n 1, 1) := z_o27 (z_wat (q := 0) (j := 5) zwX12_fault_0 rfl)
theorem dX12_fault_6 : decode cX12_fault 6 = .ok (.ifCond .ne 10, 3) := z_o154 (z_wat (q := 0) (j := 6) zwX12_fault_0 rfl) (z_wat (q := 0) (j := 7) zwX12_fault_0 rfl) (z_wat (q := 0) (j := 8) zwX12_fault_0 rfl) rfl
theorem dX12_fault_9 : decode cX12_fault 9 = .ok (.aload_n 0, 1) := z_o42 (z_wat (q := 0) (j := 9) zwX12_fault_0 rfl)
theorem dX12_fault_10 : decode cX12_fault 10 = .ok (.getfield 198, 3) := z_o180 (z_wat (q := 0) (j := 10) zwX12_fault_0 rfl) (z_wat (q := 0) (j := 11) zwX12_fault_0 rfl) (z_wat (q := 0) (j := 12) zwX12_fault_0 rfl) rfl
theorem dX12_fault_13 : decode cX12_fault 13 = .ok (.goto 16, 3) := z_o167 (z_wat (q := 0) (j := 13) zwX12_fault_0 rfl) (z_wat (q := 0) (j := 14) zwX12_fault_0 rfl) (z_wat (q := 0) (j := 15) zwX12_fault_0 rfl) rfl
theorem dX12_fault_16 : decode cX12_fault 16 = .ok (.iload_n 1, 1) := z_o27 (z_wat (q := 0) (j := 16) zwX12_fault_0 rfl)
theorem dX12_fault_17 : decode cX12_fault 17 = .ok (.iconst 1, 1) := z_o4 (z_wat (q := 0) (j := 17) zwX12_fault_0 rfl)
theorem dX12_fault_18 : decode cX12_fault 18 = .ok (.if_icmp .ne 10, 3) := z_o160 (z_wat (q := 0) (j := 18) zwX12_fault_0 rfl) (z_wat (q := 0) (j := 19) zwX12_fault_0 rfl) (z_wat (q := 0) (j := 20) zwX12_fault_0 rfl) rfl
theorem dX12_fault_21 : decode cX12_fault 21 = .ok (.aload_n 0, 1) := z_o42 (z_wat (q := 0) (j := 21) zwX12_fault_0 rfl)
theorem dX12_fault_22 : decode cX12_fault 22 = .ok (.getfield 75, 3) := z_o180 (z_wat (q := 0) (j := 22) zwX12_fault_0 rfl) (z_wat (q := 0) (j := 23) zwX12_fault_0 rfl) (z_wat (q := 0) (j := 24) zwX12_fault_0 rfl) rfl
theorem dX12_fault_25 : decode cX12_fault 25 = .ok (.goto 4, 3) := z_o167 (z_wat (q := 0) (j := 25) zwX12_fault_0 rfl) (z_wat (q := 0) (j := 26) zwX12_fault_0 rfl) (z_wat (q := 0) (j := 27) zwX12_fault_0 rfl) rfl
theorem dX12_fault_28 : decode cX12_fault 28 = .ok (.iconst (-1), 1) := z_o2 (z_wat (q := 0) (j := 28) zwX12_fault_0 rfl)
theorem dX12_fault_29 : decode cX12_fault 29 = .ok (.ireturn, 1) := z_o172 (z_wat (q := 0) (j := 29) zwX12_fault_0 rfl)
theorem zwX12_feed_0 : ((cX12_feed.data.toList.drop 0).take 34).map UInt8.toNat = [42, 3, 181, 0, 145, 42, 180, 0, 148, 16, 20, 96, 17, 2, 188, 164, 0, 5, 2, 172, 3, 54, 6, 21, 6, 16, 20, 162, 0, 86, 21, 6, 7, 162] := by decide +kernel
theorem dX12_feed_0 : decode cX12_feed 0 = .ok (.aload_n 0, 1) := z_o42 (z_wat (q := 0) (j := 0) zwX12_feed_0 rfl)
theorem dX12_feed_1 : decode cX12_feed 1 = .ok (.iconst 0, 1) := z_o3 (z_wat (q := 0) (j := 1) zwX12_feed_0 rfl)
theorem dX12_feed_2 : decode cX12_feed 2 = .ok (.putfield 145, 3) := z_o181 (z_wat (q := 0) (j := 2) zwX12_feed_0 rfl) (z_wat (q := 0) (j := 3) zwX12_feed_0 rfl) (z_wat (q := 0) (j := 4) zwX12_feed_0 rfl) rfl
theorem dX12_feed_5 : decode cX12_feed 5 = .ok (.aload_n 0, 1) := z_o42 (z_wat (q := 0) (j := 5) zwX12_feed_0 rfl)
theorem dX12_feed_6 : decode cX12_feed 6 = .ok (.getfield 148, 3) := z_o180 (z_wat (q := 0) (j := 6) zwX12_feed_0 rfl) (z_wat (q := 0) (j := 7) zwX12_feed_0 rfl) (z_wat (q := 0) (j := 8) zwX12_feed_0 rfl) rfl
theorem dX12_feed_9 : decode cX12_feed 9 = .ok (.bipush 20, 2) := z_o16 (z_wat (q := 0) (j := 9) zwX12_feed_0 rfl) (z_wat (q := 0) (j := 10) zwX12_feed_0 rfl) rfl
theorem dX12_feed_11 : decode cX12_feed 11 = .ok (.iadd, 1) := z_o96 (z_wat (q := 0) (j := 11) zwX12_feed_0 rfl)
theorem dX12_feed_12 : decode cX12_feed 12 = .ok (.sipush 700, 3) := z_o17 (z_wat (q := 0) (j := 12) zwX12_feed_0 rfl) (z_wat (q := 0) (j := 13) zwX12_feed_0 rfl) (z_wat (q := 0) (j := 14) zwX12_feed_0 rfl) rfl
theorem dX12_feed_15 : decode cX12_feed 15 = .ok (.if_icmp .le 5, 3) := z_o164 (z_wat (q := 0) (j := 15) zwX12_feed_0 rfl) (z_wat (q := 0) (j := 16) zwX12_feed_0 rfl) (z_wat (q := 0) (j := 17) zwX12_feed_0 rfl) rfl
theorem dX12_feed_18 : decode cX12_feed 18 = .ok (.iconst (-1), 1) := z_o2 (z_wat (q := 0) (j := 18) zwX12_feed_0 rfl)
theorem dX12_feed_19 : decode cX12_feed 19 = .ok (.ireturn, 1) := z_o172 (z_wat (q := 0) (j := 19) zwX12_feed_0 rfl)
theorem dX12_feed_20 : decode cX12_feed 20 = .ok (.iconst 0, 1) := z_o3 (z_wat (q := 0) (j := 20) zwX12_feed_0 rfl)
theorem dX12_feed_21 : decode cX12_feed 21 = .ok (.istore 6, 2) := z_o54 (z_wat (q := 0) (j := 21) zwX12_feed_0 rfl) (z_wat (q := 0) (j := 22) zwX12_feed_0 rfl)
theorem dX12_feed_23 : decode cX12_feed 23 = .ok (.iload 6, 2) := z_o21 (z_wat (q := 0) (j := 23) zwX12_feed_0 rfl) (z_wat (q := 0) (j := 24) zwX12_feed_0 rfl)
theorem dX12_feed_25 : decode cX12_feed 25 = .ok (.bipush 20, 2) := z_o16 (z_wat (q := 0) (j := 25) zwX12_feed_0 rfl) (z_wat (q := 0) (j := 26) zwX12_feed_0 rfl) rfl
theorem dX12_feed_27 : decode cX12_feed 27 = .ok (.if_icmp .ge 86, 3) := z_o162 (z_wat (q := 0) (j := 27) zwX12_feed_0 rfl) (z_wat (q := 0) (j := 28) zwX12_feed_0 rfl) (z_wat (q := 0) (j := 29) zwX12_feed_0 rfl) rfl
theorem dX12_feed_30 : decode cX12_feed 30 = .ok (.iload 6, 2) := z_o21 (z_wat (q := 0) (j := 30) zwX12_feed_0 rfl) (z_wat (q := 0) (j := 31) zwX12_feed_0 rfl)
theorem zwX12_feed_32 : ((cX12_feed.data.toList.drop 32).take 34).map UInt8.toNat = [7, 162, 0, 7, 27, 167, 0, 39, 21, 6, 16, 8, 162, 0, 7, 28, 167, 0, 28, 21, 6, 16, 12, 162, 0, 7, 29, 167, 0, 17, 21, 6, 16, 16] := by decide +kernel
theorem dX12_feed_32 : decode cX12_feed 32 = .ok (.iconst 4, 1) := z_o7 (z_wat (q := 32) (j := 0) zwX12_feed_32 rfl)
theorem dX12_feed_33 : decode cX12_feed 33 = .ok (.if_icmp .ge 7, 3) := z_o162 (z_wat (q := 32) (j := 1) zwX12_feed_32 rfl) (z_wat (q := 32) (j := 2) zwX12_feed_32 rfl) (z_wat (q := 32) (j := 3) zwX12_feed_32 rfl) rfl
theorem dX12_feed_36 : decode cX12_feed 36 = .ok (.iload_n 1, 1) := z_o27 (z_wat (q := 32) (j := 4) zwX12_feed_32 rfl)
theorem dX12_feed_37 : decode cX12_feed 37 = .ok (.goto 39, 3) := z_o167 (z_wat (q := 32) (j := 5) zwX12_feed_32 rfl) (z_wat (q := 32) (j := 6) zwX12_feed_32 rfl) (z_wat (q := 32) (j := 7) zwX12_feed_32 rfl) rfl
theorem dX12_feed_40 : decode cX12_feed 40 = .ok (.iload 6, 2) := z_o21 (z_wat (q := 32) (j := 8) zwX12_feed_32 rfl) (z_wat (q := 32) (j := 9) zwX12_feed_32 rfl)
theorem dX12_feed_42 : decode cX12_feed 42 = .ok (.bipush 8, 2) := z_o16 (z_wat (q := 32) (j := 10) zwX12_feed_32 rfl) (z_wat (q := 32) (j := 11) zwX12_feed_32 rfl) rfl
theorem dX12_feed_44 : decode cX12_feed 44 = .ok (.if_icmp .ge 7, 3) := z_o162 (z_wat (q := 32) (j := 12) zwX12_feed_32 rfl) (z_wat (q := 32) (j := 13) zwX12_feed_32 rfl) (z_wat (q := 32) (j := 14) zwX12_feed_32 rfl) rfl
theorem dX12_feed_47 : decode cX12_feed 47 = .ok (.iload_n 2, 1) := z_o28 (z_wat (q := 32) (j := 15) zwX12_feed_32 rfl)
theorem dX12_feed_48 : decode cX12_feed 48 = .ok (.goto 28, 3) := z_o167 (z_wat (q := 32) (j := 16) zwX12_feed_32 rfl) (z_wat (q := 32) (j := 17) zwX12_feed_32 rfl) (z_wat (q := 32) (j := 18) zwX12_feed_32 rfl) rfl
theorem dX12_feed_51 : decode cX12_feed 51 = .ok (.iload 6, 2) := z_o21 (z_wat (q := 32) (j := 19) zwX12_feed_32 rfl) (z_wat (q := 32) (j := 20) zwX12_feed_32 rfl)
theorem dX12_feed_53 : decode cX12_feed 53 = .ok (.bipush 12, 2) := z_o16 (z_wat (q := 32) (j := 21) zwX12_feed_32 rfl) (z_wat (q := 32) (j := 22) zwX12_feed_32 rfl) rfl
theorem dX12_feed_55 : decode cX12_feed 55 = .ok (.if_icmp .ge 7, 3) := z_o162 (z_wat (q := 32) (j := 23) zwX12_feed_32 rfl) (z_wat (q := 32) (j := 24) zwX12_feed_32 rfl) (z_wat (q := 32) (j := 25) zwX12_feed_32 rfl) rfl
theorem dX12_feed_58 : decode cX12_feed 58 = .ok (.iload_n 3, 1) := z_o29 (z_wat (q := 32) (j := 26) zwX12_feed_32 rfl)
theorem dX12_feed_59 : decode cX12_feed 59 = .ok (.goto 17, 3) := z_o167 (z_wat (q := 32) (j := 27) zwX12_feed_32 rfl) (z_wat (q := 32) (j := 28) zwX12_feed_32 rfl) (z_wat (q := 32) (j := 29) zwX12_feed_32 rfl) rfl
theorem dX12_feed_62 : decode cX12_feed 62 = .ok (.iload 6, 2) := z_o21 (z_wat (q := 32) (j := 30) zwX12_feed_32 rfl) (z_wat (q := 32) (j := 31) zwX12_feed_32 rfl)
theorem zwX12_feed_64 : ((cX12_feed.data.toList.drop 64).take 34).map UInt8.toNat = [16, 16, 162, 0, 8, 21, 4, 167, 0, 5, 21, 5, 54, 7, 42, 180, 0, 7, 42, 180, 0, 148, 21, 6, 96, 21, 7, 16, 24, 16, 8, 21, 6, 7] := by decide +kernel
theorem dX12_feed_64 : decode cX12_feed 64 = .ok (.bipush 16, 2) := z_o16 (z_wat (q := 64) (j := 0) zwX12_feed_64 rfl) (z_wat (q := 64) (j := 1) zwX12_feed_64 rfl) rfl
theorem dX12_feed_66 : decode cX12_feed 66 = .ok (.if_icmp .ge 8, 3) := z_o162 (z_wat (q := 64) (j := 2) zwX12_feed_64 rfl) (z_wat (q := 64) (j := 3) zwX12_feed_64 rfl) (z_wat (q := 64) (j := 4) zwX12_feed_64 rfl) rfl
theorem dX12_feed_69 : decode cX12_feed 69 = .ok (.iload 4, 2) := z_o21 (z_wat (q := 64) (j := 5) zwX12_feed_64 rfl) (z_wat (q := 64) (j := 6) zwX12_feed_64 rfl)
theorem dX12_feed_71 : decode cX12_feed 71 = .ok (.goto 5, 3) := z_o167 (z_wat (q := 64) (j := 7) zwX12_feed_64 rfl) (z_wat (q := 64) (j := 8) zwX12_feed_64 rfl) (z_wat (q := 64) (j := 9) zwX12_feed_64 rfl) rfl
theorem dX12_feed_74 : decode cX12_feed 74 = .ok (.iload 5, 2) := z_o21 (z_wat (q := 64) (j := 10) zwX12_feed_64 rfl) (z_wat (q := 64) (j := 11) zwX12_feed_64 rfl)
theorem dX12_feed_76 : decode cX12_feed 76 = .ok (.istore 7, 2) := z_o54 (z_wat (q := 64) (j := 12) zwX12_feed_64 rfl) (z_wat (q := 64) (j := 13) zwX12_feed_64 rfl)
theorem dX12_feed_78 : decode cX12_feed 78 = .ok (.aload_n 0, 1) := z_o42 (z_wat (q := 64) (j := 14) zwX12_feed_64 rfl)
theorem dX12_feed_79 : decode cX12_feed 79 = .ok (.getfield 7, 3) := z_o180 (z_wat (q := 64) (j := 15) zwX12_feed_64 rfl) (z_wat (q := 64) (j := 16) zwX12_feed_64 rfl) (z_wat (q := 64) (j := 17) zwX12_feed_64 rfl) rfl
theorem dX12_feed_82 : decode cX12_feed 82 = .ok (.aload_n 0, 1) := z_o42 (z_wat (q := 64) (j := 18) zwX12_feed_64 rfl)
theorem dX12_feed_83 : decode cX12_feed 83 = .ok (.getfield 148, 3) := z_o180 (z_wat (q := 64) (j := 19) zwX12_feed_64 rfl) (z_wat (q := 64) (j := 20) zwX12_feed_64 rfl) (z_wat (q := 64) (j := 21) zwX12_feed_64 rfl) rfl
theorem dX12_feed_86 : decode cX12_feed 86 = .ok (.iload 6, 2) := z_o21 (z_wat (q := 64) (j := 22) zwX12_feed_64 rfl) (z_wat (q := 64) (j := 23) zwX12_feed_64 rfl)
theorem dX12_feed_88 : decode cX12_feed 88 = .ok (.iadd, 1) := z_o96 (z_wat (q := 64) (j := 24) zwX12_feed_64 rfl)
theorem dX12_feed_89 : decode cX12_feed 89 = .ok (.iload 7, 2) := z_o21 (z_wat (q := 64) (j := 25) zwX12_feed_64 rfl) (z_wat (q := 64) (j := 26) zwX12_feed_64 rfl)
theorem dX12_feed_91 : decode cX12_feed 91 = .ok (.bipush 24, 2) := z_o16 (z_wat (q := 64) (j := 27) zwX12_feed_64 rfl) (z_wat (q := 64) (j := 28) zwX12_feed_64 rfl) rfl
theorem dX12_feed_93 : decode cX12_feed 93 = .ok (.bipush 8, 2) := z_o16 (z_wat (q := 64) (j := 29) zwX12_feed_64 rfl) (z_wat (q := 64) (j := 30) zwX12_feed_64 rfl) rfl
theorem dX12_feed_95 : decode cX12_feed 95 = .ok (.iload 6, 2) := z_o21 (z_wat (q := 64) (j := 31) zwX12_feed_64 rfl) (z_wat (q := 64) (j := 32) zwX12_feed_64 rfl)
theorem zwX12_feed_96 : ((cX12_feed.data.toList.drop 96).take 33).map UInt8.toNat = [6, 7, 112, 104, 100, 122, 17, 0, 255, 126, 79, 132, 6, 1, 167, 255, 169, 42, 89, 180, 0, 148, 16, 20, 96, 181, 0, 148, 42, 180, 0, 148, 172] := by decide +kernel
theorem dX12_feed_97 : decode cX12_feed 97 = .ok (.iconst 4, 1) := z_o7 (z_wat (q := 96) (j := 1) zwX12_feed_96 rfl)
theorem dX12_feed_98 : decode cX12_feed 98 = .ok (.irem, 1) := z_o112 (z_wat (q := 96) (j := 2) zwX12_feed_96 rfl)
theorem dX12_feed_99 : decode cX12_feed 99 = .ok (.imul, 1) := z_o104 (z_wat (q := 96) (j := 3) zwX12_feed_96 rfl)
theorem dX12_feed_100 : decode cX12_feed 100 = .ok (.isub, 1) := z_o100 (z_wat (q := 96) (j := 4) zwX12_feed_96 rfl)
theorem dX12_feed_101 : decode cX12_feed 101 = .ok (.ishr, 1) := z_o122 (z_wat (q := 96) (j := 5) zwX12_feed_96 rfl)
theorem dX12_feed_102 : decode cX12_feed 102 = .ok (.sipush 255, 3) := z_o17 (z_wat (q := 96) (j := 6) zwX12_feed_96 rfl) (z_wat (q := 96) (j := 7) zwX12_feed_96 rfl) (z_wat (q := 96) (j := 8) zwX12_feed_96 rfl) rfl
theorem dX12_feed_105 : decode cX12_feed 105 = .ok (.iand, 1) := z_o126 (z_wat (q := 96) (j := 9) zwX12_feed_96 rfl)
theorem dX12_feed_106 : decode cX12_feed 106 = .ok (.iastore, 1) := z_o79 (z_wat (q := 96) (j := 10) zwX12_feed_96 rfl)
theorem dX12_feed_107 : decode cX12_feed 107 = .ok (.iinc 6 1, 3) := z_o132 (z_wat (q := 96) (j := 11) zwX12_feed_96 rfl) (z_wat (q := 96) (j := 12) zwX12_feed_96 rfl) (z_wat (q := 96) (j := 13) zwX12_feed_96 rfl) rfl
theorem dX12_feed_110 : decode cX12_feed 110 = .ok (.goto (-87), 3) := z_o167 (z_wat (q := 96) (j := 14) zwX12_feed_96 rfl) (z_wat (q := 96) (j := 15) zwX12_feed_96 rfl) (z_wat (q := 96) (j := 16) zwX12_feed_96 rfl) rfl
theorem dX12_feed_113 : decode cX12_feed 113 = .ok (.aload_n 0, 1) := z_o42 (z_wat (q := 96) (j := 17) zwX12_feed_96 rfl)
theorem dX12_feed_114 : decode cX12_feed 114 = .ok (.dup, 1) := z_o89 (z_wat (q := 96) (j := 18) zwX12_feed_96 rfl)
theorem dX12_feed_115 : decode cX12_feed 115 = .ok (.getfield 148, 3) := z_o180 (z_wat (q := 96) (j := 19) zwX12_feed_96 rfl) (z_wat (q := 96) (j := 20) zwX12_feed_96 rfl) (z_wat (q := 96) (j := 21) zwX12_feed_96 rfl) rfl
theorem dX12_feed_118 : decode cX12_feed 118 = .ok (.bipush 20, 2) := z_o16 (z_wat (q := 96) (j := 22) zwX12_feed_96 rfl) (z_wat (q := 96) (j := 23) zwX12_feed_96 rfl) rfl
theorem dX12_feed_120 : decode cX12_feed 120 = .ok (.iadd, 1) := z_o96 (z_wat (q := 96) (j := 24) zwX12_feed_96 rfl)
theorem dX12_feed_121 : decode cX12_feed 121 = .ok (.putfield 148, 3) := z_o181 (z_wat (q := 96) (j := 25) zwX12_feed_96 rfl) (z_wat (q := 96) (j := 26) zwX12_feed_96 rfl) (z_wat (q := 96) (j := 27) zwX12_feed_96 rfl) rfl
theorem dX12_feed_124 : decode cX12_feed 124 = .ok (.aload_n 0, 1) := z_o42 (z_wat (q := 96) (j := 28) zwX12_feed_96 rfl)
theorem dX12_feed_125 : decode cX12_feed 125 = .ok (.getfield 148, 3) := z_o180 (z_wat (q := 96) (j := 29) zwX12_feed_96 rfl) (z_wat (q := 96) (j := 30) zwX12_feed_96 rfl) (z_wat (q := 96) (j := 31) zwX12_feed_96 rfl) rfl
theorem zwX12_feed_128 : ((cX12_feed.data.toList.drop 128).take 1).map UInt8.toNat = [172] := by decide +kernel
theorem dX12_feed_128 : decode cX12_feed 128 = .ok (.ireturn, 1) := z_o172 (z_wat (q := 128) (j := 0) zwX12_feed_128 rfl)
theorem zwX12_gather_0 : ((cX12_gather.data.toList.drop 0).take 34).map UInt8.toNat = [3, 62, 3, 54, 4, 21, 4, 7, 162, 0, 17, 42, 180, 0, 84, 21, 4, 3, 79, 132, 4, 1, 167, 255, 239, 3, 54, 4, 21, 4, 42, 180, 0, 151] := by decide +kernel
theorem dX12_gather_0 : decode cX12_gather 0 = .ok (.iconst 0, 1) := z_o3 (z_wat (q := 0) (j := 0) zwX12_gather_0 rfl)
theorem dX12_gather_1 : decode cX12_gather 1 = .ok (.istore_n 3, 1) := z_o62 (z_wat (q := 0) (j := 1) zwX12_gather_0 rfl)
theorem dX12_gather_2 : decode cX12_gather 2 = .ok (.iconst 0, 1) := z_o3 (z_wat (q := 0) (j := 2) zwX12_gather_0 rfl)
theorem dX12_gather_3 : decode cX12_gather 3 = .ok (.istore 4, 2) := z_o54 (z_wat (q := 0) (j := 3) zwX12_gather_0 rfl) (z_wat (q := 0) (j := 4) zwX12_gather_0 rfl)
theorem dX12_gather_5 : decode cX12_gather 5 = .ok (.iload 4, 2) := z_o21 (z_wat (q := 0) (j := 5) zwX12_gather_0 rfl) (z_wat (q := 0) (j := 6) zwX12_gather_0 rfl)
theorem dX12_gather_7 : decode cX12_gather 7 = .ok (.iconst 4, 1) := z_o7 (z_wat (q := 0) (j := 7) zwX12_gather_0 rfl)
theorem dX12_gather_8 : decode cX12_gather 8 = .ok (.if_icmp .ge 17, 3) := z_o162 (z_wat (q := 0) (j := 8) zwX12_gather_0 rfl) (z_wat (q := 0) (j := 9) zwX12_gather_0 rfl) (z_wat (q := 0) (j := 10) zwX12_gather_0 rfl) rfl
theorem dX12_gather_11 : decode cX12_gather 11 = .ok (.aload_n 0, 1) := z_o42 (z_wat (q := 0) (j := 11) zwX12_gather_0 rfl)
theorem dX12_gather_12 : decode cX12_gather 12 = .ok (.getfield 84, 3) := z_o180 (z_wat (q := 0) (j := 12) zwX12_gather_0 rfl) (z_wat (q := 0) (j := 13) zwX12_gather_0 rfl) (z_wat (q := 0) (j := 14) zwX12_gather_0 rfl) rfl
theorem dX12_gather_15 : decode cX12_gather 15 = .ok (.iload 4, 2) := z_o21 (z_wat (q := 0) (j := 15) zwX12_gather_0 rfl) (z_wat (q := 0) (j := 16) zwX12_gather_0 rfl)
theorem dX12_gather_17 : decode cX12_gather 17 = .ok (.iconst 0, 1) := z_o3 (z_wat (q := 0) (j := 17) zwX12_gather_0 rfl)
theorem dX12_gather_18 : decode cX12_gather 18 = .ok (.iastore, 1) := z_o79 (z_wat (q := 0) (j := 18) zwX12_gather_0 rfl)
theorem dX12_gather_19 : decode cX12_gather 19 = .ok (.iinc 4 1, 3) := z_o132 (z_wat (q := 0) (j := 19) zwX12_gather_0 rfl) (z_wat (q := 0) (j := 20) zwX12_gather_0 rfl) (z_wat (q := 0) (j := 21) zwX12_gather_0 rfl) rfl
theorem dX12_gather_22 : decode cX12_gather 22 = .ok (.goto (-17), 3) := z_o167 (z_wat (q := 0) (j := 22) zwX12_gather_0 rfl) (z_wat (q := 0) (j := 23) zwX12_gather_0 rfl) (z_wat (q := 0) (j := 24) zwX12_gather_0 rfl) rfl
theorem dX12_gather_25 : decode cX12_gather 25 = .ok (.iconst 0, 1) := z_o3 (z_wat (q := 0) (j := 25) zwX12_gather_0 rfl)
theorem dX12_gather_26 : decode cX12_gather 26 = .ok (.istore 4, 2) := z_o54 (z_wat (q := 0) (j := 26) zwX12_gather_0 rfl) (z_wat (q := 0) (j := 27) zwX12_gather_0 rfl)
theorem dX12_gather_28 : decode cX12_gather 28 = .ok (.iload 4, 2) := z_o21 (z_wat (q := 0) (j := 28) zwX12_gather_0 rfl) (z_wat (q := 0) (j := 29) zwX12_gather_0 rfl)
theorem dX12_gather_30 : decode cX12_gather 30 = .ok (.aload_n 0, 1) := z_o42 (z_wat (q := 0) (j := 30) zwX12_gather_0 rfl)
theorem dX12_gather_31 : decode cX12_gather 31 = .ok (.getfield 151, 3) := z_o180 (z_wat (q := 0) (j := 31) zwX12_gather_0 rfl) (z_wat (q := 0) (j := 32) zwX12_gather_0 rfl) (z_wat (q := 0) (j := 33) zwX12_gather_0 rfl) rfl
theorem zwX12_gather_32 : ((cX12_gather.data.toList.drop 32).take 34).map UInt8.toNat = [0, 151, 162, 0, 82, 3, 54, 5, 21, 5, 7, 162, 0, 67, 42, 180, 0, 32, 21, 4, 46, 27, 160, 0, 56, 42, 180, 0, 84, 21, 5, 92, 46, 42] := by decide +kernel
theorem dX12_gather_34 : decode cX12_gather 34 = .ok (.if_icmp .ge 82, 3) := z_o162 (z_wat (q := 32) (j := 2) zwX12_gather_32 rfl) (z_wat (q := 32) (j := 3) zwX12_gather_32 rfl) (z_wat (q := 32) (j := 4) zwX12_gather_32 rfl) rfl
theorem dX12_gather_37 : decode cX12_gather 37 = .ok (.iconst 0, 1) := z_o3 (z_wat (q := 32) (j := 5) zwX12_gather_32 rfl)
theorem dX12_gather_38 : decode cX12_gather 38 = .ok (.istore 5, 2) := z_o54 (z_wat (q := 32) (j := 6) zwX12_gather_32 rfl) (z_wat (q := 32) (j := 7) zwX12_gather_32 rfl)
theorem dX12_gather_40 : decode cX12_gather 40 = .ok (.iload 5, 2) := z_o21 (z_wat (q := 32) (j := 8) zwX12_gather_32 rfl) (z_wat (q := 32) (j := 9) zwX12_gather_32 rfl)
theorem dX12_gather_42 : decode cX12_gather 42 = .ok (.iconst 4, 1) := z_o7 (z_wat (q := 32) (j := 10) zwX12_gather_32 rfl)
theorem dX12_gather_43 : decode cX12_gather 43 = .ok (.if_icmp .ge 67, 3) := z_o162 (z_wat (q := 32) (j := 11) zwX12_gather_32 rfl) (z_wat (q := 32) (j := 12) zwX12_gather_32 rfl) (z_wat (q := 32) (j := 13) zwX12_gather_32 rfl) rfl
theorem dX12_gather_46 : decode cX12_gather 46 = .ok (.aload_n 0, 1) := z_o42 (z_wat (q := 32) (j := 14) zwX12_gather_32 rfl)
theorem dX12_gather_47 : decode cX12_gather 47 = .ok (.getfield 32, 3) := z_o180 (z_wat (q := 32) (j := 15) zwX12_gather_32 rfl) (z_wat (q := 32) (j := 16) zwX12_gather_32 rfl) (z_wat (q := 32) (j := 17) zwX12_gather_32 rfl) rfl
theorem dX12_gather_50 : decode cX12_gather 50 = .ok (.iload 4, 2) := z_o21 (z_wat (q := 32) (j := 18) zwX12_gather_32 rfl) (z_wat (q := 32) (j := 19) zwX12_gather_32 rfl)
theorem dX12_gather_52 : decode cX12_gather 52 = .ok (.iaload, 1) := z_o46 (z_wat (q := 32) (j := 20) zwX12_gather_32 rfl)
theorem dX12_gather_53 : decode cX12_gather 53 = .ok (.iload_n 1, 1) := z_o27 (z_wat (q := 32) (j := 21) zwX12_gather_32 rfl)
theorem dX12_gather_54 : decode cX12_gather 54 = .ok (.if_icmp .ne 56, 3) := z_o160 (z_wat (q := 32) (j := 22) zwX12_gather_32 rfl) (z_wat (q := 32) (j := 23) zwX12_gather_32 rfl) (z_wat (q := 32) (j := 24) zwX12_gather_32 rfl) rfl
theorem dX12_gather_57 : decode cX12_gather 57 = .ok (.aload_n 0, 1) := z_o42 (z_wat (q := 32) (j := 25) zwX12_gather_32 rfl)
theorem dX12_gather_58 : decode cX12_gather 58 = .ok (.getfield 84, 3) := z_o180 (z_wat (q := 32) (j := 26) zwX12_gather_32 rfl) (z_wat (q := 32) (j := 27) zwX12_gather_32 rfl) (z_wat (q := 32) (j := 28) zwX12_gather_32 rfl) rfl
theorem dX12_gather_61 : decode cX12_gather 61 = .ok (.iload 5, 2) := z_o21 (z_wat (q := 32) (j := 29) zwX12_gather_32 rfl) (z_wat (q := 32) (j := 30) zwX12_gather_32 rfl)
theorem dX12_gather_63 : decode cX12_gather 63 = .ok (.dup2, 1) := z_o92 (z_wat (q := 32) (j := 31) zwX12_gather_32 rfl)
theorem zwX12_gather_64 : ((cX12_gather.data.toList.drop 64).take 34).map UInt8.toNat = [46, 42, 180, 0, 81, 16, 12, 21, 4, 104, 7, 28, 104, 96, 21, 5, 96, 46, 96, 79, 29, 42, 180, 0, 81, 16, 12, 21, 4, 104, 7, 28, 104, 96] := by decide +kernel
theorem dX12_gather_64 : decode cX12_gather 64 = .ok (.iaload, 1) := z_o46 (z_wat (q := 64) (j := 0) zwX12_gather_64 rfl)
theorem dX12_gather_65 : decode cX12_gather 65 = .ok (.aload_n 0, 1) := z_o42 (z_wat (q := 64) (j := 1) zwX12_gather_64 rfl)
theorem dX12_gather_66 : decode cX12_gather 66 = .ok (.getfield 81, 3) := z_o180 (z_wat (q := 64) (j := 2) zwX12_gather_64 rfl) (z_wat (q := 64) (j := 3) zwX12_gather_64 rfl) (z_wat (q := 64) (j := 4) zwX12_gather_64 rfl) rfl
theorem dX12_gather_69 : decode cX12_gather 69 = .ok (.bipush 12, 2) := z_o16 (z_wat (q := 64) (j := 5) zwX12_gather_64 rfl) (z_wat (q := 64) (j := 6) zwX12_gather_64 rfl) rfl
theorem dX12_gather_71 : decode cX12_gather 71 = .ok (.iload 4, 2) := z_o21 (z_wat (q := 64) (j := 7) zwX12_gather_64 rfl) (z_wat (q := 64) (j := 8) zwX12_gather_64 rfl)
theorem dX12_gather_73 : decode cX12_gather 73 = .ok (.imul, 1) := z_o104 (z_wat (q := 64) (j := 9) zwX12_gather_64 rfl)
theorem dX12_gather_74 : decode cX12_gather 74 = .ok (.iconst 4, 1) := z_o7 (z_wat (q := 64) (j := 10) zwX12_gather_64 rfl)
theorem dX12_gather_75 : decode cX12_gather 75 = .ok (.iload_n 2, 1) := z_o28 (z_wat (q := 64) (j := 11) zwX12_gather_64 rfl)
theorem dX12_gather_76 : decode cX12_gather 76 = .ok (.imul, 1) := z_o104 (z_wat (q := 64) (j := 12) zwX12_gather_64 rfl)
theorem dX12_gather_77 : decode cX12_gather 77 = .ok (.iadd, 1) := z_o96 (z_wat (q := 64) (j := 13) zwX12_gather_64 rfl)
theorem dX12_gather_78 : decode cX12_gather 78 = .ok (.iload 5, 2) := z_o21 (z_wat (q := 64) (j := 14) zwX12_gather_64 rfl) (z_wat (q := 64) (j := 15) zwX12_gather_64 rfl)
theorem dX12_gather_80 : decode cX12_gather 80 = .ok (.iadd, 1) := z_o96 (z_wat (q := 64) (j := 16) zwX12_gather_64 rfl)
theorem dX12_gather_81 : decode cX12_gather 81 = .ok (.iaload, 1) := z_o46 (z_wat (q := 64) (j := 17) zwX12_gather_64 rfl)
theorem dX12_gather_82 : decode cX12_gather 82 = .ok (.iadd, 1) := z_o96 (z_wat (q := 64) (j := 18) zwX12_gather_64 rfl)
theorem dX12_gather_83 : decode cX12_gather 83 = .ok (.iastore, 1) := z_o79 (z_wat (q := 64) (j := 19) zwX12_gather_64 rfl)
theorem dX12_gather_84 : decode cX12_gather 84 = .ok (.iload_n 3, 1) := z_o29 (z_wat (q := 64) (j := 20) zwX12_gather_64 rfl)
theorem dX12_gather_85 : decode cX12_gather 85 = .ok (.aload_n 0, 1) := z_o42 (z_wat (q := 64) (j := 21) zwX12_gather_64 rfl)
theorem dX12_gather_86 : decode cX12_gather 86 = .ok (.getfield 81, 3) := z_o180 (z_wat (q := 64) (j := 22) zwX12_gather_64 rfl) (z_wat (q := 64) (j := 23) zwX12_gather_64 rfl) (z_wat (q := 64) (j := 24) zwX12_gather_64 rfl) rfl
theorem dX12_gather_89 : decode cX12_gather 89 = .ok (.bipush 12, 2) := z_o16 (z_wat (q := 64) (j := 25) zwX12_gather_64 rfl) (z_wat (q := 64) (j := 26) zwX12_gather_64 rfl) rfl
theorem dX12_gather_91 : decode cX12_gather 91 = .ok (.iload 4, 2) := z_o21 (z_wat (q := 64) (j := 27) zwX12_gather_64 rfl) (z_wat (q := 64) (j := 28) zwX12_gather_64 rfl)
theorem dX12_gather_93 : decode cX12_gather 93 = .ok (.imul, 1) := z_o104 (z_wat (q := 64) (j := 29) zwX12_gather_64 rfl)
theorem dX12_gather_94 : decode cX12_gather 94 = .ok (.iconst 4, 1) := z_o7 (z_wat (q := 64) (j := 30) zwX12_gather_64 rfl)
theorem dX12_gather_95 : decode cX12_gather 95 = .ok (.iload_n 2, 1) := z_o28 (z_wat (q := 64) (j := 31) zwX12_gather_64 rfl)
theorem zwX12_gather_96 : ((cX12_gather.data.toList.drop 96).take 22).map UInt8.toNat = [104, 96, 21, 5, 96, 46, 96, 62, 132, 5, 1, 167, 255, 189, 132, 4, 1, 167, 255, 171, 29, 172] := by decide +kernel
theorem dX12_gather_96 : decode cX12_gather 96 = .ok (.imul, 1) := z_o104 (z_wat (q := 96) (j := 0) zwX12_gather_96 rfl)
theorem dX12_gather_97 : decode cX12_gather 97 = .ok (.iadd, 1) := z_o96 (z_wat (q := 96) (j := 1) zwX12_gather_96 rfl)
theorem dX12_gather_98 : decode cX12_gather 98 = .ok (.iload 5, 2) := z_o21 (z_wat (q := 96) (j := 2) zwX12_gather_96 rfl) (z_wat (q := 96) (j := 3) zwX12_gather_96 rfl)
theorem dX12_gather_100 : decode cX12_gather 100 = .ok (.iadd, 1) := z_o96 (z_wat (q := 96) (j := 4) zwX12_gather_96 rfl)
theorem dX12_gather_101 : decode cX12_gather 101 = .ok (.iaload, 1) := z_o46 (z_wat (q := 96) (j := 5) zwX12_gather_96 rfl)
theorem dX12_gather_102 : decode cX12_gather 102 = .ok (.iadd, 1) := z_o96 (z_wat (q := 96) (j := 6) zwX12_gather_96 rfl)
theorem dX12_gather_103 : decode cX12_gather 103 = .ok (.istore_n 3, 1) := z_o62 (z_wat (q := 96) (j := 7) zwX12_gather_96 rfl)
theorem dX12_gather_104 : decode cX12_gather 104 = .ok (.iinc 5 1, 3) := z_o132 (z_wat (q := 96) (j := 8) zwX12_gather_96 rfl) (z_wat (q := 96) (j := 9) zwX12_gather_96 rfl) (z_wat (q := 96) (j := 10) zwX12_gather_96 rfl) rfl
theorem dX12_gather_107 : decode cX12_gather 107 = .ok (.goto (-67), 3) := z_o167 (z_wat (q := 96) (j := 11) zwX12_gather_96 rfl) (z_wat (q := 96) (j := 12) zwX12_gather_96 rfl) (z_wat (q := 96) (j := 13) zwX12_gather_96 rfl) rfl
theorem dX12_gather_110 : decode cX12_gather 110 = .ok (.iinc 4 1, 3) := z_o132 (z_wat (q := 96) (j := 14) zwX12_gather_96 rfl) (z_wat (q := 96) (j := 15) zwX12_gather_96 rfl) (z_wat (q := 96) (j := 16) zwX12_gather_96 rfl) rfl
theorem dX12_gather_113 : decode cX12_gather 113 = .ok (.goto (-85), 3) := z_o167 (z_wat (q := 96) (j := 17) zwX12_gather_96 rfl) (z_wat (q := 96) (j := 18) zwX12_gather_96 rfl) (z_wat (q := 96) (j := 19) zwX12_gather_96 rfl) rfl
theorem dX12_gather_116 : decode cX12_gather 116 = .ok (.iload_n 3, 1) := z_o29 (z_wat (q := 96) (j := 20) zwX12_gather_96 rfl)
theorem dX12_gather_117 : decode cX12_gather 117 = .ok (.ireturn, 1) := z_o172 (z_wat (q := 96) (j := 21) zwX12_gather_96 rfl)
theorem zwX12_heap_0 : ((cX12_heap.data.toList.drop 0).take 34).map UInt8.toNat = [42, 3, 181, 0, 145, 27, 5, 161, 0, 20, 27, 16, 12, 163, 0, 14, 28, 5, 161, 0, 9, 28, 16, 12, 164, 0, 5, 3, 172, 42, 27, 181, 0, 47] := by decide +kernel
theorem dX12_heap_0 : decode cX12_heap 0 = .ok (.aload_n 0, 1) := z_o42 (z_wat (q := 0) (j := 0) zwX12_heap_0 rfl)
theorem dX12_heap_1 : decode cX12_heap 1 = .ok (.iconst 0, 1) := z_o3 (z_wat (q := 0) (j := 1) zwX12_heap_0 rfl)
theorem dX12_heap_2 : decode cX12_heap 2 = .ok (.putfield 145, 3) := z_o181 (z_wat (q := 0) (j := 2) zwX12_heap_0 rfl) (z_wat (q := 0) (j := 3) zwX12_heap_0 rfl) (z_wat (q := 0) (j := 4) zwX12_heap_0 rfl) rfl
theorem dX12_heap_5 : decode cX12_heap 5 = .ok (.iload_n 1, 1) := z_o27 (z_wat (q := 0) (j := 5) zwX12_heap_0 rfl)
theorem dX12_heap_6 : decode cX12_heap 6 = .ok (.iconst 2, 1) := z_o5 (z_wat (q := 0) (j := 6) zwX12_heap_0 rfl)
theorem dX12_heap_7 : decode cX12_heap 7 = .ok (.if_icmp .lt 20, 3) := z_o161 (z_wat (q := 0) (j := 7) zwX12_heap_0 rfl) (z_wat (q := 0) (j := 8) zwX12_heap_0 rfl) (z_wat (q := 0) (j := 9) zwX12_heap_0 rfl) rfl
theorem dX12_heap_10 : decode cX12_heap 10 = .ok (.iload_n 1, 1) := z_o27 (z_wat (q := 0) (j := 10) zwX12_heap_0 rfl)
theorem dX12_heap_11 : decode cX12_heap 11 = .ok (.bipush 12, 2) := z_o16 (z_wat (q := 0) (j := 11) zwX12_heap_0 rfl) (z_wat (q := 0) (j := 12) zwX12_heap_0 rfl) rfl
theorem dX12_heap_13 : decode cX12_heap 13 = .ok (.if_icmp .gt 14, 3) := z_o163 (z_wat (q := 0) (j := 13) zwX12_heap_0 rfl) (z_wat (q := 0) (j := 14) zwX12_heap_0 rfl) (z_wat (q := 0) (j := 15) zwX12_heap_0 rfl) rfl
theorem dX12_heap_16 : decode cX12_heap 16 = .ok (.iload_n 2, 1) := z_o28 (z_wat (q := 0) (j := 16) zwX12_heap_0 rfl)
theorem dX12_heap_17 : decode cX12_heap 17 = .ok (.iconst 2, 1) := z_o5 (z_wat (q := 0) (j := 17) zwX12_heap_0 rfl)
theorem dX12_heap_18 : decode cX12_heap 18 = .ok (.if_icmp .lt 9, 3) := z_o161 (z_wat (q := 0) (j := 18) zwX12_heap_0 rfl) (z_wat (q := 0) (j := 19) zwX12_heap_0 rfl) (z_wat (q := 0) (j := 20) zwX12_heap_0 rfl) rfl
theorem dX12_heap_21 : decode cX12_heap 21 = .ok (.iload_n 2, 1) := z_o28 (z_wat (q := 0) (j := 21) zwX12_heap_0 rfl)
theorem dX12_heap_22 : decode cX12_heap 22 = .ok (.bipush 12, 2) := z_o16 (z_wat (q := 0) (j := 22) zwX12_heap_0 rfl) (z_wat (q := 0) (j := 23) zwX12_heap_0 rfl) rfl
theorem dX12_heap_24 : decode cX12_heap 24 = .ok (.if_icmp .le 5, 3) := z_o164 (z_wat (q := 0) (j := 24) zwX12_heap_0 rfl) (z_wat (q := 0) (j := 25) zwX12_heap_0 rfl) (z_wat (q := 0) (j := 26) zwX12_heap_0 rfl) rfl
theorem dX12_heap_27 : decode cX12_heap 27 = .ok (.iconst 0, 1) := z_o3 (z_wat (q := 0) (j := 27) zwX12_heap_0 rfl)
theorem dX12_heap_28 : decode cX12_heap 28 = .ok (.ireturn, 1) := z_o172 (z_wat (q := 0) (j := 28) zwX12_heap_0 rfl)
theorem dX12_heap_29 : decode cX12_heap 29 = .ok (.aload_n 0, 1) := z_o42 (z_wat (q := 0) (j := 29) zwX12_heap_0 rfl)
theorem dX12_heap_30 : decode cX12_heap 30 = .ok (.iload_n 1, 1) := z_o27 (z_wat (q := 0) (j := 30) zwX12_heap_0 rfl)
theorem dX12_heap_31 : decode cX12_heap 31 = .ok (.putfield 47, 3) := z_o181 (z_wat (q := 0) (j := 31) zwX12_heap_0 rfl) (z_wat (q := 0) (j := 32) zwX12_heap_0 rfl) (z_wat (q := 0) (j := 33) zwX12_heap_0 rfl) rfl
theorem zwX12_heap_32 : ((cX12_heap.data.toList.drop 32).take 14).map UInt8.toNat = [0, 47, 42, 28, 181, 0, 51, 42, 3, 181, 0, 181, 4, 172] := by decide +kernel
theorem dX12_heap_34 : decode cX12_heap 34 = .ok (.aload_n 0, 1) := z_o42 (z_wat (q := 32) (j := 2) zwX12_heap_32 rfl)
theorem dX12_heap_35 : decode cX12_heap 35 = .ok (.iload_n 2, 1) := z_o28 (z_wat (q := 32) (j := 3) zwX12_heap_32 rfl)
theorem dX12_heap_36 : decode cX12_heap 36 = .ok (.putfield 51, 3) := z_o181 (z_wat (q := 32) (j := 4) zwX12_heap_32 rfl) (z_wat (q := 32) (j := 5) zwX12_heap_32 rfl) (z_wat (q := 32) (j := 6) zwX12_heap_32 rfl) rfl
theorem dX12_heap_39 : decode cX12_heap 39 = .ok (.aload_n 0, 1) := z_o42 (z_wat (q := 32) (j := 7) zwX12_heap_32 rfl)
theorem dX12_heap_40 : decode cX12_heap 40 = .ok (.iconst 0, 1) := z_o3 (z_wat (q := 32) (j := 8) zwX12_heap_32 rfl)
theorem dX12_heap_41 : decode cX12_heap 41 = .ok (.putfield 181, 3) := z_o181 (z_wat (q := 32) (j := 9) zwX12_heap_32 rfl) (z_wat (q := 32) (j := 10) zwX12_heap_32 rfl) (z_wat (q := 32) (j := 11) zwX12_heap_32 rfl) rfl
theorem dX12_heap_44 : decode cX12_heap 44 = .ok (.iconst 1, 1) := z_o4 (z_wat (q := 32) (j := 12) zwX12_heap_32 rfl)
theorem dX12_heap_45 : decode cX12_heap 45 = .ok (.ireturn, 1) := z_o172 (z_wat (q := 32) (j := 13) zwX12_heap_32 rfl)
theorem zwX12_isFew_0 : ((cX12_isFew.data.toList.drop 0).take 16).map UInt8.toNat = [26, 155, 0, 13, 26, 16, 9, 163, 0, 7, 4, 167, 0, 4, 3, 172] := by decide +kernel
theorem dX12_isFew_0 : decode cX12_isFew 0 = .ok (.iload_n 0, 1) := z_o26 (z_wat (q := 0) (j := 0) zwX12_isFew_0 rfl)
theorem dX12_isFew_1 : decode cX12_isFew 1 = .ok (.ifCond .lt 13, 3) := z_o155 (z_wat (q := 0) (j := 1) zwX12_isFew_0 rfl) (z_wat (q := 0) (j := 2) zwX12_isFew_0 rfl) (z_wat (q := 0) (j := 3) zwX12_isFew_0 rfl) rfl
theorem dX12_isFew_4 : decode cX12_isFew 4 = .ok (.iload_n 0, 1) := z_o26 (z_wat (q := 0) (j := 4) zwX12_isFew_0 rfl)
theorem dX12_isFew_5 : decode cX12_isFew 5 = .ok (.bipush 9, 2) := z_o16 (z_wat (q := 0) (j := 5) zwX12_isFew_0 rfl) (z_wat (q := 0) (j := 6) zwX12_isFew_0 rfl) rfl
theorem dX12_isFew_7 : decode cX12_isFew 7 = .ok (.if_icmp .gt 7, 3) := z_o163 (z_wat (q := 0) (j := 7) zwX12_isFew_0 rfl) (z_wat (q := 0) (j := 8) zwX12_isFew_0 rfl) (z_wat (q := 0) (j := 9) zwX12_isFew_0 rfl) rfl
theorem dX12_isFew_10 : decode cX12_isFew 10 = .ok (.iconst 1, 1) := z_o4 (z_wat (q := 0) (j := 10) zwX12_isFew_0 rfl)
theorem dX12_isFew_11 : decode cX12_isFew 11 = .ok (.goto 4, 3) := z_o167 (z_wat (q := 0) (j := 11) zwX12_isFew_0 rfl) (z_wat (q := 0) (j := 12) zwX12_isFew_0 rfl) (z_wat (q := 0) (j := 13) zwX12_isFew_0 rfl) rfl
theorem dX12_isFew_14 : decode cX12_isFew 14 = .ok (.iconst 0, 1) := z_o3 (z_wat (q := 0) (j := 14) zwX12_isFew_0 rfl)
theorem dX12_isFew_15 : decode cX12_isFew 15 = .ok (.ireturn, 1) := z_o172 (z_wat (q := 0) (j := 15) zwX12_isFew_0 rfl)
theorem zwX12_isKind_0 : ((cX12_isKind.data.toList.drop 0).take 18).map UInt8.toNat = [27, 155, 0, 15, 27, 42, 180, 0, 192, 162, 0, 7, 4, 167, 0, 4, 3, 172] := by decide +kernel
theorem dX12_isKind_0 : decode cX12_isKind 0 = .ok (.iload_n 1, 1) := z_o27 (z_wat (q := 0) (j := 0) zwX12_isKind_0 rfl)
theorem dX12_isKind_1 : decode cX12_isKind 1 = .ok (.ifCond .lt 15, 3) := z_o155 (z_wat (q := 0) (j := 1) zwX12_isKind_0 rfl) (z_wat (q := 0) (j := 2) zwX12_isKind_0 rfl) (z_wat (q := 0) (j := 3) zwX12_isKind_0 rfl) rfl
theorem dX12_isKind_4 : decode cX12_isKind 4 = .ok (.iload_n 1, 1) := z_o27 (z_wat (q := 0) (j := 4) zwX12_isKind_0 rfl)
theorem dX12_isKind_5 : decode cX12_isKind 5 = .ok (.aload_n 0, 1) := z_o42 (z_wat (q := 0) (j := 5) zwX12_isKind_0 rfl)
theorem dX12_isKind_6 : decode cX12_isKind 6 = .ok (.getfield 192, 3) := z_o180 (z_wat (q := 0) (j := 6) zwX12_isKind_0 rfl) (z_wat (q := 0) (j := 7) zwX12_isKind_0 rfl) (z_wat (q := 0) (j := 8) zwX12_isKind_0 rfl) rfl
theorem dX12_isKind_9 : decode cX12_isKind 9 = .ok (.if_icmp .ge 7, 3) := z_o162 (z_wat (q := 0) (j := 9) zwX12_isKind_0 rfl) (z_wat (q := 0) (j := 10) zwX12_isKind_0 rfl) (z_wat (q := 0) (j := 11) zwX12_isKind_0 rfl) rfl
theorem dX12_isKind_12 : decode cX12_isKind 12 = .ok (.iconst 1, 1) := z_o4 (z_wat (q := 0) (j := 12) zwX12_isKind_0 rfl)
theorem dX12_isKind_13 : decode cX12_isKind 13 = .ok (.goto 4, 3) := z_o167 (z_wat (q := 0) (j := 13) zwX12_isKind_0 rfl) (z_wat (q := 0) (j := 14) zwX12_isKind_0 rfl) (z_wat (q := 0) (j := 15) zwX12_isKind_0 rfl) rfl
theorem dX12_isKind_16 : decode cX12_isKind 16 = .ok (.iconst 0, 1) := z_o3 (z_wat (q := 0) (j := 16) zwX12_isKind_0 rfl)
theorem dX12_isKind_17 : decode cX12_isKind 17 = .ok (.ireturn, 1) := z_o172 (z_wat (q := 0) (j := 17) zwX12_isKind_0 rfl)
theorem zwX12_isKnown_0 : ((cX12_isKnown.data.toList.drop 0).take 18).map UInt8.toNat = [27, 155, 0, 15, 27, 42, 180, 0, 154, 163, 0, 7, 4, 167, 0, 4, 3, 172] := by decide +kernel
theorem dX12_isKnown_0 : decode cX12_isKnown 0 = .ok (.iload_n 1, 1) := z_o27 (z_wat (q := 0) (j := 0) zwX12_isKnown_0 rfl)
theorem dX12_isKnown_1 : decode cX12_isKnown 1 = .ok (.ifCond .lt 15, 3) := z_o155 (z_wat (q := 0) (j := 1) zwX12_isKnown_0 rfl) (z_wat (q := 0) (j := 2) zwX12_isKnown_0 rfl) (z_wat (q := 0) (j := 3) zwX12_isKnown_0 rfl) rfl
theorem dX12_isKnown_4 : decode cX12_isKnown 4 = .ok (.iload_n 1, 1) := z_o27 (z_wat (q := 0) (j := 4) zwX12_isKnown_0 rfl)
theorem dX12_isKnown_5 : decode cX12_isKnown 5 = .ok (.aload_n 0, 1) := z_o42 (z_wat (q := 0) (j := 5) zwX12_isKnown_0 rfl)
theorem dX12_isKnown_6 : decode cX12_isKnown 6 = .ok (.getfield 154, 3) := z_o180 (z_wat (q := 0) (j := 6) zwX12_isKnown_0 rfl) (z_wat (q := 0) (j := 7) zwX12_isKnown_0 rfl) (z_wat (q := 0) (j := 8) zwX12_isKnown_0 rfl) rfl
theorem dX12_isKnown_9 : decode cX12_isKnown 9 = .ok (.if_icmp .gt 7, 3) := z_o163 (z_wat (q := 0) (j := 9) zwX12_isKnown_0 rfl) (z_wat (q := 0) (j := 10) zwX12_isKnown_0 rfl) (z_wat (q := 0) (j := 11) zwX12_isKnown_0 rfl) rfl
theorem dX12_isKnown_12 : decode cX12_isKnown 12 = .ok (.iconst 1, 1) := z_o4 (z_wat (q := 0) (j := 12) zwX12_isKnown_0 rfl)
theorem dX12_isKnown_13 : decode cX12_isKnown 13 = .ok (.goto 4, 3) := z_o167 (z_wat (q := 0) (j := 13) zwX12_isKnown_0 rfl) (z_wat (q := 0) (j := 14) zwX12_isKnown_0 rfl) (z_wat (q := 0) (j := 15) zwX12_isKnown_0 rfl) rfl
theorem dX12_isKnown_16 : decode cX12_isKnown 16 = .ok (.iconst 0, 1) := z_o3 (z_wat (q := 0) (j := 16) zwX12_isKnown_0 rfl)
theorem dX12_isKnown_17 : decode cX12_isKnown 17 = .ok (.ireturn, 1) := z_o172 (z_wat (q := 0) (j := 17) zwX12_isKnown_0 rfl)
theorem zwX12_isLayer_0 : ((cX12_isLayer.data.toList.drop 0).take 18).map UInt8.toNat = [27, 155, 0, 15, 27, 42, 180, 0, 151, 162, 0, 7, 4, 167, 0, 4, 3, 172] := by decide +kernel
theorem dX12_isLayer_0 : decode cX12_isLayer 0 = .ok (.iload_n 1, 1) := z_o27 (z_wat (q := 0) (j := 0) zwX12_isLayer_0 rfl)
theorem dX12_isLayer_1 : decode cX12_isLayer 1 = .ok (.ifCond .lt 15, 3) := z_o155 (z_wat (q := 0) (j := 1) zwX12_isLayer_0 rfl) (z_wat (q := 0) (j := 2) zwX12_isLayer_0 rfl) (z_wat (q := 0) (j := 3) zwX12_isLayer_0 rfl) rfl
theorem dX12_isLayer_4 : decode cX12_isLayer 4 = .ok (.iload_n 1, 1) := z_o27 (z_wat (q := 0) (j := 4) zwX12_isLayer_0 rfl)
theorem dX12_isLayer_5 : decode cX12_isLayer 5 = .ok (.aload_n 0, 1) := z_o42 (z_wat (q := 0) (j := 5) zwX12_isLayer_0 rfl)
theorem dX12_isLayer_6 : decode cX12_isLayer 6 = .ok (.getfield 151, 3) := z_o180 (z_wat (q := 0) (j := 6) zwX12_isLayer_0 rfl) (z_wat (q := 0) (j := 7) zwX12_isLayer_0 rfl) (z_wat (q := 0) (j := 8) zwX12_isLayer_0 rfl) rfl
theorem dX12_isLayer_9 : decode cX12_isLayer 9 = .ok (.if_icmp .ge 7, 3) := z_o162 (z_wat (q := 0) (j := 9) zwX12_isLayer_0 rfl) (z_wat (q := 0) (j := 10) zwX12_isLayer_0 rfl) (z_wat (q := 0) (j := 11) zwX12_isLayer_0 rfl) rfl
theorem dX12_isLayer_12 : decode cX12_isLayer 12 = .ok (.iconst 1, 1) := z_o4 (z_wat (q := 0) (j := 12) zwX12_isLayer_0 rfl)
theorem dX12_isLayer_13 : decode cX12_isLayer 13 = .ok (.goto 4, 3) := z_o167 (z_wat (q := 0) (j := 13) zwX12_isLayer_0 rfl) (z_wat (q := 0) (j := 14) zwX12_isLayer_0 rfl) (z_wat (q := 0) (j := 15) zwX12_isLayer_0 rfl) rfl
theorem dX12_isLayer_16 : decode cX12_isLayer 16 = .ok (.iconst 0, 1) := z_o3 (z_wat (q := 0) (j := 16) zwX12_isLayer_0 rfl)
theorem dX12_isLayer_17 : decode cX12_isLayer 17 = .ok (.ireturn, 1) := z_o172 (z_wat (q := 0) (j := 17) zwX12_isLayer_0 rfl)
theorem zwX12_isReader_0 : ((cX12_isReader.data.toList.drop 0).take 15).map UInt8.toNat = [26, 155, 0, 12, 26, 6, 162, 0, 7, 4, 167, 0, 4, 3, 172] := by decide +kernel
theorem dX12_isReader_0 : decode cX12_isReader 0 = .ok (.iload_n 0, 1) := z_o26 (z_wat (q := 0) (j := 0) zwX12_isReader_0 rfl)
theorem dX12_isReader_1 : decode cX12_isReader 1 = .ok (.ifCond .lt 12, 3) := z_o155 (z_wat (q := 0) (j := 1) zwX12_isReader_0 rfl) (z_wat (q := 0) (j := 2) zwX12_isReader_0 rfl) (z_wat (q := 0) (j := 3) zwX12_isReader_0 rfl) rfl
theorem dX12_isReader_4 : decode cX12_isReader 4 = .ok (.iload_n 0, 1) := z_o26 (z_wat (q := 0) (j := 4) zwX12_isReader_0 rfl)
theorem dX12_isReader_5 : decode cX12_isReader 5 = .ok (.iconst 3, 1) := z_o6 (z_wat (q := 0) (j := 5) zwX12_isReader_0 rfl)
theorem dX12_isReader_6 : decode cX12_isReader 6 = .ok (.if_icmp .ge 7, 3) := z_o162 (z_wat (q := 0) (j := 6) zwX12_isReader_0 rfl) (z_wat (q := 0) (j := 7) zwX12_isReader_0 rfl) (z_wat (q := 0) (j := 8) zwX12_isReader_0 rfl) rfl
theorem dX12_isReader_9 : decode cX12_isReader 9 = .ok (.iconst 1, 1) := z_o4 (z_wat (q := 0) (j := 9) zwX12_isReader_0 rfl)
theorem dX12_isReader_10 : decode cX12_isReader 10 = .ok (.goto 4, 3) := z_o167 (z_wat (q := 0) (j := 10) zwX12_isReader_0 rfl) (z_wat (q := 0) (j := 11) zwX12_isReader_0 rfl) (z_wat (q := 0) (j := 12) zwX12_isReader_0 rfl) rfl
theorem dX12_isReader_13 : decode cX12_isReader 13 = .ok (.iconst 0, 1) := z_o3 (z_wat (q := 0) (j := 13) zwX12_isReader_0 rfl)
theorem dX12_isReader_14 : decode cX12_isReader 14 = .ok (.ireturn, 1) := z_o172 (z_wat (q := 0) (j := 14) zwX12_isReader_0 rfl)
theorem zwX12_kept_0 : ((cX12_kept.data.toList.drop 0).take 34).map UInt8.toNat = [42, 3, 181, 0, 145, 42, 27, 182, 0, 195, 153, 0, 23, 28, 155, 0, 19, 28, 6, 163, 0, 14, 29, 4, 161, 0, 9, 29, 16, 16, 164, 0, 5, 3] := by decide +kernel
theorem dX12_kept_0 : decode cX12_kept 0 = .ok (.aload_n 0, 1) := z_o42 (z_wat (q := 0) (j := 0) zwX12_kept_0 rfl)
theorem dX12_kept_1 : decode cX12_kept 1 = .ok (.iconst 0, 1) := z_o3 (z_wat (q := 0) (j := 1) zwX12_kept_0 rfl)
theorem dX12_kept_2 : decode cX12_kept 2 = .ok (.putfield 145, 3) := z_o181 (z_wat (q := 0) (j := 2) zwX12_kept_0 rfl) (z_wat (q := 0) (j := 3) zwX12_kept_0 rfl) (z_wat (q := 0) (j := 4) zwX12_kept_0 rfl) rfl
theorem dX12_kept_5 : decode cX12_kept 5 = .ok (.aload_n 0, 1) := z_o42 (z_wat (q := 0) (j := 5) zwX12_kept_0 rfl)
theorem dX12_kept_6 : decode cX12_kept 6 = .ok (.iload_n 1, 1) := z_o27 (z_wat (q := 0) (j := 6) zwX12_kept_0 rfl)
theorem dX12_kept_7 : decode cX12_kept 7 = .ok (.invokevirtual 195, 3) := z_o182 (z_wat (q := 0) (j := 7) zwX12_kept_0 rfl) (z_wat (q := 0) (j := 8) zwX12_kept_0 rfl) (z_wat (q := 0) (j := 9) zwX12_kept_0 rfl) rfl
theorem dX12_kept_10 : decode cX12_kept 10 = .ok (.ifCond .eq 23, 3) := z_o153 (z_wat (q := 0) (j := 10) zwX12_kept_0 rfl) (z_wat (q := 0) (j := 11) zwX12_kept_0 rfl) (z_wat (q := 0) (j := 12) zwX12_kept_0 rfl) rfl
theorem dX12_kept_13 : decode cX12_kept 13 = .ok (.iload_n 2, 1) := z_o28 (z_wat (q := 0) (j := 13) zwX12_kept_0 rfl)
theorem dX12_kept_14 : decode cX12_kept 14 = .ok (.ifCond .lt 19, 3) := z_o155 (z_wat (q := 0) (j := 14) zwX12_kept_0 rfl) (z_wat (q := 0) (j := 15) zwX12_kept_0 rfl) (z_wat (q := 0) (j := 16) zwX12_kept_0 rfl) rfl
theorem dX12_kept_17 : decode cX12_kept 17 = .ok (.iload_n 2, 1) := z_o28 (z_wat (q := 0) (j := 17) zwX12_kept_0 rfl)
theorem dX12_kept_18 : decode cX12_kept 18 = .ok (.iconst 3, 1) := z_o6 (z_wat (q := 0) (j := 18) zwX12_kept_0 rfl)
theorem dX12_kept_19 : decode cX12_kept 19 = .ok (.if_icmp .gt 14, 3) := z_o163 (z_wat (q := 0) (j := 19) zwX12_kept_0 rfl) (z_wat (q := 0) (j := 20) zwX12_kept_0 rfl) (z_wat (q := 0) (j := 21) zwX12_kept_0 rfl) rfl
theorem dX12_kept_22 : decode cX12_kept 22 = .ok (.iload_n 3, 1) := z_o29 (z_wat (q := 0) (j := 22) zwX12_kept_0 rfl)
theorem dX12_kept_23 : decode cX12_kept 23 = .ok (.iconst 1, 1) := z_o4 (z_wat (q := 0) (j := 23) zwX12_kept_0 rfl)
theorem dX12_kept_24 : decode cX12_kept 24 = .ok (.if_icmp .lt 9, 3) := z_o161 (z_wat (q := 0) (j := 24) zwX12_kept_0 rfl) (z_wat (q := 0) (j := 25) zwX12_kept_0 rfl) (z_wat (q := 0) (j := 26) zwX12_kept_0 rfl) rfl
theorem dX12_kept_27 : decode cX12_kept 27 = .ok (.iload_n 3, 1) := z_o29 (z_wat (q := 0) (j := 27) zwX12_kept_0 rfl)
theorem dX12_kept_28 : decode cX12_kept 28 = .ok (.bipush 16, 2) := z_o16 (z_wat (q := 0) (j := 28) zwX12_kept_0 rfl) (z_wat (q := 0) (j := 29) zwX12_kept_0 rfl) rfl
theorem dX12_kept_30 : decode cX12_kept 30 = .ok (.if_icmp .le 5, 3) := z_o164 (z_wat (q := 0) (j := 30) zwX12_kept_0 rfl) (z_wat (q := 0) (j := 31) zwX12_kept_0 rfl) (z_wat (q := 0) (j := 32) zwX12_kept_0 rfl) rfl
theorem zwX12_kept_32 : ((cX12_kept.data.toList.drop 32).take 16).map UInt8.toNat = [5, 3, 172, 42, 180, 0, 69, 7, 27, 104, 28, 96, 29, 79, 4, 172] := by decide +kernel
theorem dX12_kept_33 : decode cX12_kept 33 = .ok (.iconst 0, 1) := z_o3 (z_wat (q := 32) (j := 1) zwX12_kept_32 rfl)
theorem dX12_kept_34 : decode cX12_kept 34 = .ok (.ireturn, 1) := z_o172 (z_wat (q := 32) (j := 2) zwX12_kept_32 rfl)
theorem dX12_kept_35 : decode cX12_kept 35 = .ok (.aload_n 0, 1) := z_o42 (z_wat (q := 32) (j := 3) zwX12_kept_32 rfl)
theorem dX12_kept_36 : decode cX12_kept 36 = .ok (.getfield 69, 3) := z_o180 (z_wat (q := 32) (j := 4) zwX12_kept_32 rfl) (z_wat (q := 32) (j := 5) zwX12_kept_32 rfl) (z_wat (q := 32) (j := 6) zwX12_kept_32 rfl) rfl
theorem dX12_kept_39 : decode cX12_kept 39 = .ok (.iconst 4, 1) := z_o7 (z_wat (q := 32) (j := 7) zwX12_kept_32 rfl)
theorem dX12_kept_40 : decode cX12_kept 40 = .ok (.iload_n 1, 1) := z_o27 (z_wat (q := 32) (j := 8) zwX12_kept_32 rfl)
theorem dX12_kept_41 : decode cX12_kept 41 = .ok (.imul, 1) := z_o104 (z_wat (q := 32) (j := 9) zwX12_kept_32 rfl)
theorem dX12_kept_42 : decode cX12_kept 42 = .ok (.iload_n 2, 1) := z_o28 (z_wat (q := 32) (j := 10) zwX12_kept_32 rfl)
theorem dX12_kept_43 : decode cX12_kept 43 = .ok (.iadd, 1) := z_o96 (z_wat (q := 32) (j := 11) zwX12_kept_32 rfl)
theorem dX12_kept_44 : decode cX12_kept 44 = .ok (.iload_n 3, 1) := z_o29 (z_wat (q := 32) (j := 12) zwX12_kept_32 rfl)
theorem dX12_kept_45 : decode cX12_kept 45 = .ok (.iastore, 1) := z_o79 (z_wat (q := 32) (j := 13) zwX12_kept_32 rfl)
theorem dX12_kept_46 : decode cX12_kept 46 = .ok (.iconst 1, 1) := z_o4 (z_wat (q := 32) (j := 14) zwX12_kept_32 rfl)
theorem dX12_kept_47 : decode cX12_kept 47 = .ok (.ireturn, 1) := z_o172 (z_wat (q := 32) (j := 15) zwX12_kept_32 rfl)
theorem zwX12_kind_0 : ((cX12_kind.data.toList.drop 0).take 34).map UInt8.toNat = [42, 3, 181, 0, 145, 42, 180, 0, 192, 16, 6, 159, 0, 24, 27, 155, 0, 20, 27, 17, 3, 231, 163, 0, 13, 28, 4, 161, 0, 8, 28, 5, 164, 0] := by decide +kernel
theorem dX12_kind_0 : decode cX12_kind 0 = .ok (.aload_n 0, 1) := z_o42 (z_wat (q := 0) (j := 0) zwX12_kind_0 rfl)
theorem dX12_kind_1 : decode cX12_kind 1 = .ok (.iconst 0, 1) := z_o3 (z_wat (q := 0) (j := 1) zwX12_kind_0 rfl)
theorem dX12_kind_2 : decode cX12_kind 2 = .ok (.putfield 145, 3) := z_o181 (z_wat (q := 0) (j := 2) zwX12_kind_0 rfl) (z_wat (q := 0) (j := 3) zwX12_kind_0 rfl) (z_wat (q := 0) (j := 4) zwX12_kind_0 rfl) rfl
theorem dX12_kind_5 : decode cX12_kind 5 = .ok (.aload_n 0, 1) := z_o42 (z_wat (q := 0) (j := 5) zwX12_kind_0 rfl)
theorem dX12_kind_6 : decode cX12_kind 6 = .ok (.getfield 192, 3) := z_o180 (z_wat (q := 0) (j := 6) zwX12_kind_0 rfl) (z_wat (q := 0) (j := 7) zwX12_kind_0 rfl) (z_wat (q := 0) (j := 8) zwX12_kind_0 rfl) rfl
theorem dX12_kind_9 : decode cX12_kind 9 = .ok (.bipush 6, 2) := z_o16 (z_wat (q := 0) (j := 9) zwX12_kind_0 rfl) (z_wat (q := 0) (j := 10) zwX12_kind_0 rfl) rfl
theorem dX12_kind_11 : decode cX12_kind 11 = .ok (.if_icmp .eq 24, 3) := z_o159 (z_wat (q := 0) (j := 11) zwX12_kind_0 rfl) (z_wat (q := 0) (j := 12) zwX12_kind_0 rfl) (z_wat (q := 0) (j := 13) zwX12_kind_0 rfl) rfl
theorem dX12_kind_14 : decode cX12_kind 14 = .ok (.iload_n 1, 1) := z_o27 (z_wat (q := 0) (j := 14) zwX12_kind_0 rfl)
theorem dX12_kind_15 : decode cX12_kind 15 = .ok (.ifCond .lt 20, 3) := z_o155 (z_wat (q := 0) (j := 15) zwX12_kind_0 rfl) (z_wat (q := 0) (j := 16) zwX12_kind_0 rfl) (z_wat (q := 0) (j := 17) zwX12_kind_0 rfl) rfl
theorem dX12_kind_18 : decode cX12_kind 18 = .ok (.iload_n 1, 1) := z_o27 (z_wat (q := 0) (j := 18) zwX12_kind_0 rfl)
theorem dX12_kind_19 : decode cX12_kind 19 = .ok (.sipush 999, 3) := z_o17 (z_wat (q := 0) (j := 19) zwX12_kind_0 rfl) (z_wat (q := 0) (j := 20) zwX12_kind_0 rfl) (z_wat (q := 0) (j := 21) zwX12_kind_0 rfl) rfl
theorem dX12_kind_22 : decode cX12_kind 22 = .ok (.if_icmp .gt 13, 3) := z_o163 (z_wat (q := 0) (j := 22) zwX12_kind_0 rfl) (z_wat (q := 0) (j := 23) zwX12_kind_0 rfl) (z_wat (q := 0) (j := 24) zwX12_kind_0 rfl) rfl
theorem dX12_kind_25 : decode cX12_kind 25 = .ok (.iload_n 2, 1) := z_o28 (z_wat (q := 0) (j := 25) zwX12_kind_0 rfl)
theorem dX12_kind_26 : decode cX12_kind 26 = .ok (.iconst 1, 1) := z_o4 (z_wat (q := 0) (j := 26) zwX12_kind_0 rfl)
theorem dX12_kind_27 : decode cX12_kind 27 = .ok (.if_icmp .lt 8, 3) := z_o161 (z_wat (q := 0) (j := 27) zwX12_kind_0 rfl) (z_wat (q := 0) (j := 28) zwX12_kind_0 rfl) (z_wat (q := 0) (j := 29) zwX12_kind_0 rfl) rfl
theorem dX12_kind_30 : decode cX12_kind 30 = .ok (.iload_n 2, 1) := z_o28 (z_wat (q := 0) (j := 30) zwX12_kind_0 rfl)
theorem dX12_kind_31 : decode cX12_kind 31 = .ok (.iconst 2, 1) := z_o5 (z_wat (q := 0) (j := 31) zwX12_kind_0 rfl)
theorem zwX12_kind_32 : ((cX12_kind.data.toList.drop 32).take 34).map UInt8.toNat = [164, 0, 5, 2, 172, 42, 180, 0, 63, 42, 180, 0, 192, 27, 79, 42, 180, 0, 66, 42, 180, 0, 192, 28, 79, 42, 89, 180, 0, 192, 4, 96, 181, 0] := by decide +kernel
theorem dX12_kind_32 : decode cX12_kind 32 = .ok (.if_icmp .le 5, 3) := z_o164 (z_wat (q := 32) (j := 0) zwX12_kind_32 rfl) (z_wat (q := 32) (j := 1) zwX12_kind_32 rfl) (z_wat (q := 32) (j := 2) zwX12_kind_32 rfl) rfl
theorem dX12_kind_35 : decode cX12_kind 35 = .ok (.iconst (-1), 1) := z_o2 (z_wat (q := 32) (j := 3) zwX12_kind_32 rfl)
theorem dX12_kind_36 : decode cX12_kind 36 = .ok (.ireturn, 1) := z_o172 (z_wat (q := 32) (j := 4) zwX12_kind_32 rfl)
theorem dX12_kind_37 : decode cX12_kind 37 = .ok (.aload_n 0, 1) := z_o42 (z_wat (q := 32) (j := 5) zwX12_kind_32 rfl)
theorem dX12_kind_38 : decode cX12_kind 38 = .ok (.getfield 63, 3) := z_o180 (z_wat (q := 32) (j := 6) zwX12_kind_32 rfl) (z_wat (q := 32) (j := 7) zwX12_kind_32 rfl) (z_wat (q := 32) (j := 8) zwX12_kind_32 rfl) rfl
theorem dX12_kind_41 : decode cX12_kind 41 = .ok (.aload_n 0, 1) := z_o42 (z_wat (q := 32) (j := 9) zwX12_kind_32 rfl)
theorem dX12_kind_42 : decode cX12_kind 42 = .ok (.getfield 192, 3) := z_o180 (z_wat (q := 32) (j := 10) zwX12_kind_32 rfl) (z_wat (q := 32) (j := 11) zwX12_kind_32 rfl) (z_wat (q := 32) (j := 12) zwX12_kind_32 rfl) rfl
theorem dX12_kind_45 : decode cX12_kind 45 = .ok (.iload_n 1, 1) := z_o27 (z_wat (q := 32) (j := 13) zwX12_kind_32 rfl)
theorem dX12_kind_46 : decode cX12_kind 46 = .ok (.iastore, 1) := z_o79 (z_wat (q := 32) (j := 14) zwX12_kind_32 rfl)
theorem dX12_kind_47 : decode cX12_kind 47 = .ok (.aload_n 0, 1) := z_o42 (z_wat (q := 32) (j := 15) zwX12_kind_32 rfl)
theorem dX12_kind_48 : decode cX12_kind 48 = .ok (.getfield 66, 3) := z_o180 (z_wat (q := 32) (j := 16) zwX12_kind_32 rfl) (z_wat (q := 32) (j := 17) zwX12_kind_32 rfl) (z_wat (q := 32) (j := 18) zwX12_kind_32 rfl) rfl
theorem dX12_kind_51 : decode cX12_kind 51 = .ok (.aload_n 0, 1) := z_o42 (z_wat (q := 32) (j := 19) zwX12_kind_32 rfl)
theorem dX12_kind_52 : decode cX12_kind 52 = .ok (.getfield 192, 3) := z_o180 (z_wat (q := 32) (j := 20) zwX12_kind_32 rfl) (z_wat (q := 32) (j := 21) zwX12_kind_32 rfl) (z_wat (q := 32) (j := 22) zwX12_kind_32 rfl) rfl
theorem dX12_kind_55 : decode cX12_kind 55 = .ok (.iload_n 2, 1) := z_o28 (z_wat (q := 32) (j := 23) zwX12_kind_32 rfl)
theorem dX12_kind_56 : decode cX12_kind 56 = .ok (.iastore, 1) := z_o79 (z_wat (q := 32) (j := 24) zwX12_kind_32 rfl)
theorem dX12_kind_57 : decode cX12_kind 57 = .ok (.aload_n 0, 1) := z_o42 (z_wat (q := 32) (j := 25) zwX12_kind_32 rfl)
theorem dX12_kind_58 : decode cX12_kind 58 = .ok (.dup, 1) := z_o89 (z_wat (q := 32) (j := 26) zwX12_kind_32 rfl)
theorem dX12_kind_59 : decode cX12_kind 59 = .ok (.getfield 192, 3) := z_o180 (z_wat (q := 32) (j := 27) zwX12_kind_32 rfl) (z_wat (q := 32) (j := 28) zwX12_kind_32 rfl) (z_wat (q := 32) (j := 29) zwX12_kind_32 rfl) rfl
theorem dX12_kind_62 : decode cX12_kind 62 = .ok (.iconst 1, 1) := z_o4 (z_wat (q := 32) (j := 30) zwX12_kind_32 rfl)
theorem dX12_kind_63 : decode cX12_kind 63 = .ok (.iadd, 1) := z_o96 (z_wat (q := 32) (j := 31) zwX12_kind_32 rfl)
theorem zwX12_kind_64 : ((cX12_kind.data.toList.drop 64).take 10).map UInt8.toNat = [181, 0, 192, 42, 180, 0, 192, 4, 100, 172] := by decide +kernel
theorem dX12_kind_64 : decode cX12_kind 64 = .ok (.putfield 192, 3) := z_o181 (z_wat (q := 64) (j := 0) zwX12_kind_64 rfl) (z_wat (q := 64) (j := 1) zwX12_kind_64 rfl) (z_wat (q := 64) (j := 2) zwX12_kind_64 rfl) rfl
theorem dX12_kind_67 : decode cX12_kind 67 = .ok (.aload_n 0, 1) := z_o42 (z_wat (q := 64) (j := 3) zwX12_kind_64 rfl)
theorem dX12_kind_68 : decode cX12_kind 68 = .ok (.getfield 192, 3) := z_o180 (z_wat (q := 64) (j := 4) zwX12_kind_64 rfl) (z_wat (q := 64) (j := 5) zwX12_kind_64 rfl) (z_wat (q := 64) (j := 6) zwX12_kind_64 rfl) rfl
theorem dX12_kind_71 : decode cX12_kind 71 = .ok (.iconst 1, 1) := z_o4 (z_wat (q := 64) (j := 7) zwX12_kind_64 rfl)
theorem dX12_kind_72 : decode cX12_kind 72 = .ok (.isub, 1) := z_o100 (z_wat (q := 64) (j := 8) zwX12_kind_64 rfl)
theorem dX12_kind_73 : decode cX12_kind 73 = .ok (.ireturn, 1) := z_o172 (z_wat (q := 64) (j := 9) zwX12_kind_64 rfl)
theorem zwX12_layer_0 : ((cX12_layer.data.toList.drop 0).take 33).map UInt8.toNat = [42, 3, 181, 0, 145, 42, 180, 0, 151, 16, 12, 160, 0, 5, 2, 172, 42, 89, 180, 0, 151, 4, 96, 181, 0, 151, 42, 180, 0, 151, 4, 100, 172] := by decide +kernel
theorem dX12_layer_0 : decode cX12_layer 0 = .ok (.aload_n 0, 1) := z_o42 (z_wat (q := 0) (j := 0) zwX12_layer_0 rfl)
theorem dX12_layer_1 : decode cX12_layer 1 = .ok (.iconst 0, 1) := z_o3 (z_wat (q := 0) (j := 1) zwX12_layer_0 rfl)
theorem dX12_layer_2 : decode cX12_layer 2 = .ok (.putfield 145, 3) := z_o181 (z_wat (q := 0) (j := 2) zwX12_layer_0 rfl) (z_wat (q := 0) (j := 3) zwX12_layer_0 rfl) (z_wat (q := 0) (j := 4) zwX12_layer_0 rfl) rfl
theorem dX12_layer_5 : decode cX12_layer 5 = .ok (.aload_n 0, 1) := z_o42 (z_wat (q := 0) (j := 5) zwX12_layer_0 rfl)
theorem dX12_layer_6 : decode cX12_layer 6 = .ok (.getfield 151, 3) := z_o180 (z_wat (q := 0) (j := 6) zwX12_layer_0 rfl) (z_wat (q := 0) (j := 7) zwX12_layer_0 rfl) (z_wat (q := 0) (j := 8) zwX12_layer_0 rfl) rfl
theorem dX12_layer_9 : decode cX12_layer 9 = .ok (.bipush 12, 2) := z_o16 (z_wat (q := 0) (j := 9) zwX12_layer_0 rfl) (z_wat (q := 0) (j := 10) zwX12_layer_0 rfl) rfl
theorem dX12_layer_11 : decode cX12_layer 11 = .ok (.if_icmp .ne 5, 3) := z_o160 (z_wat (q := 0) (j := 11) zwX12_layer_0 rfl) (z_wat (q := 0) (j := 12) zwX12_layer_0 rfl) (z_wat (q := 0) (j := 13) zwX12_layer_0 rfl) rfl
theorem dX12_layer_14 : decode cX12_layer 14 = .ok (.iconst (-1), 1) := z_o2 (z_wat (q := 0) (j := 14) zwX12_layer_0 rfl)
theorem dX12_layer_15 : decode cX12_layer 15 = .ok (.ireturn, 1) := z_o172 (z_wat (q := 0) (j := 15) zwX12_layer_0 rfl)
theorem dX12_layer_16 : decode cX12_layer 16 = .ok (.aload_n 0, 1) := z_o42 (z_wat (q := 0) (j := 16) zwX12_layer_0 rfl)
theorem dX12_layer_17 : decode cX12_layer 17 = .ok (.dup, 1) := z_o89 (z_wat (q := 0) (j := 17) zwX12_layer_0 rfl)
theorem dX12_layer_18 : decode cX12_layer 18 = .ok (.getfield 151, 3) := z_o180 (z_wat (q := 0) (j := 18) zwX12_layer_0 rfl) (z_wat (q := 0) (j := 19) zwX12_layer_0 rfl) (z_wat (q := 0) (j := 20) zwX12_layer_0 rfl) rfl
theorem dX12_layer_21 : decode cX12_layer 21 = .ok (.iconst 1, 1) := z_o4 (z_wat (q := 0) (j := 21) zwX12_layer_0 rfl)
theorem dX12_layer_22 : decode cX12_layer 22 = .ok (.iadd, 1) := z_o96 (z_wat (q := 0) (j := 22) zwX12_layer_0 rfl)
theorem dX12_layer_23 : decode cX12_layer 23 = .ok (.putfield 151, 3) := z_o181 (z_wat (q := 0) (j := 23) zwX12_layer_0 rfl) (z_wat (q := 0) (j := 24) zwX12_layer_0 rfl) (z_wat (q := 0) (j := 25) zwX12_layer_0 rfl) rfl
theorem dX12_layer_26 : decode cX12_layer 26 = .ok (.aload_n 0, 1) := z_o42 (z_wat (q := 0) (j := 26) zwX12_layer_0 rfl)
theorem dX12_layer_27 : decode cX12_layer 27 = .ok (.getfield 151, 3) := z_o180 (z_wat (q := 0) (j := 27) zwX12_layer_0 rfl) (z_wat (q := 0) (j := 28) zwX12_layer_0 rfl) (z_wat (q := 0) (j := 29) zwX12_layer_0 rfl) rfl
theorem dX12_layer_30 : decode cX12_layer 30 = .ok (.iconst 1, 1) := z_o4 (z_wat (q := 0) (j := 30) zwX12_layer_0 rfl)
theorem dX12_layer_31 : decode cX12_layer 31 = .ok (.isub, 1) := z_o100 (z_wat (q := 0) (j := 31) zwX12_layer_0 rfl)
theorem zwX12_layer_32 : ((cX12_layer.data.toList.drop 32).take 1).map UInt8.toNat = [172] := by decide +kernel
theorem dX12_layer_32 : decode cX12_layer 32 = .ok (.ireturn, 1) := z_o172 (z_wat (q := 32) (j := 0) zwX12_layer_32 rfl)
theorem zwX12_measure_0 : ((cX12_measure.data.toList.drop 0).take 34).map UInt8.toNat = [42, 3, 181, 0, 145, 42, 27, 182, 0, 157, 153, 0, 45, 42, 180, 1, 55, 17, 0, 200, 159, 0, 35, 28, 155, 0, 31, 28, 16, 99, 163, 0, 25, 29] := by decide +kernel
theorem dX12_measure_0 : decode cX12_measure 0 = .ok (.aload_n 0, 1) := z_o42 (z_wat (q := 0) (j := 0) zwX12_measure_0 rfl)
theorem dX12_measure_1 : decode cX12_measure 1 = .ok (.iconst 0, 1) := z_o3 (z_wat (q := 0) (j := 1) zwX12_measure_0 rfl)
theorem dX12_measure_2 : decode cX12_measure 2 = .ok (.putfield 145, 3) := z_o181 (z_wat (q := 0) (j := 2) zwX12_measure_0 rfl) (z_wat (q := 0) (j := 3) zwX12_measure_0 rfl) (z_wat (q := 0) (j := 4) zwX12_measure_0 rfl) rfl
theorem dX12_measure_5 : decode cX12_measure 5 = .ok (.aload_n 0, 1) := z_o42 (z_wat (q := 0) (j := 5) zwX12_measure_0 rfl)
theorem dX12_measure_6 : decode cX12_measure 6 = .ok (.iload_n 1, 1) := z_o27 (z_wat (q := 0) (j := 6) zwX12_measure_0 rfl)
theorem dX12_measure_7 : decode cX12_measure 7 = .ok (.invokevirtual 157, 3) := z_o182 (z_wat (q := 0) (j := 7) zwX12_measure_0 rfl) (z_wat (q := 0) (j := 8) zwX12_measure_0 rfl) (z_wat (q := 0) (j := 9) zwX12_measure_0 rfl) rfl
theorem dX12_measure_10 : decode cX12_measure 10 = .ok (.ifCond .eq 45, 3) := z_o153 (z_wat (q := 0) (j := 10) zwX12_measure_0 rfl) (z_wat (q := 0) (j := 11) zwX12_measure_0 rfl) (z_wat (q := 0) (j := 12) zwX12_measure_0 rfl) rfl
theorem dX12_measure_13 : decode cX12_measure 13 = .ok (.aload_n 0, 1) := z_o42 (z_wat (q := 0) (j := 13) zwX12_measure_0 rfl)
theorem dX12_measure_14 : decode cX12_measure 14 = .ok (.getfield 311, 3) := z_o180 (z_wat (q := 0) (j := 14) zwX12_measure_0 rfl) (z_wat (q := 0) (j := 15) zwX12_measure_0 rfl) (z_wat (q := 0) (j := 16) zwX12_measure_0 rfl) rfl
theorem dX12_measure_17 : decode cX12_measure 17 = .ok (.sipush 200, 3) := z_o17 (z_wat (q := 0) (j := 17) zwX12_measure_0 rfl) (z_wat (q := 0) (j := 18) zwX12_measure_0 rfl) (z_wat (q := 0) (j := 19) zwX12_measure_0 rfl) rfl
theorem dX12_measure_20 : decode cX12_measure 20 = .ok (.if_icmp .eq 35, 3) := z_o159 (z_wat (q := 0) (j := 20) zwX12_measure_0 rfl) (z_wat (q := 0) (j := 21) zwX12_measure_0 rfl) (z_wat (q := 0) (j := 22) zwX12_measure_0 rfl) rfl
theorem dX12_measure_23 : decode cX12_measure 23 = .ok (.iload_n 2, 1) := z_o28 (z_wat (q := 0) (j := 23) zwX12_measure_0 rfl)
theorem dX12_measure_24 : decode cX12_measure 24 = .ok (.ifCond .lt 31, 3) := z_o155 (z_wat (q := 0) (j := 24) zwX12_measure_0 rfl) (z_wat (q := 0) (j := 25) zwX12_measure_0 rfl) (z_wat (q := 0) (j := 26) zwX12_measure_0 rfl) rfl
theorem dX12_measure_27 : decode cX12_measure 27 = .ok (.iload_n 2, 1) := z_o28 (z_wat (q := 0) (j := 27) zwX12_measure_0 rfl)
theorem dX12_measure_28 : decode cX12_measure 28 = .ok (.bipush 99, 2) := z_o16 (z_wat (q := 0) (j := 28) zwX12_measure_0 rfl) (z_wat (q := 0) (j := 29) zwX12_measure_0 rfl) rfl
theorem dX12_measure_30 : decode cX12_measure 30 = .ok (.if_icmp .gt 25, 3) := z_o163 (z_wat (q := 0) (j := 30) zwX12_measure_0 rfl) (z_wat (q := 0) (j := 31) zwX12_measure_0 rfl) (z_wat (q := 0) (j := 32) zwX12_measure_0 rfl) rfl
theorem zwX12_measure_32 : ((cX12_measure.data.toList.drop 32).take 34).map UInt8.toNat = [25, 29, 155, 0, 21, 29, 16, 30, 163, 0, 15, 21, 4, 155, 0, 10, 21, 4, 16, 99, 164, 0, 5, 2, 172, 42, 180, 0, 90, 42, 180, 1, 55, 27] := by decide +kernel
theorem dX12_measure_33 : decode cX12_measure 33 = .ok (.iload_n 3, 1) := z_o29 (z_wat (q := 32) (j := 1) zwX12_measure_32 rfl)
theorem dX12_measure_34 : decode cX12_measure 34 = .ok (.ifCond .lt 21, 3) := z_o155 (z_wat (q := 32) (j := 2) zwX12_measure_32 rfl) (z_wat (q := 32) (j := 3) zwX12_measure_32 rfl) (z_wat (q := 32) (j := 4) zwX12_measure_32 rfl) rfl
theorem dX12_measure_37 : decode cX12_measure 37 = .ok (.iload_n 3, 1) := z_o29 (z_wat (q := 32) (j := 5) zwX12_measure_32 rfl)
theorem dX12_measure_38 : decode cX12_measure 38 = .ok (.bipush 30, 2) := z_o16 (z_wat (q := 32) (j := 6) zwX12_measure_32 rfl) (z_wat (q := 32) (j := 7) zwX12_measure_32 rfl) rfl
theorem dX12_measure_40 : decode cX12_measure 40 = .ok (.if_icmp .gt 15, 3) := z_o163 (z_wat (q := 32) (j := 8) zwX12_measure_32 rfl) (z_wat (q := 32) (j := 9) zwX12_measure_32 rfl) (z_wat (q := 32) (j := 10) zwX12_measure_32 rfl) rfl
theorem dX12_measure_43 : decode cX12_measure 43 = .ok (.iload 4, 2) := z_o21 (z_wat (q := 32) (j := 11) zwX12_measure_32 rfl) (z_wat (q := 32) (j := 12) zwX12_measure_32 rfl)
theorem dX12_measure_45 : decode cX12_measure 45 = .ok (.ifCond .lt 10, 3) := z_o155 (z_wat (q := 32) (j := 13) zwX12_measure_32 rfl) (z_wat (q := 32) (j := 14) zwX12_measure_32 rfl) (z_wat (q := 32) (j := 15) zwX12_measure_32 rfl) rfl
theorem dX12_measure_48 : decode cX12_measure 48 = .ok (.iload 4, 2) := z_o21 (z_wat (q := 32) (j := 16) zwX12_measure_32 rfl) (z_wat (q := 32) (j := 17) zwX12_measure_32 rfl)
theorem dX12_measure_50 : decode cX12_measure 50 = .ok (.bipush 99, 2) := z_o16 (z_wat (q := 32) (j := 18) zwX12_measure_32 rfl) (z_wat (q := 32) (j := 19) zwX12_measure_32 rfl) rfl
theorem dX12_measure_52 : decode cX12_measure 52 = .ok (.if_icmp .le 5, 3) := z_o164 (z_wat (q := 32) (j := 20) zwX12_measure_32 rfl) (z_wat (q := 32) (j := 21) zwX12_measure_32 rfl) (z_wat (q := 32) (j := 22) zwX12_measure_32 rfl) rfl
theorem dX12_measure_55 : decode cX12_measure 55 = .ok (.iconst (-1), 1) := z_o2 (z_wat (q := 32) (j := 23) zwX12_measure_32 rfl)
theorem dX12_measure_56 : decode cX12_measure 56 = .ok (.ireturn, 1) := z_o172 (z_wat (q := 32) (j := 24) zwX12_measure_32 rfl)
theorem dX12_measure_57 : decode cX12_measure 57 = .ok (.aload_n 0, 1) := z_o42 (z_wat (q := 32) (j := 25) zwX12_measure_32 rfl)
theorem dX12_measure_58 : decode cX12_measure 58 = .ok (.getfield 90, 3) := z_o180 (z_wat (q := 32) (j := 26) zwX12_measure_32 rfl) (z_wat (q := 32) (j := 27) zwX12_measure_32 rfl) (z_wat (q := 32) (j := 28) zwX12_measure_32 rfl) rfl
theorem dX12_measure_61 : decode cX12_measure 61 = .ok (.aload_n 0, 1) := z_o42 (z_wat (q := 32) (j := 29) zwX12_measure_32 rfl)
theorem dX12_measure_62 : decode cX12_measure 62 = .ok (.getfield 311, 3) := z_o180 (z_wat (q := 32) (j := 30) zwX12_measure_32 rfl) (z_wat (q := 32) (j := 31) zwX12_measure_32 rfl) (z_wat (q := 32) (j := 32) zwX12_measure_32 rfl) rfl
theorem zwX12_measure_64 : ((cX12_measure.data.toList.drop 64).take 34).map UInt8.toNat = [55, 27, 79, 42, 180, 0, 93, 6, 42, 180, 1, 55, 104, 28, 79, 42, 180, 0, 93, 6, 42, 180, 1, 55, 104, 4, 96, 29, 79, 42, 180, 0, 93, 6] := by decide +kernel
theorem dX12_measure_65 : decode cX12_measure 65 = .ok (.iload_n 1, 1) := z_o27 (z_wat (q := 64) (j := 1) zwX12_measure_64 rfl)
theorem dX12_measure_66 : decode cX12_measure 66 = .ok (.iastore, 1) := z_o79 (z_wat (q := 64) (j := 2) zwX12_measure_64 rfl)
theorem dX12_measure_67 : decode cX12_measure 67 = .ok (.aload_n 0, 1) := z_o42 (z_wat (q := 64) (j := 3) zwX12_measure_64 rfl)
theorem dX12_measure_68 : decode cX12_measure 68 = .ok (.getfield 93, 3) := z_o180 (z_wat (q := 64) (j := 4) zwX12_measure_64 rfl) (z_wat (q := 64) (j := 5) zwX12_measure_64 rfl) (z_wat (q := 64) (j := 6) zwX12_measure_64 rfl) rfl
theorem dX12_measure_71 : decode cX12_measure 71 = .ok (.iconst 3, 1) := z_o6 (z_wat (q := 64) (j := 7) zwX12_measure_64 rfl)
theorem dX12_measure_72 : decode cX12_measure 72 = .ok (.aload_n 0, 1) := z_o42 (z_wat (q := 64) (j := 8) zwX12_measure_64 rfl)
theorem dX12_measure_73 : decode cX12_measure 73 = .ok (.getfield 311, 3) := z_o180 (z_wat (q := 64) (j := 9) zwX12_measure_64 rfl) (z_wat (q := 64) (j := 10) zwX12_measure_64 rfl) (z_wat (q := 64) (j := 11) zwX12_measure_64 rfl) rfl
theorem dX12_measure_76 : decode cX12_measure 76 = .ok (.imul, 1) := z_o104 (z_wat (q := 64) (j := 12) zwX12_measure_64 rfl)
theorem dX12_measure_77 : decode cX12_measure 77 = .ok (.iload_n 2, 1) := z_o28 (z_wat (q := 64) (j := 13) zwX12_measure_64 rfl)
theorem dX12_measure_78 : decode cX12_measure 78 = .ok (.iastore, 1) := z_o79 (z_wat (q := 64) (j := 14) zwX12_measure_64 rfl)
theorem dX12_measure_79 : decode cX12_measure 79 = .ok (.aload_n 0, 1) := z_o42 (z_wat (q := 64) (j := 15) zwX12_measure_64 rfl)
theorem dX12_measure_80 : decode cX12_measure 80 = .ok (.getfield 93, 3) := z_o180 (z_wat (q := 64) (j := 16) zwX12_measure_64 rfl) (z_wat (q := 64) (j := 17) zwX12_measure_64 rfl) (z_wat (q := 64) (j := 18) zwX12_measure_64 rfl) rfl
theorem dX12_measure_83 : decode cX12_measure 83 = .ok (.iconst 3, 1) := z_o6 (z_wat (q := 64) (j := 19) zwX12_measure_64 rfl)
theorem dX12_measure_84 : decode cX12_measure 84 = .ok (.aload_n 0, 1) := z_o42 (z_wat (q := 64) (j := 20) zwX12_measure_64 rfl)
theorem dX12_measure_85 : decode cX12_measure 85 = .ok (.getfield 311, 3) := z_o180 (z_wat (q := 64) (j := 21) zwX12_measure_64 rfl) (z_wat (q := 64) (j := 22) zwX12_measure_64 rfl) (z_wat (q := 64) (j := 23) zwX12_measure_64 rfl) rfl
theorem dX12_measure_88 : decode cX12_measure 88 = .ok (.imul, 1) := z_o104 (z_wat (q := 64) (j := 24) zwX12_measure_64 rfl)
theorem dX12_measure_89 : decode cX12_measure 89 = .ok (.iconst 1, 1) := z_o4 (z_wat (q := 64) (j := 25) zwX12_measure_64 rfl)
theorem dX12_measure_90 : decode cX12_measure 90 = .ok (.iadd, 1) := z_o96 (z_wat (q := 64) (j := 26) zwX12_measure_64 rfl)
theorem dX12_measure_91 : decode cX12_measure 91 = .ok (.iload_n 3, 1) := z_o29 (z_wat (q := 64) (j := 27) zwX12_measure_64 rfl)
theorem dX12_measure_92 : decode cX12_measure 92 = .ok (.iastore, 1) := z_o79 (z_wat (q := 64) (j := 28) zwX12_measure_64 rfl)
theorem dX12_measure_93 : decode cX12_measure 93 = .ok (.aload_n 0, 1) := z_o42 (z_wat (q := 64) (j := 29) zwX12_measure_64 rfl)
theorem dX12_measure_94 : decode cX12_measure 94 = .ok (.getfield 93, 3) := z_o180 (z_wat (q := 64) (j := 30) zwX12_measure_64 rfl) (z_wat (q := 64) (j := 31) zwX12_measure_64 rfl) (z_wat (q := 64) (j := 32) zwX12_measure_64 rfl) rfl
theorem zwX12_measure_96 : ((cX12_measure.data.toList.drop 96).take 27).map UInt8.toNat = [93, 6, 42, 180, 1, 55, 104, 5, 96, 21, 4, 79, 42, 89, 180, 1, 55, 4, 96, 181, 1, 55, 42, 180, 1, 55, 172] := by decide +kernel
theorem dX12_measure_97 : decode cX12_measure 97 = .ok (.iconst 3, 1) := z_o6 (z_wat (q := 96) (j := 1) zwX12_measure_96 rfl)
theorem dX12_measure_98 : decode cX12_measure 98 = .ok (.aload_n 0, 1) := z_o42 (z_wat (q := 96) (j := 2) zwX12_measure_96 rfl)
theorem dX12_measure_99 : decode cX12_measure 99 = .ok (.getfield 311, 3) := z_o180 (z_wat (q := 96) (j := 3) zwX12_measure_96 rfl) (z_wat (q := 96) (j := 4) zwX12_measure_96 rfl) (z_wat (q := 96) (j := 5) zwX12_measure_96 rfl) rfl
theorem dX12_measure_102 : decode cX12_measure 102 = .ok (.imul, 1) := z_o104 (z_wat (q := 96) (j := 6) zwX12_measure_96 rfl)
theorem dX12_measure_103 : decode cX12_measure 103 = .ok (.iconst 2, 1) := z_o5 (z_wat (q := 96) (j := 7) zwX12_measure_96 rfl)
theorem dX12_measure_104 : decode cX12_measure 104 = .ok (.iadd, 1) := z_o96 (z_wat (q := 96) (j := 8) zwX12_measure_96 rfl)
theorem dX12_measure_105 : decode cX12_measure 105 = .ok (.iload 4, 2) := z_o21 (z_wat (q := 96) (j := 9) zwX12_measure_96 rfl) (z_wat (q := 96) (j := 10) zwX12_measure_96 rfl)
theorem dX12_measure_107 : decode cX12_measure 107 = .ok (.iastore, 1) := z_o79 (z_wat (q := 96) (j := 11) zwX12_measure_96 rfl)
theorem dX12_measure_108 : decode cX12_measure 108 = .ok (.aload_n 0, 1) := z_o42 (z_wat (q := 96) (j := 12) zwX12_measure_96 rfl)
theorem dX12_measure_109 : decode cX12_measure 109 = .ok (.dup, 1) := z_o89 (z_wat (q := 96) (j := 13) zwX12_measure_96 rfl)
theorem dX12_measure_110 : decode cX12_measure 110 = .ok (.getfield 311, 3) := z_o180 (z_wat (q := 96) (j := 14) zwX12_measure_96 rfl) (z_wat (q := 96) (j := 15) zwX12_measure_96 rfl) (z_wat (q := 96) (j := 16) zwX12_measure_96 rfl) rfl
theorem dX12_measure_113 : decode cX12_measure 113 = .ok (.iconst 1, 1) := z_o4 (z_wat (q := 96) (j := 17) zwX12_measure_96 rfl)
theorem dX12_measure_114 : decode cX12_measure 114 = .ok (.iadd, 1) := z_o96 (z_wat (q := 96) (j := 18) zwX12_measure_96 rfl)
theorem dX12_measure_115 : decode cX12_measure 115 = .ok (.putfield 311, 3) := z_o181 (z_wat (q := 96) (j := 19) zwX12_measure_96 rfl) (z_wat (q := 96) (j := 20) zwX12_measure_96 rfl) (z_wat (q := 96) (j := 21) zwX12_measure_96 rfl) rfl
theorem dX12_measure_118 : decode cX12_measure 118 = .ok (.aload_n 0, 1) := z_o42 (z_wat (q := 96) (j := 22) zwX12_measure_96 rfl)
theorem dX12_measure_119 : decode cX12_measure 119 = .ok (.getfield 311, 3) := z_o180 (z_wat (q := 96) (j := 23) zwX12_measure_96 rfl) (z_wat (q := 96) (j := 24) zwX12_measure_96 rfl) (z_wat (q := 96) (j := 25) zwX12_measure_96 rfl) rfl
theorem dX12_measure_122 : decode cX12_measure 122 = .ok (.ireturn, 1) := z_o172 (z_wat (q := 96) (j := 26) zwX12_measure_96 rfl)
theorem zwX12_middleOf_0 : ((cX12_middleOf.data.toList.drop 0).take 34).map UInt8.toNat = [3, 62, 3, 54, 4, 21, 4, 42, 180, 1, 55, 162, 0, 97, 42, 180, 0, 32, 42, 180, 0, 90, 21, 4, 46, 46, 27, 159, 0, 6, 167, 0, 72, 42] := by decide +kernel
theorem dX12_middleOf_0 : decode cX12_middleOf 0 = .ok (.iconst 0, 1) := z_o3 (z_wat (q := 0) (j := 0) zwX12_middleOf_0 rfl)
theorem dX12_middleOf_1 : decode cX12_middleOf 1 = .ok (.istore_n 3, 1) := z_o62 (z_wat (q := 0) (j := 1) zwX12_middleOf_0 rfl)
theorem dX12_middleOf_2 : decode cX12_middleOf 2 = .ok (.iconst 0, 1) := z_o3 (z_wat (q := 0) (j := 2) zwX12_middleOf_0 rfl)
theorem dX12_middleOf_3 : decode cX12_middleOf 3 = .ok (.istore 4, 2) := z_o54 (z_wat (q := 0) (j := 3) zwX12_middleOf_0 rfl) (z_wat (q := 0) (j := 4) zwX12_middleOf_0 rfl)
theorem dX12_middleOf_5 : decode cX12_middleOf 5 = .ok (.iload 4, 2) := z_o21 (z_wat (q := 0) (j := 5) zwX12_middleOf_0 rfl) (z_wat (q := 0) (j := 6) zwX12_middleOf_0 rfl)
theorem dX12_middleOf_7 : decode cX12_middleOf 7 = .ok (.aload_n 0, 1) := z_o42 (z_wat (q := 0) (j := 7) zwX12_middleOf_0 rfl)
theorem dX12_middleOf_8 : decode cX12_middleOf 8 = .ok (.getfield 311, 3) := z_o180 (z_wat (q := 0) (j := 8) zwX12_middleOf_0 rfl) (z_wat (q := 0) (j := 9) zwX12_middleOf_0 rfl) (z_wat (q := 0) (j := 10) zwX12_middleOf_0 rfl) rfl
theorem dX12_middleOf_11 : decode cX12_middleOf 11 = .ok (.if_icmp .ge 97, 3) := z_o162 (z_wat (q := 0) (j := 11) zwX12_middleOf_0 rfl) (z_wat (q := 0) (j := 12) zwX12_middleOf_0 rfl) (z_wat (q := 0) (j := 13) zwX12_middleOf_0 rfl) rfl
theorem dX12_middleOf_14 : decode cX12_middleOf 14 = .ok (.aload_n 0, 1) := z_o42 (z_wat (q := 0) (j := 14) zwX12_middleOf_0 rfl)
theorem dX12_middleOf_15 : decode cX12_middleOf 15 = .ok (.getfield 32, 3) := z_o180 (z_wat (q := 0) (j := 15) zwX12_middleOf_0 rfl) (z_wat (q := 0) (j := 16) zwX12_middleOf_0 rfl) (z_wat (q := 0) (j := 17) zwX12_middleOf_0 rfl) rfl
theorem dX12_middleOf_18 : decode cX12_middleOf 18 = .ok (.aload_n 0, 1) := z_o42 (z_wat (q := 0) (j := 18) zwX12_middleOf_0 rfl)
theorem dX12_middleOf_19 : decode cX12_middleOf 19 = .ok (.getfield 90, 3) := z_o180 (z_wat (q := 0) (j := 19) zwX12_middleOf_0 rfl) (z_wat (q := 0) (j := 20) zwX12_middleOf_0 rfl) (z_wat (q := 0) (j := 21) zwX12_middleOf_0 rfl) rfl
theorem dX12_middleOf_22 : decode cX12_middleOf 22 = .ok (.iload 4, 2) := z_o21 (z_wat (q := 0) (j := 22) zwX12_middleOf_0 rfl) (z_wat (q := 0) (j := 23) zwX12_middleOf_0 rfl)
theorem dX12_middleOf_24 : decode cX12_middleOf 24 = .ok (.iaload, 1) := z_o46 (z_wat (q := 0) (j := 24) zwX12_middleOf_0 rfl)
theorem dX12_middleOf_25 : decode cX12_middleOf 25 = .ok (.iaload, 1) := z_o46 (z_wat (q := 0) (j := 25) zwX12_middleOf_0 rfl)
theorem dX12_middleOf_26 : decode cX12_middleOf 26 = .ok (.iload_n 1, 1) := z_o27 (z_wat (q := 0) (j := 26) zwX12_middleOf_0 rfl)
theorem dX12_middleOf_27 : decode cX12_middleOf 27 = .ok (.if_icmp .eq 6, 3) := z_o159 (z_wat (q := 0) (j := 27) zwX12_middleOf_0 rfl) (z_wat (q := 0) (j := 28) zwX12_middleOf_0 rfl) (z_wat (q := 0) (j := 29) zwX12_middleOf_0 rfl) rfl
theorem dX12_middleOf_30 : decode cX12_middleOf 30 = .ok (.goto 72, 3) := z_o167 (z_wat (q := 0) (j := 30) zwX12_middleOf_0 rfl) (z_wat (q := 0) (j := 31) zwX12_middleOf_0 rfl) (z_wat (q := 0) (j := 32) zwX12_middleOf_0 rfl) rfl
theorem zwX12_middleOf_32 : ((cX12_middleOf.data.toList.drop 32).take 34).map UInt8.toNat = [72, 42, 180, 0, 93, 6, 21, 4, 104, 28, 96, 46, 54, 5, 29, 54, 6, 21, 6, 158, 0, 39, 42, 180, 0, 96, 21, 6, 4, 100, 46, 21, 5, 164] := by decide +kernel
theorem dX12_middleOf_33 : decode cX12_middleOf 33 = .ok (.aload_n 0, 1) := z_o42 (z_wat (q := 32) (j := 1) zwX12_middleOf_32 rfl)
theorem dX12_middleOf_34 : decode cX12_middleOf 34 = .ok (.getfield 93, 3) := z_o180 (z_wat (q := 32) (j := 2) zwX12_middleOf_32 rfl) (z_wat (q := 32) (j := 3) zwX12_middleOf_32 rfl) (z_wat (q := 32) (j := 4) zwX12_middleOf_32 rfl) rfl
theorem dX12_middleOf_37 : decode cX12_middleOf 37 = .ok (.iconst 3, 1) := z_o6 (z_wat (q := 32) (j := 5) zwX12_middleOf_32 rfl)
theorem dX12_middleOf_38 : decode cX12_middleOf 38 = .ok (.iload 4, 2) := z_o21 (z_wat (q := 32) (j := 6) zwX12_middleOf_32 rfl) (z_wat (q := 32) (j := 7) zwX12_middleOf_32 rfl)
theorem dX12_middleOf_40 : decode cX12_middleOf 40 = .ok (.imul, 1) := z_o104 (z_wat (q := 32) (j := 8) zwX12_middleOf_32 rfl)
theorem dX12_middleOf_41 : decode cX12_middleOf 41 = .ok (.iload_n 2, 1) := z_o28 (z_wat (q := 32) (j := 9) zwX12_middleOf_32 rfl)
theorem dX12_middleOf_42 : decode cX12_middleOf 42 = .ok (.iadd, 1) := z_o96 (z_wat (q := 32) (j := 10) zwX12_middleOf_32 rfl)
theorem dX12_middleOf_43 : decode cX12_middleOf 43 = .ok (.iaload, 1) := z_o46 (z_wat (q := 32) (j := 11) zwX12_middleOf_32 rfl)
theorem dX12_middleOf_44 : decode cX12_middleOf 44 = .ok (.istore 5, 2) := z_o54 (z_wat (q := 32) (j := 12) zwX12_middleOf_32 rfl) (z_wat (q := 32) (j := 13) zwX12_middleOf_32 rfl)
theorem dX12_middleOf_46 : decode cX12_middleOf 46 = .ok (.iload_n 3, 1) := z_o29 (z_wat (q := 32) (j := 14) zwX12_middleOf_32 rfl)
theorem dX12_middleOf_47 : decode cX12_middleOf 47 = .ok (.istore 6, 2) := z_o54 (z_wat (q := 32) (j := 15) zwX12_middleOf_32 rfl) (z_wat (q := 32) (j := 16) zwX12_middleOf_32 rfl)
theorem dX12_middleOf_49 : decode cX12_middleOf 49 = .ok (.iload 6, 2) := z_o21 (z_wat (q := 32) (j := 17) zwX12_middleOf_32 rfl) (z_wat (q := 32) (j := 18) zwX12_middleOf_32 rfl)
theorem dX12_middleOf_51 : decode cX12_middleOf 51 = .ok (.ifCond .le 39, 3) := z_o158 (z_wat (q := 32) (j := 19) zwX12_middleOf_32 rfl) (z_wat (q := 32) (j := 20) zwX12_middleOf_32 rfl) (z_wat (q := 32) (j := 21) zwX12_middleOf_32 rfl) rfl
theorem dX12_middleOf_54 : decode cX12_middleOf 54 = .ok (.aload_n 0, 1) := z_o42 (z_wat (q := 32) (j := 22) zwX12_middleOf_32 rfl)
theorem dX12_middleOf_55 : decode cX12_middleOf 55 = .ok (.getfield 96, 3) := z_o180 (z_wat (q := 32) (j := 23) zwX12_middleOf_32 rfl) (z_wat (q := 32) (j := 24) zwX12_middleOf_32 rfl) (z_wat (q := 32) (j := 25) zwX12_middleOf_32 rfl) rfl
theorem dX12_middleOf_58 : decode cX12_middleOf 58 = .ok (.iload 6, 2) := z_o21 (z_wat (q := 32) (j := 26) zwX12_middleOf_32 rfl) (z_wat (q := 32) (j := 27) zwX12_middleOf_32 rfl)
theorem dX12_middleOf_60 : decode cX12_middleOf 60 = .ok (.iconst 1, 1) := z_o4 (z_wat (q := 32) (j := 28) zwX12_middleOf_32 rfl)
theorem dX12_middleOf_61 : decode cX12_middleOf 61 = .ok (.isub, 1) := z_o100 (z_wat (q := 32) (j := 29) zwX12_middleOf_32 rfl)
theorem dX12_middleOf_62 : decode cX12_middleOf 62 = .ok (.iaload, 1) := z_o46 (z_wat (q := 32) (j := 30) zwX12_middleOf_32 rfl)
theorem dX12_middleOf_63 : decode cX12_middleOf 63 = .ok (.iload 5, 2) := z_o21 (z_wat (q := 32) (j := 31) zwX12_middleOf_32 rfl) (z_wat (q := 32) (j := 32) zwX12_middleOf_32 rfl)
theorem zwX12_middleOf_64 : ((cX12_middleOf.data.toList.drop 64).take 34).map UInt8.toNat = [5, 164, 0, 25, 42, 180, 0, 96, 21, 6, 42, 180, 0, 96, 21, 6, 4, 100, 46, 79, 132, 6, 255, 167, 255, 218, 42, 180, 0, 96, 21, 6, 21, 5] := by decide +kernel
theorem dX12_middleOf_65 : decode cX12_middleOf 65 = .ok (.if_icmp .le 25, 3) := z_o164 (z_wat (q := 64) (j := 1) zwX12_middleOf_64 rfl) (z_wat (q := 64) (j := 2) zwX12_middleOf_64 rfl) (z_wat (q := 64) (j := 3) zwX12_middleOf_64 rfl) rfl
theorem dX12_middleOf_68 : decode cX12_middleOf 68 = .ok (.aload_n 0, 1) := z_o42 (z_wat (q := 64) (j := 4) zwX12_middleOf_64 rfl)
theorem dX12_middleOf_69 : decode cX12_middleOf 69 = .ok (.getfield 96, 3) := z_o180 (z_wat (q := 64) (j := 5) zwX12_middleOf_64 rfl) (z_wat (q := 64) (j := 6) zwX12_middleOf_64 rfl) (z_wat (q := 64) (j := 7) zwX12_middleOf_64 rfl) rfl
theorem dX12_middleOf_72 : decode cX12_middleOf 72 = .ok (.iload 6, 2) := z_o21 (z_wat (q := 64) (j := 8) zwX12_middleOf_64 rfl) (z_wat (q := 64) (j := 9) zwX12_middleOf_64 rfl)
theorem dX12_middleOf_74 : decode cX12_middleOf 74 = .ok (.aload_n 0, 1) := z_o42 (z_wat (q := 64) (j := 10) zwX12_middleOf_64 rfl)
theorem dX12_middleOf_75 : decode cX12_middleOf 75 = .ok (.getfield 96, 3) := z_o180 (z_wat (q := 64) (j := 11) zwX12_middleOf_64 rfl) (z_wat (q := 64) (j := 12) zwX12_middleOf_64 rfl) (z_wat (q := 64) (j := 13) zwX12_middleOf_64 rfl) rfl
theorem dX12_middleOf_78 : decode cX12_middleOf 78 = .ok (.iload 6, 2) := z_o21 (z_wat (q := 64) (j := 14) zwX12_middleOf_64 rfl) (z_wat (q := 64) (j := 15) zwX12_middleOf_64 rfl)
theorem dX12_middleOf_80 : decode cX12_middleOf 80 = .ok (.iconst 1, 1) := z_o4 (z_wat (q := 64) (j := 16) zwX12_middleOf_64 rfl)
theorem dX12_middleOf_81 : decode cX12_middleOf 81 = .ok (.isub, 1) := z_o100 (z_wat (q := 64) (j := 17) zwX12_middleOf_64 rfl)
theorem dX12_middleOf_82 : decode cX12_middleOf 82 = .ok (.iaload, 1) := z_o46 (z_wat (q := 64) (j := 18) zwX12_middleOf_64 rfl)
theorem dX12_middleOf_83 : decode cX12_middleOf 83 = .ok (.iastore, 1) := z_o79 (z_wat (q := 64) (j := 19) zwX12_middleOf_64 rfl)
theorem dX12_middleOf_84 : decode cX12_middleOf 84 = .ok (.iinc 6 (-1), 3) := z_o132 (z_wat (q := 64) (j := 20) zwX12_middleOf_64 rfl) (z_wat (q := 64) (j := 21) zwX12_middleOf_64 rfl) (z_wat (q := 64) (j := 22) zwX12_middleOf_64 rfl) rfl
theorem dX12_middleOf_87 : decode cX12_middleOf 87 = .ok (.goto (-38), 3) := z_o167 (z_wat (q := 64) (j := 23) zwX12_middleOf_64 rfl) (z_wat (q := 64) (j := 24) zwX12_middleOf_64 rfl) (z_wat (q := 64) (j := 25) zwX12_middleOf_64 rfl) rfl
theorem dX12_middleOf_90 : decode cX12_middleOf 90 = .ok (.aload_n 0, 1) := z_o42 (z_wat (q := 64) (j := 26) zwX12_middleOf_64 rfl)
theorem dX12_middleOf_91 : decode cX12_middleOf 91 = .ok (.getfield 96, 3) := z_o180 (z_wat (q := 64) (j := 27) zwX12_middleOf_64 rfl) (z_wat (q := 64) (j := 28) zwX12_middleOf_64 rfl) (z_wat (q := 64) (j := 29) zwX12_middleOf_64 rfl) rfl
theorem dX12_middleOf_94 : decode cX12_middleOf 94 = .ok (.iload 6, 2) := z_o21 (z_wat (q := 64) (j := 30) zwX12_middleOf_64 rfl) (z_wat (q := 64) (j := 31) zwX12_middleOf_64 rfl)
theorem zwX12_middleOf_96 : ((cX12_middleOf.data.toList.drop 96).take 31).map UInt8.toNat = [21, 5, 79, 132, 3, 1, 132, 4, 1, 167, 255, 156, 29, 154, 0, 7, 2, 167, 0, 13, 42, 180, 0, 96, 29, 4, 100, 5, 108, 46, 172] := by decide +kernel
theorem dX12_middleOf_96 : decode cX12_middleOf 96 = .ok (.iload 5, 2) := z_o21 (z_wat (q := 96) (j := 0) zwX12_middleOf_96 rfl) (z_wat (q := 96) (j := 1) zwX12_middleOf_96 rfl)
theorem dX12_middleOf_98 : decode cX12_middleOf 98 = .ok (.iastore, 1) := z_o79 (z_wat (q := 96) (j := 2) zwX12_middleOf_96 rfl)
theorem dX12_middleOf_99 : decode cX12_middleOf 99 = .ok (.iinc 3 1, 3) := z_o132 (z_wat (q := 96) (j := 3) zwX12_middleOf_96 rfl) (z_wat (q := 96) (j := 4) zwX12_middleOf_96 rfl) (z_wat (q := 96) (j := 5) zwX12_middleOf_96 rfl) rfl
theorem dX12_middleOf_102 : decode cX12_middleOf 102 = .ok (.iinc 4 1, 3) := z_o132 (z_wat (q := 96) (j := 6) zwX12_middleOf_96 rfl) (z_wat (q := 96) (j := 7) zwX12_middleOf_96 rfl) (z_wat (q := 96) (j := 8) zwX12_middleOf_96 rfl) rfl
theorem dX12_middleOf_105 : decode cX12_middleOf 105 = .ok (.goto (-100), 3) := z_o167 (z_wat (q := 96) (j := 9) zwX12_middleOf_96 rfl) (z_wat (q := 96) (j := 10) zwX12_middleOf_96 rfl) (z_wat (q := 96) (j := 11) zwX12_middleOf_96 rfl) rfl
theorem dX12_middleOf_108 : decode cX12_middleOf 108 = .ok (.iload_n 3, 1) := z_o29 (z_wat (q := 96) (j := 12) zwX12_middleOf_96 rfl)
theorem dX12_middleOf_109 : decode cX12_middleOf 109 = .ok (.ifCond .ne 7, 3) := z_o154 (z_wat (q := 96) (j := 13) zwX12_middleOf_96 rfl) (z_wat (q := 96) (j := 14) zwX12_middleOf_96 rfl) (z_wat (q := 96) (j := 15) zwX12_middleOf_96 rfl) rfl
theorem dX12_middleOf_112 : decode cX12_middleOf 112 = .ok (.iconst (-1), 1) := z_o2 (z_wat (q := 96) (j := 16) zwX12_middleOf_96 rfl)
theorem dX12_middleOf_113 : decode cX12_middleOf 113 = .ok (.goto 13, 3) := z_o167 (z_wat (q := 96) (j := 17) zwX12_middleOf_96 rfl) (z_wat (q := 96) (j := 18) zwX12_middleOf_96 rfl) (z_wat (q := 96) (j := 19) zwX12_middleOf_96 rfl) rfl
theorem dX12_middleOf_116 : decode cX12_middleOf 116 = .ok (.aload_n 0, 1) := z_o42 (z_wat (q := 96) (j := 20) zwX12_middleOf_96 rfl)
theorem dX12_middleOf_117 : decode cX12_middleOf 117 = .ok (.getfield 96, 3) := z_o180 (z_wat (q := 96) (j := 21) zwX12_middleOf_96 rfl) (z_wat (q := 96) (j := 22) zwX12_middleOf_96 rfl) (z_wat (q := 96) (j := 23) zwX12_middleOf_96 rfl) rfl
theorem dX12_middleOf_120 : decode cX12_middleOf 120 = .ok (.iload_n 3, 1) := z_o29 (z_wat (q := 96) (j := 24) zwX12_middleOf_96 rfl)
theorem dX12_middleOf_121 : decode cX12_middleOf 121 = .ok (.iconst 1, 1) := z_o4 (z_wat (q := 96) (j := 25) zwX12_middleOf_96 rfl)
theorem dX12_middleOf_122 : decode cX12_middleOf 122 = .ok (.isub, 1) := z_o100 (z_wat (q := 96) (j := 26) zwX12_middleOf_96 rfl)
theorem dX12_middleOf_123 : decode cX12_middleOf 123 = .ok (.iconst 2, 1) := z_o5 (z_wat (q := 96) (j := 27) zwX12_middleOf_96 rfl)
theorem dX12_middleOf_124 : decode cX12_middleOf 124 = .ok (.idiv, 1) := z_o108 (z_wat (q := 96) (j := 28) zwX12_middleOf_96 rfl)
theorem dX12_middleOf_125 : decode cX12_middleOf 125 = .ok (.iaload, 1) := z_o46 (z_wat (q := 96) (j := 29) zwX12_middleOf_96 rfl)
theorem dX12_middleOf_126 : decode cX12_middleOf 126 = .ok (.ireturn, 1) := z_o172 (z_wat (q := 96) (j := 30) zwX12_middleOf_96 rfl)
theorem zwX12_missOf_0 : ((cX12_missOf.data.toList.drop 0).take 34).map UInt8.toNat = [9, 55, 6, 3, 54, 8, 21, 8, 7, 162, 0, 91, 16, 16, 27, 104, 21, 8, 96, 54, 9, 16, 16, 42, 180, 0, 84, 21, 8, 46, 104, 28, 42, 180] := by decide +kernel
theorem dX12_missOf_0 : decode cX12_missOf 0 = .ok (.lconst 0, 1) := z_o9 (z_wat (q := 0) (j := 0) zwX12_missOf_0 rfl)
theorem dX12_missOf_1 : decode cX12_missOf 1 = .ok (.lstore 6, 2) := z_o55 (z_wat (q := 0) (j := 1) zwX12_missOf_0 rfl) (z_wat (q := 0) (j := 2) zwX12_missOf_0 rfl)
theorem dX12_missOf_3 : decode cX12_missOf 3 = .ok (.iconst 0, 1) := z_o3 (z_wat (q := 0) (j := 3) zwX12_missOf_0 rfl)
theorem dX12_missOf_4 : decode cX12_missOf 4 = .ok (.istore 8, 2) := z_o54 (z_wat (q := 0) (j := 4) zwX12_missOf_0 rfl) (z_wat (q := 0) (j := 5) zwX12_missOf_0 rfl)
theorem dX12_missOf_6 : decode cX12_missOf 6 = .ok (.iload 8, 2) := z_o21 (z_wat (q := 0) (j := 6) zwX12_missOf_0 rfl) (z_wat (q := 0) (j := 7) zwX12_missOf_0 rfl)
theorem dX12_missOf_8 : decode cX12_missOf 8 = .ok (.iconst 4, 1) := z_o7 (z_wat (q := 0) (j := 8) zwX12_missOf_0 rfl)
theorem dX12_missOf_9 : decode cX12_missOf 9 = .ok (.if_icmp .ge 91, 3) := z_o162 (z_wat (q := 0) (j := 9) zwX12_missOf_0 rfl) (z_wat (q := 0) (j := 10) zwX12_missOf_0 rfl) (z_wat (q := 0) (j := 11) zwX12_missOf_0 rfl) rfl
theorem dX12_missOf_12 : decode cX12_missOf 12 = .ok (.bipush 16, 2) := z_o16 (z_wat (q := 0) (j := 12) zwX12_missOf_0 rfl) (z_wat (q := 0) (j := 13) zwX12_missOf_0 rfl) rfl
theorem dX12_missOf_14 : decode cX12_missOf 14 = .ok (.iload_n 1, 1) := z_o27 (z_wat (q := 0) (j := 14) zwX12_missOf_0 rfl)
theorem dX12_missOf_15 : decode cX12_missOf 15 = .ok (.imul, 1) := z_o104 (z_wat (q := 0) (j := 15) zwX12_missOf_0 rfl)
theorem dX12_missOf_16 : decode cX12_missOf 16 = .ok (.iload 8, 2) := z_o21 (z_wat (q := 0) (j := 16) zwX12_missOf_0 rfl) (z_wat (q := 0) (j := 17) zwX12_missOf_0 rfl)
theorem dX12_missOf_18 : decode cX12_missOf 18 = .ok (.iadd, 1) := z_o96 (z_wat (q := 0) (j := 18) zwX12_missOf_0 rfl)
theorem dX12_missOf_19 : decode cX12_missOf 19 = .ok (.istore 9, 2) := z_o54 (z_wat (q := 0) (j := 19) zwX12_missOf_0 rfl) (z_wat (q := 0) (j := 20) zwX12_missOf_0 rfl)
theorem dX12_missOf_21 : decode cX12_missOf 21 = .ok (.bipush 16, 2) := z_o16 (z_wat (q := 0) (j := 21) zwX12_missOf_0 rfl) (z_wat (q := 0) (j := 22) zwX12_missOf_0 rfl) rfl
theorem dX12_missOf_23 : decode cX12_missOf 23 = .ok (.aload_n 0, 1) := z_o42 (z_wat (q := 0) (j := 23) zwX12_missOf_0 rfl)
theorem dX12_missOf_24 : decode cX12_missOf 24 = .ok (.getfield 84, 3) := z_o180 (z_wat (q := 0) (j := 24) zwX12_missOf_0 rfl) (z_wat (q := 0) (j := 25) zwX12_missOf_0 rfl) (z_wat (q := 0) (j := 26) zwX12_missOf_0 rfl) rfl
theorem dX12_missOf_27 : decode cX12_missOf 27 = .ok (.iload 8, 2) := z_o21 (z_wat (q := 0) (j := 27) zwX12_missOf_0 rfl) (z_wat (q := 0) (j := 28) zwX12_missOf_0 rfl)
theorem dX12_missOf_29 : decode cX12_missOf 29 = .ok (.iaload, 1) := z_o46 (z_wat (q := 0) (j := 29) zwX12_missOf_0 rfl)
theorem dX12_missOf_30 : decode cX12_missOf 30 = .ok (.imul, 1) := z_o104 (z_wat (q := 0) (j := 30) zwX12_missOf_0 rfl)
theorem dX12_missOf_31 : decode cX12_missOf 31 = .ok (.iload_n 2, 1) := z_o28 (z_wat (q := 0) (j := 31) zwX12_missOf_0 rfl)
theorem zwX12_missOf_32 : ((cX12_missOf.data.toList.drop 32).take 34).map UInt8.toNat = [42, 180, 0, 78, 21, 9, 46, 104, 100, 29, 42, 180, 0, 78, 21, 9, 7, 96, 46, 104, 100, 21, 4, 42, 180, 0, 78, 21, 9, 16, 8, 96, 46, 104] := by decide +kernel
theorem dX12_missOf_32 : decode cX12_missOf 32 = .ok (.aload_n 0, 1) := z_o42 (z_wat (q := 32) (j := 0) zwX12_missOf_32 rfl)
theorem dX12_missOf_33 : decode cX12_missOf 33 = .ok (.getfield 78, 3) := z_o180 (z_wat (q := 32) (j := 1) zwX12_missOf_32 rfl) (z_wat (q := 32) (j := 2) zwX12_missOf_32 rfl) (z_wat (q := 32) (j := 3) zwX12_missOf_32 rfl) rfl
theorem dX12_missOf_36 : decode cX12_missOf 36 = .ok (.iload 9, 2) := z_o21 (z_wat (q := 32) (j := 4) zwX12_missOf_32 rfl) (z_wat (q := 32) (j := 5) zwX12_missOf_32 rfl)
theorem dX12_missOf_38 : decode cX12_missOf 38 = .ok (.iaload, 1) := z_o46 (z_wat (q := 32) (j := 6) zwX12_missOf_32 rfl)
theorem dX12_missOf_39 : decode cX12_missOf 39 = .ok (.imul, 1) := z_o104 (z_wat (q := 32) (j := 7) zwX12_missOf_32 rfl)
theorem dX12_missOf_40 : decode cX12_missOf 40 = .ok (.isub, 1) := z_o100 (z_wat (q := 32) (j := 8) zwX12_missOf_32 rfl)
theorem dX12_missOf_41 : decode cX12_missOf 41 = .ok (.iload_n 3, 1) := z_o29 (z_wat (q := 32) (j := 9) zwX12_missOf_32 rfl)
theorem dX12_missOf_42 : decode cX12_missOf 42 = .ok (.aload_n 0, 1) := z_o42 (z_wat (q := 32) (j := 10) zwX12_missOf_32 rfl)
theorem dX12_missOf_43 : decode cX12_missOf 43 = .ok (.getfield 78, 3) := z_o180 (z_wat (q := 32) (j := 11) zwX12_missOf_32 rfl) (z_wat (q := 32) (j := 12) zwX12_missOf_32 rfl) (z_wat (q := 32) (j := 13) zwX12_missOf_32 rfl) rfl
theorem dX12_missOf_46 : decode cX12_missOf 46 = .ok (.iload 9, 2) := z_o21 (z_wat (q := 32) (j := 14) zwX12_missOf_32 rfl) (z_wat (q := 32) (j := 15) zwX12_missOf_32 rfl)
theorem dX12_missOf_48 : decode cX12_missOf 48 = .ok (.iconst 4, 1) := z_o7 (z_wat (q := 32) (j := 16) zwX12_missOf_32 rfl)
theorem dX12_missOf_49 : decode cX12_missOf 49 = .ok (.iadd, 1) := z_o96 (z_wat (q := 32) (j := 17) zwX12_missOf_32 rfl)
theorem dX12_missOf_50 : decode cX12_missOf 50 = .ok (.iaload, 1) := z_o46 (z_wat (q := 32) (j := 18) zwX12_missOf_32 rfl)
theorem dX12_missOf_51 : decode cX12_missOf 51 = .ok (.imul, 1) := z_o104 (z_wat (q := 32) (j := 19) zwX12_missOf_32 rfl)
theorem dX12_missOf_52 : decode cX12_missOf 52 = .ok (.isub, 1) := z_o100 (z_wat (q := 32) (j := 20) zwX12_missOf_32 rfl)
theorem dX12_missOf_53 : decode cX12_missOf 53 = .ok (.iload 4, 2) := z_o21 (z_wat (q := 32) (j := 21) zwX12_missOf_32 rfl) (z_wat (q := 32) (j := 22) zwX12_missOf_32 rfl)
theorem dX12_missOf_55 : decode cX12_missOf 55 = .ok (.aload_n 0, 1) := z_o42 (z_wat (q := 32) (j := 23) zwX12_missOf_32 rfl)
theorem dX12_missOf_56 : decode cX12_missOf 56 = .ok (.getfield 78, 3) := z_o180 (z_wat (q := 32) (j := 24) zwX12_missOf_32 rfl) (z_wat (q := 32) (j := 25) zwX12_missOf_32 rfl) (z_wat (q := 32) (j := 26) zwX12_missOf_32 rfl) rfl
theorem dX12_missOf_59 : decode cX12_missOf 59 = .ok (.iload 9, 2) := z_o21 (z_wat (q := 32) (j := 27) zwX12_missOf_32 rfl) (z_wat (q := 32) (j := 28) zwX12_missOf_32 rfl)
theorem dX12_missOf_61 : decode cX12_missOf 61 = .ok (.bipush 8, 2) := z_o16 (z_wat (q := 32) (j := 29) zwX12_missOf_32 rfl) (z_wat (q := 32) (j := 30) zwX12_missOf_32 rfl) rfl
theorem dX12_missOf_63 : decode cX12_missOf 63 = .ok (.iadd, 1) := z_o96 (z_wat (q := 32) (j := 31) zwX12_missOf_32 rfl)
theorem zwX12_missOf_64 : ((cX12_missOf.data.toList.drop 64).take 34).map UInt8.toNat = [46, 104, 100, 21, 5, 42, 180, 0, 78, 21, 9, 16, 12, 96, 46, 104, 100, 133, 55, 10, 22, 6, 22, 10, 22, 10, 105, 97, 55, 6, 132, 8, 1, 167] := by decide +kernel
theorem dX12_missOf_64 : decode cX12_missOf 64 = .ok (.iaload, 1) := z_o46 (z_wat (q := 64) (j := 0) zwX12_missOf_64 rfl)
theorem dX12_missOf_65 : decode cX12_missOf 65 = .ok (.imul, 1) := z_o104 (z_wat (q := 64) (j := 1) zwX12_missOf_64 rfl)
theorem dX12_missOf_66 : decode cX12_missOf 66 = .ok (.isub, 1) := z_o100 (z_wat (q := 64) (j := 2) zwX12_missOf_64 rfl)
theorem dX12_missOf_67 : decode cX12_missOf 67 = .ok (.iload 5, 2) := z_o21 (z_wat (q := 64) (j := 3) zwX12_missOf_64 rfl) (z_wat (q := 64) (j := 4) zwX12_missOf_64 rfl)
theorem dX12_missOf_69 : decode cX12_missOf 69 = .ok (.aload_n 0, 1) := z_o42 (z_wat (q := 64) (j := 5) zwX12_missOf_64 rfl)
theorem dX12_missOf_70 : decode cX12_missOf 70 = .ok (.getfield 78, 3) := z_o180 (z_wat (q := 64) (j := 6) zwX12_missOf_64 rfl) (z_wat (q := 64) (j := 7) zwX12_missOf_64 rfl) (z_wat (q := 64) (j := 8) zwX12_missOf_64 rfl) rfl
theorem dX12_missOf_73 : decode cX12_missOf 73 = .ok (.iload 9, 2) := z_o21 (z_wat (q := 64) (j := 9) zwX12_missOf_64 rfl) (z_wat (q := 64) (j := 10) zwX12_missOf_64 rfl)
theorem dX12_missOf_75 : decode cX12_missOf 75 = .ok (.bipush 12, 2) := z_o16 (z_wat (q := 64) (j := 11) zwX12_missOf_64 rfl) (z_wat (q := 64) (j := 12) zwX12_missOf_64 rfl) rfl
theorem dX12_missOf_77 : decode cX12_missOf 77 = .ok (.iadd, 1) := z_o96 (z_wat (q := 64) (j := 13) zwX12_missOf_64 rfl)
theorem dX12_missOf_78 : decode cX12_missOf 78 = .ok (.iaload, 1) := z_o46 (z_wat (q := 64) (j := 14) zwX12_missOf_64 rfl)
theorem dX12_missOf_79 : decode cX12_missOf 79 = .ok (.imul, 1) := z_o104 (z_wat (q := 64) (j := 15) zwX12_missOf_64 rfl)
theorem dX12_missOf_80 : decode cX12_missOf 80 = .ok (.isub, 1) := z_o100 (z_wat (q := 64) (j := 16) zwX12_missOf_64 rfl)
theorem dX12_missOf_81 : decode cX12_missOf 81 = .ok (.i2l, 1) := z_o133 (z_wat (q := 64) (j := 17) zwX12_missOf_64 rfl)
theorem dX12_missOf_82 : decode cX12_missOf 82 = .ok (.lstore 10, 2) := z_o55 (z_wat (q := 64) (j := 18) zwX12_missOf_64 rfl) (z_wat (q := 64) (j := 19) zwX12_missOf_64 rfl)
theorem dX12_missOf_84 : decode cX12_missOf 84 = .ok (.lload 6, 2) := z_o22 (z_wat (q := 64) (j := 20) zwX12_missOf_64 rfl) (z_wat (q := 64) (j := 21) zwX12_missOf_64 rfl)
theorem dX12_missOf_86 : decode cX12_missOf 86 = .ok (.lload 10, 2) := z_o22 (z_wat (q := 64) (j := 22) zwX12_missOf_64 rfl) (z_wat (q := 64) (j := 23) zwX12_missOf_64 rfl)
theorem dX12_missOf_88 : decode cX12_missOf 88 = .ok (.lload 10, 2) := z_o22 (z_wat (q := 64) (j := 24) zwX12_missOf_64 rfl) (z_wat (q := 64) (j := 25) zwX12_missOf_64 rfl)
theorem dX12_missOf_90 : decode cX12_missOf 90 = .ok (.lmul, 1) := z_o105 (z_wat (q := 64) (j := 26) zwX12_missOf_64 rfl)
theorem dX12_missOf_91 : decode cX12_missOf 91 = .ok (.ladd, 1) := z_o97 (z_wat (q := 64) (j := 27) zwX12_missOf_64 rfl)
theorem dX12_missOf_92 : decode cX12_missOf 92 = .ok (.lstore 6, 2) := z_o55 (z_wat (q := 64) (j := 28) zwX12_missOf_64 rfl) (z_wat (q := 64) (j := 29) zwX12_missOf_64 rfl)
theorem dX12_missOf_94 : decode cX12_missOf 94 = .ok (.iinc 8 1, 3) := z_o132 (z_wat (q := 64) (j := 30) zwX12_missOf_64 rfl) (z_wat (q := 64) (j := 31) zwX12_missOf_64 rfl) (z_wat (q := 64) (j := 32) zwX12_missOf_64 rfl) rfl
theorem zwX12_missOf_96 : ((cX12_missOf.data.toList.drop 96).take 7).map UInt8.toNat = [1, 167, 255, 165, 22, 6, 173] := by decide +kernel
theorem dX12_missOf_97 : decode cX12_missOf 97 = .ok (.goto (-91), 3) := z_o167 (z_wat (q := 96) (j := 1) zwX12_missOf_96 rfl) (z_wat (q := 96) (j := 2) zwX12_missOf_96 rfl) (z_wat (q := 96) (j := 3) zwX12_missOf_96 rfl) rfl
theorem dX12_missOf_100 : decode cX12_missOf 100 = .ok (.lload 6, 2) := z_o22 (z_wat (q := 96) (j := 4) zwX12_missOf_96 rfl) (z_wat (q := 96) (j := 5) zwX12_missOf_96 rfl)
theorem dX12_missOf_102 : decode cX12_missOf 102 = .ok (.lreturn, 1) := z_o173 (z_wat (q := 96) (j := 6) zwX12_missOf_96 rfl)
theorem zwX12_orNone_0 : ((cX12_orNone.data.toList.drop 0).take 13).map UInt8.toNat = [26, 156, 0, 9, 20, 1, 140, 167, 0, 5, 26, 133, 173] := by decide +kernel
theorem dX12_orNone_0 : decode cX12_orNone 0 = .ok (.iload_n 0, 1) := z_o26 (z_wat (q := 0) (j := 0) zwX12_orNone_0 rfl)
theorem dX12_orNone_1 : decode cX12_orNone 1 = .ok (.ifCond .ge 9, 3) := z_o156 (z_wat (q := 0) (j := 1) zwX12_orNone_0 rfl) (z_wat (q := 0) (j := 2) zwX12_orNone_0 rfl) (z_wat (q := 0) (j := 3) zwX12_orNone_0 rfl) rfl
theorem dX12_orNone_4 : decode cX12_orNone 4 = .ok (.ldc2_w 396, 3) := z_o20 (z_wat (q := 0) (j := 4) zwX12_orNone_0 rfl) (z_wat (q := 0) (j := 5) zwX12_orNone_0 rfl) (z_wat (q := 0) (j := 6) zwX12_orNone_0 rfl) rfl
theorem dX12_orNone_7 : decode cX12_orNone 7 = .ok (.goto 5, 3) := z_o167 (z_wat (q := 0) (j := 7) zwX12_orNone_0 rfl) (z_wat (q := 0) (j := 8) zwX12_orNone_0 rfl) (z_wat (q := 0) (j := 9) zwX12_orNone_0 rfl) rfl
theorem dX12_orNone_10 : decode cX12_orNone 10 = .ok (.iload_n 0, 1) := z_o26 (z_wat (q := 0) (j := 10) zwX12_orNone_0 rfl)
theorem dX12_orNone_11 : decode cX12_orNone 11 = .ok (.i2l, 1) := z_o133 (z_wat (q := 0) (j := 11) zwX12_orNone_0 rfl)
theorem dX12_orNone_12 : decode cX12_orNone 12 = .ok (.lreturn, 1) := z_o173 (z_wat (q := 0) (j := 12) zwX12_orNone_0 rfl)
theorem zwX12_reads_0 : ((cX12_reads.data.toList.drop 0).take 34).map UInt8.toNat = [42, 3, 181, 0, 145, 27, 184, 1, 32, 153, 0, 73, 28, 155, 0, 69, 28, 6, 163, 0, 64, 29, 155, 0, 60, 21, 4, 155, 0, 55, 21, 5, 155, 0] := by decide +kernel
theorem dX12_reads_0 : decode cX12_reads 0 = .ok (.aload_n 0, 1) := z_o42 (z_wat (q := 0) (j := 0) zwX12_reads_0 rfl)
theorem dX12_reads_1 : decode cX12_reads 1 = .ok (.iconst 0, 1) := z_o3 (z_wat (q := 0) (j := 1) zwX12_reads_0 rfl)
theorem dX12_reads_2 : decode cX12_reads 2 = .ok (.putfield 145, 3) := z_o181 (z_wat (q := 0) (j := 2) zwX12_reads_0 rfl) (z_wat (q := 0) (j := 3) zwX12_reads_0 rfl) (z_wat (q := 0) (j := 4) zwX12_reads_0 rfl) rfl
theorem dX12_reads_5 : decode cX12_reads 5 = .ok (.iload_n 1, 1) := z_o27 (z_wat (q := 0) (j := 5) zwX12_reads_0 rfl)
theorem dX12_reads_6 : decode cX12_reads 6 = .ok (.invokestatic 288, 3) := z_o184 (z_wat (q := 0) (j := 6) zwX12_reads_0 rfl) (z_wat (q := 0) (j := 7) zwX12_reads_0 rfl) (z_wat (q := 0) (j := 8) zwX12_reads_0 rfl) rfl
theorem dX12_reads_9 : decode cX12_reads 9 = .ok (.ifCond .eq 73, 3) := z_o153 (z_wat (q := 0) (j := 9) zwX12_reads_0 rfl) (z_wat (q := 0) (j := 10) zwX12_reads_0 rfl) (z_wat (q := 0) (j := 11) zwX12_reads_0 rfl) rfl
theorem dX12_reads_12 : decode cX12_reads 12 = .ok (.iload_n 2, 1) := z_o28 (z_wat (q := 0) (j := 12) zwX12_reads_0 rfl)
theorem dX12_reads_13 : decode cX12_reads 13 = .ok (.ifCond .lt 69, 3) := z_o155 (z_wat (q := 0) (j := 13) zwX12_reads_0 rfl) (z_wat (q := 0) (j := 14) zwX12_reads_0 rfl) (z_wat (q := 0) (j := 15) zwX12_reads_0 rfl) rfl
theorem dX12_reads_16 : decode cX12_reads 16 = .ok (.iload_n 2, 1) := z_o28 (z_wat (q := 0) (j := 16) zwX12_reads_0 rfl)
theorem dX12_reads_17 : decode cX12_reads 17 = .ok (.iconst 3, 1) := z_o6 (z_wat (q := 0) (j := 17) zwX12_reads_0 rfl)
theorem dX12_reads_18 : decode cX12_reads 18 = .ok (.if_icmp .gt 64, 3) := z_o163 (z_wat (q := 0) (j := 18) zwX12_reads_0 rfl) (z_wat (q := 0) (j := 19) zwX12_reads_0 rfl) (z_wat (q := 0) (j := 20) zwX12_reads_0 rfl) rfl
theorem dX12_reads_21 : decode cX12_reads 21 = .ok (.iload_n 3, 1) := z_o29 (z_wat (q := 0) (j := 21) zwX12_reads_0 rfl)
theorem dX12_reads_22 : decode cX12_reads 22 = .ok (.ifCond .lt 60, 3) := z_o155 (z_wat (q := 0) (j := 22) zwX12_reads_0 rfl) (z_wat (q := 0) (j := 23) zwX12_reads_0 rfl) (z_wat (q := 0) (j := 24) zwX12_reads_0 rfl) rfl
theorem dX12_reads_25 : decode cX12_reads 25 = .ok (.iload 4, 2) := z_o21 (z_wat (q := 0) (j := 25) zwX12_reads_0 rfl) (z_wat (q := 0) (j := 26) zwX12_reads_0 rfl)
theorem dX12_reads_27 : decode cX12_reads 27 = .ok (.ifCond .lt 55, 3) := z_o155 (z_wat (q := 0) (j := 27) zwX12_reads_0 rfl) (z_wat (q := 0) (j := 28) zwX12_reads_0 rfl) (z_wat (q := 0) (j := 29) zwX12_reads_0 rfl) rfl
theorem dX12_reads_30 : decode cX12_reads 30 = .ok (.iload 5, 2) := z_o21 (z_wat (q := 0) (j := 30) zwX12_reads_0 rfl) (z_wat (q := 0) (j := 31) zwX12_reads_0 rfl)
theorem zwX12_reads_32 : ((cX12_reads.data.toList.drop 32).take 34).map UInt8.toNat = [155, 0, 50, 21, 6, 155, 0, 45, 29, 16, 16, 163, 0, 39, 21, 4, 16, 16, 163, 0, 32, 21, 5, 16, 16, 163, 0, 25, 21, 6, 16, 16, 163, 0] := by decide +kernel
theorem dX12_reads_32 : decode cX12_reads 32 = .ok (.ifCond .lt 50, 3) := z_o155 (z_wat (q := 32) (j := 0) zwX12_reads_32 rfl) (z_wat (q := 32) (j := 1) zwX12_reads_32 rfl) (z_wat (q := 32) (j := 2) zwX12_reads_32 rfl) rfl
theorem dX12_reads_35 : decode cX12_reads 35 = .ok (.iload 6, 2) := z_o21 (z_wat (q := 32) (j := 3) zwX12_reads_32 rfl) (z_wat (q := 32) (j := 4) zwX12_reads_32 rfl)
theorem dX12_reads_37 : decode cX12_reads 37 = .ok (.ifCond .lt 45, 3) := z_o155 (z_wat (q := 32) (j := 5) zwX12_reads_32 rfl) (z_wat (q := 32) (j := 6) zwX12_reads_32 rfl) (z_wat (q := 32) (j := 7) zwX12_reads_32 rfl) rfl
theorem dX12_reads_40 : decode cX12_reads 40 = .ok (.iload_n 3, 1) := z_o29 (z_wat (q := 32) (j := 8) zwX12_reads_32 rfl)
theorem dX12_reads_41 : decode cX12_reads 41 = .ok (.bipush 16, 2) := z_o16 (z_wat (q := 32) (j := 9) zwX12_reads_32 rfl) (z_wat (q := 32) (j := 10) zwX12_reads_32 rfl) rfl
theorem dX12_reads_43 : decode cX12_reads 43 = .ok (.if_icmp .gt 39, 3) := z_o163 (z_wat (q := 32) (j := 11) zwX12_reads_32 rfl) (z_wat (q := 32) (j := 12) zwX12_reads_32 rfl) (z_wat (q := 32) (j := 13) zwX12_reads_32 rfl) rfl
theorem dX12_reads_46 : decode cX12_reads 46 = .ok (.iload 4, 2) := z_o21 (z_wat (q := 32) (j := 14) zwX12_reads_32 rfl) (z_wat (q := 32) (j := 15) zwX12_reads_32 rfl)
theorem dX12_reads_48 : decode cX12_reads 48 = .ok (.bipush 16, 2) := z_o16 (z_wat (q := 32) (j := 16) zwX12_reads_32 rfl) (z_wat (q := 32) (j := 17) zwX12_reads_32 rfl) rfl
theorem dX12_reads_50 : decode cX12_reads 50 = .ok (.if_icmp .gt 32, 3) := z_o163 (z_wat (q := 32) (j := 18) zwX12_reads_32 rfl) (z_wat (q := 32) (j := 19) zwX12_reads_32 rfl) (z_wat (q := 32) (j := 20) zwX12_reads_32 rfl) rfl
theorem dX12_reads_53 : decode cX12_reads 53 = .ok (.iload 5, 2) := z_o21 (z_wat (q := 32) (j := 21) zwX12_reads_32 rfl) (z_wat (q := 32) (j := 22) zwX12_reads_32 rfl)
theorem dX12_reads_55 : decode cX12_reads 55 = .ok (.bipush 16, 2) := z_o16 (z_wat (q := 32) (j := 23) zwX12_reads_32 rfl) (z_wat (q := 32) (j := 24) zwX12_reads_32 rfl) rfl
theorem dX12_reads_57 : decode cX12_reads 57 = .ok (.if_icmp .gt 25, 3) := z_o163 (z_wat (q := 32) (j := 25) zwX12_reads_32 rfl) (z_wat (q := 32) (j := 26) zwX12_reads_32 rfl) (z_wat (q := 32) (j := 27) zwX12_reads_32 rfl) rfl
theorem dX12_reads_60 : decode cX12_reads 60 = .ok (.iload 6, 2) := z_o21 (z_wat (q := 32) (j := 28) zwX12_reads_32 rfl) (z_wat (q := 32) (j := 29) zwX12_reads_32 rfl)
theorem dX12_reads_62 : decode cX12_reads 62 = .ok (.bipush 16, 2) := z_o16 (z_wat (q := 32) (j := 30) zwX12_reads_32 rfl) (z_wat (q := 32) (j := 31) zwX12_reads_32 rfl) rfl
theorem zwX12_reads_64 : ((cX12_reads.data.toList.drop 64).take 34).map UInt8.toNat = [163, 0, 18, 29, 21, 4, 96, 21, 5, 96, 21, 6, 96, 16, 16, 159, 0, 5, 3, 172, 16, 16, 27, 104, 7, 28, 104, 96, 54, 7, 42, 180, 0, 78] := by decide +kernel
theorem dX12_reads_64 : decode cX12_reads 64 = .ok (.if_icmp .gt 18, 3) := z_o163 (z_wat (q := 64) (j := 0) zwX12_reads_64 rfl) (z_wat (q := 64) (j := 1) zwX12_reads_64 rfl) (z_wat (q := 64) (j := 2) zwX12_reads_64 rfl) rfl
theorem dX12_reads_67 : decode cX12_reads 67 = .ok (.iload_n 3, 1) := z_o29 (z_wat (q := 64) (j := 3) zwX12_reads_64 rfl)
theorem dX12_reads_68 : decode cX12_reads 68 = .ok (.iload 4, 2) := z_o21 (z_wat (q := 64) (j := 4) zwX12_reads_64 rfl) (z_wat (q := 64) (j := 5) zwX12_reads_64 rfl)
theorem dX12_reads_70 : decode cX12_reads 70 = .ok (.iadd, 1) := z_o96 (z_wat (q := 64) (j := 6) zwX12_reads_64 rfl)
theorem dX12_reads_71 : decode cX12_reads 71 = .ok (.iload 5, 2) := z_o21 (z_wat (q := 64) (j := 7) zwX12_reads_64 rfl) (z_wat (q := 64) (j := 8) zwX12_reads_64 rfl)
theorem dX12_reads_73 : decode cX12_reads 73 = .ok (.iadd, 1) := z_o96 (z_wat (q := 64) (j := 9) zwX12_reads_64 rfl)
theorem dX12_reads_74 : decode cX12_reads 74 = .ok (.iload 6, 2) := z_o21 (z_wat (q := 64) (j := 10) zwX12_reads_64 rfl) (z_wat (q := 64) (j := 11) zwX12_reads_64 rfl)
theorem dX12_reads_76 : decode cX12_reads 76 = .ok (.iadd, 1) := z_o96 (z_wat (q := 64) (j := 12) zwX12_reads_64 rfl)
theorem dX12_reads_77 : decode cX12_reads 77 = .ok (.bipush 16, 2) := z_o16 (z_wat (q := 64) (j := 13) zwX12_reads_64 rfl) (z_wat (q := 64) (j := 14) zwX12_reads_64 rfl) rfl
theorem dX12_reads_79 : decode cX12_reads 79 = .ok (.if_icmp .eq 5, 3) := z_o159 (z_wat (q := 64) (j := 15) zwX12_reads_64 rfl) (z_wat (q := 64) (j := 16) zwX12_reads_64 rfl) (z_wat (q := 64) (j := 17) zwX12_reads_64 rfl) rfl
theorem dX12_reads_82 : decode cX12_reads 82 = .ok (.iconst 0, 1) := z_o3 (z_wat (q := 64) (j := 18) zwX12_reads_64 rfl)
theorem dX12_reads_83 : decode cX12_reads 83 = .ok (.ireturn, 1) := z_o172 (z_wat (q := 64) (j := 19) zwX12_reads_64 rfl)
theorem dX12_reads_84 : decode cX12_reads 84 = .ok (.bipush 16, 2) := z_o16 (z_wat (q := 64) (j := 20) zwX12_reads_64 rfl) (z_wat (q := 64) (j := 21) zwX12_reads_64 rfl) rfl
theorem dX12_reads_86 : decode cX12_reads 86 = .ok (.iload_n 1, 1) := z_o27 (z_wat (q := 64) (j := 22) zwX12_reads_64 rfl)
theorem dX12_reads_87 : decode cX12_reads 87 = .ok (.imul, 1) := z_o104 (z_wat (q := 64) (j := 23) zwX12_reads_64 rfl)
theorem dX12_reads_88 : decode cX12_reads 88 = .ok (.iconst 4, 1) := z_o7 (z_wat (q := 64) (j := 24) zwX12_reads_64 rfl)
theorem dX12_reads_89 : decode cX12_reads 89 = .ok (.iload_n 2, 1) := z_o28 (z_wat (q := 64) (j := 25) zwX12_reads_64 rfl)
theorem dX12_reads_90 : decode cX12_reads 90 = .ok (.imul, 1) := z_o104 (z_wat (q := 64) (j := 26) zwX12_reads_64 rfl)
theorem dX12_reads_91 : decode cX12_reads 91 = .ok (.iadd, 1) := z_o96 (z_wat (q := 64) (j := 27) zwX12_reads_64 rfl)
theorem dX12_reads_92 : decode cX12_reads 92 = .ok (.istore 7, 2) := z_o54 (z_wat (q := 64) (j := 28) zwX12_reads_64 rfl) (z_wat (q := 64) (j := 29) zwX12_reads_64 rfl)
theorem dX12_reads_94 : decode cX12_reads 94 = .ok (.aload_n 0, 1) := z_o42 (z_wat (q := 64) (j := 30) zwX12_reads_64 rfl)
theorem dX12_reads_95 : decode cX12_reads 95 = .ok (.getfield 78, 3) := z_o180 (z_wat (q := 64) (j := 31) zwX12_reads_64 rfl) (z_wat (q := 64) (j := 32) zwX12_reads_64 rfl) (z_wat (q := 64) (j := 33) zwX12_reads_64 rfl) rfl
theorem zwX12_reads_96 : ((cX12_reads.data.toList.drop 96).take 34).map UInt8.toNat = [0, 78, 21, 7, 29, 79, 42, 180, 0, 78, 21, 7, 4, 96, 21, 4, 79, 42, 180, 0, 78, 21, 7, 5, 96, 21, 5, 79, 42, 180, 0, 78, 21, 7] := by decide +kernel
theorem dX12_reads_98 : decode cX12_reads 98 = .ok (.iload 7, 2) := z_o21 (z_wat (q := 96) (j := 2) zwX12_reads_96 rfl) (z_wat (q := 96) (j := 3) zwX12_reads_96 rfl)
theorem dX12_reads_100 : decode cX12_reads 100 = .ok (.iload_n 3, 1) := z_o29 (z_wat (q := 96) (j := 4) zwX12_reads_96 rfl)
theorem dX12_reads_101 : decode cX12_reads 101 = .ok (.iastore, 1) := z_o79 (z_wat (q := 96) (j := 5) zwX12_reads_96 rfl)
theorem dX12_reads_102 : decode cX12_reads 102 = .ok (.aload_n 0, 1) := z_o42 (z_wat (q := 96) (j := 6) zwX12_reads_96 rfl)
theorem dX12_reads_103 : decode cX12_reads 103 = .ok (.getfield 78, 3) := z_o180 (z_wat (q := 96) (j := 7) zwX12_reads_96 rfl) (z_wat (q := 96) (j := 8) zwX12_reads_96 rfl) (z_wat (q := 96) (j := 9) zwX12_reads_96 rfl) rfl
theorem dX12_reads_106 : decode cX12_reads 106 = .ok (.iload 7, 2) := z_o21 (z_wat (q := 96) (j := 10) zwX12_reads_96 rfl) (z_wat (q := 96) (j := 11) zwX12_reads_96 rfl)
theorem dX12_reads_108 : decode cX12_reads 108 = .ok (.iconst 1, 1) := z_o4 (z_wat (q := 96) (j := 12) zwX12_reads_96 rfl)
theorem dX12_reads_109 : decode cX12_reads 109 = .ok (.iadd, 1) := z_o96 (z_wat (q := 96) (j := 13) zwX12_reads_96 rfl)
theorem dX12_reads_110 : decode cX12_reads 110 = .ok (.iload 4, 2) := z_o21 (z_wat (q := 96) (j := 14) zwX12_reads_96 rfl) (z_wat (q := 96) (j := 15) zwX12_reads_96 rfl)
theorem dX12_reads_112 : decode cX12_reads 112 = .ok (.iastore, 1) := z_o79 (z_wat (q := 96) (j := 16) zwX12_reads_96 rfl)
theorem dX12_reads_113 : decode cX12_reads 113 = .ok (.aload_n 0, 1) := z_o42 (z_wat (q := 96) (j := 17) zwX12_reads_96 rfl)
theorem dX12_reads_114 : decode cX12_reads 114 = .ok (.getfield 78, 3) := z_o180 (z_wat (q := 96) (j := 18) zwX12_reads_96 rfl) (z_wat (q := 96) (j := 19) zwX12_reads_96 rfl) (z_wat (q := 96) (j := 20) zwX12_reads_96 rfl) rfl
theorem dX12_reads_117 : decode cX12_reads 117 = .ok (.iload 7, 2) := z_o21 (z_wat (q := 96) (j := 21) zwX12_reads_96 rfl) (z_wat (q := 96) (j := 22) zwX12_reads_96 rfl)
theorem dX12_reads_119 : decode cX12_reads 119 = .ok (.iconst 2, 1) := z_o5 (z_wat (q := 96) (j := 23) zwX12_reads_96 rfl)
theorem dX12_reads_120 : decode cX12_reads 120 = .ok (.iadd, 1) := z_o96 (z_wat (q := 96) (j := 24) zwX12_reads_96 rfl)
theorem dX12_reads_121 : decode cX12_reads 121 = .ok (.iload 5, 2) := z_o21 (z_wat (q := 96) (j := 25) zwX12_reads_96 rfl) (z_wat (q := 96) (j := 26) zwX12_reads_96 rfl)
theorem dX12_reads_123 : decode cX12_reads 123 = .ok (.iastore, 1) := z_o79 (z_wat (q := 96) (j := 27) zwX12_reads_96 rfl)
theorem dX12_reads_124 : decode cX12_reads 124 = .ok (.aload_n 0, 1) := z_o42 (z_wat (q := 96) (j := 28) zwX12_reads_96 rfl)
theorem dX12_reads_125 : decode cX12_reads 125 = .ok (.getfield 78, 3) := z_o180 (z_wat (q := 96) (j := 29) zwX12_reads_96 rfl) (z_wat (q := 96) (j := 30) zwX12_reads_96 rfl) (z_wat (q := 96) (j := 31) zwX12_reads_96 rfl) rfl
theorem zwX12_reads_128 : ((cX12_reads.data.toList.drop 128).take 9).map UInt8.toNat = [21, 7, 6, 96, 21, 6, 79, 4, 172] := by decide +kernel
theorem dX12_reads_128 : decode cX12_reads 128 = .ok (.iload 7, 2) := z_o21 (z_wat (q := 128) (j := 0) zwX12_reads_128 rfl) (z_wat (q := 128) (j := 1) zwX12_reads_128 rfl)
theorem dX12_reads_130 : decode cX12_reads 130 = .ok (.iconst 3, 1) := z_o6 (z_wat (q := 128) (j := 2) zwX12_reads_128 rfl)
theorem dX12_reads_131 : decode cX12_reads 131 = .ok (.iadd, 1) := z_o96 (z_wat (q := 128) (j := 3) zwX12_reads_128 rfl)
theorem dX12_reads_132 : decode cX12_reads 132 = .ok (.iload 6, 2) := z_o21 (z_wat (q := 128) (j := 4) zwX12_reads_128 rfl) (z_wat (q := 128) (j := 5) zwX12_reads_128 rfl)
theorem dX12_reads_134 : decode cX12_reads 134 = .ok (.iastore, 1) := z_o79 (z_wat (q := 128) (j := 6) zwX12_reads_128 rfl)
theorem dX12_reads_135 : decode cX12_reads 135 = .ok (.iconst 1, 1) := z_o4 (z_wat (q := 128) (j := 7) zwX12_reads_128 rfl)
theorem dX12_reads_136 : decode cX12_reads 136 = .ok (.ireturn, 1) := z_o172 (z_wat (q := 128) (j := 8) zwX12_reads_128 rfl)
theorem zwX12_size_0 : ((cX12_size.data.toList.drop 0).take 34).map UInt8.toNat = [3, 61, 3, 62, 29, 42, 180, 0, 151, 162, 0, 27, 28, 42, 180, 0, 32, 29, 46, 27, 160, 0, 7, 4, 167, 0, 4, 3, 96, 61, 132, 3, 1, 167] := by decide +kernel
theorem dX12_size_0 : decode cX12_size 0 = .ok (.iconst 0, 1) := z_o3 (z_wat (q := 0) (j := 0) zwX12_size_0 rfl)
theorem dX12_size_1 : decode cX12_size 1 = .ok (.istore_n 2, 1) := z_o61 (z_wat (q := 0) (j := 1) zwX12_size_0 rfl)
theorem dX12_size_2 : decode cX12_size 2 = .ok (.iconst 0, 1) := z_o3 (z_wat (q := 0) (j := 2) zwX12_size_0 rfl)
theorem dX12_size_3 : decode cX12_size 3 = .ok (.istore_n 3, 1) := z_o62 (z_wat (q := 0) (j := 3) zwX12_size_0 rfl)
theorem dX12_size_4 : decode cX12_size 4 = .ok (.iload_n 3, 1) := z_o29 (z_wat (q := 0) (j := 4) zwX12_size_0 rfl)
theorem dX12_size_5 : decode cX12_size 5 = .ok (.aload_n 0, 1) := z_o42 (z_wat (q := 0) (j := 5) zwX12_size_0 rfl)
theorem dX12_size_6 : decode cX12_size 6 = .ok (.getfield 151, 3) := z_o180 (z_wat (q := 0) (j := 6) zwX12_size_0 rfl) (z_wat (q := 0) (j := 7) zwX12_size_0 rfl) (z_wat (q := 0) (j := 8) zwX12_size_0 rfl) rfl
theorem dX12_size_9 : decode cX12_size 9 = .ok (.if_icmp .ge 27, 3) := z_o162 (z_wat (q := 0) (j := 9) zwX12_size_0 rfl) (z_wat (q := 0) (j := 10) zwX12_size_0 rfl) (z_wat (q := 0) (j := 11) zwX12_size_0 rfl) rfl
theorem dX12_size_12 : decode cX12_size 12 = .ok (.iload_n 2, 1) := z_o28 (z_wat (q := 0) (j := 12) zwX12_size_0 rfl)
theorem dX12_size_13 : decode cX12_size 13 = .ok (.aload_n 0, 1) := z_o42 (z_wat (q := 0) (j := 13) zwX12_size_0 rfl)
theorem dX12_size_14 : decode cX12_size 14 = .ok (.getfield 32, 3) := z_o180 (z_wat (q := 0) (j := 14) zwX12_size_0 rfl) (z_wat (q := 0) (j := 15) zwX12_size_0 rfl) (z_wat (q := 0) (j := 16) zwX12_size_0 rfl) rfl
theorem dX12_size_17 : decode cX12_size 17 = .ok (.iload_n 3, 1) := z_o29 (z_wat (q := 0) (j := 17) zwX12_size_0 rfl)
theorem dX12_size_18 : decode cX12_size 18 = .ok (.iaload, 1) := z_o46 (z_wat (q := 0) (j := 18) zwX12_size_0 rfl)
theorem dX12_size_19 : decode cX12_size 19 = .ok (.iload_n 1, 1) := z_o27 (z_wat (q := 0) (j := 19) zwX12_size_0 rfl)
theorem dX12_size_20 : decode cX12_size 20 = .ok (.if_icmp .ne 7, 3) := z_o160 (z_wat (q := 0) (j := 20) zwX12_size_0 rfl) (z_wat (q := 0) (j := 21) zwX12_size_0 rfl) (z_wat (q := 0) (j := 22) zwX12_size_0 rfl) rfl
theorem dX12_size_23 : decode cX12_size 23 = .ok (.iconst 1, 1) := z_o4 (z_wat (q := 0) (j := 23) zwX12_size_0 rfl)
theorem dX12_size_24 : decode cX12_size 24 = .ok (.goto 4, 3) := z_o167 (z_wat (q := 0) (j := 24) zwX12_size_0 rfl) (z_wat (q := 0) (j := 25) zwX12_size_0 rfl) (z_wat (q := 0) (j := 26) zwX12_size_0 rfl) rfl
theorem dX12_size_27 : decode cX12_size 27 = .ok (.iconst 0, 1) := z_o3 (z_wat (q := 0) (j := 27) zwX12_size_0 rfl)
theorem dX12_size_28 : decode cX12_size 28 = .ok (.iadd, 1) := z_o96 (z_wat (q := 0) (j := 28) zwX12_size_0 rfl)
theorem dX12_size_29 : decode cX12_size 29 = .ok (.istore_n 2, 1) := z_o61 (z_wat (q := 0) (j := 29) zwX12_size_0 rfl)
theorem dX12_size_30 : decode cX12_size 30 = .ok (.iinc 3 1, 3) := z_o132 (z_wat (q := 0) (j := 30) zwX12_size_0 rfl) (z_wat (q := 0) (j := 31) zwX12_size_0 rfl) (z_wat (q := 0) (j := 32) zwX12_size_0 rfl) rfl
theorem zwX12_size_32 : ((cX12_size.data.toList.drop 32).take 6).map UInt8.toNat = [1, 167, 255, 227, 28, 172] := by decide +kernel
theorem dX12_size_33 : decode cX12_size 33 = .ok (.goto (-29), 3) := z_o167 (z_wat (q := 32) (j := 1) zwX12_size_32 rfl) (z_wat (q := 32) (j := 2) zwX12_size_32 rfl) (z_wat (q := 32) (j := 3) zwX12_size_32 rfl) rfl
theorem dX12_size_36 : decode cX12_size 36 = .ok (.iload_n 2, 1) := z_o28 (z_wat (q := 32) (j := 4) zwX12_size_32 rfl)
theorem dX12_size_37 : decode cX12_size 37 = .ok (.ireturn, 1) := z_o172 (z_wat (q := 32) (j := 5) zwX12_size_32 rfl)
theorem zwX12_thick_0 : ((cX12_thick.data.toList.drop 0).take 34).map UInt8.toNat = [42, 3, 181, 0, 145, 27, 155, 0, 30, 27, 42, 180, 0, 181, 162, 0, 22, 42, 28, 182, 0, 157, 153, 0, 14, 29, 155, 0, 10, 29, 17, 1, 244, 164] := by decide +kernel
theorem dX12_thick_0 : decode cX12_thick 0 = .ok (.aload_n 0, 1) := z_o42 (z_wat (q := 0) (j := 0) zwX12_thick_0 rfl)
theorem dX12_thick_1 : decode cX12_thick 1 = .ok (.iconst 0, 1) := z_o3 (z_wat (q := 0) (j := 1) zwX12_thick_0 rfl)
theorem dX12_thick_2 : decode cX12_thick 2 = .ok (.putfield 145, 3) := z_o181 (z_wat (q := 0) (j := 2) zwX12_thick_0 rfl) (z_wat (q := 0) (j := 3) zwX12_thick_0 rfl) (z_wat (q := 0) (j := 4) zwX12_thick_0 rfl) rfl
theorem dX12_thick_5 : decode cX12_thick 5 = .ok (.iload_n 1, 1) := z_o27 (z_wat (q := 0) (j := 5) zwX12_thick_0 rfl)
theorem dX12_thick_6 : decode cX12_thick 6 = .ok (.ifCond .lt 30, 3) := z_o155 (z_wat (q := 0) (j := 6) zwX12_thick_0 rfl) (z_wat (q := 0) (j := 7) zwX12_thick_0 rfl) (z_wat (q := 0) (j := 8) zwX12_thick_0 rfl) rfl
theorem dX12_thick_9 : decode cX12_thick 9 = .ok (.iload_n 1, 1) := z_o27 (z_wat (q := 0) (j := 9) zwX12_thick_0 rfl)
theorem dX12_thick_10 : decode cX12_thick 10 = .ok (.aload_n 0, 1) := z_o42 (z_wat (q := 0) (j := 10) zwX12_thick_0 rfl)
theorem dX12_thick_11 : decode cX12_thick 11 = .ok (.getfield 181, 3) := z_o180 (z_wat (q := 0) (j := 11) zwX12_thick_0 rfl) (z_wat (q := 0) (j := 12) zwX12_thick_0 rfl) (z_wat (q := 0) (j := 13) zwX12_thick_0 rfl) rfl
theorem dX12_thick_14 : decode cX12_thick 14 = .ok (.if_icmp .ge 22, 3) := z_o162 (z_wat (q := 0) (j := 14) zwX12_thick_0 rfl) (z_wat (q := 0) (j := 15) zwX12_thick_0 rfl) (z_wat (q := 0) (j := 16) zwX12_thick_0 rfl) rfl
theorem dX12_thick_17 : decode cX12_thick 17 = .ok (.aload_n 0, 1) := z_o42 (z_wat (q := 0) (j := 17) zwX12_thick_0 rfl)
theorem dX12_thick_18 : decode cX12_thick 18 = .ok (.iload_n 2, 1) := z_o28 (z_wat (q := 0) (j := 18) zwX12_thick_0 rfl)
theorem dX12_thick_19 : decode cX12_thick 19 = .ok (.invokevirtual 157, 3) := z_o182 (z_wat (q := 0) (j := 19) zwX12_thick_0 rfl) (z_wat (q := 0) (j := 20) zwX12_thick_0 rfl) (z_wat (q := 0) (j := 21) zwX12_thick_0 rfl) rfl
theorem dX12_thick_22 : decode cX12_thick 22 = .ok (.ifCond .eq 14, 3) := z_o153 (z_wat (q := 0) (j := 22) zwX12_thick_0 rfl) (z_wat (q := 0) (j := 23) zwX12_thick_0 rfl) (z_wat (q := 0) (j := 24) zwX12_thick_0 rfl) rfl
theorem dX12_thick_25 : decode cX12_thick 25 = .ok (.iload_n 3, 1) := z_o29 (z_wat (q := 0) (j := 25) zwX12_thick_0 rfl)
theorem dX12_thick_26 : decode cX12_thick 26 = .ok (.ifCond .lt 10, 3) := z_o155 (z_wat (q := 0) (j := 26) zwX12_thick_0 rfl) (z_wat (q := 0) (j := 27) zwX12_thick_0 rfl) (z_wat (q := 0) (j := 28) zwX12_thick_0 rfl) rfl
theorem dX12_thick_29 : decode cX12_thick 29 = .ok (.iload_n 3, 1) := z_o29 (z_wat (q := 0) (j := 29) zwX12_thick_0 rfl)
theorem dX12_thick_30 : decode cX12_thick 30 = .ok (.sipush 500, 3) := z_o17 (z_wat (q := 0) (j := 30) zwX12_thick_0 rfl) (z_wat (q := 0) (j := 31) zwX12_thick_0 rfl) (z_wat (q := 0) (j := 32) zwX12_thick_0 rfl) rfl
theorem zwX12_thick_32 : ((cX12_thick.data.toList.drop 32).take 20).map UInt8.toNat = [244, 164, 0, 5, 3, 172, 42, 180, 0, 60, 16, 12, 27, 104, 28, 96, 29, 79, 4, 172] := by decide +kernel
theorem dX12_thick_33 : decode cX12_thick 33 = .ok (.if_icmp .le 5, 3) := z_o164 (z_wat (q := 32) (j := 1) zwX12_thick_32 rfl) (z_wat (q := 32) (j := 2) zwX12_thick_32 rfl) (z_wat (q := 32) (j := 3) zwX12_thick_32 rfl) rfl
theorem dX12_thick_36 : decode cX12_thick 36 = .ok (.iconst 0, 1) := z_o3 (z_wat (q := 32) (j := 4) zwX12_thick_32 rfl)
theorem dX12_thick_37 : decode cX12_thick 37 = .ok (.ireturn, 1) := z_o172 (z_wat (q := 32) (j := 5) zwX12_thick_32 rfl)
theorem dX12_thick_38 : decode cX12_thick 38 = .ok (.aload_n 0, 1) := z_o42 (z_wat (q := 32) (j := 6) zwX12_thick_32 rfl)
theorem dX12_thick_39 : decode cX12_thick 39 = .ok (.getfield 60, 3) := z_o180 (z_wat (q := 32) (j := 7) zwX12_thick_32 rfl) (z_wat (q := 32) (j := 8) zwX12_thick_32 rfl) (z_wat (q := 32) (j := 9) zwX12_thick_32 rfl) rfl
theorem dX12_thick_42 : decode cX12_thick 42 = .ok (.bipush 12, 2) := z_o16 (z_wat (q := 32) (j := 10) zwX12_thick_32 rfl) (z_wat (q := 32) (j := 11) zwX12_thick_32 rfl) rfl
theorem dX12_thick_44 : decode cX12_thick 44 = .ok (.iload_n 1, 1) := z_o27 (z_wat (q := 32) (j := 12) zwX12_thick_32 rfl)
theorem dX12_thick_45 : decode cX12_thick 45 = .ok (.imul, 1) := z_o104 (z_wat (q := 32) (j := 13) zwX12_thick_32 rfl)
theorem dX12_thick_46 : decode cX12_thick 46 = .ok (.iload_n 2, 1) := z_o28 (z_wat (q := 32) (j := 14) zwX12_thick_32 rfl)
theorem dX12_thick_47 : decode cX12_thick 47 = .ok (.iadd, 1) := z_o96 (z_wat (q := 32) (j := 15) zwX12_thick_32 rfl)
theorem dX12_thick_48 : decode cX12_thick 48 = .ok (.iload_n 3, 1) := z_o29 (z_wat (q := 32) (j := 16) zwX12_thick_32 rfl)
theorem dX12_thick_49 : decode cX12_thick 49 = .ok (.iastore, 1) := z_o79 (z_wat (q := 32) (j := 17) zwX12_thick_32 rfl)
theorem dX12_thick_50 : decode cX12_thick 50 = .ok (.iconst 1, 1) := z_o4 (z_wat (q := 32) (j := 18) zwX12_thick_32 rfl)
theorem dX12_thick_51 : decode cX12_thick 51 = .ok (.ireturn, 1) := z_o172 (z_wat (q := 32) (j := 19) zwX12_thick_32 rfl)
theorem zwX12_truth_0 : ((cX12_truth.data.toList.drop 0).take 10).map UInt8.toNat = [26, 153, 0, 7, 10, 167, 0, 4, 9, 173] := by decide +kernel
theorem dX12_truth_0 : decode cX12_truth 0 = .ok (.iload_n 0, 1) := z_o26 (z_wat (q := 0) (j := 0) zwX12_truth_0 rfl)
theorem dX12_truth_1 : decode cX12_truth 1 = .ok (.ifCond .eq 7, 3) := z_o153 (z_wat (q := 0) (j := 1) zwX12_truth_0 rfl) (z_wat (q := 0) (j := 2) zwX12_truth_0 rfl) (z_wat (q := 0) (j := 3) zwX12_truth_0 rfl) rfl
theorem dX12_truth_4 : decode cX12_truth 4 = .ok (.lconst 1, 1) := z_o10 (z_wat (q := 0) (j := 4) zwX12_truth_0 rfl)
theorem dX12_truth_5 : decode cX12_truth 5 = .ok (.goto 4, 3) := z_o167 (z_wat (q := 0) (j := 5) zwX12_truth_0 rfl) (z_wat (q := 0) (j := 6) zwX12_truth_0 rfl) (z_wat (q := 0) (j := 7) zwX12_truth_0 rfl) rfl
theorem dX12_truth_8 : decode cX12_truth 8 = .ok (.lconst 0, 1) := z_o9 (z_wat (q := 0) (j := 8) zwX12_truth_0 rfl)
theorem dX12_truth_9 : decode cX12_truth 9 = .ok (.lreturn, 1) := z_o173 (z_wat (q := 0) (j := 9) zwX12_truth_0 rfl)
