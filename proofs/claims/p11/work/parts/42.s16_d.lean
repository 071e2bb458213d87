theorem zwX12_begins_0 : ((cX12_begins.data.toList.drop 0).take 31).map UInt8.toNat = [42, 27, 181, 0, 204, 42, 3, 181, 0, 148, 42, 3, 181, 0, 198, 42, 2, 181, 0, 75, 42, 3, 181, 0, 207, 42, 28, 182, 0, 236, 177] := by decide +kernel
theorem dX12_begins_0 : decode cX12_begins 0 = .ok (.aload_n 0, 1) := z_o42 (z_wat (q := 0) (j := 0) zwX12_begins_0 rfl)
theorem dX12_begins_1 : decode cX12_begins 1 = .ok (.iload_n 1, 1) := z_o27 (z_wat (q := 0) (j := 1) zwX12_begins_0 rfl)
theorem dX12_begins_2 : decode cX12_begins 2 = .ok (.putfield 204, 3) := z_o181 (z_wat (q := 0) (j := 2) zwX12_begins_0 rfl) (z_wat (q := 0) (j := 3) zwX12_begins_0 rfl) (z_wat (q := 0) (j := 4) zwX12_begins_0 rfl) rfl
theorem dX12_begins_5 : decode cX12_begins 5 = .ok (.aload_n 0, 1) := z_o42 (z_wat (q := 0) (j := 5) zwX12_begins_0 rfl)
theorem dX12_begins_6 : decode cX12_begins 6 = .ok (.iconst 0, 1) := z_o3 (z_wat (q := 0) (j := 6) zwX12_begins_0 rfl)
theorem dX12_begins_7 : decode cX12_begins 7 = .ok (.putfield 148, 3) := z_o181 (z_wat (q := 0) (j := 7) zwX12_begins_0 rfl) (z_wat (q := 0) (j := 8) zwX12_begins_0 rfl) (z_wat (q := 0) (j := 9) zwX12_begins_0 rfl) rfl
theorem dX12_begins_10 : decode cX12_begins 10 = .ok (.aload_n 0, 1) := z_o42 (z_wat (q := 0) (j := 10) zwX12_begins_0 rfl)
theorem dX12_begins_11 : decode cX12_begins 11 = .ok (.iconst 0, 1) := z_o3 (z_wat (q := 0) (j := 11) zwX12_begins_0 rfl)
theorem dX12_begins_12 : decode cX12_begins 12 = .ok (.putfield 198, 3) := z_o181 (z_wat (q := 0) (j := 12) zwX12_begins_0 rfl) (z_wat (q := 0) (j := 13) zwX12_begins_0 rfl) (z_wat (q := 0) (j := 14) zwX12_begins_0 rfl) rfl
theorem dX12_begins_15 : decode cX12_begins 15 = .ok (.aload_n 0, 1) := z_o42 (z_wat (q := 0) (j := 15) zwX12_begins_0 rfl)
theorem dX12_begins_16 : decode cX12_begins 16 = .ok (.iconst (-1), 1) := z_o2 (z_wat (q := 0) (j := 16) zwX12_begins_0 rfl)
theorem dX12_begins_17 : decode cX12_begins 17 = .ok (.putfield 75, 3) := z_o181 (z_wat (q := 0) (j := 17) zwX12_begins_0 rfl) (z_wat (q := 0) (j := 18) zwX12_begins_0 rfl) (z_wat (q := 0) (j := 19) zwX12_begins_0 rfl) rfl
theorem dX12_begins_20 : decode cX12_begins 20 = .ok (.aload_n 0, 1) := z_o42 (z_wat (q := 0) (j := 20) zwX12_begins_0 rfl)
theorem dX12_begins_21 : decode cX12_begins 21 = .ok (.iconst 0, 1) := z_o3 (z_wat (q := 0) (j := 21) zwX12_begins_0 rfl)
theorem dX12_begins_22 : decode cX12_begins 22 = .ok (.putfield 207, 3) := z_o181 (z_wat (q := 0) (j := 22) zwX12_begins_0 rfl) (z_wat (q := 0) (j := 23) zwX12_begins_0 rfl) (z_wat (q := 0) (j := 24) zwX12_begins_0 rfl) rfl
theorem dX12_begins_25 : decode cX12_begins 25 = .ok (.aload_n 0, 1) := z_o42 (z_wat (q := 0) (j := 25) zwX12_begins_0 rfl)
theorem dX12_begins_26 : decode cX12_begins 26 = .ok (.iload_n 2, 1) := z_o28 (z_wat (q := 0) (j := 26) zwX12_begins_0 rfl)
theorem dX12_begins_27 : decode cX12_begins 27 = .ok (.invokevirtual 236, 3) := z_o182 (z_wat (q := 0) (j := 27) zwX12_begins_0 rfl) (z_wat (q := 0) (j := 28) zwX12_begins_0 rfl) (z_wat (q := 0) (j := 29) zwX12_begins_0 rfl) rfl
theorem dX12_begins_30 : decode cX12_begins 30 = .ok (.return_, 1) := z_o177 (z_wat (q := 0) (j := 30) zwX12_begins_0 rfl)
theorem zwX12_digits_0 : ((cX12_digits.data.toList.drop 0).take 34).map UInt8.toNat = [42, 3, 181, 0, 214, 42, 42, 180, 0, 207, 182, 0, 217, 153, 0, 56, 42, 42, 180, 0, 214, 18, 220, 164, 0, 10, 42, 180, 0, 214, 167, 0, 23, 16] := by decide +kernel
theorem dX12_digits_0 : decode cX12_digits 0 = .ok (.aload_n 0, 1) := z_o42 (z_wat (q := 0) (j := 0) zwX12_digits_0 rfl)
theorem dX12_digits_1 : decode cX12_digits 1 = .ok (.iconst 0, 1) := z_o3 (z_wat (q := 0) (j := 1) zwX12_digits_0 rfl)
theorem dX12_digits_2 : decode cX12_digits 2 = .ok (.putfield 214, 3) := z_o181 (z_wat (q := 0) (j := 2) zwX12_digits_0 rfl) (z_wat (q := 0) (j := 3) zwX12_digits_0 rfl) (z_wat (q := 0) (j := 4) zwX12_digits_0 rfl) rfl
theorem dX12_digits_5 : decode cX12_digits 5 = .ok (.aload_n 0, 1) := z_o42 (z_wat (q := 0) (j := 5) zwX12_digits_0 rfl)
theorem dX12_digits_6 : decode cX12_digits 6 = .ok (.aload_n 0, 1) := z_o42 (z_wat (q := 0) (j := 6) zwX12_digits_0 rfl)
theorem dX12_digits_7 : decode cX12_digits 7 = .ok (.getfield 207, 3) := z_o180 (z_wat (q := 0) (j := 7) zwX12_digits_0 rfl) (z_wat (q := 0) (j := 8) zwX12_digits_0 rfl) (z_wat (q := 0) (j := 9) zwX12_digits_0 rfl) rfl
theorem dX12_digits_10 : decode cX12_digits 10 = .ok (.invokevirtual 217, 3) := z_o182 (z_wat (q := 0) (j := 10) zwX12_digits_0 rfl) (z_wat (q := 0) (j := 11) zwX12_digits_0 rfl) (z_wat (q := 0) (j := 12) zwX12_digits_0 rfl) rfl
theorem dX12_digits_13 : decode cX12_digits 13 = .ok (.ifCond .eq 56, 3) := z_o153 (z_wat (q := 0) (j := 13) zwX12_digits_0 rfl) (z_wat (q := 0) (j := 14) zwX12_digits_0 rfl) (z_wat (q := 0) (j := 15) zwX12_digits_0 rfl) rfl
theorem dX12_digits_16 : decode cX12_digits 16 = .ok (.aload_n 0, 1) := z_o42 (z_wat (q := 0) (j := 16) zwX12_digits_0 rfl)
theorem dX12_digits_17 : decode cX12_digits 17 = .ok (.aload_n 0, 1) := z_o42 (z_wat (q := 0) (j := 17) zwX12_digits_0 rfl)
theorem dX12_digits_18 : decode cX12_digits 18 = .ok (.getfield 214, 3) := z_o180 (z_wat (q := 0) (j := 18) zwX12_digits_0 rfl) (z_wat (q := 0) (j := 19) zwX12_digits_0 rfl) (z_wat (q := 0) (j := 20) zwX12_digits_0 rfl) rfl
theorem dX12_digits_21 : decode cX12_digits 21 = .ok (.ldc 220, 2) := z_o18 (z_wat (q := 0) (j := 21) zwX12_digits_0 rfl) (z_wat (q := 0) (j := 22) zwX12_digits_0 rfl)
theorem dX12_digits_23 : decode cX12_digits 23 = .ok (.if_icmp .le 10, 3) := z_o164 (z_wat (q := 0) (j := 23) zwX12_digits_0 rfl) (z_wat (q := 0) (j := 24) zwX12_digits_0 rfl) (z_wat (q := 0) (j := 25) zwX12_digits_0 rfl) rfl
theorem dX12_digits_26 : decode cX12_digits 26 = .ok (.aload_n 0, 1) := z_o42 (z_wat (q := 0) (j := 26) zwX12_digits_0 rfl)
theorem dX12_digits_27 : decode cX12_digits 27 = .ok (.getfield 214, 3) := z_o180 (z_wat (q := 0) (j := 27) zwX12_digits_0 rfl) (z_wat (q := 0) (j := 28) zwX12_digits_0 rfl) (z_wat (q := 0) (j := 29) zwX12_digits_0 rfl) rfl
theorem dX12_digits_30 : decode cX12_digits 30 = .ok (.goto 23, 3) := z_o167 (z_wat (q := 0) (j := 30) zwX12_digits_0 rfl) (z_wat (q := 0) (j := 31) zwX12_digits_0 rfl) (z_wat (q := 0) (j := 32) zwX12_digits_0 rfl) rfl
theorem zwX12_digits_32 : ((cX12_digits.data.toList.drop 32).take 34).map UInt8.toNat = [23, 16, 10, 42, 180, 0, 214, 104, 42, 180, 0, 7, 42, 180, 0, 207, 46, 96, 16, 48, 100, 181, 0, 214, 42, 89, 180, 0, 207, 4, 96, 181, 0, 207] := by decide +kernel
theorem dX12_digits_33 : decode cX12_digits 33 = .ok (.bipush 10, 2) := z_o16 (z_wat (q := 32) (j := 1) zwX12_digits_32 rfl) (z_wat (q := 32) (j := 2) zwX12_digits_32 rfl) rfl
theorem dX12_digits_35 : decode cX12_digits 35 = .ok (.aload_n 0, 1) := z_o42 (z_wat (q := 32) (j := 3) zwX12_digits_32 rfl)
theorem dX12_digits_36 : decode cX12_digits 36 = .ok (.getfield 214, 3) := z_o180 (z_wat (q := 32) (j := 4) zwX12_digits_32 rfl) (z_wat (q := 32) (j := 5) zwX12_digits_32 rfl) (z_wat (q := 32) (j := 6) zwX12_digits_32 rfl) rfl
theorem dX12_digits_39 : decode cX12_digits 39 = .ok (.imul, 1) := z_o104 (z_wat (q := 32) (j := 7) zwX12_digits_32 rfl)
theorem dX12_digits_40 : decode cX12_digits 40 = .ok (.aload_n 0, 1) := z_o42 (z_wat (q := 32) (j := 8) zwX12_digits_32 rfl)
theorem dX12_digits_41 : decode cX12_digits 41 = .ok (.getfield 7, 3) := z_o180 (z_wat (q := 32) (j := 9) zwX12_digits_32 rfl) (z_wat (q := 32) (j := 10) zwX12_digits_32 rfl) (z_wat (q := 32) (j := 11) zwX12_digits_32 rfl) rfl
theorem dX12_digits_44 : decode cX12_digits 44 = .ok (.aload_n 0, 1) := z_o42 (z_wat (q := 32) (j := 12) zwX12_digits_32 rfl)
theorem dX12_digits_45 : decode cX12_digits 45 = .ok (.getfield 207, 3) := z_o180 (z_wat (q := 32) (j := 13) zwX12_digits_32 rfl) (z_wat (q := 32) (j := 14) zwX12_digits_32 rfl) (z_wat (q := 32) (j := 15) zwX12_digits_32 rfl) rfl
theorem dX12_digits_48 : decode cX12_digits 48 = .ok (.iaload, 1) := z_o46 (z_wat (q := 32) (j := 16) zwX12_digits_32 rfl)
theorem dX12_digits_49 : decode cX12_digits 49 = .ok (.iadd, 1) := z_o96 (z_wat (q := 32) (j := 17) zwX12_digits_32 rfl)
theorem dX12_digits_50 : decode cX12_digits 50 = .ok (.bipush 48, 2) := z_o16 (z_wat (q := 32) (j := 18) zwX12_digits_32 rfl) (z_wat (q := 32) (j := 19) zwX12_digits_32 rfl) rfl
theorem dX12_digits_52 : decode cX12_digits 52 = .ok (.isub, 1) := z_o100 (z_wat (q := 32) (j := 20) zwX12_digits_32 rfl)
theorem dX12_digits_53 : decode cX12_digits 53 = .ok (.putfield 214, 3) := z_o181 (z_wat (q := 32) (j := 21) zwX12_digits_32 rfl) (z_wat (q := 32) (j := 22) zwX12_digits_32 rfl) (z_wat (q := 32) (j := 23) zwX12_digits_32 rfl) rfl
theorem dX12_digits_56 : decode cX12_digits 56 = .ok (.aload_n 0, 1) := z_o42 (z_wat (q := 32) (j := 24) zwX12_digits_32 rfl)
theorem dX12_digits_57 : decode cX12_digits 57 = .ok (.dup, 1) := z_o89 (z_wat (q := 32) (j := 25) zwX12_digits_32 rfl)
theorem dX12_digits_58 : decode cX12_digits 58 = .ok (.getfield 207, 3) := z_o180 (z_wat (q := 32) (j := 26) zwX12_digits_32 rfl) (z_wat (q := 32) (j := 27) zwX12_digits_32 rfl) (z_wat (q := 32) (j := 28) zwX12_digits_32 rfl) rfl
theorem dX12_digits_61 : decode cX12_digits 61 = .ok (.iconst 1, 1) := z_o4 (z_wat (q := 32) (j := 29) zwX12_digits_32 rfl)
theorem dX12_digits_62 : decode cX12_digits 62 = .ok (.iadd, 1) := z_o96 (z_wat (q := 32) (j := 30) zwX12_digits_32 rfl)
theorem dX12_digits_63 : decode cX12_digits 63 = .ok (.putfield 207, 3) := z_o181 (z_wat (q := 32) (j := 31) zwX12_digits_32 rfl) (z_wat (q := 32) (j := 32) zwX12_digits_32 rfl) (z_wat (q := 32) (j := 33) zwX12_digits_32 rfl) rfl
theorem zwX12_digits_64 : ((cX12_digits.data.toList.drop 64).take 6).map UInt8.toNat = [0, 207, 167, 255, 195, 177] := by decide +kernel
theorem dX12_digits_66 : decode cX12_digits 66 = .ok (.goto (-61), 3) := z_o167 (z_wat (q := 64) (j := 2) zwX12_digits_64 rfl) (z_wat (q := 64) (j := 3) zwX12_digits_64 rfl) (z_wat (q := 64) (j := 4) zwX12_digits_64 rfl) rfl
theorem dX12_digits_69 : decode cX12_digits 69 = .ok (.return_, 1) := z_o177 (z_wat (q := 64) (j := 5) zwX12_digits_64 rfl)
theorem zwX12_findRead_0 : ((cX12_findRead.data.toList.drop 0).take 34).map UInt8.toNat = [42, 180, 0, 221, 16, 6, 159, 0, 9, 42, 4, 182, 0, 240, 172, 42, 42, 180, 0, 214, 182, 0, 195, 154, 0, 9, 42, 5, 182, 0, 240, 172, 17, 0] := by decide +kernel
theorem dX12_findRead_0 : decode cX12_findRead 0 = .ok (.aload_n 0, 1) := z_o42 (z_wat (q := 0) (j := 0) zwX12_findRead_0 rfl)
theorem dX12_findRead_1 : decode cX12_findRead 1 = .ok (.getfield 221, 3) := z_o180 (z_wat (q := 0) (j := 1) zwX12_findRead_0 rfl) (z_wat (q := 0) (j := 2) zwX12_findRead_0 rfl) (z_wat (q := 0) (j := 3) zwX12_findRead_0 rfl) rfl
theorem dX12_findRead_4 : decode cX12_findRead 4 = .ok (.bipush 6, 2) := z_o16 (z_wat (q := 0) (j := 4) zwX12_findRead_0 rfl) (z_wat (q := 0) (j := 5) zwX12_findRead_0 rfl) rfl
theorem dX12_findRead_6 : decode cX12_findRead 6 = .ok (.if_icmp .eq 9, 3) := z_o159 (z_wat (q := 0) (j := 6) zwX12_findRead_0 rfl) (z_wat (q := 0) (j := 7) zwX12_findRead_0 rfl) (z_wat (q := 0) (j := 8) zwX12_findRead_0 rfl) rfl
theorem dX12_findRead_9 : decode cX12_findRead 9 = .ok (.aload_n 0, 1) := z_o42 (z_wat (q := 0) (j := 9) zwX12_findRead_0 rfl)
theorem dX12_findRead_10 : decode cX12_findRead 10 = .ok (.iconst 1, 1) := z_o4 (z_wat (q := 0) (j := 10) zwX12_findRead_0 rfl)
theorem dX12_findRead_11 : decode cX12_findRead 11 = .ok (.invokevirtual 240, 3) := z_o182 (z_wat (q := 0) (j := 11) zwX12_findRead_0 rfl) (z_wat (q := 0) (j := 12) zwX12_findRead_0 rfl) (z_wat (q := 0) (j := 13) zwX12_findRead_0 rfl) rfl
theorem dX12_findRead_14 : decode cX12_findRead 14 = .ok (.ireturn, 1) := z_o172 (z_wat (q := 0) (j := 14) zwX12_findRead_0 rfl)
theorem dX12_findRead_15 : decode cX12_findRead 15 = .ok (.aload_n 0, 1) := z_o42 (z_wat (q := 0) (j := 15) zwX12_findRead_0 rfl)
theorem dX12_findRead_16 : decode cX12_findRead 16 = .ok (.aload_n 0, 1) := z_o42 (z_wat (q := 0) (j := 16) zwX12_findRead_0 rfl)
theorem dX12_findRead_17 : decode cX12_findRead 17 = .ok (.getfield 214, 3) := z_o180 (z_wat (q := 0) (j := 17) zwX12_findRead_0 rfl) (z_wat (q := 0) (j := 18) zwX12_findRead_0 rfl) (z_wat (q := 0) (j := 19) zwX12_findRead_0 rfl) rfl
theorem dX12_findRead_20 : decode cX12_findRead 20 = .ok (.invokevirtual 195, 3) := z_o182 (z_wat (q := 0) (j := 20) zwX12_findRead_0 rfl) (z_wat (q := 0) (j := 21) zwX12_findRead_0 rfl) (z_wat (q := 0) (j := 22) zwX12_findRead_0 rfl) rfl
theorem dX12_findRead_23 : decode cX12_findRead 23 = .ok (.ifCond .ne 9, 3) := z_o154 (z_wat (q := 0) (j := 23) zwX12_findRead_0 rfl) (z_wat (q := 0) (j := 24) zwX12_findRead_0 rfl) (z_wat (q := 0) (j := 25) zwX12_findRead_0 rfl) rfl
theorem dX12_findRead_26 : decode cX12_findRead 26 = .ok (.aload_n 0, 1) := z_o42 (z_wat (q := 0) (j := 26) zwX12_findRead_0 rfl)
theorem dX12_findRead_27 : decode cX12_findRead 27 = .ok (.iconst 2, 1) := z_o5 (z_wat (q := 0) (j := 27) zwX12_findRead_0 rfl)
theorem dX12_findRead_28 : decode cX12_findRead 28 = .ok (.invokevirtual 240, 3) := z_o182 (z_wat (q := 0) (j := 28) zwX12_findRead_0 rfl) (z_wat (q := 0) (j := 29) zwX12_findRead_0 rfl) (z_wat (q := 0) (j := 30) zwX12_findRead_0 rfl) rfl
theorem dX12_findRead_31 : decode cX12_findRead 31 = .ok (.ireturn, 1) := z_o172 (z_wat (q := 0) (j := 31) zwX12_findRead_0 rfl)
theorem zwX12_findRead_32 : ((cX12_findRead.data.toList.drop 32).take 34).map UInt8.toNat = [17, 0, 144, 42, 180, 0, 154, 104, 16, 24, 42, 180, 0, 214, 104, 96, 60, 42, 4, 182, 0, 236, 42, 180, 0, 221, 16, 7, 159, 0, 9, 42, 4, 182] := by decide +kernel
theorem dX12_findRead_32 : decode cX12_findRead 32 = .ok (.sipush 144, 3) := z_o17 (z_wat (q := 32) (j := 0) zwX12_findRead_32 rfl) (z_wat (q := 32) (j := 1) zwX12_findRead_32 rfl) (z_wat (q := 32) (j := 2) zwX12_findRead_32 rfl) rfl
theorem dX12_findRead_35 : decode cX12_findRead 35 = .ok (.aload_n 0, 1) := z_o42 (z_wat (q := 32) (j := 3) zwX12_findRead_32 rfl)
theorem dX12_findRead_36 : decode cX12_findRead 36 = .ok (.getfield 154, 3) := z_o180 (z_wat (q := 32) (j := 4) zwX12_findRead_32 rfl) (z_wat (q := 32) (j := 5) zwX12_findRead_32 rfl) (z_wat (q := 32) (j := 6) zwX12_findRead_32 rfl) rfl
theorem dX12_findRead_39 : decode cX12_findRead 39 = .ok (.imul, 1) := z_o104 (z_wat (q := 32) (j := 7) zwX12_findRead_32 rfl)
theorem dX12_findRead_40 : decode cX12_findRead 40 = .ok (.bipush 24, 2) := z_o16 (z_wat (q := 32) (j := 8) zwX12_findRead_32 rfl) (z_wat (q := 32) (j := 9) zwX12_findRead_32 rfl) rfl
theorem dX12_findRead_42 : decode cX12_findRead 42 = .ok (.aload_n 0, 1) := z_o42 (z_wat (q := 32) (j := 10) zwX12_findRead_32 rfl)
theorem dX12_findRead_43 : decode cX12_findRead 43 = .ok (.getfield 214, 3) := z_o180 (z_wat (q := 32) (j := 11) zwX12_findRead_32 rfl) (z_wat (q := 32) (j := 12) zwX12_findRead_32 rfl) (z_wat (q := 32) (j := 13) zwX12_findRead_32 rfl) rfl
theorem dX12_findRead_46 : decode cX12_findRead 46 = .ok (.imul, 1) := z_o104 (z_wat (q := 32) (j := 14) zwX12_findRead_32 rfl)
theorem dX12_findRead_47 : decode cX12_findRead 47 = .ok (.iadd, 1) := z_o96 (z_wat (q := 32) (j := 15) zwX12_findRead_32 rfl)
theorem dX12_findRead_48 : decode cX12_findRead 48 = .ok (.istore_n 1, 1) := z_o60 (z_wat (q := 32) (j := 16) zwX12_findRead_32 rfl)
theorem dX12_findRead_49 : decode cX12_findRead 49 = .ok (.aload_n 0, 1) := z_o42 (z_wat (q := 32) (j := 17) zwX12_findRead_32 rfl)
theorem dX12_findRead_50 : decode cX12_findRead 50 = .ok (.iconst 1, 1) := z_o4 (z_wat (q := 32) (j := 18) zwX12_findRead_32 rfl)
theorem dX12_findRead_51 : decode cX12_findRead 51 = .ok (.invokevirtual 236, 3) := z_o182 (z_wat (q := 32) (j := 19) zwX12_findRead_32 rfl) (z_wat (q := 32) (j := 20) zwX12_findRead_32 rfl) (z_wat (q := 32) (j := 21) zwX12_findRead_32 rfl) rfl
theorem dX12_findRead_54 : decode cX12_findRead 54 = .ok (.aload_n 0, 1) := z_o42 (z_wat (q := 32) (j := 22) zwX12_findRead_32 rfl)
theorem dX12_findRead_55 : decode cX12_findRead 55 = .ok (.getfield 221, 3) := z_o180 (z_wat (q := 32) (j := 23) zwX12_findRead_32 rfl) (z_wat (q := 32) (j := 24) zwX12_findRead_32 rfl) (z_wat (q := 32) (j := 25) zwX12_findRead_32 rfl) rfl
theorem dX12_findRead_58 : decode cX12_findRead 58 = .ok (.bipush 7, 2) := z_o16 (z_wat (q := 32) (j := 26) zwX12_findRead_32 rfl) (z_wat (q := 32) (j := 27) zwX12_findRead_32 rfl) rfl
theorem dX12_findRead_60 : decode cX12_findRead 60 = .ok (.if_icmp .eq 9, 3) := z_o159 (z_wat (q := 32) (j := 28) zwX12_findRead_32 rfl) (z_wat (q := 32) (j := 29) zwX12_findRead_32 rfl) (z_wat (q := 32) (j := 30) zwX12_findRead_32 rfl) rfl
theorem dX12_findRead_63 : decode cX12_findRead 63 = .ok (.aload_n 0, 1) := z_o42 (z_wat (q := 32) (j := 31) zwX12_findRead_32 rfl)
theorem zwX12_findRead_64 : ((cX12_findRead.data.toList.drop 64).take 34).map UInt8.toNat = [4, 182, 0, 240, 172, 42, 180, 0, 214, 6, 164, 0, 9, 42, 5, 182, 0, 240, 172, 27, 16, 6, 42, 180, 0, 214, 104, 96, 60, 42, 4, 182, 0, 236] := by decide +kernel
theorem dX12_findRead_64 : decode cX12_findRead 64 = .ok (.iconst 1, 1) := z_o4 (z_wat (q := 64) (j := 0) zwX12_findRead_64 rfl)
theorem dX12_findRead_65 : decode cX12_findRead 65 = .ok (.invokevirtual 240, 3) := z_o182 (z_wat (q := 64) (j := 1) zwX12_findRead_64 rfl) (z_wat (q := 64) (j := 2) zwX12_findRead_64 rfl) (z_wat (q := 64) (j := 3) zwX12_findRead_64 rfl) rfl
theorem dX12_findRead_68 : decode cX12_findRead 68 = .ok (.ireturn, 1) := z_o172 (z_wat (q := 64) (j := 4) zwX12_findRead_64 rfl)
theorem dX12_findRead_69 : decode cX12_findRead 69 = .ok (.aload_n 0, 1) := z_o42 (z_wat (q := 64) (j := 5) zwX12_findRead_64 rfl)
theorem dX12_findRead_70 : decode cX12_findRead 70 = .ok (.getfield 214, 3) := z_o180 (z_wat (q := 64) (j := 6) zwX12_findRead_64 rfl) (z_wat (q := 64) (j := 7) zwX12_findRead_64 rfl) (z_wat (q := 64) (j := 8) zwX12_findRead_64 rfl) rfl
theorem dX12_findRead_73 : decode cX12_findRead 73 = .ok (.iconst 3, 1) := z_o6 (z_wat (q := 64) (j := 9) zwX12_findRead_64 rfl)
theorem dX12_findRead_74 : decode cX12_findRead 74 = .ok (.if_icmp .le 9, 3) := z_o164 (z_wat (q := 64) (j := 10) zwX12_findRead_64 rfl) (z_wat (q := 64) (j := 11) zwX12_findRead_64 rfl) (z_wat (q := 64) (j := 12) zwX12_findRead_64 rfl) rfl
theorem dX12_findRead_77 : decode cX12_findRead 77 = .ok (.aload_n 0, 1) := z_o42 (z_wat (q := 64) (j := 13) zwX12_findRead_64 rfl)
theorem dX12_findRead_78 : decode cX12_findRead 78 = .ok (.iconst 2, 1) := z_o5 (z_wat (q := 64) (j := 14) zwX12_findRead_64 rfl)
theorem dX12_findRead_79 : decode cX12_findRead 79 = .ok (.invokevirtual 240, 3) := z_o182 (z_wat (q := 64) (j := 15) zwX12_findRead_64 rfl) (z_wat (q := 64) (j := 16) zwX12_findRead_64 rfl) (z_wat (q := 64) (j := 17) zwX12_findRead_64 rfl) rfl
theorem dX12_findRead_82 : decode cX12_findRead 82 = .ok (.ireturn, 1) := z_o172 (z_wat (q := 64) (j := 18) zwX12_findRead_64 rfl)
theorem dX12_findRead_83 : decode cX12_findRead 83 = .ok (.iload_n 1, 1) := z_o27 (z_wat (q := 64) (j := 19) zwX12_findRead_64 rfl)
theorem dX12_findRead_84 : decode cX12_findRead 84 = .ok (.bipush 6, 2) := z_o16 (z_wat (q := 64) (j := 20) zwX12_findRead_64 rfl) (z_wat (q := 64) (j := 21) zwX12_findRead_64 rfl) rfl
theorem dX12_findRead_86 : decode cX12_findRead 86 = .ok (.aload_n 0, 1) := z_o42 (z_wat (q := 64) (j := 22) zwX12_findRead_64 rfl)
theorem dX12_findRead_87 : decode cX12_findRead 87 = .ok (.getfield 214, 3) := z_o180 (z_wat (q := 64) (j := 23) zwX12_findRead_64 rfl) (z_wat (q := 64) (j := 24) zwX12_findRead_64 rfl) (z_wat (q := 64) (j := 25) zwX12_findRead_64 rfl) rfl
theorem dX12_findRead_90 : decode cX12_findRead 90 = .ok (.imul, 1) := z_o104 (z_wat (q := 64) (j := 26) zwX12_findRead_64 rfl)
theorem dX12_findRead_91 : decode cX12_findRead 91 = .ok (.iadd, 1) := z_o96 (z_wat (q := 64) (j := 27) zwX12_findRead_64 rfl)
theorem dX12_findRead_92 : decode cX12_findRead 92 = .ok (.istore_n 1, 1) := z_o60 (z_wat (q := 64) (j := 28) zwX12_findRead_64 rfl)
theorem dX12_findRead_93 : decode cX12_findRead 93 = .ok (.aload_n 0, 1) := z_o42 (z_wat (q := 64) (j := 29) zwX12_findRead_64 rfl)
theorem dX12_findRead_94 : decode cX12_findRead 94 = .ok (.iconst 1, 1) := z_o4 (z_wat (q := 64) (j := 30) zwX12_findRead_64 rfl)
theorem dX12_findRead_95 : decode cX12_findRead 95 = .ok (.invokevirtual 236, 3) := z_o182 (z_wat (q := 64) (j := 31) zwX12_findRead_64 rfl) (z_wat (q := 64) (j := 32) zwX12_findRead_64 rfl) (z_wat (q := 64) (j := 33) zwX12_findRead_64 rfl) rfl
theorem zwX12_findRead_96 : ((cX12_findRead.data.toList.drop 96).take 34).map UInt8.toNat = [0, 236, 42, 16, 58, 182, 0, 243, 154, 0, 9, 42, 4, 182, 0, 240, 172, 3, 61, 4, 62, 29, 153, 0, 125, 42, 4, 182, 0, 236, 42, 180, 0, 221] := by decide +kernel
theorem dX12_findRead_98 : decode cX12_findRead 98 = .ok (.aload_n 0, 1) := z_o42 (z_wat (q := 96) (j := 2) zwX12_findRead_96 rfl)
theorem dX12_findRead_99 : decode cX12_findRead 99 = .ok (.bipush 58, 2) := z_o16 (z_wat (q := 96) (j := 3) zwX12_findRead_96 rfl) (z_wat (q := 96) (j := 4) zwX12_findRead_96 rfl) rfl
theorem dX12_findRead_101 : decode cX12_findRead 101 = .ok (.invokevirtual 243, 3) := z_o182 (z_wat (q := 96) (j := 5) zwX12_findRead_96 rfl) (z_wat (q := 96) (j := 6) zwX12_findRead_96 rfl) (z_wat (q := 96) (j := 7) zwX12_findRead_96 rfl) rfl
theorem dX12_findRead_104 : decode cX12_findRead 104 = .ok (.ifCond .ne 9, 3) := z_o154 (z_wat (q := 96) (j := 8) zwX12_findRead_96 rfl) (z_wat (q := 96) (j := 9) zwX12_findRead_96 rfl) (z_wat (q := 96) (j := 10) zwX12_findRead_96 rfl) rfl
theorem dX12_findRead_107 : decode cX12_findRead 107 = .ok (.aload_n 0, 1) := z_o42 (z_wat (q := 96) (j := 11) zwX12_findRead_96 rfl)
theorem dX12_findRead_108 : decode cX12_findRead 108 = .ok (.iconst 1, 1) := z_o4 (z_wat (q := 96) (j := 12) zwX12_findRead_96 rfl)
theorem dX12_findRead_109 : decode cX12_findRead 109 = .ok (.invokevirtual 240, 3) := z_o182 (z_wat (q := 96) (j := 13) zwX12_findRead_96 rfl) (z_wat (q := 96) (j := 14) zwX12_findRead_96 rfl) (z_wat (q := 96) (j := 15) zwX12_findRead_96 rfl) rfl
theorem dX12_findRead_112 : decode cX12_findRead 112 = .ok (.ireturn, 1) := z_o172 (z_wat (q := 96) (j := 16) zwX12_findRead_96 rfl)
theorem dX12_findRead_113 : decode cX12_findRead 113 = .ok (.iconst 0, 1) := z_o3 (z_wat (q := 96) (j := 17) zwX12_findRead_96 rfl)
theorem dX12_findRead_114 : decode cX12_findRead 114 = .ok (.istore_n 2, 1) := z_o61 (z_wat (q := 96) (j := 18) zwX12_findRead_96 rfl)
theorem dX12_findRead_115 : decode cX12_findRead 115 = .ok (.iconst 1, 1) := z_o4 (z_wat (q := 96) (j := 19) zwX12_findRead_96 rfl)
theorem dX12_findRead_116 : decode cX12_findRead 116 = .ok (.istore_n 3, 1) := z_o62 (z_wat (q := 96) (j := 20) zwX12_findRead_96 rfl)
theorem dX12_findRead_117 : decode cX12_findRead 117 = .ok (.iload_n 3, 1) := z_o29 (z_wat (q := 96) (j := 21) zwX12_findRead_96 rfl)
theorem dX12_findRead_118 : decode cX12_findRead 118 = .ok (.ifCond .eq 125, 3) := z_o153 (z_wat (q := 96) (j := 22) zwX12_findRead_96 rfl) (z_wat (q := 96) (j := 23) zwX12_findRead_96 rfl) (z_wat (q := 96) (j := 24) zwX12_findRead_96 rfl) rfl
theorem dX12_findRead_121 : decode cX12_findRead 121 = .ok (.aload_n 0, 1) := z_o42 (z_wat (q := 96) (j := 25) zwX12_findRead_96 rfl)
theorem dX12_findRead_122 : decode cX12_findRead 122 = .ok (.iconst 1, 1) := z_o4 (z_wat (q := 96) (j := 26) zwX12_findRead_96 rfl)
theorem dX12_findRead_123 : decode cX12_findRead 123 = .ok (.invokevirtual 236, 3) := z_o182 (z_wat (q := 96) (j := 27) zwX12_findRead_96 rfl) (z_wat (q := 96) (j := 28) zwX12_findRead_96 rfl) (z_wat (q := 96) (j := 29) zwX12_findRead_96 rfl) rfl
theorem dX12_findRead_126 : decode cX12_findRead 126 = .ok (.aload_n 0, 1) := z_o42 (z_wat (q := 96) (j := 30) zwX12_findRead_96 rfl)
theorem dX12_findRead_127 : decode cX12_findRead 127 = .ok (.getfield 221, 3) := z_o180 (z_wat (q := 96) (j := 31) zwX12_findRead_96 rfl) (z_wat (q := 96) (j := 32) zwX12_findRead_96 rfl) (z_wat (q := 96) (j := 33) zwX12_findRead_96 rfl) rfl
theorem zwX12_findRead_128 : ((cX12_findRead.data.toList.drop 128).take 34).map UInt8.toNat = [0, 221, 4, 160, 0, 11, 42, 180, 0, 214, 8, 164, 0, 9, 42, 4, 182, 0, 240, 172, 42, 180, 0, 214, 54, 4, 28, 21, 4, 122, 4, 126, 4, 160] := by decide +kernel
theorem dX12_findRead_130 : decode cX12_findRead 130 = .ok (.iconst 1, 1) := z_o4 (z_wat (q := 128) (j := 2) zwX12_findRead_128 rfl)
theorem dX12_findRead_131 : decode cX12_findRead 131 = .ok (.if_icmp .ne 11, 3) := z_o160 (z_wat (q := 128) (j := 3) zwX12_findRead_128 rfl) (z_wat (q := 128) (j := 4) zwX12_findRead_128 rfl) (z_wat (q := 128) (j := 5) zwX12_findRead_128 rfl) rfl
theorem dX12_findRead_134 : decode cX12_findRead 134 = .ok (.aload_n 0, 1) := z_o42 (z_wat (q := 128) (j := 6) zwX12_findRead_128 rfl)
theorem dX12_findRead_135 : decode cX12_findRead 135 = .ok (.getfield 214, 3) := z_o180 (z_wat (q := 128) (j := 7) zwX12_findRead_128 rfl) (z_wat (q := 128) (j := 8) zwX12_findRead_128 rfl) (z_wat (q := 128) (j := 9) zwX12_findRead_128 rfl) rfl
theorem dX12_findRead_138 : decode cX12_findRead 138 = .ok (.iconst 5, 1) := z_o8 (z_wat (q := 128) (j := 10) zwX12_findRead_128 rfl)
theorem dX12_findRead_139 : decode cX12_findRead 139 = .ok (.if_icmp .le 9, 3) := z_o164 (z_wat (q := 128) (j := 11) zwX12_findRead_128 rfl) (z_wat (q := 128) (j := 12) zwX12_findRead_128 rfl) (z_wat (q := 128) (j := 13) zwX12_findRead_128 rfl) rfl
theorem dX12_findRead_142 : decode cX12_findRead 142 = .ok (.aload_n 0, 1) := z_o42 (z_wat (q := 128) (j := 14) zwX12_findRead_128 rfl)
theorem dX12_findRead_143 : decode cX12_findRead 143 = .ok (.iconst 1, 1) := z_o4 (z_wat (q := 128) (j := 15) zwX12_findRead_128 rfl)
theorem dX12_findRead_144 : decode cX12_findRead 144 = .ok (.invokevirtual 240, 3) := z_o182 (z_wat (q := 128) (j := 16) zwX12_findRead_128 rfl) (z_wat (q := 128) (j := 17) zwX12_findRead_128 rfl) (z_wat (q := 128) (j := 18) zwX12_findRead_128 rfl) rfl
theorem dX12_findRead_147 : decode cX12_findRead 147 = .ok (.ireturn, 1) := z_o172 (z_wat (q := 128) (j := 19) zwX12_findRead_128 rfl)
theorem dX12_findRead_148 : decode cX12_findRead 148 = .ok (.aload_n 0, 1) := z_o42 (z_wat (q := 128) (j := 20) zwX12_findRead_128 rfl)
theorem dX12_findRead_149 : decode cX12_findRead 149 = .ok (.getfield 214, 3) := z_o180 (z_wat (q := 128) (j := 21) zwX12_findRead_128 rfl) (z_wat (q := 128) (j := 22) zwX12_findRead_128 rfl) (z_wat (q := 128) (j := 23) zwX12_findRead_128 rfl) rfl
theorem dX12_findRead_152 : decode cX12_findRead 152 = .ok (.istore 4, 2) := z_o54 (z_wat (q := 128) (j := 24) zwX12_findRead_128 rfl) (z_wat (q := 128) (j := 25) zwX12_findRead_128 rfl)
theorem dX12_findRead_154 : decode cX12_findRead 154 = .ok (.iload_n 2, 1) := z_o28 (z_wat (q := 128) (j := 26) zwX12_findRead_128 rfl)
theorem dX12_findRead_155 : decode cX12_findRead 155 = .ok (.iload 4, 2) := z_o21 (z_wat (q := 128) (j := 27) zwX12_findRead_128 rfl) (z_wat (q := 128) (j := 28) zwX12_findRead_128 rfl)
theorem dX12_findRead_157 : decode cX12_findRead 157 = .ok (.ishr, 1) := z_o122 (z_wat (q := 128) (j := 29) zwX12_findRead_128 rfl)
theorem dX12_findRead_158 : decode cX12_findRead 158 = .ok (.iconst 1, 1) := z_o4 (z_wat (q := 128) (j := 30) zwX12_findRead_128 rfl)
theorem dX12_findRead_159 : decode cX12_findRead 159 = .ok (.iand, 1) := z_o126 (z_wat (q := 128) (j := 31) zwX12_findRead_128 rfl)
theorem zwX12_findRead_160 : ((cX12_findRead.data.toList.drop 160).take 34).map UInt8.toNat = [4, 160, 0, 9, 42, 6, 182, 0, 240, 172, 28, 4, 21, 4, 120, 128, 61, 42, 4, 182, 0, 236, 42, 180, 0, 221, 6, 159, 0, 9, 42, 4, 182, 0] := by decide +kernel
theorem dX12_findRead_160 : decode cX12_findRead 160 = .ok (.iconst 1, 1) := z_o4 (z_wat (q := 160) (j := 0) zwX12_findRead_160 rfl)
theorem dX12_findRead_161 : decode cX12_findRead 161 = .ok (.if_icmp .ne 9, 3) := z_o160 (z_wat (q := 160) (j := 1) zwX12_findRead_160 rfl) (z_wat (q := 160) (j := 2) zwX12_findRead_160 rfl) (z_wat (q := 160) (j := 3) zwX12_findRead_160 rfl) rfl
theorem dX12_findRead_164 : decode cX12_findRead 164 = .ok (.aload_n 0, 1) := z_o42 (z_wat (q := 160) (j := 4) zwX12_findRead_160 rfl)
theorem dX12_findRead_165 : decode cX12_findRead 165 = .ok (.iconst 3, 1) := z_o6 (z_wat (q := 160) (j := 5) zwX12_findRead_160 rfl)
theorem dX12_findRead_166 : decode cX12_findRead 166 = .ok (.invokevirtual 240, 3) := z_o182 (z_wat (q := 160) (j := 6) zwX12_findRead_160 rfl) (z_wat (q := 160) (j := 7) zwX12_findRead_160 rfl) (z_wat (q := 160) (j := 8) zwX12_findRead_160 rfl) rfl
theorem dX12_findRead_169 : decode cX12_findRead 169 = .ok (.ireturn, 1) := z_o172 (z_wat (q := 160) (j := 9) zwX12_findRead_160 rfl)
theorem dX12_findRead_170 : decode cX12_findRead 170 = .ok (.iload_n 2, 1) := z_o28 (z_wat (q := 160) (j := 10) zwX12_findRead_160 rfl)
theorem dX12_findRead_171 : decode cX12_findRead 171 = .ok (.iconst 1, 1) := z_o4 (z_wat (q := 160) (j := 11) zwX12_findRead_160 rfl)
theorem dX12_findRead_172 : decode cX12_findRead 172 = .ok (.iload 4, 2) := z_o21 (z_wat (q := 160) (j := 12) zwX12_findRead_160 rfl) (z_wat (q := 160) (j := 13) zwX12_findRead_160 rfl)
theorem dX12_findRead_174 : decode cX12_findRead 174 = .ok (.ishl, 1) := z_o120 (z_wat (q := 160) (j := 14) zwX12_findRead_160 rfl)
theorem dX12_findRead_175 : decode cX12_findRead 175 = .ok (.ior, 1) := z_o128 (z_wat (q := 160) (j := 15) zwX12_findRead_160 rfl)
theorem dX12_findRead_176 : decode cX12_findRead 176 = .ok (.istore_n 2, 1) := z_o61 (z_wat (q := 160) (j := 16) zwX12_findRead_160 rfl)
theorem dX12_findRead_177 : decode cX12_findRead 177 = .ok (.aload_n 0, 1) := z_o42 (z_wat (q := 160) (j := 17) zwX12_findRead_160 rfl)
theorem dX12_findRead_178 : decode cX12_findRead 178 = .ok (.iconst 1, 1) := z_o4 (z_wat (q := 160) (j := 18) zwX12_findRead_160 rfl)
theorem dX12_findRead_179 : decode cX12_findRead 179 = .ok (.invokevirtual 236, 3) := z_o182 (z_wat (q := 160) (j := 19) zwX12_findRead_160 rfl) (z_wat (q := 160) (j := 20) zwX12_findRead_160 rfl) (z_wat (q := 160) (j := 21) zwX12_findRead_160 rfl) rfl
theorem dX12_findRead_182 : decode cX12_findRead 182 = .ok (.aload_n 0, 1) := z_o42 (z_wat (q := 160) (j := 22) zwX12_findRead_160 rfl)
theorem dX12_findRead_183 : decode cX12_findRead 183 = .ok (.getfield 221, 3) := z_o180 (z_wat (q := 160) (j := 23) zwX12_findRead_160 rfl) (z_wat (q := 160) (j := 24) zwX12_findRead_160 rfl) (z_wat (q := 160) (j := 25) zwX12_findRead_160 rfl) rfl
theorem dX12_findRead_186 : decode cX12_findRead 186 = .ok (.iconst 3, 1) := z_o6 (z_wat (q := 160) (j := 26) zwX12_findRead_160 rfl)
theorem dX12_findRead_187 : decode cX12_findRead 187 = .ok (.if_icmp .eq 9, 3) := z_o159 (z_wat (q := 160) (j := 27) zwX12_findRead_160 rfl) (z_wat (q := 160) (j := 28) zwX12_findRead_160 rfl) (z_wat (q := 160) (j := 29) zwX12_findRead_160 rfl) rfl
theorem dX12_findRead_190 : decode cX12_findRead 190 = .ok (.aload_n 0, 1) := z_o42 (z_wat (q := 160) (j := 30) zwX12_findRead_160 rfl)
theorem dX12_findRead_191 : decode cX12_findRead 191 = .ok (.iconst 1, 1) := z_o4 (z_wat (q := 160) (j := 31) zwX12_findRead_160 rfl)
theorem zwX12_findRead_192 : ((cX12_findRead.data.toList.drop 192).take 34).map UInt8.toNat = [182, 0, 240, 172, 42, 180, 0, 214, 17, 3, 231, 164, 0, 9, 42, 5, 182, 0, 240, 172, 42, 180, 0, 29, 27, 21, 4, 96, 92, 46, 42, 180, 0, 214] := by decide +kernel
theorem dX12_findRead_192 : decode cX12_findRead 192 = .ok (.invokevirtual 240, 3) := z_o182 (z_wat (q := 192) (j := 0) zwX12_findRead_192 rfl) (z_wat (q := 192) (j := 1) zwX12_findRead_192 rfl) (z_wat (q := 192) (j := 2) zwX12_findRead_192 rfl) rfl
theorem dX12_findRead_195 : decode cX12_findRead 195 = .ok (.ireturn, 1) := z_o172 (z_wat (q := 192) (j := 3) zwX12_findRead_192 rfl)
theorem dX12_findRead_196 : decode cX12_findRead 196 = .ok (.aload_n 0, 1) := z_o42 (z_wat (q := 192) (j := 4) zwX12_findRead_192 rfl)
theorem dX12_findRead_197 : decode cX12_findRead 197 = .ok (.getfield 214, 3) := z_o180 (z_wat (q := 192) (j := 5) zwX12_findRead_192 rfl) (z_wat (q := 192) (j := 6) zwX12_findRead_192 rfl) (z_wat (q := 192) (j := 7) zwX12_findRead_192 rfl) rfl
theorem dX12_findRead_200 : decode cX12_findRead 200 = .ok (.sipush 999, 3) := z_o17 (z_wat (q := 192) (j := 8) zwX12_findRead_192 rfl) (z_wat (q := 192) (j := 9) zwX12_findRead_192 rfl) (z_wat (q := 192) (j := 10) zwX12_findRead_192 rfl) rfl
theorem dX12_findRead_203 : decode cX12_findRead 203 = .ok (.if_icmp .le 9, 3) := z_o164 (z_wat (q := 192) (j := 11) zwX12_findRead_192 rfl) (z_wat (q := 192) (j := 12) zwX12_findRead_192 rfl) (z_wat (q := 192) (j := 13) zwX12_findRead_192 rfl) rfl
theorem dX12_findRead_206 : decode cX12_findRead 206 = .ok (.aload_n 0, 1) := z_o42 (z_wat (q := 192) (j := 14) zwX12_findRead_192 rfl)
theorem dX12_findRead_207 : decode cX12_findRead 207 = .ok (.iconst 2, 1) := z_o5 (z_wat (q := 192) (j := 15) zwX12_findRead_192 rfl)
theorem dX12_findRead_208 : decode cX12_findRead 208 = .ok (.invokevirtual 240, 3) := z_o182 (z_wat (q := 192) (j := 16) zwX12_findRead_192 rfl) (z_wat (q := 192) (j := 17) zwX12_findRead_192 rfl) (z_wat (q := 192) (j := 18) zwX12_findRead_192 rfl) rfl
theorem dX12_findRead_211 : decode cX12_findRead 211 = .ok (.ireturn, 1) := z_o172 (z_wat (q := 192) (j := 19) zwX12_findRead_192 rfl)
theorem dX12_findRead_212 : decode cX12_findRead 212 = .ok (.aload_n 0, 1) := z_o42 (z_wat (q := 192) (j := 20) zwX12_findRead_192 rfl)
theorem dX12_findRead_213 : decode cX12_findRead 213 = .ok (.getfield 29, 3) := z_o180 (z_wat (q := 192) (j := 21) zwX12_findRead_192 rfl) (z_wat (q := 192) (j := 22) zwX12_findRead_192 rfl) (z_wat (q := 192) (j := 23) zwX12_findRead_192 rfl) rfl
theorem dX12_findRead_216 : decode cX12_findRead 216 = .ok (.iload_n 1, 1) := z_o27 (z_wat (q := 192) (j := 24) zwX12_findRead_192 rfl)
theorem dX12_findRead_217 : decode cX12_findRead 217 = .ok (.iload 4, 2) := z_o21 (z_wat (q := 192) (j := 25) zwX12_findRead_192 rfl) (z_wat (q := 192) (j := 26) zwX12_findRead_192 rfl)
theorem dX12_findRead_219 : decode cX12_findRead 219 = .ok (.iadd, 1) := z_o96 (z_wat (q := 192) (j := 27) zwX12_findRead_192 rfl)
theorem dX12_findRead_220 : decode cX12_findRead 220 = .ok (.dup2, 1) := z_o92 (z_wat (q := 192) (j := 28) zwX12_findRead_192 rfl)
theorem dX12_findRead_221 : decode cX12_findRead 221 = .ok (.iaload, 1) := z_o46 (z_wat (q := 192) (j := 29) zwX12_findRead_192 rfl)
theorem dX12_findRead_222 : decode cX12_findRead 222 = .ok (.aload_n 0, 1) := z_o42 (z_wat (q := 192) (j := 30) zwX12_findRead_192 rfl)
theorem dX12_findRead_223 : decode cX12_findRead 223 = .ok (.getfield 214, 3) := z_o180 (z_wat (q := 192) (j := 31) zwX12_findRead_192 rfl) (z_wat (q := 192) (j := 32) zwX12_findRead_192 rfl) (z_wat (q := 192) (j := 33) zwX12_findRead_192 rfl) rfl
theorem zwX12_findRead_224 : ((cX12_findRead.data.toList.drop 224).take 21).map UInt8.toNat = [0, 214, 96, 79, 42, 4, 182, 0, 236, 42, 16, 44, 182, 0, 243, 62, 167, 255, 133, 4, 172] := by decide +kernel
theorem dX12_findRead_226 : decode cX12_findRead 226 = .ok (.iadd, 1) := z_o96 (z_wat (q := 224) (j := 2) zwX12_findRead_224 rfl)
theorem dX12_findRead_227 : decode cX12_findRead 227 = .ok (.iastore, 1) := z_o79 (z_wat (q := 224) (j := 3) zwX12_findRead_224 rfl)
theorem dX12_findRead_228 : decode cX12_findRead 228 = .ok (.aload_n 0, 1) := z_o42 (z_wat (q := 224) (j := 4) zwX12_findRead_224 rfl)
theorem dX12_findRead_229 : decode cX12_findRead 229 = .ok (.iconst 1, 1) := z_o4 (z_wat (q := 224) (j := 5) zwX12_findRead_224 rfl)
theorem dX12_findRead_230 : decode cX12_findRead 230 = .ok (.invokevirtual 236, 3) := z_o182 (z_wat (q := 224) (j := 6) zwX12_findRead_224 rfl) (z_wat (q := 224) (j := 7) zwX12_findRead_224 rfl) (z_wat (q := 224) (j := 8) zwX12_findRead_224 rfl) rfl
theorem dX12_findRead_233 : decode cX12_findRead 233 = .ok (.aload_n 0, 1) := z_o42 (z_wat (q := 224) (j := 9) zwX12_findRead_224 rfl)
theorem dX12_findRead_234 : decode cX12_findRead 234 = .ok (.bipush 44, 2) := z_o16 (z_wat (q := 224) (j := 10) zwX12_findRead_224 rfl) (z_wat (q := 224) (j := 11) zwX12_findRead_224 rfl) rfl
theorem dX12_findRead_236 : decode cX12_findRead 236 = .ok (.invokevirtual 243, 3) := z_o182 (z_wat (q := 224) (j := 12) zwX12_findRead_224 rfl) (z_wat (q := 224) (j := 13) zwX12_findRead_224 rfl) (z_wat (q := 224) (j := 14) zwX12_findRead_224 rfl) rfl
theorem dX12_findRead_239 : decode cX12_findRead 239 = .ok (.istore_n 3, 1) := z_o62 (z_wat (q := 224) (j := 15) zwX12_findRead_224 rfl)
theorem dX12_findRead_240 : decode cX12_findRead 240 = .ok (.goto (-123), 3) := z_o167 (z_wat (q := 224) (j := 16) zwX12_findRead_224 rfl) (z_wat (q := 224) (j := 17) zwX12_findRead_224 rfl) (z_wat (q := 224) (j := 18) zwX12_findRead_224 rfl) rfl
theorem dX12_findRead_243 : decode cX12_findRead 243 = .ok (.iconst 1, 1) := z_o4 (z_wat (q := 224) (j := 19) zwX12_findRead_224 rfl)
theorem dX12_findRead_244 : decode cX12_findRead 244 = .ok (.ireturn, 1) := z_o172 (z_wat (q := 224) (j := 20) zwX12_findRead_224 rfl)
theorem zwX12_finds_0 : ((cX12_finds.data.toList.drop 0).take 34).map UInt8.toNat = [42, 3, 181, 0, 145, 27, 155, 0, 28, 27, 42, 180, 0, 148, 163, 0, 20, 42, 28, 182, 0, 157, 153, 0, 12, 42, 180, 0, 154, 16, 80, 160, 0, 6] := by decide +kernel
theorem dX12_finds_0 : decode cX12_finds 0 = .ok (.aload_n 0, 1) := z_o42 (z_wat (q := 0) (j := 0) zwX12_finds_0 rfl)
theorem dX12_finds_1 : decode cX12_finds 1 = .ok (.iconst 0, 1) := z_o3 (z_wat (q := 0) (j := 1) zwX12_finds_0 rfl)
theorem dX12_finds_2 : decode cX12_finds 2 = .ok (.putfield 145, 3) := z_o181 (z_wat (q := 0) (j := 2) zwX12_finds_0 rfl) (z_wat (q := 0) (j := 3) zwX12_finds_0 rfl) (z_wat (q := 0) (j := 4) zwX12_finds_0 rfl) rfl
theorem dX12_finds_5 : decode cX12_finds 5 = .ok (.iload_n 1, 1) := z_o27 (z_wat (q := 0) (j := 5) zwX12_finds_0 rfl)
theorem dX12_finds_6 : decode cX12_finds 6 = .ok (.ifCond .lt 28, 3) := z_o155 (z_wat (q := 0) (j := 6) zwX12_finds_0 rfl) (z_wat (q := 0) (j := 7) zwX12_finds_0 rfl) (z_wat (q := 0) (j := 8) zwX12_finds_0 rfl) rfl
theorem dX12_finds_9 : decode cX12_finds 9 = .ok (.iload_n 1, 1) := z_o27 (z_wat (q := 0) (j := 9) zwX12_finds_0 rfl)
theorem dX12_finds_10 : decode cX12_finds 10 = .ok (.aload_n 0, 1) := z_o42 (z_wat (q := 0) (j := 10) zwX12_finds_0 rfl)
theorem dX12_finds_11 : decode cX12_finds 11 = .ok (.getfield 148, 3) := z_o180 (z_wat (q := 0) (j := 11) zwX12_finds_0 rfl) (z_wat (q := 0) (j := 12) zwX12_finds_0 rfl) (z_wat (q := 0) (j := 13) zwX12_finds_0 rfl) rfl
theorem dX12_finds_14 : decode cX12_finds 14 = .ok (.if_icmp .gt 20, 3) := z_o163 (z_wat (q := 0) (j := 14) zwX12_finds_0 rfl) (z_wat (q := 0) (j := 15) zwX12_finds_0 rfl) (z_wat (q := 0) (j := 16) zwX12_finds_0 rfl) rfl
theorem dX12_finds_17 : decode cX12_finds 17 = .ok (.aload_n 0, 1) := z_o42 (z_wat (q := 0) (j := 17) zwX12_finds_0 rfl)
theorem dX12_finds_18 : decode cX12_finds 18 = .ok (.iload_n 2, 1) := z_o28 (z_wat (q := 0) (j := 18) zwX12_finds_0 rfl)
theorem dX12_finds_19 : decode cX12_finds 19 = .ok (.invokevirtual 157, 3) := z_o182 (z_wat (q := 0) (j := 19) zwX12_finds_0 rfl) (z_wat (q := 0) (j := 20) zwX12_finds_0 rfl) (z_wat (q := 0) (j := 21) zwX12_finds_0 rfl) rfl
theorem dX12_finds_22 : decode cX12_finds 22 = .ok (.ifCond .eq 12, 3) := z_o153 (z_wat (q := 0) (j := 22) zwX12_finds_0 rfl) (z_wat (q := 0) (j := 23) zwX12_finds_0 rfl) (z_wat (q := 0) (j := 24) zwX12_finds_0 rfl) rfl
theorem dX12_finds_25 : decode cX12_finds 25 = .ok (.aload_n 0, 1) := z_o42 (z_wat (q := 0) (j := 25) zwX12_finds_0 rfl)
theorem dX12_finds_26 : decode cX12_finds 26 = .ok (.getfield 154, 3) := z_o180 (z_wat (q := 0) (j := 26) zwX12_finds_0 rfl) (z_wat (q := 0) (j := 27) zwX12_finds_0 rfl) (z_wat (q := 0) (j := 28) zwX12_finds_0 rfl) rfl
theorem dX12_finds_29 : decode cX12_finds 29 = .ok (.bipush 80, 2) := z_o16 (z_wat (q := 0) (j := 29) zwX12_finds_0 rfl) (z_wat (q := 0) (j := 30) zwX12_finds_0 rfl) rfl
theorem dX12_finds_31 : decode cX12_finds 31 = .ok (.if_icmp .ne 6, 3) := z_o160 (z_wat (q := 0) (j := 31) zwX12_finds_0 rfl) (z_wat (q := 0) (j := 32) zwX12_finds_0 rfl) (z_wat (q := 0) (j := 33) zwX12_finds_0 rfl) rfl
theorem zwX12_finds_32 : ((cX12_finds.data.toList.drop 32).take 34).map UInt8.toNat = [0, 6, 16, 254, 172, 42, 27, 4, 182, 0, 250, 42, 182, 0, 254, 154, 0, 5, 2, 172, 42, 180, 0, 13, 42, 180, 0, 154, 7, 79, 42, 180, 0, 16] := by decide +kernel
theorem dX12_finds_34 : decode cX12_finds 34 = .ok (.bipush (-2), 2) := z_o16 (z_wat (q := 32) (j := 2) zwX12_finds_32 rfl) (z_wat (q := 32) (j := 3) zwX12_finds_32 rfl) rfl
theorem dX12_finds_36 : decode cX12_finds 36 = .ok (.ireturn, 1) := z_o172 (z_wat (q := 32) (j := 4) zwX12_finds_32 rfl)
theorem dX12_finds_37 : decode cX12_finds 37 = .ok (.aload_n 0, 1) := z_o42 (z_wat (q := 32) (j := 5) zwX12_finds_32 rfl)
theorem dX12_finds_38 : decode cX12_finds 38 = .ok (.iload_n 1, 1) := z_o27 (z_wat (q := 32) (j := 6) zwX12_finds_32 rfl)
theorem dX12_finds_39 : decode cX12_finds 39 = .ok (.iconst 1, 1) := z_o4 (z_wat (q := 32) (j := 7) zwX12_finds_32 rfl)
theorem dX12_finds_40 : decode cX12_finds 40 = .ok (.invokevirtual 250, 3) := z_o182 (z_wat (q := 32) (j := 8) zwX12_finds_32 rfl) (z_wat (q := 32) (j := 9) zwX12_finds_32 rfl) (z_wat (q := 32) (j := 10) zwX12_finds_32 rfl) rfl
theorem dX12_finds_43 : decode cX12_finds 43 = .ok (.aload_n 0, 1) := z_o42 (z_wat (q := 32) (j := 11) zwX12_finds_32 rfl)
theorem dX12_finds_44 : decode cX12_finds 44 = .ok (.invokevirtual 254, 3) := z_o182 (z_wat (q := 32) (j := 12) zwX12_finds_32 rfl) (z_wat (q := 32) (j := 13) zwX12_finds_32 rfl) (z_wat (q := 32) (j := 14) zwX12_finds_32 rfl) rfl
theorem dX12_finds_47 : decode cX12_finds 47 = .ok (.ifCond .ne 5, 3) := z_o154 (z_wat (q := 32) (j := 15) zwX12_finds_32 rfl) (z_wat (q := 32) (j := 16) zwX12_finds_32 rfl) (z_wat (q := 32) (j := 17) zwX12_finds_32 rfl) rfl
theorem dX12_finds_50 : decode cX12_finds 50 = .ok (.iconst (-1), 1) := z_o2 (z_wat (q := 32) (j := 18) zwX12_finds_32 rfl)
theorem dX12_finds_51 : decode cX12_finds 51 = .ok (.ireturn, 1) := z_o172 (z_wat (q := 32) (j := 19) zwX12_finds_32 rfl)
theorem dX12_finds_52 : decode cX12_finds 52 = .ok (.aload_n 0, 1) := z_o42 (z_wat (q := 32) (j := 20) zwX12_finds_32 rfl)
theorem dX12_finds_53 : decode cX12_finds 53 = .ok (.getfield 13, 3) := z_o180 (z_wat (q := 32) (j := 21) zwX12_finds_32 rfl) (z_wat (q := 32) (j := 22) zwX12_finds_32 rfl) (z_wat (q := 32) (j := 23) zwX12_finds_32 rfl) rfl
theorem dX12_finds_56 : decode cX12_finds 56 = .ok (.aload_n 0, 1) := z_o42 (z_wat (q := 32) (j := 24) zwX12_finds_32 rfl)
theorem dX12_finds_57 : decode cX12_finds 57 = .ok (.getfield 154, 3) := z_o180 (z_wat (q := 32) (j := 25) zwX12_finds_32 rfl) (z_wat (q := 32) (j := 26) zwX12_finds_32 rfl) (z_wat (q := 32) (j := 27) zwX12_finds_32 rfl) rfl
theorem dX12_finds_60 : decode cX12_finds 60 = .ok (.iconst 4, 1) := z_o7 (z_wat (q := 32) (j := 28) zwX12_finds_32 rfl)
theorem dX12_finds_61 : decode cX12_finds 61 = .ok (.iastore, 1) := z_o79 (z_wat (q := 32) (j := 29) zwX12_finds_32 rfl)
theorem dX12_finds_62 : decode cX12_finds 62 = .ok (.aload_n 0, 1) := z_o42 (z_wat (q := 32) (j := 30) zwX12_finds_32 rfl)
theorem dX12_finds_63 : decode cX12_finds 63 = .ok (.getfield 16, 3) := z_o180 (z_wat (q := 32) (j := 31) zwX12_finds_32 rfl) (z_wat (q := 32) (j := 32) zwX12_finds_32 rfl) (z_wat (q := 32) (j := 33) zwX12_finds_32 rfl) rfl
theorem zwX12_finds_64 : ((cX12_finds.data.toList.drop 64).take 25).map UInt8.toNat = [0, 16, 42, 180, 0, 154, 28, 79, 42, 89, 180, 0, 154, 4, 96, 181, 0, 154, 42, 180, 0, 154, 4, 100, 172] := by decide +kernel
theorem dX12_finds_66 : decode cX12_finds 66 = .ok (.aload_n 0, 1) := z_o42 (z_wat (q := 64) (j := 2) zwX12_finds_64 rfl)
theorem dX12_finds_67 : decode cX12_finds 67 = .ok (.getfield 154, 3) := z_o180 (z_wat (q := 64) (j := 3) zwX12_finds_64 rfl) (z_wat (q := 64) (j := 4) zwX12_finds_64 rfl) (z_wat (q := 64) (j := 5) zwX12_finds_64 rfl) rfl
theorem dX12_finds_70 : decode cX12_finds 70 = .ok (.iload_n 2, 1) := z_o28 (z_wat (q := 64) (j := 6) zwX12_finds_64 rfl)
theorem dX12_finds_71 : decode cX12_finds 71 = .ok (.iastore, 1) := z_o79 (z_wat (q := 64) (j := 7) zwX12_finds_64 rfl)
theorem dX12_finds_72 : decode cX12_finds 72 = .ok (.aload_n 0, 1) := z_o42 (z_wat (q := 64) (j := 8) zwX12_finds_64 rfl)
theorem dX12_finds_73 : decode cX12_finds 73 = .ok (.dup, 1) := z_o89 (z_wat (q := 64) (j := 9) zwX12_finds_64 rfl)
theorem dX12_finds_74 : decode cX12_finds 74 = .ok (.getfield 154, 3) := z_o180 (z_wat (q := 64) (j := 10) zwX12_finds_64 rfl) (z_wat (q := 64) (j := 11) zwX12_finds_64 rfl) (z_wat (q := 64) (j := 12) zwX12_finds_64 rfl) rfl
theorem dX12_finds_77 : decode cX12_finds 77 = .ok (.iconst 1, 1) := z_o4 (z_wat (q := 64) (j := 13) zwX12_finds_64 rfl)
theorem dX12_finds_78 : decode cX12_finds 78 = .ok (.iadd, 1) := z_o96 (z_wat (q := 64) (j := 14) zwX12_finds_64 rfl)
theorem dX12_finds_79 : decode cX12_finds 79 = .ok (.putfield 154, 3) := z_o181 (z_wat (q := 64) (j := 15) zwX12_finds_64 rfl) (z_wat (q := 64) (j := 16) zwX12_finds_64 rfl) (z_wat (q := 64) (j := 17) zwX12_finds_64 rfl) rfl
theorem dX12_finds_82 : decode cX12_finds 82 = .ok (.aload_n 0, 1) := z_o42 (z_wat (q := 64) (j := 18) zwX12_finds_64 rfl)
theorem dX12_finds_83 : decode cX12_finds 83 = .ok (.getfield 154, 3) := z_o180 (z_wat (q := 64) (j := 19) zwX12_finds_64 rfl) (z_wat (q := 64) (j := 20) zwX12_finds_64 rfl) (z_wat (q := 64) (j := 21) zwX12_finds_64 rfl) rfl
theorem dX12_finds_86 : decode cX12_finds 86 = .ok (.iconst 1, 1) := z_o4 (z_wat (q := 64) (j := 22) zwX12_finds_64 rfl)
theorem dX12_finds_87 : decode cX12_finds 87 = .ok (.isub, 1) := z_o100 (z_wat (q := 64) (j := 23) zwX12_finds_64 rfl)
theorem dX12_finds_88 : decode cX12_finds 88 = .ok (.ireturn, 1) := z_o172 (z_wat (q := 64) (j := 24) zwX12_finds_64 rfl)
theorem zwX12_findsRead_0 : ((cX12_findsRead.data.toList.drop 0).take 34).map UInt8.toNat = [3, 60, 27, 17, 0, 144, 162, 0, 25, 42, 180, 0, 29, 17, 0, 144, 42, 180, 0, 154, 104, 27, 96, 3, 79, 132, 1, 1, 167, 255, 230, 42, 182, 0] := by decide +kernel
theorem dX12_findsRead_0 : decode cX12_findsRead 0 = .ok (.iconst 0, 1) := z_o3 (z_wat (q := 0) (j := 0) zwX12_findsRead_0 rfl)
theorem dX12_findsRead_1 : decode cX12_findsRead 1 = .ok (.istore_n 1, 1) := z_o60 (z_wat (q := 0) (j := 1) zwX12_findsRead_0 rfl)
theorem dX12_findsRead_2 : decode cX12_findsRead 2 = .ok (.iload_n 1, 1) := z_o27 (z_wat (q := 0) (j := 2) zwX12_findsRead_0 rfl)
theorem dX12_findsRead_3 : decode cX12_findsRead 3 = .ok (.sipush 144, 3) := z_o17 (z_wat (q := 0) (j := 3) zwX12_findsRead_0 rfl) (z_wat (q := 0) (j := 4) zwX12_findsRead_0 rfl) (z_wat (q := 0) (j := 5) zwX12_findsRead_0 rfl) rfl
theorem dX12_findsRead_6 : decode cX12_findsRead 6 = .ok (.if_icmp .ge 25, 3) := z_o162 (z_wat (q := 0) (j := 6) zwX12_findsRead_0 rfl) (z_wat (q := 0) (j := 7) zwX12_findsRead_0 rfl) (z_wat (q := 0) (j := 8) zwX12_findsRead_0 rfl) rfl
theorem dX12_findsRead_9 : decode cX12_findsRead 9 = .ok (.aload_n 0, 1) := z_o42 (z_wat (q := 0) (j := 9) zwX12_findsRead_0 rfl)
theorem dX12_findsRead_10 : decode cX12_findsRead 10 = .ok (.getfield 29, 3) := z_o180 (z_wat (q := 0) (j := 10) zwX12_findsRead_0 rfl) (z_wat (q := 0) (j := 11) zwX12_findsRead_0 rfl) (z_wat (q := 0) (j := 12) zwX12_findsRead_0 rfl) rfl
theorem dX12_findsRead_13 : decode cX12_findsRead 13 = .ok (.sipush 144, 3) := z_o17 (z_wat (q := 0) (j := 13) zwX12_findsRead_0 rfl) (z_wat (q := 0) (j := 14) zwX12_findsRead_0 rfl) (z_wat (q := 0) (j := 15) zwX12_findsRead_0 rfl) rfl
theorem dX12_findsRead_16 : decode cX12_findsRead 16 = .ok (.aload_n 0, 1) := z_o42 (z_wat (q := 0) (j := 16) zwX12_findsRead_0 rfl)
theorem dX12_findsRead_17 : decode cX12_findsRead 17 = .ok (.getfield 154, 3) := z_o180 (z_wat (q := 0) (j := 17) zwX12_findsRead_0 rfl) (z_wat (q := 0) (j := 18) zwX12_findsRead_0 rfl) (z_wat (q := 0) (j := 19) zwX12_findsRead_0 rfl) rfl
theorem dX12_findsRead_20 : decode cX12_findsRead 20 = .ok (.imul, 1) := z_o104 (z_wat (q := 0) (j := 20) zwX12_findsRead_0 rfl)
theorem dX12_findsRead_21 : decode cX12_findsRead 21 = .ok (.iload_n 1, 1) := z_o27 (z_wat (q := 0) (j := 21) zwX12_findsRead_0 rfl)
theorem dX12_findsRead_22 : decode cX12_findsRead 22 = .ok (.iadd, 1) := z_o96 (z_wat (q := 0) (j := 22) zwX12_findsRead_0 rfl)
theorem dX12_findsRead_23 : decode cX12_findsRead 23 = .ok (.iconst 0, 1) := z_o3 (z_wat (q := 0) (j := 23) zwX12_findsRead_0 rfl)
theorem dX12_findsRead_24 : decode cX12_findsRead 24 = .ok (.iastore, 1) := z_o79 (z_wat (q := 0) (j := 24) zwX12_findsRead_0 rfl)
theorem dX12_findsRead_25 : decode cX12_findsRead 25 = .ok (.iinc 1 1, 3) := z_o132 (z_wat (q := 0) (j := 25) zwX12_findsRead_0 rfl) (z_wat (q := 0) (j := 26) zwX12_findsRead_0 rfl) (z_wat (q := 0) (j := 27) zwX12_findsRead_0 rfl) rfl
theorem dX12_findsRead_28 : decode cX12_findsRead 28 = .ok (.goto (-26), 3) := z_o167 (z_wat (q := 0) (j := 28) zwX12_findsRead_0 rfl) (z_wat (q := 0) (j := 29) zwX12_findsRead_0 rfl) (z_wat (q := 0) (j := 30) zwX12_findsRead_0 rfl) rfl
theorem dX12_findsRead_31 : decode cX12_findsRead 31 = .ok (.aload_n 0, 1) := z_o42 (z_wat (q := 0) (j := 31) zwX12_findsRead_0 rfl)
theorem zwX12_findsRead_32 : ((cX12_findsRead.data.toList.drop 32).take 34).map UInt8.toNat = [182, 0, 246, 154, 0, 5, 3, 172, 42, 180, 0, 221, 154, 0, 5, 4, 172, 42, 16, 59, 182, 0, 243, 154, 0, 9, 42, 4, 182, 0, 240, 172, 42, 4] := by decide +kernel
theorem dX12_findsRead_32 : decode cX12_findsRead 32 = .ok (.invokevirtual 246, 3) := z_o182 (z_wat (q := 32) (j := 0) zwX12_findsRead_32 rfl) (z_wat (q := 32) (j := 1) zwX12_findsRead_32 rfl) (z_wat (q := 32) (j := 2) zwX12_findsRead_32 rfl) rfl
theorem dX12_findsRead_35 : decode cX12_findsRead 35 = .ok (.ifCond .ne 5, 3) := z_o154 (z_wat (q := 32) (j := 3) zwX12_findsRead_32 rfl) (z_wat (q := 32) (j := 4) zwX12_findsRead_32 rfl) (z_wat (q := 32) (j := 5) zwX12_findsRead_32 rfl) rfl
theorem dX12_findsRead_38 : decode cX12_findsRead 38 = .ok (.iconst 0, 1) := z_o3 (z_wat (q := 32) (j := 6) zwX12_findsRead_32 rfl)
theorem dX12_findsRead_39 : decode cX12_findsRead 39 = .ok (.ireturn, 1) := z_o172 (z_wat (q := 32) (j := 7) zwX12_findsRead_32 rfl)
theorem dX12_findsRead_40 : decode cX12_findsRead 40 = .ok (.aload_n 0, 1) := z_o42 (z_wat (q := 32) (j := 8) zwX12_findsRead_32 rfl)
theorem dX12_findsRead_41 : decode cX12_findsRead 41 = .ok (.getfield 221, 3) := z_o180 (z_wat (q := 32) (j := 9) zwX12_findsRead_32 rfl) (z_wat (q := 32) (j := 10) zwX12_findsRead_32 rfl) (z_wat (q := 32) (j := 11) zwX12_findsRead_32 rfl) rfl
theorem dX12_findsRead_44 : decode cX12_findsRead 44 = .ok (.ifCond .ne 5, 3) := z_o154 (z_wat (q := 32) (j := 12) zwX12_findsRead_32 rfl) (z_wat (q := 32) (j := 13) zwX12_findsRead_32 rfl) (z_wat (q := 32) (j := 14) zwX12_findsRead_32 rfl) rfl
theorem dX12_findsRead_47 : decode cX12_findsRead 47 = .ok (.iconst 1, 1) := z_o4 (z_wat (q := 32) (j := 15) zwX12_findsRead_32 rfl)
theorem dX12_findsRead_48 : decode cX12_findsRead 48 = .ok (.ireturn, 1) := z_o172 (z_wat (q := 32) (j := 16) zwX12_findsRead_32 rfl)
theorem dX12_findsRead_49 : decode cX12_findsRead 49 = .ok (.aload_n 0, 1) := z_o42 (z_wat (q := 32) (j := 17) zwX12_findsRead_32 rfl)
theorem dX12_findsRead_50 : decode cX12_findsRead 50 = .ok (.bipush 59, 2) := z_o16 (z_wat (q := 32) (j := 18) zwX12_findsRead_32 rfl) (z_wat (q := 32) (j := 19) zwX12_findsRead_32 rfl) rfl
theorem dX12_findsRead_52 : decode cX12_findsRead 52 = .ok (.invokevirtual 243, 3) := z_o182 (z_wat (q := 32) (j := 20) zwX12_findsRead_32 rfl) (z_wat (q := 32) (j := 21) zwX12_findsRead_32 rfl) (z_wat (q := 32) (j := 22) zwX12_findsRead_32 rfl) rfl
theorem dX12_findsRead_55 : decode cX12_findsRead 55 = .ok (.ifCond .ne 9, 3) := z_o154 (z_wat (q := 32) (j := 23) zwX12_findsRead_32 rfl) (z_wat (q := 32) (j := 24) zwX12_findsRead_32 rfl) (z_wat (q := 32) (j := 25) zwX12_findsRead_32 rfl) rfl
theorem dX12_findsRead_58 : decode cX12_findsRead 58 = .ok (.aload_n 0, 1) := z_o42 (z_wat (q := 32) (j := 26) zwX12_findsRead_32 rfl)
theorem dX12_findsRead_59 : decode cX12_findsRead 59 = .ok (.iconst 1, 1) := z_o4 (z_wat (q := 32) (j := 27) zwX12_findsRead_32 rfl)
theorem dX12_findsRead_60 : decode cX12_findsRead 60 = .ok (.invokevirtual 240, 3) := z_o182 (z_wat (q := 32) (j := 28) zwX12_findsRead_32 rfl) (z_wat (q := 32) (j := 29) zwX12_findsRead_32 rfl) (z_wat (q := 32) (j := 30) zwX12_findsRead_32 rfl) rfl
theorem dX12_findsRead_63 : decode cX12_findsRead 63 = .ok (.ireturn, 1) := z_o172 (z_wat (q := 32) (j := 31) zwX12_findsRead_32 rfl)
theorem zwX12_findsRead_64 : ((cX12_findsRead.data.toList.drop 64).take 14).map UInt8.toNat = [42, 4, 182, 0, 236, 42, 180, 0, 221, 154, 255, 214, 4, 172] := by decide +kernel
theorem dX12_findsRead_64 : decode cX12_findsRead 64 = .ok (.aload_n 0, 1) := z_o42 (z_wat (q := 64) (j := 0) zwX12_findsRead_64 rfl)
theorem dX12_findsRead_65 : decode cX12_findsRead 65 = .ok (.iconst 1, 1) := z_o4 (z_wat (q := 64) (j := 1) zwX12_findsRead_64 rfl)
theorem dX12_findsRead_66 : decode cX12_findsRead 66 = .ok (.invokevirtual 236, 3) := z_o182 (z_wat (q := 64) (j := 2) zwX12_findsRead_64 rfl) (z_wat (q := 64) (j := 3) zwX12_findsRead_64 rfl) (z_wat (q := 64) (j := 4) zwX12_findsRead_64 rfl) rfl
theorem dX12_findsRead_69 : decode cX12_findsRead 69 = .ok (.aload_n 0, 1) := z_o42 (z_wat (q := 64) (j := 5) zwX12_findsRead_64 rfl)
theorem dX12_findsRead_70 : decode cX12_findsRead 70 = .ok (.getfield 221, 3) := z_o180 (z_wat (q := 64) (j := 6) zwX12_findsRead_64 rfl) (z_wat (q := 64) (j := 7) zwX12_findsRead_64 rfl) (z_wat (q := 64) (j := 8) zwX12_findsRead_64 rfl) rfl
theorem dX12_findsRead_73 : decode cX12_findsRead 73 = .ok (.ifCond .ne (-42), 3) := z_o154 (z_wat (q := 64) (j := 9) zwX12_findsRead_64 rfl) (z_wat (q := 64) (j := 10) zwX12_findsRead_64 rfl) (z_wat (q := 64) (j := 11) zwX12_findsRead_64 rfl) rfl
theorem dX12_findsRead_76 : decode cX12_findsRead 76 = .ok (.iconst 1, 1) := z_o4 (z_wat (q := 64) (j := 12) zwX12_findsRead_64 rfl)
theorem dX12_findsRead_77 : decode cX12_findsRead 77 = .ok (.ireturn, 1) := z_o172 (z_wat (q := 64) (j := 13) zwX12_findsRead_64 rfl)
theorem zwX12_isAt_0 : ((cX12_isAt.data.toList.drop 0).take 24).map UInt8.toNat = [27, 42, 180, 0, 204, 162, 0, 17, 42, 180, 0, 7, 27, 46, 28, 160, 0, 7, 4, 167, 0, 4, 3, 172] := by decide +kernel
theorem dX12_isAt_0 : decode cX12_isAt 0 = .ok (.iload_n 1, 1) := z_o27 (z_wat (q := 0) (j := 0) zwX12_isAt_0 rfl)
theorem dX12_isAt_1 : decode cX12_isAt 1 = .ok (.aload_n 0, 1) := z_o42 (z_wat (q := 0) (j := 1) zwX12_isAt_0 rfl)
theorem dX12_isAt_2 : decode cX12_isAt 2 = .ok (.getfield 204, 3) := z_o180 (z_wat (q := 0) (j := 2) zwX12_isAt_0 rfl) (z_wat (q := 0) (j := 3) zwX12_isAt_0 rfl) (z_wat (q := 0) (j := 4) zwX12_isAt_0 rfl) rfl
theorem dX12_isAt_5 : decode cX12_isAt 5 = .ok (.if_icmp .ge 17, 3) := z_o162 (z_wat (q := 0) (j := 5) zwX12_isAt_0 rfl) (z_wat (q := 0) (j := 6) zwX12_isAt_0 rfl) (z_wat (q := 0) (j := 7) zwX12_isAt_0 rfl) rfl
theorem dX12_isAt_8 : decode cX12_isAt 8 = .ok (.aload_n 0, 1) := z_o42 (z_wat (q := 0) (j := 8) zwX12_isAt_0 rfl)
theorem dX12_isAt_9 : decode cX12_isAt 9 = .ok (.getfield 7, 3) := z_o180 (z_wat (q := 0) (j := 9) zwX12_isAt_0 rfl) (z_wat (q := 0) (j := 10) zwX12_isAt_0 rfl) (z_wat (q := 0) (j := 11) zwX12_isAt_0 rfl) rfl
theorem dX12_isAt_12 : decode cX12_isAt 12 = .ok (.iload_n 1, 1) := z_o27 (z_wat (q := 0) (j := 12) zwX12_isAt_0 rfl)
theorem dX12_isAt_13 : decode cX12_isAt 13 = .ok (.iaload, 1) := z_o46 (z_wat (q := 0) (j := 13) zwX12_isAt_0 rfl)
theorem dX12_isAt_14 : decode cX12_isAt 14 = .ok (.iload_n 2, 1) := z_o28 (z_wat (q := 0) (j := 14) zwX12_isAt_0 rfl)
theorem dX12_isAt_15 : decode cX12_isAt 15 = .ok (.if_icmp .ne 7, 3) := z_o160 (z_wat (q := 0) (j := 15) zwX12_isAt_0 rfl) (z_wat (q := 0) (j := 16) zwX12_isAt_0 rfl) (z_wat (q := 0) (j := 17) zwX12_isAt_0 rfl) rfl
theorem dX12_isAt_18 : decode cX12_isAt 18 = .ok (.iconst 1, 1) := z_o4 (z_wat (q := 0) (j := 18) zwX12_isAt_0 rfl)
theorem dX12_isAt_19 : decode cX12_isAt 19 = .ok (.goto 4, 3) := z_o167 (z_wat (q := 0) (j := 19) zwX12_isAt_0 rfl) (z_wat (q := 0) (j := 20) zwX12_isAt_0 rfl) (z_wat (q := 0) (j := 21) zwX12_isAt_0 rfl) rfl
theorem dX12_isAt_22 : decode cX12_isAt 22 = .ok (.iconst 0, 1) := z_o3 (z_wat (q := 0) (j := 22) zwX12_isAt_0 rfl)
theorem dX12_isAt_23 : decode cX12_isAt 23 = .ok (.ireturn, 1) := z_o172 (z_wat (q := 0) (j := 23) zwX12_isAt_0 rfl)
theorem zwX12_isDigit_0 : ((cX12_isDigit.data.toList.drop 0).take 34).map UInt8.toNat = [27, 42, 180, 0, 204, 162, 0, 29, 42, 180, 0, 7, 27, 46, 16, 48, 161, 0, 18, 42, 180, 0, 7, 27, 46, 16, 57, 163, 0, 7, 4, 167, 0, 4] := by decide +kernel
theorem dX12_isDigit_0 : decode cX12_isDigit 0 = .ok (.iload_n 1, 1) := z_o27 (z_wat (q := 0) (j := 0) zwX12_isDigit_0 rfl)
theorem dX12_isDigit_1 : decode cX12_isDigit 1 = .ok (.aload_n 0, 1) := z_o42 (z_wat (q := 0) (j := 1) zwX12_isDigit_0 rfl)
theorem dX12_isDigit_2 : decode cX12_isDigit 2 = .ok (.getfield 204, 3) := z_o180 (z_wat (q := 0) (j := 2) zwX12_isDigit_0 rfl) (z_wat (q := 0) (j := 3) zwX12_isDigit_0 rfl) (z_wat (q := 0) (j := 4) zwX12_isDigit_0 rfl) rfl
theorem dX12_isDigit_5 : decode cX12_isDigit 5 = .ok (.if_icmp .ge 29, 3) := z_o162 (z_wat (q := 0) (j := 5) zwX12_isDigit_0 rfl) (z_wat (q := 0) (j := 6) zwX12_isDigit_0 rfl) (z_wat (q := 0) (j := 7) zwX12_isDigit_0 rfl) rfl
theorem dX12_isDigit_8 : decode cX12_isDigit 8 = .ok (.aload_n 0, 1) := z_o42 (z_wat (q := 0) (j := 8) zwX12_isDigit_0 rfl)
theorem dX12_isDigit_9 : decode cX12_isDigit 9 = .ok (.getfield 7, 3) := z_o180 (z_wat (q := 0) (j := 9) zwX12_isDigit_0 rfl) (z_wat (q := 0) (j := 10) zwX12_isDigit_0 rfl) (z_wat (q := 0) (j := 11) zwX12_isDigit_0 rfl) rfl
theorem dX12_isDigit_12 : decode cX12_isDigit 12 = .ok (.iload_n 1, 1) := z_o27 (z_wat (q := 0) (j := 12) zwX12_isDigit_0 rfl)
theorem dX12_isDigit_13 : decode cX12_isDigit 13 = .ok (.iaload, 1) := z_o46 (z_wat (q := 0) (j := 13) zwX12_isDigit_0 rfl)
theorem dX12_isDigit_14 : decode cX12_isDigit 14 = .ok (.bipush 48, 2) := z_o16 (z_wat (q := 0) (j := 14) zwX12_isDigit_0 rfl) (z_wat (q := 0) (j := 15) zwX12_isDigit_0 rfl) rfl
theorem dX12_isDigit_16 : decode cX12_isDigit 16 = .ok (.if_icmp .lt 18, 3) := z_o161 (z_wat (q := 0) (j := 16) zwX12_isDigit_0 rfl) (z_wat (q := 0) (j := 17) zwX12_isDigit_0 rfl) (z_wat (q := 0) (j := 18) zwX12_isDigit_0 rfl) rfl
theorem dX12_isDigit_19 : decode cX12_isDigit 19 = .ok (.aload_n 0, 1) := z_o42 (z_wat (q := 0) (j := 19) zwX12_isDigit_0 rfl)
theorem dX12_isDigit_20 : decode cX12_isDigit 20 = .ok (.getfield 7, 3) := z_o180 (z_wat (q := 0) (j := 20) zwX12_isDigit_0 rfl) (z_wat (q := 0) (j := 21) zwX12_isDigit_0 rfl) (z_wat (q := 0) (j := 22) zwX12_isDigit_0 rfl) rfl
theorem dX12_isDigit_23 : decode cX12_isDigit 23 = .ok (.iload_n 1, 1) := z_o27 (z_wat (q := 0) (j := 23) zwX12_isDigit_0 rfl)
theorem dX12_isDigit_24 : decode cX12_isDigit 24 = .ok (.iaload, 1) := z_o46 (z_wat (q := 0) (j := 24) zwX12_isDigit_0 rfl)
theorem dX12_isDigit_25 : decode cX12_isDigit 25 = .ok (.bipush 57, 2) := z_o16 (z_wat (q := 0) (j := 25) zwX12_isDigit_0 rfl) (z_wat (q := 0) (j := 26) zwX12_isDigit_0 rfl) rfl
theorem dX12_isDigit_27 : decode cX12_isDigit 27 = .ok (.if_icmp .gt 7, 3) := z_o163 (z_wat (q := 0) (j := 27) zwX12_isDigit_0 rfl) (z_wat (q := 0) (j := 28) zwX12_isDigit_0 rfl) (z_wat (q := 0) (j := 29) zwX12_isDigit_0 rfl) rfl
theorem dX12_isDigit_30 : decode cX12_isDigit 30 = .ok (.iconst 1, 1) := z_o4 (z_wat (q := 0) (j := 30) zwX12_isDigit_0 rfl)
theorem dX12_isDigit_31 : decode cX12_isDigit 31 = .ok (.goto 4, 3) := z_o167 (z_wat (q := 0) (j := 31) zwX12_isDigit_0 rfl) (z_wat (q := 0) (j := 32) zwX12_isDigit_0 rfl) (z_wat (q := 0) (j := 33) zwX12_isDigit_0 rfl) rfl
theorem zwX12_isDigit_32 : ((cX12_isDigit.data.toList.drop 32).take 4).map UInt8.toNat = [0, 4, 3, 172] := by decide +kernel
theorem dX12_isDigit_34 : decode cX12_isDigit 34 = .ok (.iconst 0, 1) := z_o3 (z_wat (q := 32) (j := 2) zwX12_isDigit_32 rfl)
theorem dX12_isDigit_35 : decode cX12_isDigit 35 = .ok (.ireturn, 1) := z_o172 (z_wat (q := 32) (j := 3) zwX12_isDigit_32 rfl)
theorem zwX12_isSign_0 : ((cX12_isSign.data.toList.drop 0).take 22).map UInt8.toNat = [42, 180, 0, 221, 7, 160, 0, 15, 42, 180, 0, 214, 27, 160, 0, 7, 4, 167, 0, 4, 3, 172] := by decide +kernel
theorem dX12_isSign_0 : decode cX12_isSign 0 = .ok (.aload_n 0, 1) := z_o42 (z_wat (q := 0) (j := 0) zwX12_isSign_0 rfl)
theorem dX12_isSign_1 : decode cX12_isSign 1 = .ok (.getfield 221, 3) := z_o180 (z_wat (q := 0) (j := 1) zwX12_isSign_0 rfl) (z_wat (q := 0) (j := 2) zwX12_isSign_0 rfl) (z_wat (q := 0) (j := 3) zwX12_isSign_0 rfl) rfl
theorem dX12_isSign_4 : decode cX12_isSign 4 = .ok (.iconst 4, 1) := z_o7 (z_wat (q := 0) (j := 4) zwX12_isSign_0 rfl)
theorem dX12_isSign_5 : decode cX12_isSign 5 = .ok (.if_icmp .ne 15, 3) := z_o160 (z_wat (q := 0) (j := 5) zwX12_isSign_0 rfl) (z_wat (q := 0) (j := 6) zwX12_isSign_0 rfl) (z_wat (q := 0) (j := 7) zwX12_isSign_0 rfl) rfl
theorem dX12_isSign_8 : decode cX12_isSign 8 = .ok (.aload_n 0, 1) := z_o42 (z_wat (q := 0) (j := 8) zwX12_isSign_0 rfl)
theorem dX12_isSign_9 : decode cX12_isSign 9 = .ok (.getfield 214, 3) := z_o180 (z_wat (q := 0) (j := 9) zwX12_isSign_0 rfl) (z_wat (q := 0) (j := 10) zwX12_isSign_0 rfl) (z_wat (q := 0) (j := 11) zwX12_isSign_0 rfl) rfl
theorem dX12_isSign_12 : decode cX12_isSign 12 = .ok (.iload_n 1, 1) := z_o27 (z_wat (q := 0) (j := 12) zwX12_isSign_0 rfl)
theorem dX12_isSign_13 : decode cX12_isSign 13 = .ok (.if_icmp .ne 7, 3) := z_o160 (z_wat (q := 0) (j := 13) zwX12_isSign_0 rfl) (z_wat (q := 0) (j := 14) zwX12_isSign_0 rfl) (z_wat (q := 0) (j := 15) zwX12_isSign_0 rfl) rfl
theorem dX12_isSign_16 : decode cX12_isSign 16 = .ok (.iconst 1, 1) := z_o4 (z_wat (q := 0) (j := 16) zwX12_isSign_0 rfl)
theorem dX12_isSign_17 : decode cX12_isSign 17 = .ok (.goto 4, 3) := z_o167 (z_wat (q := 0) (j := 17) zwX12_isSign_0 rfl) (z_wat (q := 0) (j := 18) zwX12_isSign_0 rfl) (z_wat (q := 0) (j := 19) zwX12_isSign_0 rfl) rfl
theorem dX12_isSign_20 : decode cX12_isSign 20 = .ok (.iconst 0, 1) := z_o3 (z_wat (q := 0) (j := 20) zwX12_isSign_0 rfl)
theorem dX12_isSign_21 : decode cX12_isSign 21 = .ok (.ireturn, 1) := z_o172 (z_wat (q := 0) (j := 21) zwX12_isSign_0 rfl)
theorem zwX12_isSmall_0 : ((cX12_isSmall.data.toList.drop 0).take 34).map UInt8.toNat = [27, 42, 180, 0, 204, 162, 0, 29, 42, 180, 0, 7, 27, 46, 16, 97, 161, 0, 18, 42, 180, 0, 7, 27, 46, 16, 122, 163, 0, 7, 4, 167, 0, 4] := by decide +kernel
theorem dX12_isSmall_0 : decode cX12_isSmall 0 = .ok (.iload_n 1, 1) := z_o27 (z_wat (q := 0) (j := 0) zwX12_isSmall_0 rfl)
theorem dX12_isSmall_1 : decode cX12_isSmall 1 = .ok (.aload_n 0, 1) := z_o42 (z_wat (q := 0) (j := 1) zwX12_isSmall_0 rfl)
theorem dX12_isSmall_2 : decode cX12_isSmall 2 = .ok (.getfield 204, 3) := z_o180 (z_wat (q := 0) (j := 2) zwX12_isSmall_0 rfl) (z_wat (q := 0) (j := 3) zwX12_isSmall_0 rfl) (z_wat (q := 0) (j := 4) zwX12_isSmall_0 rfl) rfl
theorem dX12_isSmall_5 : decode cX12_isSmall 5 = .ok (.if_icmp .ge 29, 3) := z_o162 (z_wat (q := 0) (j := 5) zwX12_isSmall_0 rfl) (z_wat (q := 0) (j := 6) zwX12_isSmall_0 rfl) (z_wat (q := 0) (j := 7) zwX12_isSmall_0 rfl) rfl
theorem dX12_isSmall_8 : decode cX12_isSmall 8 = .ok (.aload_n 0, 1) := z_o42 (z_wat (q := 0) (j := 8) zwX12_isSmall_0 rfl)
theorem dX12_isSmall_9 : decode cX12_isSmall 9 = .ok (.getfield 7, 3) := z_o180 (z_wat (q := 0) (j := 9) zwX12_isSmall_0 rfl) (z_wat (q := 0) (j := 10) zwX12_isSmall_0 rfl) (z_wat (q := 0) (j := 11) zwX12_isSmall_0 rfl) rfl
theorem dX12_isSmall_12 : decode cX12_isSmall 12 = .ok (.iload_n 1, 1) := z_o27 (z_wat (q := 0) (j := 12) zwX12_isSmall_0 rfl)
theorem dX12_isSmall_13 : decode cX12_isSmall 13 = .ok (.iaload, 1) := z_o46 (z_wat (q := 0) (j := 13) zwX12_isSmall_0 rfl)
theorem dX12_isSmall_14 : decode cX12_isSmall 14 = .ok (.bipush 97, 2) := z_o16 (z_wat (q := 0) (j := 14) zwX12_isSmall_0 rfl) (z_wat (q := 0) (j := 15) zwX12_isSmall_0 rfl) rfl
theorem dX12_isSmall_16 : decode cX12_isSmall 16 = .ok (.if_icmp .lt 18, 3) := z_o161 (z_wat (q := 0) (j := 16) zwX12_isSmall_0 rfl) (z_wat (q := 0) (j := 17) zwX12_isSmall_0 rfl) (z_wat (q := 0) (j := 18) zwX12_isSmall_0 rfl) rfl
theorem dX12_isSmall_19 : decode cX12_isSmall 19 = .ok (.aload_n 0, 1) := z_o42 (z_wat (q := 0) (j := 19) zwX12_isSmall_0 rfl)
theorem dX12_isSmall_20 : decode cX12_isSmall 20 = .ok (.getfield 7, 3) := z_o180 (z_wat (q := 0) (j := 20) zwX12_isSmall_0 rfl) (z_wat (q := 0) (j := 21) zwX12_isSmall_0 rfl) (z_wat (q := 0) (j := 22) zwX12_isSmall_0 rfl) rfl
theorem dX12_isSmall_23 : decode cX12_isSmall 23 = .ok (.iload_n 1, 1) := z_o27 (z_wat (q := 0) (j := 23) zwX12_isSmall_0 rfl)
theorem dX12_isSmall_24 : decode cX12_isSmall 24 = .ok (.iaload, 1) := z_o46 (z_wat (q := 0) (j := 24) zwX12_isSmall_0 rfl)
theorem dX12_isSmall_25 : decode cX12_isSmall 25 = .ok (.bipush 122, 2) := z_o16 (z_wat (q := 0) (j := 25) zwX12_isSmall_0 rfl) (z_wat (q := 0) (j := 26) zwX12_isSmall_0 rfl) rfl
theorem dX12_isSmall_27 : decode cX12_isSmall 27 = .ok (.if_icmp .gt 7, 3) := z_o163 (z_wat (q := 0) (j := 27) zwX12_isSmall_0 rfl) (z_wat (q := 0) (j := 28) zwX12_isSmall_0 rfl) (z_wat (q := 0) (j := 29) zwX12_isSmall_0 rfl) rfl
theorem dX12_isSmall_30 : decode cX12_isSmall 30 = .ok (.iconst 1, 1) := z_o4 (z_wat (q := 0) (j := 30) zwX12_isSmall_0 rfl)
theorem dX12_isSmall_31 : decode cX12_isSmall 31 = .ok (.goto 4, 3) := z_o167 (z_wat (q := 0) (j := 31) zwX12_isSmall_0 rfl) (z_wat (q := 0) (j := 32) zwX12_isSmall_0 rfl) (z_wat (q := 0) (j := 33) zwX12_isSmall_0 rfl) rfl
theorem zwX12_isSmall_32 : ((cX12_isSmall.data.toList.drop 32).take 4).map UInt8.toNat = [0, 4, 3, 172] := by decide +kernel
theorem dX12_isSmall_34 : decode cX12_isSmall 34 = .ok (.iconst 0, 1) := z_o3 (z_wat (q := 32) (j := 2) zwX12_isSmall_32 rfl)
theorem dX12_isSmall_35 : decode cX12_isSmall 35 = .ok (.ireturn, 1) := z_o172 (z_wat (q := 32) (j := 3) zwX12_isSmall_32 rfl)
theorem zwX12_signOf_0 : ((cX12_signOf.data.toList.drop 0).take 34).map UInt8.toNat = [27, 16, 60, 160, 0, 39, 42, 42, 180, 0, 207, 16, 61, 182, 0, 210, 153, 0, 7, 5, 167, 0, 21, 42, 42, 180, 0, 207, 16, 62, 182, 0, 210, 153] := by decide +kernel
theorem dX12_signOf_0 : decode cX12_signOf 0 = .ok (.iload_n 1, 1) := z_o27 (z_wat (q := 0) (j := 0) zwX12_signOf_0 rfl)
theorem dX12_signOf_1 : decode cX12_signOf 1 = .ok (.bipush 60, 2) := z_o16 (z_wat (q := 0) (j := 1) zwX12_signOf_0 rfl) (z_wat (q := 0) (j := 2) zwX12_signOf_0 rfl) rfl
theorem dX12_signOf_3 : decode cX12_signOf 3 = .ok (.if_icmp .ne 39, 3) := z_o160 (z_wat (q := 0) (j := 3) zwX12_signOf_0 rfl) (z_wat (q := 0) (j := 4) zwX12_signOf_0 rfl) (z_wat (q := 0) (j := 5) zwX12_signOf_0 rfl) rfl
theorem dX12_signOf_6 : decode cX12_signOf 6 = .ok (.aload_n 0, 1) := z_o42 (z_wat (q := 0) (j := 6) zwX12_signOf_0 rfl)
theorem dX12_signOf_7 : decode cX12_signOf 7 = .ok (.aload_n 0, 1) := z_o42 (z_wat (q := 0) (j := 7) zwX12_signOf_0 rfl)
theorem dX12_signOf_8 : decode cX12_signOf 8 = .ok (.getfield 207, 3) := z_o180 (z_wat (q := 0) (j := 8) zwX12_signOf_0 rfl) (z_wat (q := 0) (j := 9) zwX12_signOf_0 rfl) (z_wat (q := 0) (j := 10) zwX12_signOf_0 rfl) rfl
theorem dX12_signOf_11 : decode cX12_signOf 11 = .ok (.bipush 61, 2) := z_o16 (z_wat (q := 0) (j := 11) zwX12_signOf_0 rfl) (z_wat (q := 0) (j := 12) zwX12_signOf_0 rfl) rfl
theorem dX12_signOf_13 : decode cX12_signOf 13 = .ok (.invokevirtual 210, 3) := z_o182 (z_wat (q := 0) (j := 13) zwX12_signOf_0 rfl) (z_wat (q := 0) (j := 14) zwX12_signOf_0 rfl) (z_wat (q := 0) (j := 15) zwX12_signOf_0 rfl) rfl
theorem dX12_signOf_16 : decode cX12_signOf 16 = .ok (.ifCond .eq 7, 3) := z_o153 (z_wat (q := 0) (j := 16) zwX12_signOf_0 rfl) (z_wat (q := 0) (j := 17) zwX12_signOf_0 rfl) (z_wat (q := 0) (j := 18) zwX12_signOf_0 rfl) rfl
theorem dX12_signOf_19 : decode cX12_signOf 19 = .ok (.iconst 2, 1) := z_o5 (z_wat (q := 0) (j := 19) zwX12_signOf_0 rfl)
theorem dX12_signOf_20 : decode cX12_signOf 20 = .ok (.goto 21, 3) := z_o167 (z_wat (q := 0) (j := 20) zwX12_signOf_0 rfl) (z_wat (q := 0) (j := 21) zwX12_signOf_0 rfl) (z_wat (q := 0) (j := 22) zwX12_signOf_0 rfl) rfl
theorem dX12_signOf_23 : decode cX12_signOf 23 = .ok (.aload_n 0, 1) := z_o42 (z_wat (q := 0) (j := 23) zwX12_signOf_0 rfl)
theorem dX12_signOf_24 : decode cX12_signOf 24 = .ok (.aload_n 0, 1) := z_o42 (z_wat (q := 0) (j := 24) zwX12_signOf_0 rfl)
theorem dX12_signOf_25 : decode cX12_signOf 25 = .ok (.getfield 207, 3) := z_o180 (z_wat (q := 0) (j := 25) zwX12_signOf_0 rfl) (z_wat (q := 0) (j := 26) zwX12_signOf_0 rfl) (z_wat (q := 0) (j := 27) zwX12_signOf_0 rfl) rfl
theorem dX12_signOf_28 : decode cX12_signOf 28 = .ok (.bipush 62, 2) := z_o16 (z_wat (q := 0) (j := 28) zwX12_signOf_0 rfl) (z_wat (q := 0) (j := 29) zwX12_signOf_0 rfl) rfl
theorem dX12_signOf_30 : decode cX12_signOf 30 = .ok (.invokevirtual 210, 3) := z_o182 (z_wat (q := 0) (j := 30) zwX12_signOf_0 rfl) (z_wat (q := 0) (j := 31) zwX12_signOf_0 rfl) (z_wat (q := 0) (j := 32) zwX12_signOf_0 rfl) rfl
theorem zwX12_signOf_32 : ((cX12_signOf.data.toList.drop 32).take 34).map UInt8.toNat = [210, 153, 0, 7, 7, 167, 0, 4, 4, 172, 27, 16, 62, 160, 0, 23, 42, 42, 180, 0, 207, 16, 61, 182, 0, 210, 153, 0, 7, 8, 167, 0, 5, 16] := by decide +kernel
theorem dX12_signOf_33 : decode cX12_signOf 33 = .ok (.ifCond .eq 7, 3) := z_o153 (z_wat (q := 32) (j := 1) zwX12_signOf_32 rfl) (z_wat (q := 32) (j := 2) zwX12_signOf_32 rfl) (z_wat (q := 32) (j := 3) zwX12_signOf_32 rfl) rfl
theorem dX12_signOf_36 : decode cX12_signOf 36 = .ok (.iconst 4, 1) := z_o7 (z_wat (q := 32) (j := 4) zwX12_signOf_32 rfl)
theorem dX12_signOf_37 : decode cX12_signOf 37 = .ok (.goto 4, 3) := z_o167 (z_wat (q := 32) (j := 5) zwX12_signOf_32 rfl) (z_wat (q := 32) (j := 6) zwX12_signOf_32 rfl) (z_wat (q := 32) (j := 7) zwX12_signOf_32 rfl) rfl
theorem dX12_signOf_40 : decode cX12_signOf 40 = .ok (.iconst 1, 1) := z_o4 (z_wat (q := 32) (j := 8) zwX12_signOf_32 rfl)
theorem dX12_signOf_41 : decode cX12_signOf 41 = .ok (.ireturn, 1) := z_o172 (z_wat (q := 32) (j := 9) zwX12_signOf_32 rfl)
theorem dX12_signOf_42 : decode cX12_signOf 42 = .ok (.iload_n 1, 1) := z_o27 (z_wat (q := 32) (j := 10) zwX12_signOf_32 rfl)
theorem dX12_signOf_43 : decode cX12_signOf 43 = .ok (.bipush 62, 2) := z_o16 (z_wat (q := 32) (j := 11) zwX12_signOf_32 rfl) (z_wat (q := 32) (j := 12) zwX12_signOf_32 rfl) rfl
theorem dX12_signOf_45 : decode cX12_signOf 45 = .ok (.if_icmp .ne 23, 3) := z_o160 (z_wat (q := 32) (j := 13) zwX12_signOf_32 rfl) (z_wat (q := 32) (j := 14) zwX12_signOf_32 rfl) (z_wat (q := 32) (j := 15) zwX12_signOf_32 rfl) rfl
theorem dX12_signOf_48 : decode cX12_signOf 48 = .ok (.aload_n 0, 1) := z_o42 (z_wat (q := 32) (j := 16) zwX12_signOf_32 rfl)
theorem dX12_signOf_49 : decode cX12_signOf 49 = .ok (.aload_n 0, 1) := z_o42 (z_wat (q := 32) (j := 17) zwX12_signOf_32 rfl)
theorem dX12_signOf_50 : decode cX12_signOf 50 = .ok (.getfield 207, 3) := z_o180 (z_wat (q := 32) (j := 18) zwX12_signOf_32 rfl) (z_wat (q := 32) (j := 19) zwX12_signOf_32 rfl) (z_wat (q := 32) (j := 20) zwX12_signOf_32 rfl) rfl
theorem dX12_signOf_53 : decode cX12_signOf 53 = .ok (.bipush 61, 2) := z_o16 (z_wat (q := 32) (j := 21) zwX12_signOf_32 rfl) (z_wat (q := 32) (j := 22) zwX12_signOf_32 rfl) rfl
theorem dX12_signOf_55 : decode cX12_signOf 55 = .ok (.invokevirtual 210, 3) := z_o182 (z_wat (q := 32) (j := 23) zwX12_signOf_32 rfl) (z_wat (q := 32) (j := 24) zwX12_signOf_32 rfl) (z_wat (q := 32) (j := 25) zwX12_signOf_32 rfl) rfl
theorem dX12_signOf_58 : decode cX12_signOf 58 = .ok (.ifCond .eq 7, 3) := z_o153 (z_wat (q := 32) (j := 26) zwX12_signOf_32 rfl) (z_wat (q := 32) (j := 27) zwX12_signOf_32 rfl) (z_wat (q := 32) (j := 28) zwX12_signOf_32 rfl) rfl
theorem dX12_signOf_61 : decode cX12_signOf 61 = .ok (.iconst 5, 1) := z_o8 (z_wat (q := 32) (j := 29) zwX12_signOf_32 rfl)
theorem dX12_signOf_62 : decode cX12_signOf 62 = .ok (.goto 5, 3) := z_o167 (z_wat (q := 32) (j := 30) zwX12_signOf_32 rfl) (z_wat (q := 32) (j := 31) zwX12_signOf_32 rfl) (z_wat (q := 32) (j := 32) zwX12_signOf_32 rfl) rfl
theorem zwX12_signOf_64 : ((cX12_signOf.data.toList.drop 64).take 34).map UInt8.toNat = [5, 16, 6, 172, 27, 16, 61, 160, 0, 7, 6, 167, 0, 62, 27, 16, 58, 159, 0, 51, 27, 16, 59, 159, 0, 45, 27, 16, 44, 159, 0, 39, 27, 16] := by decide +kernel
theorem dX12_signOf_65 : decode cX12_signOf 65 = .ok (.bipush 6, 2) := z_o16 (z_wat (q := 64) (j := 1) zwX12_signOf_64 rfl) (z_wat (q := 64) (j := 2) zwX12_signOf_64 rfl) rfl
theorem dX12_signOf_67 : decode cX12_signOf 67 = .ok (.ireturn, 1) := z_o172 (z_wat (q := 64) (j := 3) zwX12_signOf_64 rfl)
theorem dX12_signOf_68 : decode cX12_signOf 68 = .ok (.iload_n 1, 1) := z_o27 (z_wat (q := 64) (j := 4) zwX12_signOf_64 rfl)
theorem dX12_signOf_69 : decode cX12_signOf 69 = .ok (.bipush 61, 2) := z_o16 (z_wat (q := 64) (j := 5) zwX12_signOf_64 rfl) (z_wat (q := 64) (j := 6) zwX12_signOf_64 rfl) rfl
theorem dX12_signOf_71 : decode cX12_signOf 71 = .ok (.if_icmp .ne 7, 3) := z_o160 (z_wat (q := 64) (j := 7) zwX12_signOf_64 rfl) (z_wat (q := 64) (j := 8) zwX12_signOf_64 rfl) (z_wat (q := 64) (j := 9) zwX12_signOf_64 rfl) rfl
theorem dX12_signOf_74 : decode cX12_signOf 74 = .ok (.iconst 3, 1) := z_o6 (z_wat (q := 64) (j := 10) zwX12_signOf_64 rfl)
theorem dX12_signOf_75 : decode cX12_signOf 75 = .ok (.goto 62, 3) := z_o167 (z_wat (q := 64) (j := 11) zwX12_signOf_64 rfl) (z_wat (q := 64) (j := 12) zwX12_signOf_64 rfl) (z_wat (q := 64) (j := 13) zwX12_signOf_64 rfl) rfl
theorem dX12_signOf_78 : decode cX12_signOf 78 = .ok (.iload_n 1, 1) := z_o27 (z_wat (q := 64) (j := 14) zwX12_signOf_64 rfl)
theorem dX12_signOf_79 : decode cX12_signOf 79 = .ok (.bipush 58, 2) := z_o16 (z_wat (q := 64) (j := 15) zwX12_signOf_64 rfl) (z_wat (q := 64) (j := 16) zwX12_signOf_64 rfl) rfl
theorem dX12_signOf_81 : decode cX12_signOf 81 = .ok (.if_icmp .eq 51, 3) := z_o159 (z_wat (q := 64) (j := 17) zwX12_signOf_64 rfl) (z_wat (q := 64) (j := 18) zwX12_signOf_64 rfl) (z_wat (q := 64) (j := 19) zwX12_signOf_64 rfl) rfl
theorem dX12_signOf_84 : decode cX12_signOf 84 = .ok (.iload_n 1, 1) := z_o27 (z_wat (q := 64) (j := 20) zwX12_signOf_64 rfl)
theorem dX12_signOf_85 : decode cX12_signOf 85 = .ok (.bipush 59, 2) := z_o16 (z_wat (q := 64) (j := 21) zwX12_signOf_64 rfl) (z_wat (q := 64) (j := 22) zwX12_signOf_64 rfl) rfl
theorem dX12_signOf_87 : decode cX12_signOf 87 = .ok (.if_icmp .eq 45, 3) := z_o159 (z_wat (q := 64) (j := 23) zwX12_signOf_64 rfl) (z_wat (q := 64) (j := 24) zwX12_signOf_64 rfl) (z_wat (q := 64) (j := 25) zwX12_signOf_64 rfl) rfl
theorem dX12_signOf_90 : decode cX12_signOf 90 = .ok (.iload_n 1, 1) := z_o27 (z_wat (q := 64) (j := 26) zwX12_signOf_64 rfl)
theorem dX12_signOf_91 : decode cX12_signOf 91 = .ok (.bipush 44, 2) := z_o16 (z_wat (q := 64) (j := 27) zwX12_signOf_64 rfl) (z_wat (q := 64) (j := 28) zwX12_signOf_64 rfl) rfl
theorem dX12_signOf_93 : decode cX12_signOf 93 = .ok (.if_icmp .eq 39, 3) := z_o159 (z_wat (q := 64) (j := 29) zwX12_signOf_64 rfl) (z_wat (q := 64) (j := 30) zwX12_signOf_64 rfl) (z_wat (q := 64) (j := 31) zwX12_signOf_64 rfl) rfl
theorem zwX12_signOf_96 : ((cX12_signOf.data.toList.drop 96).take 34).map UInt8.toNat = [27, 16, 40, 159, 0, 33, 27, 16, 41, 159, 0, 27, 27, 16, 43, 159, 0, 21, 27, 16, 45, 159, 0, 15, 27, 16, 42, 159, 0, 9, 27, 16, 47, 160] := by decide +kernel
theorem dX12_signOf_96 : decode cX12_signOf 96 = .ok (.iload_n 1, 1) := z_o27 (z_wat (q := 96) (j := 0) zwX12_signOf_96 rfl)
theorem dX12_signOf_97 : decode cX12_signOf 97 = .ok (.bipush 40, 2) := z_o16 (z_wat (q := 96) (j := 1) zwX12_signOf_96 rfl) (z_wat (q := 96) (j := 2) zwX12_signOf_96 rfl) rfl
theorem dX12_signOf_99 : decode cX12_signOf 99 = .ok (.if_icmp .eq 33, 3) := z_o159 (z_wat (q := 96) (j := 3) zwX12_signOf_96 rfl) (z_wat (q := 96) (j := 4) zwX12_signOf_96 rfl) (z_wat (q := 96) (j := 5) zwX12_signOf_96 rfl) rfl
theorem dX12_signOf_102 : decode cX12_signOf 102 = .ok (.iload_n 1, 1) := z_o27 (z_wat (q := 96) (j := 6) zwX12_signOf_96 rfl)
theorem dX12_signOf_103 : decode cX12_signOf 103 = .ok (.bipush 41, 2) := z_o16 (z_wat (q := 96) (j := 7) zwX12_signOf_96 rfl) (z_wat (q := 96) (j := 8) zwX12_signOf_96 rfl) rfl
theorem dX12_signOf_105 : decode cX12_signOf 105 = .ok (.if_icmp .eq 27, 3) := z_o159 (z_wat (q := 96) (j := 9) zwX12_signOf_96 rfl) (z_wat (q := 96) (j := 10) zwX12_signOf_96 rfl) (z_wat (q := 96) (j := 11) zwX12_signOf_96 rfl) rfl
theorem dX12_signOf_108 : decode cX12_signOf 108 = .ok (.iload_n 1, 1) := z_o27 (z_wat (q := 96) (j := 12) zwX12_signOf_96 rfl)
theorem dX12_signOf_109 : decode cX12_signOf 109 = .ok (.bipush 43, 2) := z_o16 (z_wat (q := 96) (j := 13) zwX12_signOf_96 rfl) (z_wat (q := 96) (j := 14) zwX12_signOf_96 rfl) rfl
theorem dX12_signOf_111 : decode cX12_signOf 111 = .ok (.if_icmp .eq 21, 3) := z_o159 (z_wat (q := 96) (j := 15) zwX12_signOf_96 rfl) (z_wat (q := 96) (j := 16) zwX12_signOf_96 rfl) (z_wat (q := 96) (j := 17) zwX12_signOf_96 rfl) rfl
theorem dX12_signOf_114 : decode cX12_signOf 114 = .ok (.iload_n 1, 1) := z_o27 (z_wat (q := 96) (j := 18) zwX12_signOf_96 rfl)
theorem dX12_signOf_115 : decode cX12_signOf 115 = .ok (.bipush 45, 2) := z_o16 (z_wat (q := 96) (j := 19) zwX12_signOf_96 rfl) (z_wat (q := 96) (j := 20) zwX12_signOf_96 rfl) rfl
theorem dX12_signOf_117 : decode cX12_signOf 117 = .ok (.if_icmp .eq 15, 3) := z_o159 (z_wat (q := 96) (j := 21) zwX12_signOf_96 rfl) (z_wat (q := 96) (j := 22) zwX12_signOf_96 rfl) (z_wat (q := 96) (j := 23) zwX12_signOf_96 rfl) rfl
theorem dX12_signOf_120 : decode cX12_signOf 120 = .ok (.iload_n 1, 1) := z_o27 (z_wat (q := 96) (j := 24) zwX12_signOf_96 rfl)
theorem dX12_signOf_121 : decode cX12_signOf 121 = .ok (.bipush 42, 2) := z_o16 (z_wat (q := 96) (j := 25) zwX12_signOf_96 rfl) (z_wat (q := 96) (j := 26) zwX12_signOf_96 rfl) rfl
theorem dX12_signOf_123 : decode cX12_signOf 123 = .ok (.if_icmp .eq 9, 3) := z_o159 (z_wat (q := 96) (j := 27) zwX12_signOf_96 rfl) (z_wat (q := 96) (j := 28) zwX12_signOf_96 rfl) (z_wat (q := 96) (j := 29) zwX12_signOf_96 rfl) rfl
theorem dX12_signOf_126 : decode cX12_signOf 126 = .ok (.iload_n 1, 1) := z_o27 (z_wat (q := 96) (j := 30) zwX12_signOf_96 rfl)
theorem dX12_signOf_127 : decode cX12_signOf 127 = .ok (.bipush 47, 2) := z_o16 (z_wat (q := 96) (j := 31) zwX12_signOf_96 rfl) (z_wat (q := 96) (j := 32) zwX12_signOf_96 rfl) rfl
theorem zwX12_signOf_128 : ((cX12_signOf.data.toList.drop 128).take 10).map UInt8.toNat = [47, 160, 0, 7, 27, 167, 0, 4, 2, 172] := by decide +kernel
theorem dX12_signOf_129 : decode cX12_signOf 129 = .ok (.if_icmp .ne 7, 3) := z_o160 (z_wat (q := 128) (j := 1) zwX12_signOf_128 rfl) (z_wat (q := 128) (j := 2) zwX12_signOf_128 rfl) (z_wat (q := 128) (j := 3) zwX12_signOf_128 rfl) rfl
theorem dX12_signOf_132 : decode cX12_signOf 132 = .ok (.iload_n 1, 1) := z_o27 (z_wat (q := 128) (j := 4) zwX12_signOf_128 rfl)
theorem dX12_signOf_133 : decode cX12_signOf 133 = .ok (.goto 4, 3) := z_o167 (z_wat (q := 128) (j := 5) zwX12_signOf_128 rfl) (z_wat (q := 128) (j := 6) zwX12_signOf_128 rfl) (z_wat (q := 128) (j := 7) zwX12_signOf_128 rfl) rfl
theorem dX12_signOf_136 : decode cX12_signOf 136 = .ok (.iconst (-1), 1) := z_o2 (z_wat (q := 128) (j := 8) zwX12_signOf_128 rfl)
theorem dX12_signOf_137 : decode cX12_signOf 137 = .ok (.ireturn, 1) := z_o172 (z_wat (q := 128) (j := 9) zwX12_signOf_128 rfl)
theorem zwX12_take_0 : ((cX12_take.data.toList.drop 0).take 34).map UInt8.toNat = [42, 180, 0, 207, 42, 180, 0, 204, 162, 0, 44, 42, 180, 0, 7, 42, 180, 0, 207, 46, 16, 10, 159, 0, 17, 42, 180, 0, 7, 42, 180, 0, 207, 46] := by decide +kernel
theorem dX12_take_0 : decode cX12_take 0 = .ok (.aload_n 0, 1) := z_o42 (z_wat (q := 0) (j := 0) zwX12_take_0 rfl)
theorem dX12_take_1 : decode cX12_take 1 = .ok (.getfield 207, 3) := z_o180 (z_wat (q := 0) (j := 1) zwX12_take_0 rfl) (z_wat (q := 0) (j := 2) zwX12_take_0 rfl) (z_wat (q := 0) (j := 3) zwX12_take_0 rfl) rfl
theorem dX12_take_4 : decode cX12_take 4 = .ok (.aload_n 0, 1) := z_o42 (z_wat (q := 0) (j := 4) zwX12_take_0 rfl)
theorem dX12_take_5 : decode cX12_take 5 = .ok (.getfield 204, 3) := z_o180 (z_wat (q := 0) (j := 5) zwX12_take_0 rfl) (z_wat (q := 0) (j := 6) zwX12_take_0 rfl) (z_wat (q := 0) (j := 7) zwX12_take_0 rfl) rfl
theorem dX12_take_8 : decode cX12_take 8 = .ok (.if_icmp .ge 44, 3) := z_o162 (z_wat (q := 0) (j := 8) zwX12_take_0 rfl) (z_wat (q := 0) (j := 9) zwX12_take_0 rfl) (z_wat (q := 0) (j := 10) zwX12_take_0 rfl) rfl
theorem dX12_take_11 : decode cX12_take 11 = .ok (.aload_n 0, 1) := z_o42 (z_wat (q := 0) (j := 11) zwX12_take_0 rfl)
theorem dX12_take_12 : decode cX12_take 12 = .ok (.getfield 7, 3) := z_o180 (z_wat (q := 0) (j := 12) zwX12_take_0 rfl) (z_wat (q := 0) (j := 13) zwX12_take_0 rfl) (z_wat (q := 0) (j := 14) zwX12_take_0 rfl) rfl
theorem dX12_take_15 : decode cX12_take 15 = .ok (.aload_n 0, 1) := z_o42 (z_wat (q := 0) (j := 15) zwX12_take_0 rfl)
theorem dX12_take_16 : decode cX12_take 16 = .ok (.getfield 207, 3) := z_o180 (z_wat (q := 0) (j := 16) zwX12_take_0 rfl) (z_wat (q := 0) (j := 17) zwX12_take_0 rfl) (z_wat (q := 0) (j := 18) zwX12_take_0 rfl) rfl
theorem dX12_take_19 : decode cX12_take 19 = .ok (.iaload, 1) := z_o46 (z_wat (q := 0) (j := 19) zwX12_take_0 rfl)
theorem dX12_take_20 : decode cX12_take 20 = .ok (.bipush 10, 2) := z_o16 (z_wat (q := 0) (j := 20) zwX12_take_0 rfl) (z_wat (q := 0) (j := 21) zwX12_take_0 rfl) rfl
theorem dX12_take_22 : decode cX12_take 22 = .ok (.if_icmp .eq 17, 3) := z_o159 (z_wat (q := 0) (j := 22) zwX12_take_0 rfl) (z_wat (q := 0) (j := 23) zwX12_take_0 rfl) (z_wat (q := 0) (j := 24) zwX12_take_0 rfl) rfl
theorem dX12_take_25 : decode cX12_take 25 = .ok (.aload_n 0, 1) := z_o42 (z_wat (q := 0) (j := 25) zwX12_take_0 rfl)
theorem dX12_take_26 : decode cX12_take 26 = .ok (.getfield 7, 3) := z_o180 (z_wat (q := 0) (j := 26) zwX12_take_0 rfl) (z_wat (q := 0) (j := 27) zwX12_take_0 rfl) (z_wat (q := 0) (j := 28) zwX12_take_0 rfl) rfl
theorem dX12_take_29 : decode cX12_take 29 = .ok (.aload_n 0, 1) := z_o42 (z_wat (q := 0) (j := 29) zwX12_take_0 rfl)
theorem dX12_take_30 : decode cX12_take 30 = .ok (.getfield 207, 3) := z_o180 (z_wat (q := 0) (j := 30) zwX12_take_0 rfl) (z_wat (q := 0) (j := 31) zwX12_take_0 rfl) (z_wat (q := 0) (j := 32) zwX12_take_0 rfl) rfl
theorem zwX12_take_32 : ((cX12_take.data.toList.drop 32).take 34).map UInt8.toNat = [207, 46, 16, 32, 160, 0, 16, 42, 89, 180, 0, 207, 4, 96, 181, 0, 207, 167, 255, 207, 42, 42, 180, 0, 207, 181, 0, 201, 42, 180, 0, 207, 42, 180] := by decide +kernel
theorem dX12_take_33 : decode cX12_take 33 = .ok (.iaload, 1) := z_o46 (z_wat (q := 32) (j := 1) zwX12_take_32 rfl)
theorem dX12_take_34 : decode cX12_take 34 = .ok (.bipush 32, 2) := z_o16 (z_wat (q := 32) (j := 2) zwX12_take_32 rfl) (z_wat (q := 32) (j := 3) zwX12_take_32 rfl) rfl
theorem dX12_take_36 : decode cX12_take 36 = .ok (.if_icmp .ne 16, 3) := z_o160 (z_wat (q := 32) (j := 4) zwX12_take_32 rfl) (z_wat (q := 32) (j := 5) zwX12_take_32 rfl) (z_wat (q := 32) (j := 6) zwX12_take_32 rfl) rfl
theorem dX12_take_39 : decode cX12_take 39 = .ok (.aload_n 0, 1) := z_o42 (z_wat (q := 32) (j := 7) zwX12_take_32 rfl)
theorem dX12_take_40 : decode cX12_take 40 = .ok (.dup, 1) := z_o89 (z_wat (q := 32) (j := 8) zwX12_take_32 rfl)
theorem dX12_take_41 : decode cX12_take 41 = .ok (.getfield 207, 3) := z_o180 (z_wat (q := 32) (j := 9) zwX12_take_32 rfl) (z_wat (q := 32) (j := 10) zwX12_take_32 rfl) (z_wat (q := 32) (j := 11) zwX12_take_32 rfl) rfl
theorem dX12_take_44 : decode cX12_take 44 = .ok (.iconst 1, 1) := z_o4 (z_wat (q := 32) (j := 12) zwX12_take_32 rfl)
theorem dX12_take_45 : decode cX12_take 45 = .ok (.iadd, 1) := z_o96 (z_wat (q := 32) (j := 13) zwX12_take_32 rfl)
theorem dX12_take_46 : decode cX12_take 46 = .ok (.putfield 207, 3) := z_o181 (z_wat (q := 32) (j := 14) zwX12_take_32 rfl) (z_wat (q := 32) (j := 15) zwX12_take_32 rfl) (z_wat (q := 32) (j := 16) zwX12_take_32 rfl) rfl
theorem dX12_take_49 : decode cX12_take 49 = .ok (.goto (-49), 3) := z_o167 (z_wat (q := 32) (j := 17) zwX12_take_32 rfl) (z_wat (q := 32) (j := 18) zwX12_take_32 rfl) (z_wat (q := 32) (j := 19) zwX12_take_32 rfl) rfl
theorem dX12_take_52 : decode cX12_take 52 = .ok (.aload_n 0, 1) := z_o42 (z_wat (q := 32) (j := 20) zwX12_take_32 rfl)
theorem dX12_take_53 : decode cX12_take 53 = .ok (.aload_n 0, 1) := z_o42 (z_wat (q := 32) (j := 21) zwX12_take_32 rfl)
theorem dX12_take_54 : decode cX12_take 54 = .ok (.getfield 207, 3) := z_o180 (z_wat (q := 32) (j := 22) zwX12_take_32 rfl) (z_wat (q := 32) (j := 23) zwX12_take_32 rfl) (z_wat (q := 32) (j := 24) zwX12_take_32 rfl) rfl
theorem dX12_take_57 : decode cX12_take 57 = .ok (.putfield 201, 3) := z_o181 (z_wat (q := 32) (j := 25) zwX12_take_32 rfl) (z_wat (q := 32) (j := 26) zwX12_take_32 rfl) (z_wat (q := 32) (j := 27) zwX12_take_32 rfl) rfl
theorem dX12_take_60 : decode cX12_take 60 = .ok (.aload_n 0, 1) := z_o42 (z_wat (q := 32) (j := 28) zwX12_take_32 rfl)
theorem dX12_take_61 : decode cX12_take 61 = .ok (.getfield 207, 3) := z_o180 (z_wat (q := 32) (j := 29) zwX12_take_32 rfl) (z_wat (q := 32) (j := 30) zwX12_take_32 rfl) (z_wat (q := 32) (j := 31) zwX12_take_32 rfl) rfl
theorem zwX12_take_64 : ((cX12_take.data.toList.drop 64).take 34).map UInt8.toNat = [42, 180, 0, 204, 160, 0, 11, 42, 3, 181, 0, 221, 167, 1, 10, 42, 42, 180, 0, 207, 182, 0, 224, 153, 0, 153, 42, 42, 180, 0, 207, 182, 0, 224] := by decide +kernel
theorem dX12_take_64 : decode cX12_take 64 = .ok (.aload_n 0, 1) := z_o42 (z_wat (q := 64) (j := 0) zwX12_take_64 rfl)
theorem dX12_take_65 : decode cX12_take 65 = .ok (.getfield 204, 3) := z_o180 (z_wat (q := 64) (j := 1) zwX12_take_64 rfl) (z_wat (q := 64) (j := 2) zwX12_take_64 rfl) (z_wat (q := 64) (j := 3) zwX12_take_64 rfl) rfl
theorem dX12_take_68 : decode cX12_take 68 = .ok (.if_icmp .ne 11, 3) := z_o160 (z_wat (q := 64) (j := 4) zwX12_take_64 rfl) (z_wat (q := 64) (j := 5) zwX12_take_64 rfl) (z_wat (q := 64) (j := 6) zwX12_take_64 rfl) rfl
theorem dX12_take_71 : decode cX12_take 71 = .ok (.aload_n 0, 1) := z_o42 (z_wat (q := 64) (j := 7) zwX12_take_64 rfl)
theorem dX12_take_72 : decode cX12_take 72 = .ok (.iconst 0, 1) := z_o3 (z_wat (q := 64) (j := 8) zwX12_take_64 rfl)
theorem dX12_take_73 : decode cX12_take 73 = .ok (.putfield 221, 3) := z_o181 (z_wat (q := 64) (j := 9) zwX12_take_64 rfl) (z_wat (q := 64) (j := 10) zwX12_take_64 rfl) (z_wat (q := 64) (j := 11) zwX12_take_64 rfl) rfl
theorem dX12_take_76 : decode cX12_take 76 = .ok (.goto 266, 3) := z_o167 (z_wat (q := 64) (j := 12) zwX12_take_64 rfl) (z_wat (q := 64) (j := 13) zwX12_take_64 rfl) (z_wat (q := 64) (j := 14) zwX12_take_64 rfl) rfl
theorem dX12_take_79 : decode cX12_take 79 = .ok (.aload_n 0, 1) := z_o42 (z_wat (q := 64) (j := 15) zwX12_take_64 rfl)
theorem dX12_take_80 : decode cX12_take 80 = .ok (.aload_n 0, 1) := z_o42 (z_wat (q := 64) (j := 16) zwX12_take_64 rfl)
theorem dX12_take_81 : decode cX12_take 81 = .ok (.getfield 207, 3) := z_o180 (z_wat (q := 64) (j := 17) zwX12_take_64 rfl) (z_wat (q := 64) (j := 18) zwX12_take_64 rfl) (z_wat (q := 64) (j := 19) zwX12_take_64 rfl) rfl
theorem dX12_take_84 : decode cX12_take 84 = .ok (.invokevirtual 224, 3) := z_o182 (z_wat (q := 64) (j := 20) zwX12_take_64 rfl) (z_wat (q := 64) (j := 21) zwX12_take_64 rfl) (z_wat (q := 64) (j := 22) zwX12_take_64 rfl) rfl
theorem dX12_take_87 : decode cX12_take 87 = .ok (.ifCond .eq 153, 3) := z_o153 (z_wat (q := 64) (j := 23) zwX12_take_64 rfl) (z_wat (q := 64) (j := 24) zwX12_take_64 rfl) (z_wat (q := 64) (j := 25) zwX12_take_64 rfl) rfl
theorem dX12_take_90 : decode cX12_take 90 = .ok (.aload_n 0, 1) := z_o42 (z_wat (q := 64) (j := 26) zwX12_take_64 rfl)
theorem dX12_take_91 : decode cX12_take 91 = .ok (.aload_n 0, 1) := z_o42 (z_wat (q := 64) (j := 27) zwX12_take_64 rfl)
theorem dX12_take_92 : decode cX12_take 92 = .ok (.getfield 207, 3) := z_o180 (z_wat (q := 64) (j := 28) zwX12_take_64 rfl) (z_wat (q := 64) (j := 29) zwX12_take_64 rfl) (z_wat (q := 64) (j := 30) zwX12_take_64 rfl) rfl
theorem dX12_take_95 : decode cX12_take 95 = .ok (.invokevirtual 224, 3) := z_o182 (z_wat (q := 64) (j := 31) zwX12_take_64 rfl) (z_wat (q := 64) (j := 32) zwX12_take_64 rfl) (z_wat (q := 64) (j := 33) zwX12_take_64 rfl) rfl
theorem zwX12_take_96 : ((cX12_take.data.toList.drop 96).take 34).map UInt8.toNat = [0, 224, 153, 0, 16, 42, 89, 180, 0, 207, 4, 96, 181, 0, 207, 167, 255, 235, 42, 180, 0, 207, 42, 180, 0, 201, 100, 61, 42, 42, 42, 180, 0, 201] := by decide +kernel
theorem dX12_take_98 : decode cX12_take 98 = .ok (.ifCond .eq 16, 3) := z_o153 (z_wat (q := 96) (j := 2) zwX12_take_96 rfl) (z_wat (q := 96) (j := 3) zwX12_take_96 rfl) (z_wat (q := 96) (j := 4) zwX12_take_96 rfl) rfl
theorem dX12_take_101 : decode cX12_take 101 = .ok (.aload_n 0, 1) := z_o42 (z_wat (q := 96) (j := 5) zwX12_take_96 rfl)
theorem dX12_take_102 : decode cX12_take 102 = .ok (.dup, 1) := z_o89 (z_wat (q := 96) (j := 6) zwX12_take_96 rfl)
theorem dX12_take_103 : decode cX12_take 103 = .ok (.getfield 207, 3) := z_o180 (z_wat (q := 96) (j := 7) zwX12_take_96 rfl) (z_wat (q := 96) (j := 8) zwX12_take_96 rfl) (z_wat (q := 96) (j := 9) zwX12_take_96 rfl) rfl
theorem dX12_take_106 : decode cX12_take 106 = .ok (.iconst 1, 1) := z_o4 (z_wat (q := 96) (j := 10) zwX12_take_96 rfl)
theorem dX12_take_107 : decode cX12_take 107 = .ok (.iadd, 1) := z_o96 (z_wat (q := 96) (j := 11) zwX12_take_96 rfl)
theorem dX12_take_108 : decode cX12_take 108 = .ok (.putfield 207, 3) := z_o181 (z_wat (q := 96) (j := 12) zwX12_take_96 rfl) (z_wat (q := 96) (j := 13) zwX12_take_96 rfl) (z_wat (q := 96) (j := 14) zwX12_take_96 rfl) rfl
theorem dX12_take_111 : decode cX12_take 111 = .ok (.goto (-21), 3) := z_o167 (z_wat (q := 96) (j := 15) zwX12_take_96 rfl) (z_wat (q := 96) (j := 16) zwX12_take_96 rfl) (z_wat (q := 96) (j := 17) zwX12_take_96 rfl) rfl
theorem dX12_take_114 : decode cX12_take 114 = .ok (.aload_n 0, 1) := z_o42 (z_wat (q := 96) (j := 18) zwX12_take_96 rfl)
theorem dX12_take_115 : decode cX12_take 115 = .ok (.getfield 207, 3) := z_o180 (z_wat (q := 96) (j := 19) zwX12_take_96 rfl) (z_wat (q := 96) (j := 20) zwX12_take_96 rfl) (z_wat (q := 96) (j := 21) zwX12_take_96 rfl) rfl
theorem dX12_take_118 : decode cX12_take 118 = .ok (.aload_n 0, 1) := z_o42 (z_wat (q := 96) (j := 22) zwX12_take_96 rfl)
theorem dX12_take_119 : decode cX12_take 119 = .ok (.getfield 201, 3) := z_o180 (z_wat (q := 96) (j := 23) zwX12_take_96 rfl) (z_wat (q := 96) (j := 24) zwX12_take_96 rfl) (z_wat (q := 96) (j := 25) zwX12_take_96 rfl) rfl
theorem dX12_take_122 : decode cX12_take 122 = .ok (.isub, 1) := z_o100 (z_wat (q := 96) (j := 26) zwX12_take_96 rfl)
theorem dX12_take_123 : decode cX12_take 123 = .ok (.istore_n 2, 1) := z_o61 (z_wat (q := 96) (j := 27) zwX12_take_96 rfl)
theorem dX12_take_124 : decode cX12_take 124 = .ok (.aload_n 0, 1) := z_o42 (z_wat (q := 96) (j := 28) zwX12_take_96 rfl)
theorem dX12_take_125 : decode cX12_take 125 = .ok (.aload_n 0, 1) := z_o42 (z_wat (q := 96) (j := 29) zwX12_take_96 rfl)
theorem dX12_take_126 : decode cX12_take 126 = .ok (.aload_n 0, 1) := z_o42 (z_wat (q := 96) (j := 30) zwX12_take_96 rfl)
theorem dX12_take_127 : decode cX12_take 127 = .ok (.getfield 201, 3) := z_o180 (z_wat (q := 96) (j := 31) zwX12_take_96 rfl) (z_wat (q := 96) (j := 32) zwX12_take_96 rfl) (z_wat (q := 96) (j := 33) zwX12_take_96 rfl) rfl
theorem zwX12_take_128 : ((cX12_take.data.toList.drop 128).take 34).map UInt8.toNat = [0, 201, 42, 180, 0, 207, 182, 0, 227, 181, 0, 214, 42, 42, 180, 0, 214, 155, 0, 7, 4, 167, 0, 14, 28, 16, 8, 164, 0, 7, 8, 167, 0, 4] := by decide +kernel
theorem dX12_take_130 : decode cX12_take 130 = .ok (.aload_n 0, 1) := z_o42 (z_wat (q := 128) (j := 2) zwX12_take_128 rfl)
theorem dX12_take_131 : decode cX12_take 131 = .ok (.getfield 207, 3) := z_o180 (z_wat (q := 128) (j := 3) zwX12_take_128 rfl) (z_wat (q := 128) (j := 4) zwX12_take_128 rfl) (z_wat (q := 128) (j := 5) zwX12_take_128 rfl) rfl
theorem dX12_take_134 : decode cX12_take 134 = .ok (.invokevirtual 227, 3) := z_o182 (z_wat (q := 128) (j := 6) zwX12_take_128 rfl) (z_wat (q := 128) (j := 7) zwX12_take_128 rfl) (z_wat (q := 128) (j := 8) zwX12_take_128 rfl) rfl
theorem dX12_take_137 : decode cX12_take 137 = .ok (.putfield 214, 3) := z_o181 (z_wat (q := 128) (j := 9) zwX12_take_128 rfl) (z_wat (q := 128) (j := 10) zwX12_take_128 rfl) (z_wat (q := 128) (j := 11) zwX12_take_128 rfl) rfl
theorem dX12_take_140 : decode cX12_take 140 = .ok (.aload_n 0, 1) := z_o42 (z_wat (q := 128) (j := 12) zwX12_take_128 rfl)
theorem dX12_take_141 : decode cX12_take 141 = .ok (.aload_n 0, 1) := z_o42 (z_wat (q := 128) (j := 13) zwX12_take_128 rfl)
theorem dX12_take_142 : decode cX12_take 142 = .ok (.getfield 214, 3) := z_o180 (z_wat (q := 128) (j := 14) zwX12_take_128 rfl) (z_wat (q := 128) (j := 15) zwX12_take_128 rfl) (z_wat (q := 128) (j := 16) zwX12_take_128 rfl) rfl
theorem dX12_take_145 : decode cX12_take 145 = .ok (.ifCond .lt 7, 3) := z_o155 (z_wat (q := 128) (j := 17) zwX12_take_128 rfl) (z_wat (q := 128) (j := 18) zwX12_take_128 rfl) (z_wat (q := 128) (j := 19) zwX12_take_128 rfl) rfl
theorem dX12_take_148 : decode cX12_take 148 = .ok (.iconst 1, 1) := z_o4 (z_wat (q := 128) (j := 20) zwX12_take_128 rfl)
theorem dX12_take_149 : decode cX12_take 149 = .ok (.goto 14, 3) := z_o167 (z_wat (q := 128) (j := 21) zwX12_take_128 rfl) (z_wat (q := 128) (j := 22) zwX12_take_128 rfl) (z_wat (q := 128) (j := 23) zwX12_take_128 rfl) rfl
theorem dX12_take_152 : decode cX12_take 152 = .ok (.iload_n 2, 1) := z_o28 (z_wat (q := 128) (j := 24) zwX12_take_128 rfl)
theorem dX12_take_153 : decode cX12_take 153 = .ok (.bipush 8, 2) := z_o16 (z_wat (q := 128) (j := 25) zwX12_take_128 rfl) (z_wat (q := 128) (j := 26) zwX12_take_128 rfl) rfl
theorem dX12_take_155 : decode cX12_take 155 = .ok (.if_icmp .le 7, 3) := z_o164 (z_wat (q := 128) (j := 27) zwX12_take_128 rfl) (z_wat (q := 128) (j := 28) zwX12_take_128 rfl) (z_wat (q := 128) (j := 29) zwX12_take_128 rfl) rfl
theorem dX12_take_158 : decode cX12_take 158 = .ok (.iconst 5, 1) := z_o8 (z_wat (q := 128) (j := 30) zwX12_take_128 rfl)
theorem dX12_take_159 : decode cX12_take 159 = .ok (.goto 4, 3) := z_o167 (z_wat (q := 128) (j := 31) zwX12_take_128 rfl) (z_wat (q := 128) (j := 32) zwX12_take_128 rfl) (z_wat (q := 128) (j := 33) zwX12_take_128 rfl) rfl
theorem zwX12_take_160 : ((cX12_take.data.toList.drop 160).take 34).map UInt8.toNat = [0, 4, 5, 181, 0, 221, 27, 153, 0, 70, 42, 42, 180, 0, 207, 182, 0, 217, 153, 0, 59, 42, 182, 0, 230, 42, 28, 4, 164, 0, 7, 8, 167, 0] := by decide +kernel
theorem dX12_take_162 : decode cX12_take 162 = .ok (.iconst 2, 1) := z_o5 (z_wat (q := 160) (j := 2) zwX12_take_160 rfl)
theorem dX12_take_163 : decode cX12_take 163 = .ok (.putfield 221, 3) := z_o181 (z_wat (q := 160) (j := 3) zwX12_take_160 rfl) (z_wat (q := 160) (j := 4) zwX12_take_160 rfl) (z_wat (q := 160) (j := 5) zwX12_take_160 rfl) rfl
theorem dX12_take_166 : decode cX12_take 166 = .ok (.iload_n 1, 1) := z_o27 (z_wat (q := 160) (j := 6) zwX12_take_160 rfl)
theorem dX12_take_167 : decode cX12_take 167 = .ok (.ifCond .eq 70, 3) := z_o153 (z_wat (q := 160) (j := 7) zwX12_take_160 rfl) (z_wat (q := 160) (j := 8) zwX12_take_160 rfl) (z_wat (q := 160) (j := 9) zwX12_take_160 rfl) rfl
theorem dX12_take_170 : decode cX12_take 170 = .ok (.aload_n 0, 1) := z_o42 (z_wat (q := 160) (j := 10) zwX12_take_160 rfl)
theorem dX12_take_171 : decode cX12_take 171 = .ok (.aload_n 0, 1) := z_o42 (z_wat (q := 160) (j := 11) zwX12_take_160 rfl)
theorem dX12_take_172 : decode cX12_take 172 = .ok (.getfield 207, 3) := z_o180 (z_wat (q := 160) (j := 12) zwX12_take_160 rfl) (z_wat (q := 160) (j := 13) zwX12_take_160 rfl) (z_wat (q := 160) (j := 14) zwX12_take_160 rfl) rfl
theorem dX12_take_175 : decode cX12_take 175 = .ok (.invokevirtual 217, 3) := z_o182 (z_wat (q := 160) (j := 15) zwX12_take_160 rfl) (z_wat (q := 160) (j := 16) zwX12_take_160 rfl) (z_wat (q := 160) (j := 17) zwX12_take_160 rfl) rfl
theorem dX12_take_178 : decode cX12_take 178 = .ok (.ifCond .eq 59, 3) := z_o153 (z_wat (q := 160) (j := 18) zwX12_take_160 rfl) (z_wat (q := 160) (j := 19) zwX12_take_160 rfl) (z_wat (q := 160) (j := 20) zwX12_take_160 rfl) rfl
theorem dX12_take_181 : decode cX12_take 181 = .ok (.aload_n 0, 1) := z_o42 (z_wat (q := 160) (j := 21) zwX12_take_160 rfl)
theorem dX12_take_182 : decode cX12_take 182 = .ok (.invokevirtual 230, 3) := z_o182 (z_wat (q := 160) (j := 22) zwX12_take_160 rfl) (z_wat (q := 160) (j := 23) zwX12_take_160 rfl) (z_wat (q := 160) (j := 24) zwX12_take_160 rfl) rfl
theorem dX12_take_185 : decode cX12_take 185 = .ok (.aload_n 0, 1) := z_o42 (z_wat (q := 160) (j := 25) zwX12_take_160 rfl)
theorem dX12_take_186 : decode cX12_take 186 = .ok (.iload_n 2, 1) := z_o28 (z_wat (q := 160) (j := 26) zwX12_take_160 rfl)
theorem dX12_take_187 : decode cX12_take 187 = .ok (.iconst 1, 1) := z_o4 (z_wat (q := 160) (j := 27) zwX12_take_160 rfl)
theorem dX12_take_188 : decode cX12_take 188 = .ok (.if_icmp .le 7, 3) := z_o164 (z_wat (q := 160) (j := 28) zwX12_take_160 rfl) (z_wat (q := 160) (j := 29) zwX12_take_160 rfl) (z_wat (q := 160) (j := 30) zwX12_take_160 rfl) rfl
theorem dX12_take_191 : decode cX12_take 191 = .ok (.iconst 5, 1) := z_o8 (z_wat (q := 160) (j := 31) zwX12_take_160 rfl)
theorem zwX12_take_192 : ((cX12_take.data.toList.drop 192).take 34).map UInt8.toNat = [167, 0, 42, 42, 180, 0, 7, 42, 180, 0, 201, 46, 16, 107, 160, 0, 8, 16, 6, 167, 0, 23, 42, 180, 0, 7, 42, 180, 0, 201, 46, 16, 115, 160] := by decide +kernel
theorem dX12_take_192 : decode cX12_take 192 = .ok (.goto 42, 3) := z_o167 (z_wat (q := 192) (j := 0) zwX12_take_192 rfl) (z_wat (q := 192) (j := 1) zwX12_take_192 rfl) (z_wat (q := 192) (j := 2) zwX12_take_192 rfl) rfl
theorem dX12_take_195 : decode cX12_take 195 = .ok (.aload_n 0, 1) := z_o42 (z_wat (q := 192) (j := 3) zwX12_take_192 rfl)
theorem dX12_take_196 : decode cX12_take 196 = .ok (.getfield 7, 3) := z_o180 (z_wat (q := 192) (j := 4) zwX12_take_192 rfl) (z_wat (q := 192) (j := 5) zwX12_take_192 rfl) (z_wat (q := 192) (j := 6) zwX12_take_192 rfl) rfl
theorem dX12_take_199 : decode cX12_take 199 = .ok (.aload_n 0, 1) := z_o42 (z_wat (q := 192) (j := 7) zwX12_take_192 rfl)
theorem dX12_take_200 : decode cX12_take 200 = .ok (.getfield 201, 3) := z_o180 (z_wat (q := 192) (j := 8) zwX12_take_192 rfl) (z_wat (q := 192) (j := 9) zwX12_take_192 rfl) (z_wat (q := 192) (j := 10) zwX12_take_192 rfl) rfl
theorem dX12_take_203 : decode cX12_take 203 = .ok (.iaload, 1) := z_o46 (z_wat (q := 192) (j := 11) zwX12_take_192 rfl)
theorem dX12_take_204 : decode cX12_take 204 = .ok (.bipush 107, 2) := z_o16 (z_wat (q := 192) (j := 12) zwX12_take_192 rfl) (z_wat (q := 192) (j := 13) zwX12_take_192 rfl) rfl
theorem dX12_take_206 : decode cX12_take 206 = .ok (.if_icmp .ne 8, 3) := z_o160 (z_wat (q := 192) (j := 14) zwX12_take_192 rfl) (z_wat (q := 192) (j := 15) zwX12_take_192 rfl) (z_wat (q := 192) (j := 16) zwX12_take_192 rfl) rfl
theorem dX12_take_209 : decode cX12_take 209 = .ok (.bipush 6, 2) := z_o16 (z_wat (q := 192) (j := 17) zwX12_take_192 rfl) (z_wat (q := 192) (j := 18) zwX12_take_192 rfl) rfl
theorem dX12_take_211 : decode cX12_take 211 = .ok (.goto 23, 3) := z_o167 (z_wat (q := 192) (j := 19) zwX12_take_192 rfl) (z_wat (q := 192) (j := 20) zwX12_take_192 rfl) (z_wat (q := 192) (j := 21) zwX12_take_192 rfl) rfl
theorem dX12_take_214 : decode cX12_take 214 = .ok (.aload_n 0, 1) := z_o42 (z_wat (q := 192) (j := 22) zwX12_take_192 rfl)
theorem dX12_take_215 : decode cX12_take 215 = .ok (.getfield 7, 3) := z_o180 (z_wat (q := 192) (j := 23) zwX12_take_192 rfl) (z_wat (q := 192) (j := 24) zwX12_take_192 rfl) (z_wat (q := 192) (j := 25) zwX12_take_192 rfl) rfl
theorem dX12_take_218 : decode cX12_take 218 = .ok (.aload_n 0, 1) := z_o42 (z_wat (q := 192) (j := 26) zwX12_take_192 rfl)
theorem dX12_take_219 : decode cX12_take 219 = .ok (.getfield 201, 3) := z_o180 (z_wat (q := 192) (j := 27) zwX12_take_192 rfl) (z_wat (q := 192) (j := 28) zwX12_take_192 rfl) (z_wat (q := 192) (j := 29) zwX12_take_192 rfl) rfl
theorem dX12_take_222 : decode cX12_take 222 = .ok (.iaload, 1) := z_o46 (z_wat (q := 192) (j := 30) zwX12_take_192 rfl)
theorem dX12_take_223 : decode cX12_take 223 = .ok (.bipush 115, 2) := z_o16 (z_wat (q := 192) (j := 31) zwX12_take_192 rfl) (z_wat (q := 192) (j := 32) zwX12_take_192 rfl) rfl
theorem zwX12_take_224 : ((cX12_take.data.toList.drop 224).take 34).map UInt8.toNat = [115, 160, 0, 8, 16, 7, 167, 0, 4, 8, 181, 0, 221, 167, 0, 105, 42, 42, 180, 0, 207, 182, 0, 217, 153, 0, 15, 42, 6, 181, 0, 221, 42, 182] := by decide +kernel
theorem dX12_take_225 : decode cX12_take 225 = .ok (.if_icmp .ne 8, 3) := z_o160 (z_wat (q := 224) (j := 1) zwX12_take_224 rfl) (z_wat (q := 224) (j := 2) zwX12_take_224 rfl) (z_wat (q := 224) (j := 3) zwX12_take_224 rfl) rfl
theorem dX12_take_228 : decode cX12_take 228 = .ok (.bipush 7, 2) := z_o16 (z_wat (q := 224) (j := 4) zwX12_take_224 rfl) (z_wat (q := 224) (j := 5) zwX12_take_224 rfl) rfl
theorem dX12_take_230 : decode cX12_take 230 = .ok (.goto 4, 3) := z_o167 (z_wat (q := 224) (j := 6) zwX12_take_224 rfl) (z_wat (q := 224) (j := 7) zwX12_take_224 rfl) (z_wat (q := 224) (j := 8) zwX12_take_224 rfl) rfl
theorem dX12_take_233 : decode cX12_take 233 = .ok (.iconst 5, 1) := z_o8 (z_wat (q := 224) (j := 9) zwX12_take_224 rfl)
theorem dX12_take_234 : decode cX12_take 234 = .ok (.putfield 221, 3) := z_o181 (z_wat (q := 224) (j := 10) zwX12_take_224 rfl) (z_wat (q := 224) (j := 11) zwX12_take_224 rfl) (z_wat (q := 224) (j := 12) zwX12_take_224 rfl) rfl
theorem dX12_take_237 : decode cX12_take 237 = .ok (.goto 105, 3) := z_o167 (z_wat (q := 224) (j := 13) zwX12_take_224 rfl) (z_wat (q := 224) (j := 14) zwX12_take_224 rfl) (z_wat (q := 224) (j := 15) zwX12_take_224 rfl) rfl
theorem dX12_take_240 : decode cX12_take 240 = .ok (.aload_n 0, 1) := z_o42 (z_wat (q := 224) (j := 16) zwX12_take_224 rfl)
theorem dX12_take_241 : decode cX12_take 241 = .ok (.aload_n 0, 1) := z_o42 (z_wat (q := 224) (j := 17) zwX12_take_224 rfl)
theorem dX12_take_242 : decode cX12_take 242 = .ok (.getfield 207, 3) := z_o180 (z_wat (q := 224) (j := 18) zwX12_take_224 rfl) (z_wat (q := 224) (j := 19) zwX12_take_224 rfl) (z_wat (q := 224) (j := 20) zwX12_take_224 rfl) rfl
theorem dX12_take_245 : decode cX12_take 245 = .ok (.invokevirtual 217, 3) := z_o182 (z_wat (q := 224) (j := 21) zwX12_take_224 rfl) (z_wat (q := 224) (j := 22) zwX12_take_224 rfl) (z_wat (q := 224) (j := 23) zwX12_take_224 rfl) rfl
theorem dX12_take_248 : decode cX12_take 248 = .ok (.ifCond .eq 15, 3) := z_o153 (z_wat (q := 224) (j := 24) zwX12_take_224 rfl) (z_wat (q := 224) (j := 25) zwX12_take_224 rfl) (z_wat (q := 224) (j := 26) zwX12_take_224 rfl) rfl
theorem dX12_take_251 : decode cX12_take 251 = .ok (.aload_n 0, 1) := z_o42 (z_wat (q := 224) (j := 27) zwX12_take_224 rfl)
theorem dX12_take_252 : decode cX12_take 252 = .ok (.iconst 3, 1) := z_o6 (z_wat (q := 224) (j := 28) zwX12_take_224 rfl)
theorem dX12_take_253 : decode cX12_take 253 = .ok (.putfield 221, 3) := z_o181 (z_wat (q := 224) (j := 29) zwX12_take_224 rfl) (z_wat (q := 224) (j := 30) zwX12_take_224 rfl) (z_wat (q := 224) (j := 31) zwX12_take_224 rfl) rfl
theorem zwX12_take_256 : ((cX12_take.data.toList.drop 256).take 34).map UInt8.toNat = [42, 182, 0, 230, 167, 0, 82, 42, 180, 0, 7, 42, 180, 0, 207, 46, 61, 42, 89, 180, 0, 207, 4, 96, 181, 0, 207, 42, 42, 28, 182, 0, 233, 181] := by decide +kernel
theorem dX12_take_256 : decode cX12_take 256 = .ok (.aload_n 0, 1) := z_o42 (z_wat (q := 256) (j := 0) zwX12_take_256 rfl)
theorem dX12_take_257 : decode cX12_take 257 = .ok (.invokevirtual 230, 3) := z_o182 (z_wat (q := 256) (j := 1) zwX12_take_256 rfl) (z_wat (q := 256) (j := 2) zwX12_take_256 rfl) (z_wat (q := 256) (j := 3) zwX12_take_256 rfl) rfl
theorem dX12_take_260 : decode cX12_take 260 = .ok (.goto 82, 3) := z_o167 (z_wat (q := 256) (j := 4) zwX12_take_256 rfl) (z_wat (q := 256) (j := 5) zwX12_take_256 rfl) (z_wat (q := 256) (j := 6) zwX12_take_256 rfl) rfl
theorem dX12_take_263 : decode cX12_take 263 = .ok (.aload_n 0, 1) := z_o42 (z_wat (q := 256) (j := 7) zwX12_take_256 rfl)
theorem dX12_take_264 : decode cX12_take 264 = .ok (.getfield 7, 3) := z_o180 (z_wat (q := 256) (j := 8) zwX12_take_256 rfl) (z_wat (q := 256) (j := 9) zwX12_take_256 rfl) (z_wat (q := 256) (j := 10) zwX12_take_256 rfl) rfl
theorem dX12_take_267 : decode cX12_take 267 = .ok (.aload_n 0, 1) := z_o42 (z_wat (q := 256) (j := 11) zwX12_take_256 rfl)
theorem dX12_take_268 : decode cX12_take 268 = .ok (.getfield 207, 3) := z_o180 (z_wat (q := 256) (j := 12) zwX12_take_256 rfl) (z_wat (q := 256) (j := 13) zwX12_take_256 rfl) (z_wat (q := 256) (j := 14) zwX12_take_256 rfl) rfl
theorem dX12_take_271 : decode cX12_take 271 = .ok (.iaload, 1) := z_o46 (z_wat (q := 256) (j := 15) zwX12_take_256 rfl)
theorem dX12_take_272 : decode cX12_take 272 = .ok (.istore_n 2, 1) := z_o61 (z_wat (q := 256) (j := 16) zwX12_take_256 rfl)
theorem dX12_take_273 : decode cX12_take 273 = .ok (.aload_n 0, 1) := z_o42 (z_wat (q := 256) (j := 17) zwX12_take_256 rfl)
theorem dX12_take_274 : decode cX12_take 274 = .ok (.dup, 1) := z_o89 (z_wat (q := 256) (j := 18) zwX12_take_256 rfl)
theorem dX12_take_275 : decode cX12_take 275 = .ok (.getfield 207, 3) := z_o180 (z_wat (q := 256) (j := 19) zwX12_take_256 rfl) (z_wat (q := 256) (j := 20) zwX12_take_256 rfl) (z_wat (q := 256) (j := 21) zwX12_take_256 rfl) rfl
theorem dX12_take_278 : decode cX12_take 278 = .ok (.iconst 1, 1) := z_o4 (z_wat (q := 256) (j := 22) zwX12_take_256 rfl)
theorem dX12_take_279 : decode cX12_take 279 = .ok (.iadd, 1) := z_o96 (z_wat (q := 256) (j := 23) zwX12_take_256 rfl)
theorem dX12_take_280 : decode cX12_take 280 = .ok (.putfield 207, 3) := z_o181 (z_wat (q := 256) (j := 24) zwX12_take_256 rfl) (z_wat (q := 256) (j := 25) zwX12_take_256 rfl) (z_wat (q := 256) (j := 26) zwX12_take_256 rfl) rfl
theorem dX12_take_283 : decode cX12_take 283 = .ok (.aload_n 0, 1) := z_o42 (z_wat (q := 256) (j := 27) zwX12_take_256 rfl)
theorem dX12_take_284 : decode cX12_take 284 = .ok (.aload_n 0, 1) := z_o42 (z_wat (q := 256) (j := 28) zwX12_take_256 rfl)
theorem dX12_take_285 : decode cX12_take 285 = .ok (.iload_n 2, 1) := z_o28 (z_wat (q := 256) (j := 29) zwX12_take_256 rfl)
theorem dX12_take_286 : decode cX12_take 286 = .ok (.invokevirtual 233, 3) := z_o182 (z_wat (q := 256) (j := 30) zwX12_take_256 rfl) (z_wat (q := 256) (j := 31) zwX12_take_256 rfl) (z_wat (q := 256) (j := 32) zwX12_take_256 rfl) rfl
theorem zwX12_take_288 : ((cX12_take.data.toList.drop 288).take 34).map UInt8.toNat = [233, 181, 0, 214, 42, 42, 180, 0, 214, 156, 0, 7, 8, 167, 0, 4, 7, 181, 0, 221, 42, 180, 0, 214, 5, 159, 0, 19, 42, 180, 0, 214, 7, 159] := by decide +kernel
theorem dX12_take_289 : decode cX12_take 289 = .ok (.putfield 214, 3) := z_o181 (z_wat (q := 288) (j := 1) zwX12_take_288 rfl) (z_wat (q := 288) (j := 2) zwX12_take_288 rfl) (z_wat (q := 288) (j := 3) zwX12_take_288 rfl) rfl
theorem dX12_take_292 : decode cX12_take 292 = .ok (.aload_n 0, 1) := z_o42 (z_wat (q := 288) (j := 4) zwX12_take_288 rfl)
theorem dX12_take_293 : decode cX12_take 293 = .ok (.aload_n 0, 1) := z_o42 (z_wat (q := 288) (j := 5) zwX12_take_288 rfl)
theorem dX12_take_294 : decode cX12_take 294 = .ok (.getfield 214, 3) := z_o180 (z_wat (q := 288) (j := 6) zwX12_take_288 rfl) (z_wat (q := 288) (j := 7) zwX12_take_288 rfl) (z_wat (q := 288) (j := 8) zwX12_take_288 rfl) rfl
theorem dX12_take_297 : decode cX12_take 297 = .ok (.ifCond .ge 7, 3) := z_o156 (z_wat (q := 288) (j := 9) zwX12_take_288 rfl) (z_wat (q := 288) (j := 10) zwX12_take_288 rfl) (z_wat (q := 288) (j := 11) zwX12_take_288 rfl) rfl
theorem dX12_take_300 : decode cX12_take 300 = .ok (.iconst 5, 1) := z_o8 (z_wat (q := 288) (j := 12) zwX12_take_288 rfl)
theorem dX12_take_301 : decode cX12_take 301 = .ok (.goto 4, 3) := z_o167 (z_wat (q := 288) (j := 13) zwX12_take_288 rfl) (z_wat (q := 288) (j := 14) zwX12_take_288 rfl) (z_wat (q := 288) (j := 15) zwX12_take_288 rfl) rfl
theorem dX12_take_304 : decode cX12_take 304 = .ok (.iconst 4, 1) := z_o7 (z_wat (q := 288) (j := 16) zwX12_take_288 rfl)
theorem dX12_take_305 : decode cX12_take 305 = .ok (.putfield 221, 3) := z_o181 (z_wat (q := 288) (j := 17) zwX12_take_288 rfl) (z_wat (q := 288) (j := 18) zwX12_take_288 rfl) (z_wat (q := 288) (j := 19) zwX12_take_288 rfl) rfl
theorem dX12_take_308 : decode cX12_take 308 = .ok (.aload_n 0, 1) := z_o42 (z_wat (q := 288) (j := 20) zwX12_take_288 rfl)
theorem dX12_take_309 : decode cX12_take 309 = .ok (.getfield 214, 3) := z_o180 (z_wat (q := 288) (j := 21) zwX12_take_288 rfl) (z_wat (q := 288) (j := 22) zwX12_take_288 rfl) (z_wat (q := 288) (j := 23) zwX12_take_288 rfl) rfl
theorem dX12_take_312 : decode cX12_take 312 = .ok (.iconst 2, 1) := z_o5 (z_wat (q := 288) (j := 24) zwX12_take_288 rfl)
theorem dX12_take_313 : decode cX12_take 313 = .ok (.if_icmp .eq 19, 3) := z_o159 (z_wat (q := 288) (j := 25) zwX12_take_288 rfl) (z_wat (q := 288) (j := 26) zwX12_take_288 rfl) (z_wat (q := 288) (j := 27) zwX12_take_288 rfl) rfl
theorem dX12_take_316 : decode cX12_take 316 = .ok (.aload_n 0, 1) := z_o42 (z_wat (q := 288) (j := 28) zwX12_take_288 rfl)
theorem dX12_take_317 : decode cX12_take 317 = .ok (.getfield 214, 3) := z_o180 (z_wat (q := 288) (j := 29) zwX12_take_288 rfl) (z_wat (q := 288) (j := 30) zwX12_take_288 rfl) (z_wat (q := 288) (j := 31) zwX12_take_288 rfl) rfl
theorem zwX12_take_320 : ((cX12_take.data.toList.drop 320).take 23).map UInt8.toNat = [7, 159, 0, 11, 42, 180, 0, 214, 8, 160, 0, 13, 42, 89, 180, 0, 207, 4, 96, 181, 0, 207, 177] := by decide +kernel
theorem dX12_take_320 : decode cX12_take 320 = .ok (.iconst 4, 1) := z_o7 (z_wat (q := 320) (j := 0) zwX12_take_320 rfl)
theorem dX12_take_321 : decode cX12_take 321 = .ok (.if_icmp .eq 11, 3) := z_o159 (z_wat (q := 320) (j := 1) zwX12_take_320 rfl) (z_wat (q := 320) (j := 2) zwX12_take_320 rfl) (z_wat (q := 320) (j := 3) zwX12_take_320 rfl) rfl
theorem dX12_take_324 : decode cX12_take 324 = .ok (.aload_n 0, 1) := z_o42 (z_wat (q := 320) (j := 4) zwX12_take_320 rfl)
theorem dX12_take_325 : decode cX12_take 325 = .ok (.getfield 214, 3) := z_o180 (z_wat (q := 320) (j := 5) zwX12_take_320 rfl) (z_wat (q := 320) (j := 6) zwX12_take_320 rfl) (z_wat (q := 320) (j := 7) zwX12_take_320 rfl) rfl
theorem dX12_take_328 : decode cX12_take 328 = .ok (.iconst 5, 1) := z_o8 (z_wat (q := 320) (j := 8) zwX12_take_320 rfl)
theorem dX12_take_329 : decode cX12_take 329 = .ok (.if_icmp .ne 13, 3) := z_o160 (z_wat (q := 320) (j := 9) zwX12_take_320 rfl) (z_wat (q := 320) (j := 10) zwX12_take_320 rfl) (z_wat (q := 320) (j := 11) zwX12_take_320 rfl) rfl
theorem dX12_take_332 : decode cX12_take 332 = .ok (.aload_n 0, 1) := z_o42 (z_wat (q := 320) (j := 12) zwX12_take_320 rfl)
theorem dX12_take_333 : decode cX12_take 333 = .ok (.dup, 1) := z_o89 (z_wat (q := 320) (j := 13) zwX12_take_320 rfl)
theorem dX12_take_334 : decode cX12_take 334 = .ok (.getfield 207, 3) := z_o180 (z_wat (q := 320) (j := 14) zwX12_take_320 rfl) (z_wat (q := 320) (j := 15) zwX12_take_320 rfl) (z_wat (q := 320) (j := 16) zwX12_take_320 rfl) rfl
theorem dX12_take_337 : decode cX12_take 337 = .ok (.iconst 1, 1) := z_o4 (z_wat (q := 320) (j := 17) zwX12_take_320 rfl)
theorem dX12_take_338 : decode cX12_take 338 = .ok (.iadd, 1) := z_o96 (z_wat (q := 320) (j := 18) zwX12_take_320 rfl)
theorem dX12_take_339 : decode cX12_take 339 = .ok (.putfield 207, 3) := z_o181 (z_wat (q := 320) (j := 19) zwX12_take_320 rfl) (z_wat (q := 320) (j := 20) zwX12_take_320 rfl) (z_wat (q := 320) (j := 21) zwX12_take_320 rfl) rfl
theorem dX12_take_342 : decode cX12_take 342 = .ok (.return_, 1) := z_o177 (z_wat (q := 320) (j := 22) zwX12_take_320 rfl)
theorem zwX12_wordAt_0 : ((cX12_wordAt.data.toList.drop 0).take 34).map UInt8.toNat = [3, 62, 3, 54, 4, 21, 4, 42, 180, 0, 72, 190, 162, 0, 114, 3, 54, 5, 42, 180, 0, 72, 21, 4, 21, 5, 96, 46, 16, 32, 159, 0, 9, 132] := by decide +kernel
theorem dX12_wordAt_0 : decode cX12_wordAt 0 = .ok (.iconst 0, 1) := z_o3 (z_wat (q := 0) (j := 0) zwX12_wordAt_0 rfl)
theorem dX12_wordAt_1 : decode cX12_wordAt 1 = .ok (.istore_n 3, 1) := z_o62 (z_wat (q := 0) (j := 1) zwX12_wordAt_0 rfl)
theorem dX12_wordAt_2 : decode cX12_wordAt 2 = .ok (.iconst 0, 1) := z_o3 (z_wat (q := 0) (j := 2) zwX12_wordAt_0 rfl)
theorem dX12_wordAt_3 : decode cX12_wordAt 3 = .ok (.istore 4, 2) := z_o54 (z_wat (q := 0) (j := 3) zwX12_wordAt_0 rfl) (z_wat (q := 0) (j := 4) zwX12_wordAt_0 rfl)
theorem dX12_wordAt_5 : decode cX12_wordAt 5 = .ok (.iload 4, 2) := z_o21 (z_wat (q := 0) (j := 5) zwX12_wordAt_0 rfl) (z_wat (q := 0) (j := 6) zwX12_wordAt_0 rfl)
theorem dX12_wordAt_7 : decode cX12_wordAt 7 = .ok (.aload_n 0, 1) := z_o42 (z_wat (q := 0) (j := 7) zwX12_wordAt_0 rfl)
theorem dX12_wordAt_8 : decode cX12_wordAt 8 = .ok (.getfield 72, 3) := z_o180 (z_wat (q := 0) (j := 8) zwX12_wordAt_0 rfl) (z_wat (q := 0) (j := 9) zwX12_wordAt_0 rfl) (z_wat (q := 0) (j := 10) zwX12_wordAt_0 rfl) rfl
theorem dX12_wordAt_11 : decode cX12_wordAt 11 = .ok (.arraylength, 1) := z_o190 (z_wat (q := 0) (j := 11) zwX12_wordAt_0 rfl)
theorem dX12_wordAt_12 : decode cX12_wordAt 12 = .ok (.if_icmp .ge 114, 3) := z_o162 (z_wat (q := 0) (j := 12) zwX12_wordAt_0 rfl) (z_wat (q := 0) (j := 13) zwX12_wordAt_0 rfl) (z_wat (q := 0) (j := 14) zwX12_wordAt_0 rfl) rfl
theorem dX12_wordAt_15 : decode cX12_wordAt 15 = .ok (.iconst 0, 1) := z_o3 (z_wat (q := 0) (j := 15) zwX12_wordAt_0 rfl)
theorem dX12_wordAt_16 : decode cX12_wordAt 16 = .ok (.istore 5, 2) := z_o54 (z_wat (q := 0) (j := 16) zwX12_wordAt_0 rfl) (z_wat (q := 0) (j := 17) zwX12_wordAt_0 rfl)
theorem dX12_wordAt_18 : decode cX12_wordAt 18 = .ok (.aload_n 0, 1) := z_o42 (z_wat (q := 0) (j := 18) zwX12_wordAt_0 rfl)
theorem dX12_wordAt_19 : decode cX12_wordAt 19 = .ok (.getfield 72, 3) := z_o180 (z_wat (q := 0) (j := 19) zwX12_wordAt_0 rfl) (z_wat (q := 0) (j := 20) zwX12_wordAt_0 rfl) (z_wat (q := 0) (j := 21) zwX12_wordAt_0 rfl) rfl
theorem dX12_wordAt_22 : decode cX12_wordAt 22 = .ok (.iload 4, 2) := z_o21 (z_wat (q := 0) (j := 22) zwX12_wordAt_0 rfl) (z_wat (q := 0) (j := 23) zwX12_wordAt_0 rfl)
theorem dX12_wordAt_24 : decode cX12_wordAt 24 = .ok (.iload 5, 2) := z_o21 (z_wat (q := 0) (j := 24) zwX12_wordAt_0 rfl) (z_wat (q := 0) (j := 25) zwX12_wordAt_0 rfl)
theorem dX12_wordAt_26 : decode cX12_wordAt 26 = .ok (.iadd, 1) := z_o96 (z_wat (q := 0) (j := 26) zwX12_wordAt_0 rfl)
theorem dX12_wordAt_27 : decode cX12_wordAt 27 = .ok (.iaload, 1) := z_o46 (z_wat (q := 0) (j := 27) zwX12_wordAt_0 rfl)
theorem dX12_wordAt_28 : decode cX12_wordAt 28 = .ok (.bipush 32, 2) := z_o16 (z_wat (q := 0) (j := 28) zwX12_wordAt_0 rfl) (z_wat (q := 0) (j := 29) zwX12_wordAt_0 rfl) rfl
theorem dX12_wordAt_30 : decode cX12_wordAt 30 = .ok (.if_icmp .eq 9, 3) := z_o159 (z_wat (q := 0) (j := 30) zwX12_wordAt_0 rfl) (z_wat (q := 0) (j := 31) zwX12_wordAt_0 rfl) (z_wat (q := 0) (j := 32) zwX12_wordAt_0 rfl) rfl
theorem zwX12_wordAt_32 : ((cX12_wordAt.data.toList.drop 32).take 34).map UInt8.toNat = [9, 132, 5, 1, 167, 255, 238, 21, 5, 28, 27, 100, 160, 0, 7, 4, 167, 0, 4, 3, 54, 6, 3, 54, 7, 21, 7, 21, 5, 162, 0, 43, 21, 6] := by decide +kernel
theorem dX12_wordAt_33 : decode cX12_wordAt 33 = .ok (.iinc 5 1, 3) := z_o132 (z_wat (q := 32) (j := 1) zwX12_wordAt_32 rfl) (z_wat (q := 32) (j := 2) zwX12_wordAt_32 rfl) (z_wat (q := 32) (j := 3) zwX12_wordAt_32 rfl) rfl
theorem dX12_wordAt_36 : decode cX12_wordAt 36 = .ok (.goto (-18), 3) := z_o167 (z_wat (q := 32) (j := 4) zwX12_wordAt_32 rfl) (z_wat (q := 32) (j := 5) zwX12_wordAt_32 rfl) (z_wat (q := 32) (j := 6) zwX12_wordAt_32 rfl) rfl
theorem dX12_wordAt_39 : decode cX12_wordAt 39 = .ok (.iload 5, 2) := z_o21 (z_wat (q := 32) (j := 7) zwX12_wordAt_32 rfl) (z_wat (q := 32) (j := 8) zwX12_wordAt_32 rfl)
theorem dX12_wordAt_41 : decode cX12_wordAt 41 = .ok (.iload_n 2, 1) := z_o28 (z_wat (q := 32) (j := 9) zwX12_wordAt_32 rfl)
theorem dX12_wordAt_42 : decode cX12_wordAt 42 = .ok (.iload_n 1, 1) := z_o27 (z_wat (q := 32) (j := 10) zwX12_wordAt_32 rfl)
theorem dX12_wordAt_43 : decode cX12_wordAt 43 = .ok (.isub, 1) := z_o100 (z_wat (q := 32) (j := 11) zwX12_wordAt_32 rfl)
theorem dX12_wordAt_44 : decode cX12_wordAt 44 = .ok (.if_icmp .ne 7, 3) := z_o160 (z_wat (q := 32) (j := 12) zwX12_wordAt_32 rfl) (z_wat (q := 32) (j := 13) zwX12_wordAt_32 rfl) (z_wat (q := 32) (j := 14) zwX12_wordAt_32 rfl) rfl
theorem dX12_wordAt_47 : decode cX12_wordAt 47 = .ok (.iconst 1, 1) := z_o4 (z_wat (q := 32) (j := 15) zwX12_wordAt_32 rfl)
theorem dX12_wordAt_48 : decode cX12_wordAt 48 = .ok (.goto 4, 3) := z_o167 (z_wat (q := 32) (j := 16) zwX12_wordAt_32 rfl) (z_wat (q := 32) (j := 17) zwX12_wordAt_32 rfl) (z_wat (q := 32) (j := 18) zwX12_wordAt_32 rfl) rfl
theorem dX12_wordAt_51 : decode cX12_wordAt 51 = .ok (.iconst 0, 1) := z_o3 (z_wat (q := 32) (j := 19) zwX12_wordAt_32 rfl)
theorem dX12_wordAt_52 : decode cX12_wordAt 52 = .ok (.istore 6, 2) := z_o54 (z_wat (q := 32) (j := 20) zwX12_wordAt_32 rfl) (z_wat (q := 32) (j := 21) zwX12_wordAt_32 rfl)
theorem dX12_wordAt_54 : decode cX12_wordAt 54 = .ok (.iconst 0, 1) := z_o3 (z_wat (q := 32) (j := 22) zwX12_wordAt_32 rfl)
theorem dX12_wordAt_55 : decode cX12_wordAt 55 = .ok (.istore 7, 2) := z_o54 (z_wat (q := 32) (j := 23) zwX12_wordAt_32 rfl) (z_wat (q := 32) (j := 24) zwX12_wordAt_32 rfl)
theorem dX12_wordAt_57 : decode cX12_wordAt 57 = .ok (.iload 7, 2) := z_o21 (z_wat (q := 32) (j := 25) zwX12_wordAt_32 rfl) (z_wat (q := 32) (j := 26) zwX12_wordAt_32 rfl)
theorem dX12_wordAt_59 : decode cX12_wordAt 59 = .ok (.iload 5, 2) := z_o21 (z_wat (q := 32) (j := 27) zwX12_wordAt_32 rfl) (z_wat (q := 32) (j := 28) zwX12_wordAt_32 rfl)
theorem dX12_wordAt_61 : decode cX12_wordAt 61 = .ok (.if_icmp .ge 43, 3) := z_o162 (z_wat (q := 32) (j := 29) zwX12_wordAt_32 rfl) (z_wat (q := 32) (j := 30) zwX12_wordAt_32 rfl) (z_wat (q := 32) (j := 31) zwX12_wordAt_32 rfl) rfl
theorem zwX12_wordAt_64 : ((cX12_wordAt.data.toList.drop 64).take 34).map UInt8.toNat = [21, 6, 153, 0, 38, 42, 180, 0, 72, 21, 4, 21, 7, 96, 46, 42, 180, 0, 7, 27, 21, 7, 96, 46, 160, 0, 7, 4, 167, 0, 4, 3, 54, 6] := by decide +kernel
theorem dX12_wordAt_64 : decode cX12_wordAt 64 = .ok (.iload 6, 2) := z_o21 (z_wat (q := 64) (j := 0) zwX12_wordAt_64 rfl) (z_wat (q := 64) (j := 1) zwX12_wordAt_64 rfl)
theorem dX12_wordAt_66 : decode cX12_wordAt 66 = .ok (.ifCond .eq 38, 3) := z_o153 (z_wat (q := 64) (j := 2) zwX12_wordAt_64 rfl) (z_wat (q := 64) (j := 3) zwX12_wordAt_64 rfl) (z_wat (q := 64) (j := 4) zwX12_wordAt_64 rfl) rfl
theorem dX12_wordAt_69 : decode cX12_wordAt 69 = .ok (.aload_n 0, 1) := z_o42 (z_wat (q := 64) (j := 5) zwX12_wordAt_64 rfl)
theorem dX12_wordAt_70 : decode cX12_wordAt 70 = .ok (.getfield 72, 3) := z_o180 (z_wat (q := 64) (j := 6) zwX12_wordAt_64 rfl) (z_wat (q := 64) (j := 7) zwX12_wordAt_64 rfl) (z_wat (q := 64) (j := 8) zwX12_wordAt_64 rfl) rfl
theorem dX12_wordAt_73 : decode cX12_wordAt 73 = .ok (.iload 4, 2) := z_o21 (z_wat (q := 64) (j := 9) zwX12_wordAt_64 rfl) (z_wat (q := 64) (j := 10) zwX12_wordAt_64 rfl)
theorem dX12_wordAt_75 : decode cX12_wordAt 75 = .ok (.iload 7, 2) := z_o21 (z_wat (q := 64) (j := 11) zwX12_wordAt_64 rfl) (z_wat (q := 64) (j := 12) zwX12_wordAt_64 rfl)
theorem dX12_wordAt_77 : decode cX12_wordAt 77 = .ok (.iadd, 1) := z_o96 (z_wat (q := 64) (j := 13) zwX12_wordAt_64 rfl)
theorem dX12_wordAt_78 : decode cX12_wordAt 78 = .ok (.iaload, 1) := z_o46 (z_wat (q := 64) (j := 14) zwX12_wordAt_64 rfl)
theorem dX12_wordAt_79 : decode cX12_wordAt 79 = .ok (.aload_n 0, 1) := z_o42 (z_wat (q := 64) (j := 15) zwX12_wordAt_64 rfl)
theorem dX12_wordAt_80 : decode cX12_wordAt 80 = .ok (.getfield 7, 3) := z_o180 (z_wat (q := 64) (j := 16) zwX12_wordAt_64 rfl) (z_wat (q := 64) (j := 17) zwX12_wordAt_64 rfl) (z_wat (q := 64) (j := 18) zwX12_wordAt_64 rfl) rfl
theorem dX12_wordAt_83 : decode cX12_wordAt 83 = .ok (.iload_n 1, 1) := z_o27 (z_wat (q := 64) (j := 19) zwX12_wordAt_64 rfl)
theorem dX12_wordAt_84 : decode cX12_wordAt 84 = .ok (.iload 7, 2) := z_o21 (z_wat (q := 64) (j := 20) zwX12_wordAt_64 rfl) (z_wat (q := 64) (j := 21) zwX12_wordAt_64 rfl)
theorem dX12_wordAt_86 : decode cX12_wordAt 86 = .ok (.iadd, 1) := z_o96 (z_wat (q := 64) (j := 22) zwX12_wordAt_64 rfl)
theorem dX12_wordAt_87 : decode cX12_wordAt 87 = .ok (.iaload, 1) := z_o46 (z_wat (q := 64) (j := 23) zwX12_wordAt_64 rfl)
theorem dX12_wordAt_88 : decode cX12_wordAt 88 = .ok (.if_icmp .ne 7, 3) := z_o160 (z_wat (q := 64) (j := 24) zwX12_wordAt_64 rfl) (z_wat (q := 64) (j := 25) zwX12_wordAt_64 rfl) (z_wat (q := 64) (j := 26) zwX12_wordAt_64 rfl) rfl
theorem dX12_wordAt_91 : decode cX12_wordAt 91 = .ok (.iconst 1, 1) := z_o4 (z_wat (q := 64) (j := 27) zwX12_wordAt_64 rfl)
theorem dX12_wordAt_92 : decode cX12_wordAt 92 = .ok (.goto 4, 3) := z_o167 (z_wat (q := 64) (j := 28) zwX12_wordAt_64 rfl) (z_wat (q := 64) (j := 29) zwX12_wordAt_64 rfl) (z_wat (q := 64) (j := 30) zwX12_wordAt_64 rfl) rfl
theorem dX12_wordAt_95 : decode cX12_wordAt 95 = .ok (.iconst 0, 1) := z_o3 (z_wat (q := 64) (j := 31) zwX12_wordAt_64 rfl)
theorem zwX12_wordAt_96 : ((cX12_wordAt.data.toList.drop 96).take 32).map UInt8.toNat = [54, 6, 132, 7, 1, 167, 255, 212, 21, 6, 153, 0, 5, 29, 172, 21, 4, 21, 5, 4, 96, 96, 54, 4, 132, 3, 1, 167, 255, 138, 2, 172] := by decide +kernel
theorem dX12_wordAt_96 : decode cX12_wordAt 96 = .ok (.istore 6, 2) := z_o54 (z_wat (q := 96) (j := 0) zwX12_wordAt_96 rfl) (z_wat (q := 96) (j := 1) zwX12_wordAt_96 rfl)
theorem dX12_wordAt_98 : decode cX12_wordAt 98 = .ok (.iinc 7 1, 3) := z_o132 (z_wat (q := 96) (j := 2) zwX12_wordAt_96 rfl) (z_wat (q := 96) (j := 3) zwX12_wordAt_96 rfl) (z_wat (q := 96) (j := 4) zwX12_wordAt_96 rfl) rfl
theorem dX12_wordAt_101 : decode cX12_wordAt 101 = .ok (.goto (-44), 3) := z_o167 (z_wat (q := 96) (j := 5) zwX12_wordAt_96 rfl) (z_wat (q := 96) (j := 6) zwX12_wordAt_96 rfl) (z_wat (q := 96) (j := 7) zwX12_wordAt_96 rfl) rfl
theorem dX12_wordAt_104 : decode cX12_wordAt 104 = .ok (.iload 6, 2) := z_o21 (z_wat (q := 96) (j := 8) zwX12_wordAt_96 rfl) (z_wat (q := 96) (j := 9) zwX12_wordAt_96 rfl)
theorem dX12_wordAt_106 : decode cX12_wordAt 106 = .ok (.ifCond .eq 5, 3) := z_o153 (z_wat (q := 96) (j := 10) zwX12_wordAt_96 rfl) (z_wat (q := 96) (j := 11) zwX12_wordAt_96 rfl) (z_wat (q := 96) (j := 12) zwX12_wordAt_96 rfl) rfl
theorem dX12_wordAt_109 : decode cX12_wordAt 109 = .ok (.iload_n 3, 1) := z_o29 (z_wat (q := 96) (j := 13) zwX12_wordAt_96 rfl)
theorem dX12_wordAt_110 : decode cX12_wordAt 110 = .ok (.ireturn, 1) := z_o172 (z_wat (q := 96) (j := 14) zwX12_wordAt_96 rfl)
theorem dX12_wordAt_111 : decode cX12_wordAt 111 = .ok (.iload 4, 2) := z_o21 (z_wat (q := 96) (j := 15) zwX12_wordAt_96 rfl) (z_wat (q := 96) (j := 16) zwX12_wordAt_96 rfl)
theorem dX12_wordAt_113 : decode cX12_wordAt 113 = .ok (.iload 5, 2) := z_o21 (z_wat (q := 96) (j := 17) zwX12_wordAt_96 rfl) (z_wat (q := 96) (j := 18) zwX12_wordAt_96 rfl)
theorem dX12_wordAt_115 : decode cX12_wordAt 115 = .ok (.iconst 1, 1) := z_o4 (z_wat (q := 96) (j := 19) zwX12_wordAt_96 rfl)
theorem dX12_wordAt_116 : decode cX12_wordAt 116 = .ok (.iadd, 1) := z_o96 (z_wat (q := 96) (j := 20) zwX12_wordAt_96 rfl)
theorem dX12_wordAt_117 : decode cX12_wordAt 117 = .ok (.iadd, 1) := z_o96 (z_wat (q := 96) (j := 21) zwX12_wordAt_96 rfl)
theorem dX12_wordAt_118 : decode cX12_wordAt 118 = .ok (.istore 4, 2) := z_o54 (z_wat (q := 96) (j := 22) zwX12_wordAt_96 rfl) (z_wat (q := 96) (j := 23) zwX12_wordAt_96 rfl)
theorem dX12_wordAt_120 : decode cX12_wordAt 120 = .ok (.iinc 3 1, 3) := z_o132 (z_wat (q := 96) (j := 24) zwX12_wordAt_96 rfl) (z_wat (q := 96) (j := 25) zwX12_wordAt_96 rfl) (z_wat (q := 96) (j := 26) zwX12_wordAt_96 rfl) rfl
theorem dX12_wordAt_123 : decode cX12_wordAt 123 = .ok (.goto (-118), 3) := z_o167 (z_wat (q := 96) (j := 27) zwX12_wordAt_96 rfl) (z_wat (q := 96) (j := 28) zwX12_wordAt_96 rfl) (z_wat (q := 96) (j := 29) zwX12_wordAt_96 rfl) rfl
theorem dX12_wordAt_126 : decode cX12_wordAt 126 = .ok (.iconst (-1), 1) := z_o2 (z_wat (q := 96) (j := 30) zwX12_wordAt_96 rfl)
theorem dX12_wordAt_127 : decode cX12_wordAt 127 = .ok (.ireturn, 1) := z_o172 (z_wat (q := 96) (j := 31) zwX12_wordAt_96 rfl)
theorem zwX12_wrong_0 : ((cX12_wrong.data.toList.drop 0).take 15).map UInt8.toNat = [42, 27, 181, 0, 198, 42, 42, 180, 0, 201, 181, 0, 75, 3, 172] := by decide +kernel
theorem dX12_wrong_0 : decode cX12_wrong 0 = .ok (.aload_n 0, 1) := z_o42 (z_wat (q := 0) (j := 0) zwX12_wrong_0 rfl)
theorem dX12_wrong_1 : decode cX12_wrong 1 = .ok (.iload_n 1, 1) := z_o27 (z_wat (q := 0) (j := 1) zwX12_wrong_0 rfl)
theorem dX12_wrong_2 : decode cX12_wrong 2 = .ok (.putfield 198, 3) := z_o181 (z_wat (q := 0) (j := 2) zwX12_wrong_0 rfl) (z_wat (q := 0) (j := 3) zwX12_wrong_0 rfl) (z_wat (q := 0) (j := 4) zwX12_wrong_0 rfl) rfl
theorem dX12_wrong_5 : decode cX12_wrong 5 = .ok (.aload_n 0, 1) := z_o42 (z_wat (q := 0) (j := 5) zwX12_wrong_0 rfl)
theorem dX12_wrong_6 : decode cX12_wrong 6 = .ok (.aload_n 0, 1) := z_o42 (z_wat (q := 0) (j := 6) zwX12_wrong_0 rfl)
theorem dX12_wrong_7 : decode cX12_wrong 7 = .ok (.getfield 201, 3) := z_o180 (z_wat (q := 0) (j := 7) zwX12_wrong_0 rfl) (z_wat (q := 0) (j := 8) zwX12_wrong_0 rfl) (z_wat (q := 0) (j := 9) zwX12_wrong_0 rfl) rfl
theorem dX12_wrong_10 : decode cX12_wrong 10 = .ok (.putfield 75, 3) := z_o181 (z_wat (q := 0) (j := 10) zwX12_wrong_0 rfl) (z_wat (q := 0) (j := 11) zwX12_wrong_0 rfl) (z_wat (q := 0) (j := 12) zwX12_wrong_0 rfl) rfl
theorem dX12_wrong_13 : decode cX12_wrong 13 = .ok (.iconst 0, 1) := z_o3 (z_wat (q := 0) (j := 13) zwX12_wrong_0 rfl)
theorem dX12_wrong_14 : decode cX12_wrong 14 = .ok (.ireturn, 1) := z_o172 (z_wat (q := 0) (j := 14) zwX12_wrong_0 rfl)
