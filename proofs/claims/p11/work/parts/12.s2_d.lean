theorem zwX10_byteAt_0 : ((cX10_byteAt.data.toList.drop 0).take 30).map UInt8.toNat = [27, 155, 0, 27, 27, 42, 180, 0, 15, 162, 0, 19, 27, 17, 2, 188, 162, 0, 12, 42, 180, 0, 11, 27, 46, 167, 0, 4, 3, 172] := by decide +kernel
theorem dX10_byteAt_0 : decode cX10_byteAt 0 = .ok (.iload_n 1, 1) := z_o27 (z_wat (q := 0) (j := 0) zwX10_byteAt_0 rfl)
theorem dX10_byteAt_1 : decode cX10_byteAt 1 = .ok (.ifCond .lt 27, 3) := z_o155 (z_wat (q := 0) (j := 1) zwX10_byteAt_0 rfl) (z_wat (q := 0) (j := 2) zwX10_byteAt_0 rfl) (z_wat (q := 0) (j := 3) zwX10_byteAt_0 rfl) rfl
theorem dX10_byteAt_4 : decode cX10_byteAt 4 = .ok (.iload_n 1, 1) := z_o27 (z_wat (q := 0) (j := 4) zwX10_byteAt_0 rfl)
theorem dX10_byteAt_5 : decode cX10_byteAt 5 = .ok (.aload_n 0, 1) := z_o42 (z_wat (q := 0) (j := 5) zwX10_byteAt_0 rfl)
theorem dX10_byteAt_6 : decode cX10_byteAt 6 = .ok (.getfield 15, 3) := z_o180 (z_wat (q := 0) (j := 6) zwX10_byteAt_0 rfl) (z_wat (q := 0) (j := 7) zwX10_byteAt_0 rfl) (z_wat (q := 0) (j := 8) zwX10_byteAt_0 rfl) rfl
theorem dX10_byteAt_9 : decode cX10_byteAt 9 = .ok (.if_icmp .ge 19, 3) := z_o162 (z_wat (q := 0) (j := 9) zwX10_byteAt_0 rfl) (z_wat (q := 0) (j := 10) zwX10_byteAt_0 rfl) (z_wat (q := 0) (j := 11) zwX10_byteAt_0 rfl) rfl
theorem dX10_byteAt_12 : decode cX10_byteAt 12 = .ok (.iload_n 1, 1) := z_o27 (z_wat (q := 0) (j := 12) zwX10_byteAt_0 rfl)
theorem dX10_byteAt_13 : decode cX10_byteAt 13 = .ok (.sipush 700, 3) := z_o17 (z_wat (q := 0) (j := 13) zwX10_byteAt_0 rfl) (z_wat (q := 0) (j := 14) zwX10_byteAt_0 rfl) (z_wat (q := 0) (j := 15) zwX10_byteAt_0 rfl) rfl
theorem dX10_byteAt_16 : decode cX10_byteAt 16 = .ok (.if_icmp .ge 12, 3) := z_o162 (z_wat (q := 0) (j := 16) zwX10_byteAt_0 rfl) (z_wat (q := 0) (j := 17) zwX10_byteAt_0 rfl) (z_wat (q := 0) (j := 18) zwX10_byteAt_0 rfl) rfl
theorem dX10_byteAt_19 : decode cX10_byteAt 19 = .ok (.aload_n 0, 1) := z_o42 (z_wat (q := 0) (j := 19) zwX10_byteAt_0 rfl)
theorem dX10_byteAt_20 : decode cX10_byteAt 20 = .ok (.getfield 11, 3) := z_o180 (z_wat (q := 0) (j := 20) zwX10_byteAt_0 rfl) (z_wat (q := 0) (j := 21) zwX10_byteAt_0 rfl) (z_wat (q := 0) (j := 22) zwX10_byteAt_0 rfl) rfl
theorem dX10_byteAt_23 : decode cX10_byteAt 23 = .ok (.iload_n 1, 1) := z_o27 (z_wat (q := 0) (j := 23) zwX10_byteAt_0 rfl)
theorem dX10_byteAt_24 : decode cX10_byteAt 24 = .ok (.iaload, 1) := z_o46 (z_wat (q := 0) (j := 24) zwX10_byteAt_0 rfl)
theorem dX10_byteAt_25 : decode cX10_byteAt 25 = .ok (.goto 4, 3) := z_o167 (z_wat (q := 0) (j := 25) zwX10_byteAt_0 rfl) (z_wat (q := 0) (j := 26) zwX10_byteAt_0 rfl) (z_wat (q := 0) (j := 27) zwX10_byteAt_0 rfl) rfl
theorem dX10_byteAt_28 : decode cX10_byteAt 28 = .ok (.iconst 0, 1) := z_o3 (z_wat (q := 0) (j := 28) zwX10_byteAt_0 rfl)
theorem dX10_byteAt_29 : decode cX10_byteAt 29 = .ok (.ireturn, 1) := z_o172 (z_wat (q := 0) (j := 29) zwX10_byteAt_0 rfl)
theorem zwX10_fail_0 : ((cX10_fail.data.toList.drop 0).take 15).map UInt8.toNat = [42, 27, 181, 0, 41, 42, 42, 180, 0, 29, 181, 0, 44, 3, 172] := by decide +kernel
theorem dX10_fail_0 : decode cX10_fail 0 = .ok (.aload_n 0, 1) := z_o42 (z_wat (q := 0) (j := 0) zwX10_fail_0 rfl)
theorem dX10_fail_1 : decode cX10_fail 1 = .ok (.iload_n 1, 1) := z_o27 (z_wat (q := 0) (j := 1) zwX10_fail_0 rfl)
theorem dX10_fail_2 : decode cX10_fail 2 = .ok (.putfield 41, 3) := z_o181 (z_wat (q := 0) (j := 2) zwX10_fail_0 rfl) (z_wat (q := 0) (j := 3) zwX10_fail_0 rfl) (z_wat (q := 0) (j := 4) zwX10_fail_0 rfl) rfl
theorem dX10_fail_5 : decode cX10_fail 5 = .ok (.aload_n 0, 1) := z_o42 (z_wat (q := 0) (j := 5) zwX10_fail_0 rfl)
theorem dX10_fail_6 : decode cX10_fail 6 = .ok (.aload_n 0, 1) := z_o42 (z_wat (q := 0) (j := 6) zwX10_fail_0 rfl)
theorem dX10_fail_7 : decode cX10_fail 7 = .ok (.getfield 29, 3) := z_o180 (z_wat (q := 0) (j := 7) zwX10_fail_0 rfl) (z_wat (q := 0) (j := 8) zwX10_fail_0 rfl) (z_wat (q := 0) (j := 9) zwX10_fail_0 rfl) rfl
theorem dX10_fail_10 : decode cX10_fail 10 = .ok (.putfield 44, 3) := z_o181 (z_wat (q := 0) (j := 10) zwX10_fail_0 rfl) (z_wat (q := 0) (j := 11) zwX10_fail_0 rfl) (z_wat (q := 0) (j := 12) zwX10_fail_0 rfl) rfl
theorem dX10_fail_13 : decode cX10_fail 13 = .ok (.iconst 0, 1) := z_o3 (z_wat (q := 0) (j := 13) zwX10_fail_0 rfl)
theorem dX10_fail_14 : decode cX10_fail 14 = .ok (.ireturn, 1) := z_o172 (z_wat (q := 0) (j := 14) zwX10_fail_0 rfl)
theorem zwX10_hasFed_0 : ((cX10_hasFed.data.toList.drop 0).take 18).map UInt8.toNat = [27, 155, 0, 15, 27, 42, 180, 0, 26, 163, 0, 7, 4, 167, 0, 4, 3, 172] := by decide +kernel
theorem dX10_hasFed_0 : decode cX10_hasFed 0 = .ok (.iload_n 1, 1) := z_o27 (z_wat (q := 0) (j := 0) zwX10_hasFed_0 rfl)
theorem dX10_hasFed_1 : decode cX10_hasFed 1 = .ok (.ifCond .lt 15, 3) := z_o155 (z_wat (q := 0) (j := 1) zwX10_hasFed_0 rfl) (z_wat (q := 0) (j := 2) zwX10_hasFed_0 rfl) (z_wat (q := 0) (j := 3) zwX10_hasFed_0 rfl) rfl
theorem dX10_hasFed_4 : decode cX10_hasFed 4 = .ok (.iload_n 1, 1) := z_o27 (z_wat (q := 0) (j := 4) zwX10_hasFed_0 rfl)
theorem dX10_hasFed_5 : decode cX10_hasFed 5 = .ok (.aload_n 0, 1) := z_o42 (z_wat (q := 0) (j := 5) zwX10_hasFed_0 rfl)
theorem dX10_hasFed_6 : decode cX10_hasFed 6 = .ok (.getfield 26, 3) := z_o180 (z_wat (q := 0) (j := 6) zwX10_hasFed_0 rfl) (z_wat (q := 0) (j := 7) zwX10_hasFed_0 rfl) (z_wat (q := 0) (j := 8) zwX10_hasFed_0 rfl) rfl
theorem dX10_hasFed_9 : decode cX10_hasFed 9 = .ok (.if_icmp .gt 7, 3) := z_o163 (z_wat (q := 0) (j := 9) zwX10_hasFed_0 rfl) (z_wat (q := 0) (j := 10) zwX10_hasFed_0 rfl) (z_wat (q := 0) (j := 11) zwX10_hasFed_0 rfl) rfl
theorem dX10_hasFed_12 : decode cX10_hasFed 12 = .ok (.iconst 1, 1) := z_o4 (z_wat (q := 0) (j := 12) zwX10_hasFed_0 rfl)
theorem dX10_hasFed_13 : decode cX10_hasFed 13 = .ok (.goto 4, 3) := z_o167 (z_wat (q := 0) (j := 13) zwX10_hasFed_0 rfl) (z_wat (q := 0) (j := 14) zwX10_hasFed_0 rfl) (z_wat (q := 0) (j := 15) zwX10_hasFed_0 rfl) rfl
theorem dX10_hasFed_16 : decode cX10_hasFed 16 = .ok (.iconst 0, 1) := z_o3 (z_wat (q := 0) (j := 16) zwX10_hasFed_0 rfl)
theorem dX10_hasFed_17 : decode cX10_hasFed 17 = .ok (.ireturn, 1) := z_o172 (z_wat (q := 0) (j := 17) zwX10_hasFed_0 rfl)
theorem zwX10_hasRoom_0 : ((cX10_hasRoom.data.toList.drop 0).take 19).map UInt8.toNat = [42, 180, 0, 26, 16, 20, 96, 17, 2, 188, 163, 0, 7, 4, 167, 0, 4, 3, 172] := by decide +kernel
theorem dX10_hasRoom_0 : decode cX10_hasRoom 0 = .ok (.aload_n 0, 1) := z_o42 (z_wat (q := 0) (j := 0) zwX10_hasRoom_0 rfl)
theorem dX10_hasRoom_1 : decode cX10_hasRoom 1 = .ok (.getfield 26, 3) := z_o180 (z_wat (q := 0) (j := 1) zwX10_hasRoom_0 rfl) (z_wat (q := 0) (j := 2) zwX10_hasRoom_0 rfl) (z_wat (q := 0) (j := 3) zwX10_hasRoom_0 rfl) rfl
theorem dX10_hasRoom_4 : decode cX10_hasRoom 4 = .ok (.bipush 20, 2) := z_o16 (z_wat (q := 0) (j := 4) zwX10_hasRoom_0 rfl) (z_wat (q := 0) (j := 5) zwX10_hasRoom_0 rfl) rfl
theorem dX10_hasRoom_6 : decode cX10_hasRoom 6 = .ok (.iadd, 1) := z_o96 (z_wat (q := 0) (j := 6) zwX10_hasRoom_0 rfl)
theorem dX10_hasRoom_7 : decode cX10_hasRoom 7 = .ok (.sipush 700, 3) := z_o17 (z_wat (q := 0) (j := 7) zwX10_hasRoom_0 rfl) (z_wat (q := 0) (j := 8) zwX10_hasRoom_0 rfl) (z_wat (q := 0) (j := 9) zwX10_hasRoom_0 rfl) rfl
theorem dX10_hasRoom_10 : decode cX10_hasRoom 10 = .ok (.if_icmp .gt 7, 3) := z_o163 (z_wat (q := 0) (j := 10) zwX10_hasRoom_0 rfl) (z_wat (q := 0) (j := 11) zwX10_hasRoom_0 rfl) (z_wat (q := 0) (j := 12) zwX10_hasRoom_0 rfl) rfl
theorem dX10_hasRoom_13 : decode cX10_hasRoom 13 = .ok (.iconst 1, 1) := z_o4 (z_wat (q := 0) (j := 13) zwX10_hasRoom_0 rfl)
theorem dX10_hasRoom_14 : decode cX10_hasRoom 14 = .ok (.goto 4, 3) := z_o167 (z_wat (q := 0) (j := 14) zwX10_hasRoom_0 rfl) (z_wat (q := 0) (j := 15) zwX10_hasRoom_0 rfl) (z_wat (q := 0) (j := 16) zwX10_hasRoom_0 rfl) rfl
theorem dX10_hasRoom_17 : decode cX10_hasRoom 17 = .ok (.iconst 0, 1) := z_o3 (z_wat (q := 0) (j := 17) zwX10_hasRoom_0 rfl)
theorem dX10_hasRoom_18 : decode cX10_hasRoom 18 = .ok (.ireturn, 1) := z_o172 (z_wat (q := 0) (j := 18) zwX10_hasRoom_0 rfl)
theorem zwX10_isDigit_0 : ((cX10_isDigit.data.toList.drop 0).take 18).map UInt8.toNat = [26, 16, 48, 161, 0, 13, 26, 16, 57, 163, 0, 7, 4, 167, 0, 4, 3, 172] := by decide +kernel
theorem dX10_isDigit_0 : decode cX10_isDigit 0 = .ok (.iload_n 0, 1) := z_o26 (z_wat (q := 0) (j := 0) zwX10_isDigit_0 rfl)
theorem dX10_isDigit_1 : decode cX10_isDigit 1 = .ok (.bipush 48, 2) := z_o16 (z_wat (q := 0) (j := 1) zwX10_isDigit_0 rfl) (z_wat (q := 0) (j := 2) zwX10_isDigit_0 rfl) rfl
theorem dX10_isDigit_3 : decode cX10_isDigit 3 = .ok (.if_icmp .lt 13, 3) := z_o161 (z_wat (q := 0) (j := 3) zwX10_isDigit_0 rfl) (z_wat (q := 0) (j := 4) zwX10_isDigit_0 rfl) (z_wat (q := 0) (j := 5) zwX10_isDigit_0 rfl) rfl
theorem dX10_isDigit_6 : decode cX10_isDigit 6 = .ok (.iload_n 0, 1) := z_o26 (z_wat (q := 0) (j := 6) zwX10_isDigit_0 rfl)
theorem dX10_isDigit_7 : decode cX10_isDigit 7 = .ok (.bipush 57, 2) := z_o16 (z_wat (q := 0) (j := 7) zwX10_isDigit_0 rfl) (z_wat (q := 0) (j := 8) zwX10_isDigit_0 rfl) rfl
theorem dX10_isDigit_9 : decode cX10_isDigit 9 = .ok (.if_icmp .gt 7, 3) := z_o163 (z_wat (q := 0) (j := 9) zwX10_isDigit_0 rfl) (z_wat (q := 0) (j := 10) zwX10_isDigit_0 rfl) (z_wat (q := 0) (j := 11) zwX10_isDigit_0 rfl) rfl
theorem dX10_isDigit_12 : decode cX10_isDigit 12 = .ok (.iconst 1, 1) := z_o4 (z_wat (q := 0) (j := 12) zwX10_isDigit_0 rfl)
theorem dX10_isDigit_13 : decode cX10_isDigit 13 = .ok (.goto 4, 3) := z_o167 (z_wat (q := 0) (j := 13) zwX10_isDigit_0 rfl) (z_wat (q := 0) (j := 14) zwX10_isDigit_0 rfl) (z_wat (q := 0) (j := 15) zwX10_isDigit_0 rfl) rfl
theorem dX10_isDigit_16 : decode cX10_isDigit 16 = .ok (.iconst 0, 1) := z_o3 (z_wat (q := 0) (j := 16) zwX10_isDigit_0 rfl)
theorem dX10_isDigit_17 : decode cX10_isDigit 17 = .ok (.ireturn, 1) := z_o172 (z_wat (q := 0) (j := 17) zwX10_isDigit_0 rfl)
theorem zwX10_isLetter_0 : ((cX10_isLetter.data.toList.drop 0).take 18).map UInt8.toNat = [26, 16, 97, 161, 0, 13, 26, 16, 122, 163, 0, 7, 4, 167, 0, 4, 3, 172] := by decide +kernel
theorem dX10_isLetter_0 : decode cX10_isLetter 0 = .ok (.iload_n 0, 1) := z_o26 (z_wat (q := 0) (j := 0) zwX10_isLetter_0 rfl)
theorem dX10_isLetter_1 : decode cX10_isLetter 1 = .ok (.bipush 97, 2) := z_o16 (z_wat (q := 0) (j := 1) zwX10_isLetter_0 rfl) (z_wat (q := 0) (j := 2) zwX10_isLetter_0 rfl) rfl
theorem dX10_isLetter_3 : decode cX10_isLetter 3 = .ok (.if_icmp .lt 13, 3) := z_o161 (z_wat (q := 0) (j := 3) zwX10_isLetter_0 rfl) (z_wat (q := 0) (j := 4) zwX10_isLetter_0 rfl) (z_wat (q := 0) (j := 5) zwX10_isLetter_0 rfl) rfl
theorem dX10_isLetter_6 : decode cX10_isLetter 6 = .ok (.iload_n 0, 1) := z_o26 (z_wat (q := 0) (j := 6) zwX10_isLetter_0 rfl)
theorem dX10_isLetter_7 : decode cX10_isLetter 7 = .ok (.bipush 122, 2) := z_o16 (z_wat (q := 0) (j := 7) zwX10_isLetter_0 rfl) (z_wat (q := 0) (j := 8) zwX10_isLetter_0 rfl) rfl
theorem dX10_isLetter_9 : decode cX10_isLetter 9 = .ok (.if_icmp .gt 7, 3) := z_o163 (z_wat (q := 0) (j := 9) zwX10_isLetter_0 rfl) (z_wat (q := 0) (j := 10) zwX10_isLetter_0 rfl) (z_wat (q := 0) (j := 11) zwX10_isLetter_0 rfl) rfl
theorem dX10_isLetter_12 : decode cX10_isLetter 12 = .ok (.iconst 1, 1) := z_o4 (z_wat (q := 0) (j := 12) zwX10_isLetter_0 rfl)
theorem dX10_isLetter_13 : decode cX10_isLetter 13 = .ok (.goto 4, 3) := z_o167 (z_wat (q := 0) (j := 13) zwX10_isLetter_0 rfl) (z_wat (q := 0) (j := 14) zwX10_isLetter_0 rfl) (z_wat (q := 0) (j := 15) zwX10_isLetter_0 rfl) rfl
theorem dX10_isLetter_16 : decode cX10_isLetter 16 = .ok (.iconst 0, 1) := z_o3 (z_wat (q := 0) (j := 16) zwX10_isLetter_0 rfl)
theorem dX10_isLetter_17 : decode cX10_isLetter 17 = .ok (.ireturn, 1) := z_o172 (z_wat (q := 0) (j := 17) zwX10_isLetter_0 rfl)
theorem zwX10_next_0 : ((cX10_next.data.toList.drop 0).take 34).map UInt8.toNat = [42, 180, 0, 19, 42, 180, 0, 15, 162, 0, 42, 42, 42, 180, 0, 19, 182, 0, 50, 16, 10, 159, 0, 16, 42, 42, 180, 0, 19, 182, 0, 50, 16, 32] := by decide +kernel
theorem dX10_next_0 : decode cX10_next 0 = .ok (.aload_n 0, 1) := z_o42 (z_wat (q := 0) (j := 0) zwX10_next_0 rfl)
theorem dX10_next_1 : decode cX10_next 1 = .ok (.getfield 19, 3) := z_o180 (z_wat (q := 0) (j := 1) zwX10_next_0 rfl) (z_wat (q := 0) (j := 2) zwX10_next_0 rfl) (z_wat (q := 0) (j := 3) zwX10_next_0 rfl) rfl
theorem dX10_next_4 : decode cX10_next 4 = .ok (.aload_n 0, 1) := z_o42 (z_wat (q := 0) (j := 4) zwX10_next_0 rfl)
theorem dX10_next_5 : decode cX10_next 5 = .ok (.getfield 15, 3) := z_o180 (z_wat (q := 0) (j := 5) zwX10_next_0 rfl) (z_wat (q := 0) (j := 6) zwX10_next_0 rfl) (z_wat (q := 0) (j := 7) zwX10_next_0 rfl) rfl
theorem dX10_next_8 : decode cX10_next 8 = .ok (.if_icmp .ge 42, 3) := z_o162 (z_wat (q := 0) (j := 8) zwX10_next_0 rfl) (z_wat (q := 0) (j := 9) zwX10_next_0 rfl) (z_wat (q := 0) (j := 10) zwX10_next_0 rfl) rfl
theorem dX10_next_11 : decode cX10_next 11 = .ok (.aload_n 0, 1) := z_o42 (z_wat (q := 0) (j := 11) zwX10_next_0 rfl)
theorem dX10_next_12 : decode cX10_next 12 = .ok (.aload_n 0, 1) := z_o42 (z_wat (q := 0) (j := 12) zwX10_next_0 rfl)
theorem dX10_next_13 : decode cX10_next 13 = .ok (.getfield 19, 3) := z_o180 (z_wat (q := 0) (j := 13) zwX10_next_0 rfl) (z_wat (q := 0) (j := 14) zwX10_next_0 rfl) (z_wat (q := 0) (j := 15) zwX10_next_0 rfl) rfl
theorem dX10_next_16 : decode cX10_next 16 = .ok (.invokevirtual 50, 3) := z_o182 (z_wat (q := 0) (j := 16) zwX10_next_0 rfl) (z_wat (q := 0) (j := 17) zwX10_next_0 rfl) (z_wat (q := 0) (j := 18) zwX10_next_0 rfl) rfl
theorem dX10_next_19 : decode cX10_next 19 = .ok (.bipush 10, 2) := z_o16 (z_wat (q := 0) (j := 19) zwX10_next_0 rfl) (z_wat (q := 0) (j := 20) zwX10_next_0 rfl) rfl
theorem dX10_next_21 : decode cX10_next 21 = .ok (.if_icmp .eq 16, 3) := z_o159 (z_wat (q := 0) (j := 21) zwX10_next_0 rfl) (z_wat (q := 0) (j := 22) zwX10_next_0 rfl) (z_wat (q := 0) (j := 23) zwX10_next_0 rfl) rfl
theorem dX10_next_24 : decode cX10_next 24 = .ok (.aload_n 0, 1) := z_o42 (z_wat (q := 0) (j := 24) zwX10_next_0 rfl)
theorem dX10_next_25 : decode cX10_next 25 = .ok (.aload_n 0, 1) := z_o42 (z_wat (q := 0) (j := 25) zwX10_next_0 rfl)
theorem dX10_next_26 : decode cX10_next 26 = .ok (.getfield 19, 3) := z_o180 (z_wat (q := 0) (j := 26) zwX10_next_0 rfl) (z_wat (q := 0) (j := 27) zwX10_next_0 rfl) (z_wat (q := 0) (j := 28) zwX10_next_0 rfl) rfl
theorem dX10_next_29 : decode cX10_next 29 = .ok (.invokevirtual 50, 3) := z_o182 (z_wat (q := 0) (j := 29) zwX10_next_0 rfl) (z_wat (q := 0) (j := 30) zwX10_next_0 rfl) (z_wat (q := 0) (j := 31) zwX10_next_0 rfl) rfl
theorem zwX10_next_32 : ((cX10_next.data.toList.drop 32).take 34).map UInt8.toNat = [16, 32, 160, 0, 16, 42, 89, 180, 0, 19, 4, 96, 181, 0, 19, 167, 255, 209, 42, 42, 180, 0, 19, 181, 0, 29, 42, 2, 181, 0, 38, 42, 180, 0] := by decide +kernel
theorem dX10_next_32 : decode cX10_next 32 = .ok (.bipush 32, 2) := z_o16 (z_wat (q := 32) (j := 0) zwX10_next_32 rfl) (z_wat (q := 32) (j := 1) zwX10_next_32 rfl) rfl
theorem dX10_next_34 : decode cX10_next 34 = .ok (.if_icmp .ne 16, 3) := z_o160 (z_wat (q := 32) (j := 2) zwX10_next_32 rfl) (z_wat (q := 32) (j := 3) zwX10_next_32 rfl) (z_wat (q := 32) (j := 4) zwX10_next_32 rfl) rfl
theorem dX10_next_37 : decode cX10_next 37 = .ok (.aload_n 0, 1) := z_o42 (z_wat (q := 32) (j := 5) zwX10_next_32 rfl)
theorem dX10_next_38 : decode cX10_next 38 = .ok (.dup, 1) := z_o89 (z_wat (q := 32) (j := 6) zwX10_next_32 rfl)
theorem dX10_next_39 : decode cX10_next 39 = .ok (.getfield 19, 3) := z_o180 (z_wat (q := 32) (j := 7) zwX10_next_32 rfl) (z_wat (q := 32) (j := 8) zwX10_next_32 rfl) (z_wat (q := 32) (j := 9) zwX10_next_32 rfl) rfl
theorem dX10_next_42 : decode cX10_next 42 = .ok (.iconst 1, 1) := z_o4 (z_wat (q := 32) (j := 10) zwX10_next_32 rfl)
theorem dX10_next_43 : decode cX10_next 43 = .ok (.iadd, 1) := z_o96 (z_wat (q := 32) (j := 11) zwX10_next_32 rfl)
theorem dX10_next_44 : decode cX10_next 44 = .ok (.putfield 19, 3) := z_o181 (z_wat (q := 32) (j := 12) zwX10_next_32 rfl) (z_wat (q := 32) (j := 13) zwX10_next_32 rfl) (z_wat (q := 32) (j := 14) zwX10_next_32 rfl) rfl
theorem dX10_next_47 : decode cX10_next 47 = .ok (.goto (-47), 3) := z_o167 (z_wat (q := 32) (j := 15) zwX10_next_32 rfl) (z_wat (q := 32) (j := 16) zwX10_next_32 rfl) (z_wat (q := 32) (j := 17) zwX10_next_32 rfl) rfl
theorem dX10_next_50 : decode cX10_next 50 = .ok (.aload_n 0, 1) := z_o42 (z_wat (q := 32) (j := 18) zwX10_next_32 rfl)
theorem dX10_next_51 : decode cX10_next 51 = .ok (.aload_n 0, 1) := z_o42 (z_wat (q := 32) (j := 19) zwX10_next_32 rfl)
theorem dX10_next_52 : decode cX10_next 52 = .ok (.getfield 19, 3) := z_o180 (z_wat (q := 32) (j := 20) zwX10_next_32 rfl) (z_wat (q := 32) (j := 21) zwX10_next_32 rfl) (z_wat (q := 32) (j := 22) zwX10_next_32 rfl) rfl
theorem dX10_next_55 : decode cX10_next 55 = .ok (.putfield 29, 3) := z_o181 (z_wat (q := 32) (j := 23) zwX10_next_32 rfl) (z_wat (q := 32) (j := 24) zwX10_next_32 rfl) (z_wat (q := 32) (j := 25) zwX10_next_32 rfl) rfl
theorem dX10_next_58 : decode cX10_next 58 = .ok (.aload_n 0, 1) := z_o42 (z_wat (q := 32) (j := 26) zwX10_next_32 rfl)
theorem dX10_next_59 : decode cX10_next 59 = .ok (.iconst (-1), 1) := z_o2 (z_wat (q := 32) (j := 27) zwX10_next_32 rfl)
theorem dX10_next_60 : decode cX10_next 60 = .ok (.putfield 38, 3) := z_o181 (z_wat (q := 32) (j := 28) zwX10_next_32 rfl) (z_wat (q := 32) (j := 29) zwX10_next_32 rfl) (z_wat (q := 32) (j := 30) zwX10_next_32 rfl) rfl
theorem dX10_next_63 : decode cX10_next 63 = .ok (.aload_n 0, 1) := z_o42 (z_wat (q := 32) (j := 31) zwX10_next_32 rfl)
theorem zwX10_next_64 : ((cX10_next.data.toList.drop 64).take 34).map UInt8.toNat = [180, 0, 19, 42, 180, 0, 15, 161, 0, 11, 42, 3, 181, 0, 35, 167, 0, 75, 42, 42, 180, 0, 19, 182, 0, 50, 184, 0, 54, 153, 0, 26, 42, 4] := by decide +kernel
theorem dX10_next_64 : decode cX10_next 64 = .ok (.getfield 19, 3) := z_o180 (z_wat (q := 64) (j := 0) zwX10_next_64 rfl) (z_wat (q := 64) (j := 1) zwX10_next_64 rfl) (z_wat (q := 64) (j := 2) zwX10_next_64 rfl) rfl
theorem dX10_next_67 : decode cX10_next 67 = .ok (.aload_n 0, 1) := z_o42 (z_wat (q := 64) (j := 3) zwX10_next_64 rfl)
theorem dX10_next_68 : decode cX10_next 68 = .ok (.getfield 15, 3) := z_o180 (z_wat (q := 64) (j := 4) zwX10_next_64 rfl) (z_wat (q := 64) (j := 5) zwX10_next_64 rfl) (z_wat (q := 64) (j := 6) zwX10_next_64 rfl) rfl
theorem dX10_next_71 : decode cX10_next 71 = .ok (.if_icmp .lt 11, 3) := z_o161 (z_wat (q := 64) (j := 7) zwX10_next_64 rfl) (z_wat (q := 64) (j := 8) zwX10_next_64 rfl) (z_wat (q := 64) (j := 9) zwX10_next_64 rfl) rfl
theorem dX10_next_74 : decode cX10_next 74 = .ok (.aload_n 0, 1) := z_o42 (z_wat (q := 64) (j := 10) zwX10_next_64 rfl)
theorem dX10_next_75 : decode cX10_next 75 = .ok (.iconst 0, 1) := z_o3 (z_wat (q := 64) (j := 11) zwX10_next_64 rfl)
theorem dX10_next_76 : decode cX10_next 76 = .ok (.putfield 35, 3) := z_o181 (z_wat (q := 64) (j := 12) zwX10_next_64 rfl) (z_wat (q := 64) (j := 13) zwX10_next_64 rfl) (z_wat (q := 64) (j := 14) zwX10_next_64 rfl) rfl
theorem dX10_next_79 : decode cX10_next 79 = .ok (.goto 75, 3) := z_o167 (z_wat (q := 64) (j := 15) zwX10_next_64 rfl) (z_wat (q := 64) (j := 16) zwX10_next_64 rfl) (z_wat (q := 64) (j := 17) zwX10_next_64 rfl) rfl
theorem dX10_next_82 : decode cX10_next 82 = .ok (.aload_n 0, 1) := z_o42 (z_wat (q := 64) (j := 18) zwX10_next_64 rfl)
theorem dX10_next_83 : decode cX10_next 83 = .ok (.aload_n 0, 1) := z_o42 (z_wat (q := 64) (j := 19) zwX10_next_64 rfl)
theorem dX10_next_84 : decode cX10_next 84 = .ok (.getfield 19, 3) := z_o180 (z_wat (q := 64) (j := 20) zwX10_next_64 rfl) (z_wat (q := 64) (j := 21) zwX10_next_64 rfl) (z_wat (q := 64) (j := 22) zwX10_next_64 rfl) rfl
theorem dX10_next_87 : decode cX10_next 87 = .ok (.invokevirtual 50, 3) := z_o182 (z_wat (q := 64) (j := 23) zwX10_next_64 rfl) (z_wat (q := 64) (j := 24) zwX10_next_64 rfl) (z_wat (q := 64) (j := 25) zwX10_next_64 rfl) rfl
theorem dX10_next_90 : decode cX10_next 90 = .ok (.invokestatic 54, 3) := z_o184 (z_wat (q := 64) (j := 26) zwX10_next_64 rfl) (z_wat (q := 64) (j := 27) zwX10_next_64 rfl) (z_wat (q := 64) (j := 28) zwX10_next_64 rfl) rfl
theorem dX10_next_93 : decode cX10_next 93 = .ok (.ifCond .eq 26, 3) := z_o153 (z_wat (q := 64) (j := 29) zwX10_next_64 rfl) (z_wat (q := 64) (j := 30) zwX10_next_64 rfl) (z_wat (q := 64) (j := 31) zwX10_next_64 rfl) rfl
theorem zwX10_next_96 : ((cX10_next.data.toList.drop 96).take 34).map UInt8.toNat = [42, 4, 181, 0, 35, 42, 182, 0, 58, 42, 180, 0, 22, 153, 0, 45, 42, 182, 0, 61, 167, 0, 38, 42, 42, 180, 0, 19, 182, 0, 50, 184, 0, 64] := by decide +kernel
theorem dX10_next_96 : decode cX10_next 96 = .ok (.aload_n 0, 1) := z_o42 (z_wat (q := 96) (j := 0) zwX10_next_96 rfl)
theorem dX10_next_97 : decode cX10_next 97 = .ok (.iconst 1, 1) := z_o4 (z_wat (q := 96) (j := 1) zwX10_next_96 rfl)
theorem dX10_next_98 : decode cX10_next 98 = .ok (.putfield 35, 3) := z_o181 (z_wat (q := 96) (j := 2) zwX10_next_96 rfl) (z_wat (q := 96) (j := 3) zwX10_next_96 rfl) (z_wat (q := 96) (j := 4) zwX10_next_96 rfl) rfl
theorem dX10_next_101 : decode cX10_next 101 = .ok (.aload_n 0, 1) := z_o42 (z_wat (q := 96) (j := 5) zwX10_next_96 rfl)
theorem dX10_next_102 : decode cX10_next 102 = .ok (.invokevirtual 58, 3) := z_o182 (z_wat (q := 96) (j := 6) zwX10_next_96 rfl) (z_wat (q := 96) (j := 7) zwX10_next_96 rfl) (z_wat (q := 96) (j := 8) zwX10_next_96 rfl) rfl
theorem dX10_next_105 : decode cX10_next 105 = .ok (.aload_n 0, 1) := z_o42 (z_wat (q := 96) (j := 9) zwX10_next_96 rfl)
theorem dX10_next_106 : decode cX10_next 106 = .ok (.getfield 22, 3) := z_o180 (z_wat (q := 96) (j := 10) zwX10_next_96 rfl) (z_wat (q := 96) (j := 11) zwX10_next_96 rfl) (z_wat (q := 96) (j := 12) zwX10_next_96 rfl) rfl
theorem dX10_next_109 : decode cX10_next 109 = .ok (.ifCond .eq 45, 3) := z_o153 (z_wat (q := 96) (j := 13) zwX10_next_96 rfl) (z_wat (q := 96) (j := 14) zwX10_next_96 rfl) (z_wat (q := 96) (j := 15) zwX10_next_96 rfl) rfl
theorem dX10_next_112 : decode cX10_next 112 = .ok (.aload_n 0, 1) := z_o42 (z_wat (q := 96) (j := 16) zwX10_next_96 rfl)
theorem dX10_next_113 : decode cX10_next 113 = .ok (.invokevirtual 61, 3) := z_o182 (z_wat (q := 96) (j := 17) zwX10_next_96 rfl) (z_wat (q := 96) (j := 18) zwX10_next_96 rfl) (z_wat (q := 96) (j := 19) zwX10_next_96 rfl) rfl
theorem dX10_next_116 : decode cX10_next 116 = .ok (.goto 38, 3) := z_o167 (z_wat (q := 96) (j := 20) zwX10_next_96 rfl) (z_wat (q := 96) (j := 21) zwX10_next_96 rfl) (z_wat (q := 96) (j := 22) zwX10_next_96 rfl) rfl
theorem dX10_next_119 : decode cX10_next 119 = .ok (.aload_n 0, 1) := z_o42 (z_wat (q := 96) (j := 23) zwX10_next_96 rfl)
theorem dX10_next_120 : decode cX10_next 120 = .ok (.aload_n 0, 1) := z_o42 (z_wat (q := 96) (j := 24) zwX10_next_96 rfl)
theorem dX10_next_121 : decode cX10_next 121 = .ok (.getfield 19, 3) := z_o180 (z_wat (q := 96) (j := 25) zwX10_next_96 rfl) (z_wat (q := 96) (j := 26) zwX10_next_96 rfl) (z_wat (q := 96) (j := 27) zwX10_next_96 rfl) rfl
theorem dX10_next_124 : decode cX10_next 124 = .ok (.invokevirtual 50, 3) := z_o182 (z_wat (q := 96) (j := 28) zwX10_next_96 rfl) (z_wat (q := 96) (j := 29) zwX10_next_96 rfl) (z_wat (q := 96) (j := 30) zwX10_next_96 rfl) rfl
theorem dX10_next_127 : decode cX10_next 127 = .ok (.invokestatic 64, 3) := z_o184 (z_wat (q := 96) (j := 31) zwX10_next_96 rfl) (z_wat (q := 96) (j := 32) zwX10_next_96 rfl) (z_wat (q := 96) (j := 33) zwX10_next_96 rfl) rfl
theorem zwX10_next_128 : ((cX10_next.data.toList.drop 128).take 34).map UInt8.toNat = [0, 64, 153, 0, 15, 42, 5, 181, 0, 35, 42, 182, 0, 61, 167, 0, 12, 42, 6, 181, 0, 35, 42, 182, 0, 67, 42, 42, 180, 0, 19, 181, 0, 32] := by decide +kernel
theorem dX10_next_130 : decode cX10_next 130 = .ok (.ifCond .eq 15, 3) := z_o153 (z_wat (q := 128) (j := 2) zwX10_next_128 rfl) (z_wat (q := 128) (j := 3) zwX10_next_128 rfl) (z_wat (q := 128) (j := 4) zwX10_next_128 rfl) rfl
theorem dX10_next_133 : decode cX10_next 133 = .ok (.aload_n 0, 1) := z_o42 (z_wat (q := 128) (j := 5) zwX10_next_128 rfl)
theorem dX10_next_134 : decode cX10_next 134 = .ok (.iconst 2, 1) := z_o5 (z_wat (q := 128) (j := 6) zwX10_next_128 rfl)
theorem dX10_next_135 : decode cX10_next 135 = .ok (.putfield 35, 3) := z_o181 (z_wat (q := 128) (j := 7) zwX10_next_128 rfl) (z_wat (q := 128) (j := 8) zwX10_next_128 rfl) (z_wat (q := 128) (j := 9) zwX10_next_128 rfl) rfl
theorem dX10_next_138 : decode cX10_next 138 = .ok (.aload_n 0, 1) := z_o42 (z_wat (q := 128) (j := 10) zwX10_next_128 rfl)
theorem dX10_next_139 : decode cX10_next 139 = .ok (.invokevirtual 61, 3) := z_o182 (z_wat (q := 128) (j := 11) zwX10_next_128 rfl) (z_wat (q := 128) (j := 12) zwX10_next_128 rfl) (z_wat (q := 128) (j := 13) zwX10_next_128 rfl) rfl
theorem dX10_next_142 : decode cX10_next 142 = .ok (.goto 12, 3) := z_o167 (z_wat (q := 128) (j := 14) zwX10_next_128 rfl) (z_wat (q := 128) (j := 15) zwX10_next_128 rfl) (z_wat (q := 128) (j := 16) zwX10_next_128 rfl) rfl
theorem dX10_next_145 : decode cX10_next 145 = .ok (.aload_n 0, 1) := z_o42 (z_wat (q := 128) (j := 17) zwX10_next_128 rfl)
theorem dX10_next_146 : decode cX10_next 146 = .ok (.iconst 3, 1) := z_o6 (z_wat (q := 128) (j := 18) zwX10_next_128 rfl)
theorem dX10_next_147 : decode cX10_next 147 = .ok (.putfield 35, 3) := z_o181 (z_wat (q := 128) (j := 19) zwX10_next_128 rfl) (z_wat (q := 128) (j := 20) zwX10_next_128 rfl) (z_wat (q := 128) (j := 21) zwX10_next_128 rfl) rfl
theorem dX10_next_150 : decode cX10_next 150 = .ok (.aload_n 0, 1) := z_o42 (z_wat (q := 128) (j := 22) zwX10_next_128 rfl)
theorem dX10_next_151 : decode cX10_next 151 = .ok (.invokevirtual 67, 3) := z_o182 (z_wat (q := 128) (j := 23) zwX10_next_128 rfl) (z_wat (q := 128) (j := 24) zwX10_next_128 rfl) (z_wat (q := 128) (j := 25) zwX10_next_128 rfl) rfl
theorem dX10_next_154 : decode cX10_next 154 = .ok (.aload_n 0, 1) := z_o42 (z_wat (q := 128) (j := 26) zwX10_next_128 rfl)
theorem dX10_next_155 : decode cX10_next 155 = .ok (.aload_n 0, 1) := z_o42 (z_wat (q := 128) (j := 27) zwX10_next_128 rfl)
theorem dX10_next_156 : decode cX10_next 156 = .ok (.getfield 19, 3) := z_o180 (z_wat (q := 128) (j := 28) zwX10_next_128 rfl) (z_wat (q := 128) (j := 29) zwX10_next_128 rfl) (z_wat (q := 128) (j := 30) zwX10_next_128 rfl) rfl
theorem dX10_next_159 : decode cX10_next 159 = .ok (.putfield 32, 3) := z_o181 (z_wat (q := 128) (j := 31) zwX10_next_128 rfl) (z_wat (q := 128) (j := 32) zwX10_next_128 rfl) (z_wat (q := 128) (j := 33) zwX10_next_128 rfl) rfl
theorem zwX10_next_160 : ((cX10_next.data.toList.drop 160).take 3).map UInt8.toNat = [0, 32, 177] := by decide +kernel
theorem dX10_next_162 : decode cX10_next 162 = .ok (.return_, 1) := z_o177 (z_wat (q := 160) (j := 2) zwX10_next_160 rfl)
theorem zwX10_passDigits_0 : ((cX10_passDigits.data.toList.drop 0).take 34).map UInt8.toNat = [42, 180, 0, 19, 42, 180, 0, 15, 162, 0, 30, 42, 42, 180, 0, 19, 182, 0, 50, 184, 0, 64, 153, 0, 16, 42, 89, 180, 0, 19, 4, 96, 181, 0] := by decide +kernel
theorem dX10_passDigits_0 : decode cX10_passDigits 0 = .ok (.aload_n 0, 1) := z_o42 (z_wat (q := 0) (j := 0) zwX10_passDigits_0 rfl)
theorem dX10_passDigits_1 : decode cX10_passDigits 1 = .ok (.getfield 19, 3) := z_o180 (z_wat (q := 0) (j := 1) zwX10_passDigits_0 rfl) (z_wat (q := 0) (j := 2) zwX10_passDigits_0 rfl) (z_wat (q := 0) (j := 3) zwX10_passDigits_0 rfl) rfl
theorem dX10_passDigits_4 : decode cX10_passDigits 4 = .ok (.aload_n 0, 1) := z_o42 (z_wat (q := 0) (j := 4) zwX10_passDigits_0 rfl)
theorem dX10_passDigits_5 : decode cX10_passDigits 5 = .ok (.getfield 15, 3) := z_o180 (z_wat (q := 0) (j := 5) zwX10_passDigits_0 rfl) (z_wat (q := 0) (j := 6) zwX10_passDigits_0 rfl) (z_wat (q := 0) (j := 7) zwX10_passDigits_0 rfl) rfl
theorem dX10_passDigits_8 : decode cX10_passDigits 8 = .ok (.if_icmp .ge 30, 3) := z_o162 (z_wat (q := 0) (j := 8) zwX10_passDigits_0 rfl) (z_wat (q := 0) (j := 9) zwX10_passDigits_0 rfl) (z_wat (q := 0) (j := 10) zwX10_passDigits_0 rfl) rfl
theorem dX10_passDigits_11 : decode cX10_passDigits 11 = .ok (.aload_n 0, 1) := z_o42 (z_wat (q := 0) (j := 11) zwX10_passDigits_0 rfl)
theorem dX10_passDigits_12 : decode cX10_passDigits 12 = .ok (.aload_n 0, 1) := z_o42 (z_wat (q := 0) (j := 12) zwX10_passDigits_0 rfl)
theorem dX10_passDigits_13 : decode cX10_passDigits 13 = .ok (.getfield 19, 3) := z_o180 (z_wat (q := 0) (j := 13) zwX10_passDigits_0 rfl) (z_wat (q := 0) (j := 14) zwX10_passDigits_0 rfl) (z_wat (q := 0) (j := 15) zwX10_passDigits_0 rfl) rfl
theorem dX10_passDigits_16 : decode cX10_passDigits 16 = .ok (.invokevirtual 50, 3) := z_o182 (z_wat (q := 0) (j := 16) zwX10_passDigits_0 rfl) (z_wat (q := 0) (j := 17) zwX10_passDigits_0 rfl) (z_wat (q := 0) (j := 18) zwX10_passDigits_0 rfl) rfl
theorem dX10_passDigits_19 : decode cX10_passDigits 19 = .ok (.invokestatic 64, 3) := z_o184 (z_wat (q := 0) (j := 19) zwX10_passDigits_0 rfl) (z_wat (q := 0) (j := 20) zwX10_passDigits_0 rfl) (z_wat (q := 0) (j := 21) zwX10_passDigits_0 rfl) rfl
theorem dX10_passDigits_22 : decode cX10_passDigits 22 = .ok (.ifCond .eq 16, 3) := z_o153 (z_wat (q := 0) (j := 22) zwX10_passDigits_0 rfl) (z_wat (q := 0) (j := 23) zwX10_passDigits_0 rfl) (z_wat (q := 0) (j := 24) zwX10_passDigits_0 rfl) rfl
theorem dX10_passDigits_25 : decode cX10_passDigits 25 = .ok (.aload_n 0, 1) := z_o42 (z_wat (q := 0) (j := 25) zwX10_passDigits_0 rfl)
theorem dX10_passDigits_26 : decode cX10_passDigits 26 = .ok (.dup, 1) := z_o89 (z_wat (q := 0) (j := 26) zwX10_passDigits_0 rfl)
theorem dX10_passDigits_27 : decode cX10_passDigits 27 = .ok (.getfield 19, 3) := z_o180 (z_wat (q := 0) (j := 27) zwX10_passDigits_0 rfl) (z_wat (q := 0) (j := 28) zwX10_passDigits_0 rfl) (z_wat (q := 0) (j := 29) zwX10_passDigits_0 rfl) rfl
theorem dX10_passDigits_30 : decode cX10_passDigits 30 = .ok (.iconst 1, 1) := z_o4 (z_wat (q := 0) (j := 30) zwX10_passDigits_0 rfl)
theorem dX10_passDigits_31 : decode cX10_passDigits 31 = .ok (.iadd, 1) := z_o96 (z_wat (q := 0) (j := 31) zwX10_passDigits_0 rfl)
theorem zwX10_passDigits_32 : ((cX10_passDigits.data.toList.drop 32).take 7).map UInt8.toNat = [181, 0, 19, 167, 255, 221, 177] := by decide +kernel
theorem dX10_passDigits_32 : decode cX10_passDigits 32 = .ok (.putfield 19, 3) := z_o181 (z_wat (q := 32) (j := 0) zwX10_passDigits_32 rfl) (z_wat (q := 32) (j := 1) zwX10_passDigits_32 rfl) (z_wat (q := 32) (j := 2) zwX10_passDigits_32 rfl) rfl
theorem dX10_passDigits_35 : decode cX10_passDigits 35 = .ok (.goto (-35), 3) := z_o167 (z_wat (q := 32) (j := 3) zwX10_passDigits_32 rfl) (z_wat (q := 32) (j := 4) zwX10_passDigits_32 rfl) (z_wat (q := 32) (j := 5) zwX10_passDigits_32 rfl) rfl
theorem dX10_passDigits_38 : decode cX10_passDigits 38 = .ok (.return_, 1) := z_o177 (z_wat (q := 32) (j := 6) zwX10_passDigits_32 rfl)
theorem zwX10_passLetters_0 : ((cX10_passLetters.data.toList.drop 0).take 34).map UInt8.toNat = [42, 180, 0, 19, 42, 180, 0, 15, 162, 0, 30, 42, 42, 180, 0, 19, 182, 0, 50, 184, 0, 54, 153, 0, 16, 42, 89, 180, 0, 19, 4, 96, 181, 0] := by decide +kernel
theorem dX10_passLetters_0 : decode cX10_passLetters 0 = .ok (.aload_n 0, 1) := z_o42 (z_wat (q := 0) (j := 0) zwX10_passLetters_0 rfl)
theorem dX10_passLetters_1 : decode cX10_passLetters 1 = .ok (.getfield 19, 3) := z_o180 (z_wat (q := 0) (j := 1) zwX10_passLetters_0 rfl) (z_wat (q := 0) (j := 2) zwX10_passLetters_0 rfl) (z_wat (q := 0) (j := 3) zwX10_passLetters_0 rfl) rfl
theorem dX10_passLetters_4 : decode cX10_passLetters 4 = .ok (.aload_n 0, 1) := z_o42 (z_wat (q := 0) (j := 4) zwX10_passLetters_0 rfl)
theorem dX10_passLetters_5 : decode cX10_passLetters 5 = .ok (.getfield 15, 3) := z_o180 (z_wat (q := 0) (j := 5) zwX10_passLetters_0 rfl) (z_wat (q := 0) (j := 6) zwX10_passLetters_0 rfl) (z_wat (q := 0) (j := 7) zwX10_passLetters_0 rfl) rfl
theorem dX10_passLetters_8 : decode cX10_passLetters 8 = .ok (.if_icmp .ge 30, 3) := z_o162 (z_wat (q := 0) (j := 8) zwX10_passLetters_0 rfl) (z_wat (q := 0) (j := 9) zwX10_passLetters_0 rfl) (z_wat (q := 0) (j := 10) zwX10_passLetters_0 rfl) rfl
theorem dX10_passLetters_11 : decode cX10_passLetters 11 = .ok (.aload_n 0, 1) := z_o42 (z_wat (q := 0) (j := 11) zwX10_passLetters_0 rfl)
theorem dX10_passLetters_12 : decode cX10_passLetters 12 = .ok (.aload_n 0, 1) := z_o42 (z_wat (q := 0) (j := 12) zwX10_passLetters_0 rfl)
theorem dX10_passLetters_13 : decode cX10_passLetters 13 = .ok (.getfield 19, 3) := z_o180 (z_wat (q := 0) (j := 13) zwX10_passLetters_0 rfl) (z_wat (q := 0) (j := 14) zwX10_passLetters_0 rfl) (z_wat (q := 0) (j := 15) zwX10_passLetters_0 rfl) rfl
theorem dX10_passLetters_16 : decode cX10_passLetters 16 = .ok (.invokevirtual 50, 3) := z_o182 (z_wat (q := 0) (j := 16) zwX10_passLetters_0 rfl) (z_wat (q := 0) (j := 17) zwX10_passLetters_0 rfl) (z_wat (q := 0) (j := 18) zwX10_passLetters_0 rfl) rfl
theorem dX10_passLetters_19 : decode cX10_passLetters 19 = .ok (.invokestatic 54, 3) := z_o184 (z_wat (q := 0) (j := 19) zwX10_passLetters_0 rfl) (z_wat (q := 0) (j := 20) zwX10_passLetters_0 rfl) (z_wat (q := 0) (j := 21) zwX10_passLetters_0 rfl) rfl
theorem dX10_passLetters_22 : decode cX10_passLetters 22 = .ok (.ifCond .eq 16, 3) := z_o153 (z_wat (q := 0) (j := 22) zwX10_passLetters_0 rfl) (z_wat (q := 0) (j := 23) zwX10_passLetters_0 rfl) (z_wat (q := 0) (j := 24) zwX10_passLetters_0 rfl) rfl
theorem dX10_passLetters_25 : decode cX10_passLetters 25 = .ok (.aload_n 0, 1) := z_o42 (z_wat (q := 0) (j := 25) zwX10_passLetters_0 rfl)
theorem dX10_passLetters_26 : decode cX10_passLetters 26 = .ok (.dup, 1) := z_o89 (z_wat (q := 0) (j := 26) zwX10_passLetters_0 rfl)
theorem dX10_passLetters_27 : decode cX10_passLetters 27 = .ok (.getfield 19, 3) := z_o180 (z_wat (q := 0) (j := 27) zwX10_passLetters_0 rfl) (z_wat (q := 0) (j := 28) zwX10_passLetters_0 rfl) (z_wat (q := 0) (j := 29) zwX10_passLetters_0 rfl) rfl
theorem dX10_passLetters_30 : decode cX10_passLetters 30 = .ok (.iconst 1, 1) := z_o4 (z_wat (q := 0) (j := 30) zwX10_passLetters_0 rfl)
theorem dX10_passLetters_31 : decode cX10_passLetters 31 = .ok (.iadd, 1) := z_o96 (z_wat (q := 0) (j := 31) zwX10_passLetters_0 rfl)
theorem zwX10_passLetters_32 : ((cX10_passLetters.data.toList.drop 32).take 7).map UInt8.toNat = [181, 0, 19, 167, 255, 221, 177] := by decide +kernel
theorem dX10_passLetters_32 : decode cX10_passLetters 32 = .ok (.putfield 19, 3) := z_o181 (z_wat (q := 32) (j := 0) zwX10_passLetters_32 rfl) (z_wat (q := 32) (j := 1) zwX10_passLetters_32 rfl) (z_wat (q := 32) (j := 2) zwX10_passLetters_32 rfl) rfl
theorem dX10_passLetters_35 : decode cX10_passLetters 35 = .ok (.goto (-35), 3) := z_o167 (z_wat (q := 32) (j := 3) zwX10_passLetters_32 rfl) (z_wat (q := 32) (j := 4) zwX10_passLetters_32 rfl) (z_wat (q := 32) (j := 5) zwX10_passLetters_32 rfl) rfl
theorem dX10_passLetters_38 : decode cX10_passLetters 38 = .ok (.return_, 1) := z_o177 (z_wat (q := 32) (j := 6) zwX10_passLetters_32 rfl)
theorem zwX10_passSign_0 : ((cX10_passSign.data.toList.drop 0).take 34).map UInt8.toNat = [42, 42, 42, 180, 0, 19, 182, 0, 50, 181, 0, 38, 42, 89, 180, 0, 19, 4, 96, 181, 0, 19, 42, 180, 0, 38, 16, 60, 159, 0, 12, 42, 180, 0] := by decide +kernel
theorem dX10_passSign_0 : decode cX10_passSign 0 = .ok (.aload_n 0, 1) := z_o42 (z_wat (q := 0) (j := 0) zwX10_passSign_0 rfl)
theorem dX10_passSign_1 : decode cX10_passSign 1 = .ok (.aload_n 0, 1) := z_o42 (z_wat (q := 0) (j := 1) zwX10_passSign_0 rfl)
theorem dX10_passSign_2 : decode cX10_passSign 2 = .ok (.aload_n 0, 1) := z_o42 (z_wat (q := 0) (j := 2) zwX10_passSign_0 rfl)
theorem dX10_passSign_3 : decode cX10_passSign 3 = .ok (.getfield 19, 3) := z_o180 (z_wat (q := 0) (j := 3) zwX10_passSign_0 rfl) (z_wat (q := 0) (j := 4) zwX10_passSign_0 rfl) (z_wat (q := 0) (j := 5) zwX10_passSign_0 rfl) rfl
theorem dX10_passSign_6 : decode cX10_passSign 6 = .ok (.invokevirtual 50, 3) := z_o182 (z_wat (q := 0) (j := 6) zwX10_passSign_0 rfl) (z_wat (q := 0) (j := 7) zwX10_passSign_0 rfl) (z_wat (q := 0) (j := 8) zwX10_passSign_0 rfl) rfl
theorem dX10_passSign_9 : decode cX10_passSign 9 = .ok (.putfield 38, 3) := z_o181 (z_wat (q := 0) (j := 9) zwX10_passSign_0 rfl) (z_wat (q := 0) (j := 10) zwX10_passSign_0 rfl) (z_wat (q := 0) (j := 11) zwX10_passSign_0 rfl) rfl
theorem dX10_passSign_12 : decode cX10_passSign 12 = .ok (.aload_n 0, 1) := z_o42 (z_wat (q := 0) (j := 12) zwX10_passSign_0 rfl)
theorem dX10_passSign_13 : decode cX10_passSign 13 = .ok (.dup, 1) := z_o89 (z_wat (q := 0) (j := 13) zwX10_passSign_0 rfl)
theorem dX10_passSign_14 : decode cX10_passSign 14 = .ok (.getfield 19, 3) := z_o180 (z_wat (q := 0) (j := 14) zwX10_passSign_0 rfl) (z_wat (q := 0) (j := 15) zwX10_passSign_0 rfl) (z_wat (q := 0) (j := 16) zwX10_passSign_0 rfl) rfl
theorem dX10_passSign_17 : decode cX10_passSign 17 = .ok (.iconst 1, 1) := z_o4 (z_wat (q := 0) (j := 17) zwX10_passSign_0 rfl)
theorem dX10_passSign_18 : decode cX10_passSign 18 = .ok (.iadd, 1) := z_o96 (z_wat (q := 0) (j := 18) zwX10_passSign_0 rfl)
theorem dX10_passSign_19 : decode cX10_passSign 19 = .ok (.putfield 19, 3) := z_o181 (z_wat (q := 0) (j := 19) zwX10_passSign_0 rfl) (z_wat (q := 0) (j := 20) zwX10_passSign_0 rfl) (z_wat (q := 0) (j := 21) zwX10_passSign_0 rfl) rfl
theorem dX10_passSign_22 : decode cX10_passSign 22 = .ok (.aload_n 0, 1) := z_o42 (z_wat (q := 0) (j := 22) zwX10_passSign_0 rfl)
theorem dX10_passSign_23 : decode cX10_passSign 23 = .ok (.getfield 38, 3) := z_o180 (z_wat (q := 0) (j := 23) zwX10_passSign_0 rfl) (z_wat (q := 0) (j := 24) zwX10_passSign_0 rfl) (z_wat (q := 0) (j := 25) zwX10_passSign_0 rfl) rfl
theorem dX10_passSign_26 : decode cX10_passSign 26 = .ok (.bipush 60, 2) := z_o16 (z_wat (q := 0) (j := 26) zwX10_passSign_0 rfl) (z_wat (q := 0) (j := 27) zwX10_passSign_0 rfl) rfl
theorem dX10_passSign_28 : decode cX10_passSign 28 = .ok (.if_icmp .eq 12, 3) := z_o159 (z_wat (q := 0) (j := 28) zwX10_passSign_0 rfl) (z_wat (q := 0) (j := 29) zwX10_passSign_0 rfl) (z_wat (q := 0) (j := 30) zwX10_passSign_0 rfl) rfl
theorem dX10_passSign_31 : decode cX10_passSign 31 = .ok (.aload_n 0, 1) := z_o42 (z_wat (q := 0) (j := 31) zwX10_passSign_0 rfl)
theorem zwX10_passSign_32 : ((cX10_passSign.data.toList.drop 32).take 34).map UInt8.toNat = [180, 0, 38, 16, 62, 160, 0, 60, 42, 42, 180, 0, 19, 182, 0, 50, 16, 61, 159, 0, 16, 42, 42, 180, 0, 19, 182, 0, 50, 16, 62, 160, 0, 34] := by decide +kernel
theorem dX10_passSign_32 : decode cX10_passSign 32 = .ok (.getfield 38, 3) := z_o180 (z_wat (q := 32) (j := 0) zwX10_passSign_32 rfl) (z_wat (q := 32) (j := 1) zwX10_passSign_32 rfl) (z_wat (q := 32) (j := 2) zwX10_passSign_32 rfl) rfl
theorem dX10_passSign_35 : decode cX10_passSign 35 = .ok (.bipush 62, 2) := z_o16 (z_wat (q := 32) (j := 3) zwX10_passSign_32 rfl) (z_wat (q := 32) (j := 4) zwX10_passSign_32 rfl) rfl
theorem dX10_passSign_37 : decode cX10_passSign 37 = .ok (.if_icmp .ne 60, 3) := z_o160 (z_wat (q := 32) (j := 5) zwX10_passSign_32 rfl) (z_wat (q := 32) (j := 6) zwX10_passSign_32 rfl) (z_wat (q := 32) (j := 7) zwX10_passSign_32 rfl) rfl
theorem dX10_passSign_40 : decode cX10_passSign 40 = .ok (.aload_n 0, 1) := z_o42 (z_wat (q := 32) (j := 8) zwX10_passSign_32 rfl)
theorem dX10_passSign_41 : decode cX10_passSign 41 = .ok (.aload_n 0, 1) := z_o42 (z_wat (q := 32) (j := 9) zwX10_passSign_32 rfl)
theorem dX10_passSign_42 : decode cX10_passSign 42 = .ok (.getfield 19, 3) := z_o180 (z_wat (q := 32) (j := 10) zwX10_passSign_32 rfl) (z_wat (q := 32) (j := 11) zwX10_passSign_32 rfl) (z_wat (q := 32) (j := 12) zwX10_passSign_32 rfl) rfl
theorem dX10_passSign_45 : decode cX10_passSign 45 = .ok (.invokevirtual 50, 3) := z_o182 (z_wat (q := 32) (j := 13) zwX10_passSign_32 rfl) (z_wat (q := 32) (j := 14) zwX10_passSign_32 rfl) (z_wat (q := 32) (j := 15) zwX10_passSign_32 rfl) rfl
theorem dX10_passSign_48 : decode cX10_passSign 48 = .ok (.bipush 61, 2) := z_o16 (z_wat (q := 32) (j := 16) zwX10_passSign_32 rfl) (z_wat (q := 32) (j := 17) zwX10_passSign_32 rfl) rfl
theorem dX10_passSign_50 : decode cX10_passSign 50 = .ok (.if_icmp .eq 16, 3) := z_o159 (z_wat (q := 32) (j := 18) zwX10_passSign_32 rfl) (z_wat (q := 32) (j := 19) zwX10_passSign_32 rfl) (z_wat (q := 32) (j := 20) zwX10_passSign_32 rfl) rfl
theorem dX10_passSign_53 : decode cX10_passSign 53 = .ok (.aload_n 0, 1) := z_o42 (z_wat (q := 32) (j := 21) zwX10_passSign_32 rfl)
theorem dX10_passSign_54 : decode cX10_passSign 54 = .ok (.aload_n 0, 1) := z_o42 (z_wat (q := 32) (j := 22) zwX10_passSign_32 rfl)
theorem dX10_passSign_55 : decode cX10_passSign 55 = .ok (.getfield 19, 3) := z_o180 (z_wat (q := 32) (j := 23) zwX10_passSign_32 rfl) (z_wat (q := 32) (j := 24) zwX10_passSign_32 rfl) (z_wat (q := 32) (j := 25) zwX10_passSign_32 rfl) rfl
theorem dX10_passSign_58 : decode cX10_passSign 58 = .ok (.invokevirtual 50, 3) := z_o182 (z_wat (q := 32) (j := 26) zwX10_passSign_32 rfl) (z_wat (q := 32) (j := 27) zwX10_passSign_32 rfl) (z_wat (q := 32) (j := 28) zwX10_passSign_32 rfl) rfl
theorem dX10_passSign_61 : decode cX10_passSign 61 = .ok (.bipush 62, 2) := z_o16 (z_wat (q := 32) (j := 29) zwX10_passSign_32 rfl) (z_wat (q := 32) (j := 30) zwX10_passSign_32 rfl) rfl
theorem dX10_passSign_63 : decode cX10_passSign 63 = .ok (.if_icmp .ne 34, 3) := z_o160 (z_wat (q := 32) (j := 31) zwX10_passSign_32 rfl) (z_wat (q := 32) (j := 32) zwX10_passSign_32 rfl) (z_wat (q := 32) (j := 33) zwX10_passSign_32 rfl) rfl
theorem zwX10_passSign_64 : ((cX10_passSign.data.toList.drop 64).take 34).map UInt8.toNat = [0, 34, 42, 89, 180, 0, 38, 17, 1, 0, 42, 42, 180, 0, 19, 182, 0, 50, 104, 96, 181, 0, 38, 42, 89, 180, 0, 19, 4, 96, 181, 0, 19, 177] := by decide +kernel
theorem dX10_passSign_66 : decode cX10_passSign 66 = .ok (.aload_n 0, 1) := z_o42 (z_wat (q := 64) (j := 2) zwX10_passSign_64 rfl)
theorem dX10_passSign_67 : decode cX10_passSign 67 = .ok (.dup, 1) := z_o89 (z_wat (q := 64) (j := 3) zwX10_passSign_64 rfl)
theorem dX10_passSign_68 : decode cX10_passSign 68 = .ok (.getfield 38, 3) := z_o180 (z_wat (q := 64) (j := 4) zwX10_passSign_64 rfl) (z_wat (q := 64) (j := 5) zwX10_passSign_64 rfl) (z_wat (q := 64) (j := 6) zwX10_passSign_64 rfl) rfl
theorem dX10_passSign_71 : decode cX10_passSign 71 = .ok (.sipush 256, 3) := z_o17 (z_wat (q := 64) (j := 7) zwX10_passSign_64 rfl) (z_wat (q := 64) (j := 8) zwX10_passSign_64 rfl) (z_wat (q := 64) (j := 9) zwX10_passSign_64 rfl) rfl
theorem dX10_passSign_74 : decode cX10_passSign 74 = .ok (.aload_n 0, 1) := z_o42 (z_wat (q := 64) (j := 10) zwX10_passSign_64 rfl)
theorem dX10_passSign_75 : decode cX10_passSign 75 = .ok (.aload_n 0, 1) := z_o42 (z_wat (q := 64) (j := 11) zwX10_passSign_64 rfl)
theorem dX10_passSign_76 : decode cX10_passSign 76 = .ok (.getfield 19, 3) := z_o180 (z_wat (q := 64) (j := 12) zwX10_passSign_64 rfl) (z_wat (q := 64) (j := 13) zwX10_passSign_64 rfl) (z_wat (q := 64) (j := 14) zwX10_passSign_64 rfl) rfl
theorem dX10_passSign_79 : decode cX10_passSign 79 = .ok (.invokevirtual 50, 3) := z_o182 (z_wat (q := 64) (j := 15) zwX10_passSign_64 rfl) (z_wat (q := 64) (j := 16) zwX10_passSign_64 rfl) (z_wat (q := 64) (j := 17) zwX10_passSign_64 rfl) rfl
theorem dX10_passSign_82 : decode cX10_passSign 82 = .ok (.imul, 1) := z_o104 (z_wat (q := 64) (j := 18) zwX10_passSign_64 rfl)
theorem dX10_passSign_83 : decode cX10_passSign 83 = .ok (.iadd, 1) := z_o96 (z_wat (q := 64) (j := 19) zwX10_passSign_64 rfl)
theorem dX10_passSign_84 : decode cX10_passSign 84 = .ok (.putfield 38, 3) := z_o181 (z_wat (q := 64) (j := 20) zwX10_passSign_64 rfl) (z_wat (q := 64) (j := 21) zwX10_passSign_64 rfl) (z_wat (q := 64) (j := 22) zwX10_passSign_64 rfl) rfl
theorem dX10_passSign_87 : decode cX10_passSign 87 = .ok (.aload_n 0, 1) := z_o42 (z_wat (q := 64) (j := 23) zwX10_passSign_64 rfl)
theorem dX10_passSign_88 : decode cX10_passSign 88 = .ok (.dup, 1) := z_o89 (z_wat (q := 64) (j := 24) zwX10_passSign_64 rfl)
theorem dX10_passSign_89 : decode cX10_passSign 89 = .ok (.getfield 19, 3) := z_o180 (z_wat (q := 64) (j := 25) zwX10_passSign_64 rfl) (z_wat (q := 64) (j := 26) zwX10_passSign_64 rfl) (z_wat (q := 64) (j := 27) zwX10_passSign_64 rfl) rfl
theorem dX10_passSign_92 : decode cX10_passSign 92 = .ok (.iconst 1, 1) := z_o4 (z_wat (q := 64) (j := 28) zwX10_passSign_64 rfl)
theorem dX10_passSign_93 : decode cX10_passSign 93 = .ok (.iadd, 1) := z_o96 (z_wat (q := 64) (j := 29) zwX10_passSign_64 rfl)
theorem dX10_passSign_94 : decode cX10_passSign 94 = .ok (.putfield 19, 3) := z_o181 (z_wat (q := 64) (j := 30) zwX10_passSign_64 rfl) (z_wat (q := 64) (j := 31) zwX10_passSign_64 rfl) (z_wat (q := 64) (j := 32) zwX10_passSign_64 rfl) rfl
theorem zwX10_passSign_96 : ((cX10_passSign.data.toList.drop 96).take 2).map UInt8.toNat = [19, 177] := by decide +kernel
theorem dX10_passSign_97 : decode cX10_passSign 97 = .ok (.return_, 1) := z_o177 (z_wat (q := 96) (j := 1) zwX10_passSign_96 rfl)
theorem zwX10_put_0 : ((cX10_put.data.toList.drop 0).take 34).map UInt8.toNat = [16, 24, 61, 28, 155, 0, 45, 42, 180, 0, 26, 17, 2, 188, 162, 0, 35, 42, 180, 0, 11, 42, 180, 0, 26, 27, 28, 124, 17, 0, 255, 126, 79, 42] := by decide +kernel
theorem dX10_put_0 : decode cX10_put 0 = .ok (.bipush 24, 2) := z_o16 (z_wat (q := 0) (j := 0) zwX10_put_0 rfl) (z_wat (q := 0) (j := 1) zwX10_put_0 rfl) rfl
theorem dX10_put_2 : decode cX10_put 2 = .ok (.istore_n 2, 1) := z_o61 (z_wat (q := 0) (j := 2) zwX10_put_0 rfl)
theorem dX10_put_3 : decode cX10_put 3 = .ok (.iload_n 2, 1) := z_o28 (z_wat (q := 0) (j := 3) zwX10_put_0 rfl)
theorem dX10_put_4 : decode cX10_put 4 = .ok (.ifCond .lt 45, 3) := z_o155 (z_wat (q := 0) (j := 4) zwX10_put_0 rfl) (z_wat (q := 0) (j := 5) zwX10_put_0 rfl) (z_wat (q := 0) (j := 6) zwX10_put_0 rfl) rfl
theorem dX10_put_7 : decode cX10_put 7 = .ok (.aload_n 0, 1) := z_o42 (z_wat (q := 0) (j := 7) zwX10_put_0 rfl)
theorem dX10_put_8 : decode cX10_put 8 = .ok (.getfield 26, 3) := z_o180 (z_wat (q := 0) (j := 8) zwX10_put_0 rfl) (z_wat (q := 0) (j := 9) zwX10_put_0 rfl) (z_wat (q := 0) (j := 10) zwX10_put_0 rfl) rfl
theorem dX10_put_11 : decode cX10_put 11 = .ok (.sipush 700, 3) := z_o17 (z_wat (q := 0) (j := 11) zwX10_put_0 rfl) (z_wat (q := 0) (j := 12) zwX10_put_0 rfl) (z_wat (q := 0) (j := 13) zwX10_put_0 rfl) rfl
theorem dX10_put_14 : decode cX10_put 14 = .ok (.if_icmp .ge 35, 3) := z_o162 (z_wat (q := 0) (j := 14) zwX10_put_0 rfl) (z_wat (q := 0) (j := 15) zwX10_put_0 rfl) (z_wat (q := 0) (j := 16) zwX10_put_0 rfl) rfl
theorem dX10_put_17 : decode cX10_put 17 = .ok (.aload_n 0, 1) := z_o42 (z_wat (q := 0) (j := 17) zwX10_put_0 rfl)
theorem dX10_put_18 : decode cX10_put 18 = .ok (.getfield 11, 3) := z_o180 (z_wat (q := 0) (j := 18) zwX10_put_0 rfl) (z_wat (q := 0) (j := 19) zwX10_put_0 rfl) (z_wat (q := 0) (j := 20) zwX10_put_0 rfl) rfl
theorem dX10_put_21 : decode cX10_put 21 = .ok (.aload_n 0, 1) := z_o42 (z_wat (q := 0) (j := 21) zwX10_put_0 rfl)
theorem dX10_put_22 : decode cX10_put 22 = .ok (.getfield 26, 3) := z_o180 (z_wat (q := 0) (j := 22) zwX10_put_0 rfl) (z_wat (q := 0) (j := 23) zwX10_put_0 rfl) (z_wat (q := 0) (j := 24) zwX10_put_0 rfl) rfl
theorem dX10_put_25 : decode cX10_put 25 = .ok (.iload_n 1, 1) := z_o27 (z_wat (q := 0) (j := 25) zwX10_put_0 rfl)
theorem dX10_put_26 : decode cX10_put 26 = .ok (.iload_n 2, 1) := z_o28 (z_wat (q := 0) (j := 26) zwX10_put_0 rfl)
theorem dX10_put_27 : decode cX10_put 27 = .ok (.iushr, 1) := z_o124 (z_wat (q := 0) (j := 27) zwX10_put_0 rfl)
theorem dX10_put_28 : decode cX10_put 28 = .ok (.sipush 255, 3) := z_o17 (z_wat (q := 0) (j := 28) zwX10_put_0 rfl) (z_wat (q := 0) (j := 29) zwX10_put_0 rfl) (z_wat (q := 0) (j := 30) zwX10_put_0 rfl) rfl
theorem dX10_put_31 : decode cX10_put 31 = .ok (.iand, 1) := z_o126 (z_wat (q := 0) (j := 31) zwX10_put_0 rfl)
theorem zwX10_put_32 : ((cX10_put.data.toList.drop 32).take 18).map UInt8.toNat = [79, 42, 89, 180, 0, 26, 4, 96, 181, 0, 26, 132, 2, 248, 167, 255, 213, 177] := by decide +kernel
theorem dX10_put_32 : decode cX10_put 32 = .ok (.iastore, 1) := z_o79 (z_wat (q := 32) (j := 0) zwX10_put_32 rfl)
theorem dX10_put_33 : decode cX10_put 33 = .ok (.aload_n 0, 1) := z_o42 (z_wat (q := 32) (j := 1) zwX10_put_32 rfl)
theorem dX10_put_34 : decode cX10_put 34 = .ok (.dup, 1) := z_o89 (z_wat (q := 32) (j := 2) zwX10_put_32 rfl)
theorem dX10_put_35 : decode cX10_put 35 = .ok (.getfield 26, 3) := z_o180 (z_wat (q := 32) (j := 3) zwX10_put_32 rfl) (z_wat (q := 32) (j := 4) zwX10_put_32 rfl) (z_wat (q := 32) (j := 5) zwX10_put_32 rfl) rfl
theorem dX10_put_38 : decode cX10_put 38 = .ok (.iconst 1, 1) := z_o4 (z_wat (q := 32) (j := 6) zwX10_put_32 rfl)
theorem dX10_put_39 : decode cX10_put 39 = .ok (.iadd, 1) := z_o96 (z_wat (q := 32) (j := 7) zwX10_put_32 rfl)
theorem dX10_put_40 : decode cX10_put 40 = .ok (.putfield 26, 3) := z_o181 (z_wat (q := 32) (j := 8) zwX10_put_32 rfl) (z_wat (q := 32) (j := 9) zwX10_put_32 rfl) (z_wat (q := 32) (j := 10) zwX10_put_32 rfl) rfl
theorem dX10_put_43 : decode cX10_put 43 = .ok (.iinc 2 (-8), 3) := z_o132 (z_wat (q := 32) (j := 11) zwX10_put_32 rfl) (z_wat (q := 32) (j := 12) zwX10_put_32 rfl) (z_wat (q := 32) (j := 13) zwX10_put_32 rfl) rfl
theorem dX10_put_46 : decode cX10_put 46 = .ok (.goto (-43), 3) := z_o167 (z_wat (q := 32) (j := 14) zwX10_put_32 rfl) (z_wat (q := 32) (j := 15) zwX10_put_32 rfl) (z_wat (q := 32) (j := 16) zwX10_put_32 rfl) rfl
theorem dX10_put_49 : decode cX10_put 49 = .ok (.return_, 1) := z_o177 (z_wat (q := 32) (j := 17) zwX10_put_32 rfl)
theorem zwX9_add_0 : ((cX9_add.data.toList.drop 0).take 34).map UInt8.toNat = [28, 155, 0, 31, 28, 16, 99, 163, 0, 25, 29, 155, 0, 21, 29, 16, 30, 163, 0, 15, 21, 4, 155, 0, 10, 21, 4, 16, 99, 164, 0, 5, 2, 172] := by decide +kernel
theorem dX9_add_0 : decode cX9_add 0 = .ok (.iload_n 2, 1) := z_o28 (z_wat (q := 0) (j := 0) zwX9_add_0 rfl)
theorem dX9_add_1 : decode cX9_add 1 = .ok (.ifCond .lt 31, 3) := z_o155 (z_wat (q := 0) (j := 1) zwX9_add_0 rfl) (z_wat (q := 0) (j := 2) zwX9_add_0 rfl) (z_wat (q := 0) (j := 3) zwX9_add_0 rfl) rfl
theorem dX9_add_4 : decode cX9_add 4 = .ok (.iload_n 2, 1) := z_o28 (z_wat (q := 0) (j := 4) zwX9_add_0 rfl)
theorem dX9_add_5 : decode cX9_add 5 = .ok (.bipush 99, 2) := z_o16 (z_wat (q := 0) (j := 5) zwX9_add_0 rfl) (z_wat (q := 0) (j := 6) zwX9_add_0 rfl) rfl
theorem dX9_add_7 : decode cX9_add 7 = .ok (.if_icmp .gt 25, 3) := z_o163 (z_wat (q := 0) (j := 7) zwX9_add_0 rfl) (z_wat (q := 0) (j := 8) zwX9_add_0 rfl) (z_wat (q := 0) (j := 9) zwX9_add_0 rfl) rfl
theorem dX9_add_10 : decode cX9_add 10 = .ok (.iload_n 3, 1) := z_o29 (z_wat (q := 0) (j := 10) zwX9_add_0 rfl)
theorem dX9_add_11 : decode cX9_add 11 = .ok (.ifCond .lt 21, 3) := z_o155 (z_wat (q := 0) (j := 11) zwX9_add_0 rfl) (z_wat (q := 0) (j := 12) zwX9_add_0 rfl) (z_wat (q := 0) (j := 13) zwX9_add_0 rfl) rfl
theorem dX9_add_14 : decode cX9_add 14 = .ok (.iload_n 3, 1) := z_o29 (z_wat (q := 0) (j := 14) zwX9_add_0 rfl)
theorem dX9_add_15 : decode cX9_add 15 = .ok (.bipush 30, 2) := z_o16 (z_wat (q := 0) (j := 15) zwX9_add_0 rfl) (z_wat (q := 0) (j := 16) zwX9_add_0 rfl) rfl
theorem dX9_add_17 : decode cX9_add 17 = .ok (.if_icmp .gt 15, 3) := z_o163 (z_wat (q := 0) (j := 17) zwX9_add_0 rfl) (z_wat (q := 0) (j := 18) zwX9_add_0 rfl) (z_wat (q := 0) (j := 19) zwX9_add_0 rfl) rfl
theorem dX9_add_20 : decode cX9_add 20 = .ok (.iload 4, 2) := z_o21 (z_wat (q := 0) (j := 20) zwX9_add_0 rfl) (z_wat (q := 0) (j := 21) zwX9_add_0 rfl)
theorem dX9_add_22 : decode cX9_add 22 = .ok (.ifCond .lt 10, 3) := z_o155 (z_wat (q := 0) (j := 22) zwX9_add_0 rfl) (z_wat (q := 0) (j := 23) zwX9_add_0 rfl) (z_wat (q := 0) (j := 24) zwX9_add_0 rfl) rfl
theorem dX9_add_25 : decode cX9_add 25 = .ok (.iload 4, 2) := z_o21 (z_wat (q := 0) (j := 25) zwX9_add_0 rfl) (z_wat (q := 0) (j := 26) zwX9_add_0 rfl)
theorem dX9_add_27 : decode cX9_add 27 = .ok (.bipush 99, 2) := z_o16 (z_wat (q := 0) (j := 27) zwX9_add_0 rfl) (z_wat (q := 0) (j := 28) zwX9_add_0 rfl) rfl
theorem dX9_add_29 : decode cX9_add 29 = .ok (.if_icmp .le 5, 3) := z_o164 (z_wat (q := 0) (j := 29) zwX9_add_0 rfl) (z_wat (q := 0) (j := 30) zwX9_add_0 rfl) (z_wat (q := 0) (j := 31) zwX9_add_0 rfl) rfl
theorem zwX9_add_32 : ((cX9_add.data.toList.drop 32).take 34).map UInt8.toNat = [2, 172, 42, 180, 0, 21, 17, 0, 200, 161, 0, 5, 2, 172, 42, 180, 0, 11, 42, 180, 0, 21, 27, 79, 42, 180, 0, 15, 42, 180, 0, 21, 6, 104] := by decide +kernel
theorem dX9_add_32 : decode cX9_add 32 = .ok (.iconst (-1), 1) := z_o2 (z_wat (q := 32) (j := 0) zwX9_add_32 rfl)
theorem dX9_add_33 : decode cX9_add 33 = .ok (.ireturn, 1) := z_o172 (z_wat (q := 32) (j := 1) zwX9_add_32 rfl)
theorem dX9_add_34 : decode cX9_add 34 = .ok (.aload_n 0, 1) := z_o42 (z_wat (q := 32) (j := 2) zwX9_add_32 rfl)
theorem dX9_add_35 : decode cX9_add 35 = .ok (.getfield 21, 3) := z_o180 (z_wat (q := 32) (j := 3) zwX9_add_32 rfl) (z_wat (q := 32) (j := 4) zwX9_add_32 rfl) (z_wat (q := 32) (j := 5) zwX9_add_32 rfl) rfl
theorem dX9_add_38 : decode cX9_add 38 = .ok (.sipush 200, 3) := z_o17 (z_wat (q := 32) (j := 6) zwX9_add_32 rfl) (z_wat (q := 32) (j := 7) zwX9_add_32 rfl) (z_wat (q := 32) (j := 8) zwX9_add_32 rfl) rfl
theorem dX9_add_41 : decode cX9_add 41 = .ok (.if_icmp .lt 5, 3) := z_o161 (z_wat (q := 32) (j := 9) zwX9_add_32 rfl) (z_wat (q := 32) (j := 10) zwX9_add_32 rfl) (z_wat (q := 32) (j := 11) zwX9_add_32 rfl) rfl
theorem dX9_add_44 : decode cX9_add 44 = .ok (.iconst (-1), 1) := z_o2 (z_wat (q := 32) (j := 12) zwX9_add_32 rfl)
theorem dX9_add_45 : decode cX9_add 45 = .ok (.ireturn, 1) := z_o172 (z_wat (q := 32) (j := 13) zwX9_add_32 rfl)
theorem dX9_add_46 : decode cX9_add 46 = .ok (.aload_n 0, 1) := z_o42 (z_wat (q := 32) (j := 14) zwX9_add_32 rfl)
theorem dX9_add_47 : decode cX9_add 47 = .ok (.getfield 11, 3) := z_o180 (z_wat (q := 32) (j := 15) zwX9_add_32 rfl) (z_wat (q := 32) (j := 16) zwX9_add_32 rfl) (z_wat (q := 32) (j := 17) zwX9_add_32 rfl) rfl
theorem dX9_add_50 : decode cX9_add 50 = .ok (.aload_n 0, 1) := z_o42 (z_wat (q := 32) (j := 18) zwX9_add_32 rfl)
theorem dX9_add_51 : decode cX9_add 51 = .ok (.getfield 21, 3) := z_o180 (z_wat (q := 32) (j := 19) zwX9_add_32 rfl) (z_wat (q := 32) (j := 20) zwX9_add_32 rfl) (z_wat (q := 32) (j := 21) zwX9_add_32 rfl) rfl
theorem dX9_add_54 : decode cX9_add 54 = .ok (.iload_n 1, 1) := z_o27 (z_wat (q := 32) (j := 22) zwX9_add_32 rfl)
theorem dX9_add_55 : decode cX9_add 55 = .ok (.iastore, 1) := z_o79 (z_wat (q := 32) (j := 23) zwX9_add_32 rfl)
theorem dX9_add_56 : decode cX9_add 56 = .ok (.aload_n 0, 1) := z_o42 (z_wat (q := 32) (j := 24) zwX9_add_32 rfl)
theorem dX9_add_57 : decode cX9_add 57 = .ok (.getfield 15, 3) := z_o180 (z_wat (q := 32) (j := 25) zwX9_add_32 rfl) (z_wat (q := 32) (j := 26) zwX9_add_32 rfl) (z_wat (q := 32) (j := 27) zwX9_add_32 rfl) rfl
theorem dX9_add_60 : decode cX9_add 60 = .ok (.aload_n 0, 1) := z_o42 (z_wat (q := 32) (j := 28) zwX9_add_32 rfl)
theorem dX9_add_61 : decode cX9_add 61 = .ok (.getfield 21, 3) := z_o180 (z_wat (q := 32) (j := 29) zwX9_add_32 rfl) (z_wat (q := 32) (j := 30) zwX9_add_32 rfl) (z_wat (q := 32) (j := 31) zwX9_add_32 rfl) rfl
theorem zwX9_add_64 : ((cX9_add.data.toList.drop 64).take 34).map UInt8.toNat = [6, 104, 28, 79, 42, 180, 0, 15, 42, 180, 0, 21, 6, 104, 4, 96, 29, 79, 42, 180, 0, 15, 42, 180, 0, 21, 6, 104, 5, 96, 21, 4, 79, 42] := by decide +kernel
theorem dX9_add_64 : decode cX9_add 64 = .ok (.iconst 3, 1) := z_o6 (z_wat (q := 64) (j := 0) zwX9_add_64 rfl)
theorem dX9_add_65 : decode cX9_add 65 = .ok (.imul, 1) := z_o104 (z_wat (q := 64) (j := 1) zwX9_add_64 rfl)
theorem dX9_add_66 : decode cX9_add 66 = .ok (.iload_n 2, 1) := z_o28 (z_wat (q := 64) (j := 2) zwX9_add_64 rfl)
theorem dX9_add_67 : decode cX9_add 67 = .ok (.iastore, 1) := z_o79 (z_wat (q := 64) (j := 3) zwX9_add_64 rfl)
theorem dX9_add_68 : decode cX9_add 68 = .ok (.aload_n 0, 1) := z_o42 (z_wat (q := 64) (j := 4) zwX9_add_64 rfl)
theorem dX9_add_69 : decode cX9_add 69 = .ok (.getfield 15, 3) := z_o180 (z_wat (q := 64) (j := 5) zwX9_add_64 rfl) (z_wat (q := 64) (j := 6) zwX9_add_64 rfl) (z_wat (q := 64) (j := 7) zwX9_add_64 rfl) rfl
theorem dX9_add_72 : decode cX9_add 72 = .ok (.aload_n 0, 1) := z_o42 (z_wat (q := 64) (j := 8) zwX9_add_64 rfl)
theorem dX9_add_73 : decode cX9_add 73 = .ok (.getfield 21, 3) := z_o180 (z_wat (q := 64) (j := 9) zwX9_add_64 rfl) (z_wat (q := 64) (j := 10) zwX9_add_64 rfl) (z_wat (q := 64) (j := 11) zwX9_add_64 rfl) rfl
theorem dX9_add_76 : decode cX9_add 76 = .ok (.iconst 3, 1) := z_o6 (z_wat (q := 64) (j := 12) zwX9_add_64 rfl)
theorem dX9_add_77 : decode cX9_add 77 = .ok (.imul, 1) := z_o104 (z_wat (q := 64) (j := 13) zwX9_add_64 rfl)
theorem dX9_add_78 : decode cX9_add 78 = .ok (.iconst 1, 1) := z_o4 (z_wat (q := 64) (j := 14) zwX9_add_64 rfl)
theorem dX9_add_79 : decode cX9_add 79 = .ok (.iadd, 1) := z_o96 (z_wat (q := 64) (j := 15) zwX9_add_64 rfl)
theorem dX9_add_80 : decode cX9_add 80 = .ok (.iload_n 3, 1) := z_o29 (z_wat (q := 64) (j := 16) zwX9_add_64 rfl)
theorem dX9_add_81 : decode cX9_add 81 = .ok (.iastore, 1) := z_o79 (z_wat (q := 64) (j := 17) zwX9_add_64 rfl)
theorem dX9_add_82 : decode cX9_add 82 = .ok (.aload_n 0, 1) := z_o42 (z_wat (q := 64) (j := 18) zwX9_add_64 rfl)
theorem dX9_add_83 : decode cX9_add 83 = .ok (.getfield 15, 3) := z_o180 (z_wat (q := 64) (j := 19) zwX9_add_64 rfl) (z_wat (q := 64) (j := 20) zwX9_add_64 rfl) (z_wat (q := 64) (j := 21) zwX9_add_64 rfl) rfl
theorem dX9_add_86 : decode cX9_add 86 = .ok (.aload_n 0, 1) := z_o42 (z_wat (q := 64) (j := 22) zwX9_add_64 rfl)
theorem dX9_add_87 : decode cX9_add 87 = .ok (.getfield 21, 3) := z_o180 (z_wat (q := 64) (j := 23) zwX9_add_64 rfl) (z_wat (q := 64) (j := 24) zwX9_add_64 rfl) (z_wat (q := 64) (j := 25) zwX9_add_64 rfl) rfl
theorem dX9_add_90 : decode cX9_add 90 = .ok (.iconst 3, 1) := z_o6 (z_wat (q := 64) (j := 26) zwX9_add_64 rfl)
theorem dX9_add_91 : decode cX9_add 91 = .ok (.imul, 1) := z_o104 (z_wat (q := 64) (j := 27) zwX9_add_64 rfl)
theorem dX9_add_92 : decode cX9_add 92 = .ok (.iconst 2, 1) := z_o5 (z_wat (q := 64) (j := 28) zwX9_add_64 rfl)
theorem dX9_add_93 : decode cX9_add 93 = .ok (.iadd, 1) := z_o96 (z_wat (q := 64) (j := 29) zwX9_add_64 rfl)
theorem dX9_add_94 : decode cX9_add 94 = .ok (.iload 4, 2) := z_o21 (z_wat (q := 64) (j := 30) zwX9_add_64 rfl) (z_wat (q := 64) (j := 31) zwX9_add_64 rfl)
theorem zwX9_add_96 : ((cX9_add.data.toList.drop 96).take 16).map UInt8.toNat = [79, 42, 89, 180, 0, 21, 4, 96, 181, 0, 21, 42, 180, 0, 21, 172] := by decide +kernel
theorem dX9_add_96 : decode cX9_add 96 = .ok (.iastore, 1) := z_o79 (z_wat (q := 96) (j := 0) zwX9_add_96 rfl)
theorem dX9_add_97 : decode cX9_add 97 = .ok (.aload_n 0, 1) := z_o42 (z_wat (q := 96) (j := 1) zwX9_add_96 rfl)
theorem dX9_add_98 : decode cX9_add 98 = .ok (.dup, 1) := z_o89 (z_wat (q := 96) (j := 2) zwX9_add_96 rfl)
theorem dX9_add_99 : decode cX9_add 99 = .ok (.getfield 21, 3) := z_o180 (z_wat (q := 96) (j := 3) zwX9_add_96 rfl) (z_wat (q := 96) (j := 4) zwX9_add_96 rfl) (z_wat (q := 96) (j := 5) zwX9_add_96 rfl) rfl
theorem dX9_add_102 : decode cX9_add 102 = .ok (.iconst 1, 1) := z_o4 (z_wat (q := 96) (j := 6) zwX9_add_96 rfl)
theorem dX9_add_103 : decode cX9_add 103 = .ok (.iadd, 1) := z_o96 (z_wat (q := 96) (j := 7) zwX9_add_96 rfl)
theorem dX9_add_104 : decode cX9_add 104 = .ok (.putfield 21, 3) := z_o181 (z_wat (q := 96) (j := 8) zwX9_add_96 rfl) (z_wat (q := 96) (j := 9) zwX9_add_96 rfl) (z_wat (q := 96) (j := 10) zwX9_add_96 rfl) rfl
theorem dX9_add_107 : decode cX9_add 107 = .ok (.aload_n 0, 1) := z_o42 (z_wat (q := 96) (j := 11) zwX9_add_96 rfl)
theorem dX9_add_108 : decode cX9_add 108 = .ok (.getfield 21, 3) := z_o180 (z_wat (q := 96) (j := 12) zwX9_add_96 rfl) (z_wat (q := 96) (j := 13) zwX9_add_96 rfl) (z_wat (q := 96) (j := 14) zwX9_add_96 rfl) rfl
theorem dX9_add_111 : decode cX9_add 111 = .ok (.ireturn, 1) := z_o172 (z_wat (q := 96) (j := 15) zwX9_add_96 rfl)
theorem zwX9_measuredIn_0 : ((cX9_measuredIn.data.toList.drop 0).take 33).map UInt8.toNat = [3, 61, 3, 62, 29, 42, 180, 0, 21, 162, 0, 22, 28, 27, 42, 180, 0, 11, 29, 46, 122, 4, 126, 96, 61, 132, 3, 1, 167, 255, 232, 28, 172] := by decide +kernel
theorem dX9_measuredIn_0 : decode cX9_measuredIn 0 = .ok (.iconst 0, 1) := z_o3 (z_wat (q := 0) (j := 0) zwX9_measuredIn_0 rfl)
theorem dX9_measuredIn_1 : decode cX9_measuredIn 1 = .ok (.istore_n 2, 1) := z_o61 (z_wat (q := 0) (j := 1) zwX9_measuredIn_0 rfl)
theorem dX9_measuredIn_2 : decode cX9_measuredIn 2 = .ok (.iconst 0, 1) := z_o3 (z_wat (q := 0) (j := 2) zwX9_measuredIn_0 rfl)
theorem dX9_measuredIn_3 : decode cX9_measuredIn 3 = .ok (.istore_n 3, 1) := z_o62 (z_wat (q := 0) (j := 3) zwX9_measuredIn_0 rfl)
theorem dX9_measuredIn_4 : decode cX9_measuredIn 4 = .ok (.iload_n 3, 1) := z_o29 (z_wat (q := 0) (j := 4) zwX9_measuredIn_0 rfl)
theorem dX9_measuredIn_5 : decode cX9_measuredIn 5 = .ok (.aload_n 0, 1) := z_o42 (z_wat (q := 0) (j := 5) zwX9_measuredIn_0 rfl)
theorem dX9_measuredIn_6 : decode cX9_measuredIn 6 = .ok (.getfield 21, 3) := z_o180 (z_wat (q := 0) (j := 6) zwX9_measuredIn_0 rfl) (z_wat (q := 0) (j := 7) zwX9_measuredIn_0 rfl) (z_wat (q := 0) (j := 8) zwX9_measuredIn_0 rfl) rfl
theorem dX9_measuredIn_9 : decode cX9_measuredIn 9 = .ok (.if_icmp .ge 22, 3) := z_o162 (z_wat (q := 0) (j := 9) zwX9_measuredIn_0 rfl) (z_wat (q := 0) (j := 10) zwX9_measuredIn_0 rfl) (z_wat (q := 0) (j := 11) zwX9_measuredIn_0 rfl) rfl
theorem dX9_measuredIn_12 : decode cX9_measuredIn 12 = .ok (.iload_n 2, 1) := z_o28 (z_wat (q := 0) (j := 12) zwX9_measuredIn_0 rfl)
theorem dX9_measuredIn_13 : decode cX9_measuredIn 13 = .ok (.iload_n 1, 1) := z_o27 (z_wat (q := 0) (j := 13) zwX9_measuredIn_0 rfl)
theorem dX9_measuredIn_14 : decode cX9_measuredIn 14 = .ok (.aload_n 0, 1) := z_o42 (z_wat (q := 0) (j := 14) zwX9_measuredIn_0 rfl)
theorem dX9_measuredIn_15 : decode cX9_measuredIn 15 = .ok (.getfield 11, 3) := z_o180 (z_wat (q := 0) (j := 15) zwX9_measuredIn_0 rfl) (z_wat (q := 0) (j := 16) zwX9_measuredIn_0 rfl) (z_wat (q := 0) (j := 17) zwX9_measuredIn_0 rfl) rfl
theorem dX9_measuredIn_18 : decode cX9_measuredIn 18 = .ok (.iload_n 3, 1) := z_o29 (z_wat (q := 0) (j := 18) zwX9_measuredIn_0 rfl)
theorem dX9_measuredIn_19 : decode cX9_measuredIn 19 = .ok (.iaload, 1) := z_o46 (z_wat (q := 0) (j := 19) zwX9_measuredIn_0 rfl)
theorem dX9_measuredIn_20 : decode cX9_measuredIn 20 = .ok (.ishr, 1) := z_o122 (z_wat (q := 0) (j := 20) zwX9_measuredIn_0 rfl)
theorem dX9_measuredIn_21 : decode cX9_measuredIn 21 = .ok (.iconst 1, 1) := z_o4 (z_wat (q := 0) (j := 21) zwX9_measuredIn_0 rfl)
theorem dX9_measuredIn_22 : decode cX9_measuredIn 22 = .ok (.iand, 1) := z_o126 (z_wat (q := 0) (j := 22) zwX9_measuredIn_0 rfl)
theorem dX9_measuredIn_23 : decode cX9_measuredIn 23 = .ok (.iadd, 1) := z_o96 (z_wat (q := 0) (j := 23) zwX9_measuredIn_0 rfl)
theorem dX9_measuredIn_24 : decode cX9_measuredIn 24 = .ok (.istore_n 2, 1) := z_o61 (z_wat (q := 0) (j := 24) zwX9_measuredIn_0 rfl)
theorem dX9_measuredIn_25 : decode cX9_measuredIn 25 = .ok (.iinc 3 1, 3) := z_o132 (z_wat (q := 0) (j := 25) zwX9_measuredIn_0 rfl) (z_wat (q := 0) (j := 26) zwX9_measuredIn_0 rfl) (z_wat (q := 0) (j := 27) zwX9_measuredIn_0 rfl) rfl
theorem dX9_measuredIn_28 : decode cX9_measuredIn 28 = .ok (.goto (-24), 3) := z_o167 (z_wat (q := 0) (j := 28) zwX9_measuredIn_0 rfl) (z_wat (q := 0) (j := 29) zwX9_measuredIn_0 rfl) (z_wat (q := 0) (j := 30) zwX9_measuredIn_0 rfl) rfl
theorem dX9_measuredIn_31 : decode cX9_measuredIn 31 = .ok (.iload_n 2, 1) := z_o28 (z_wat (q := 0) (j := 31) zwX9_measuredIn_0 rfl)
theorem zwX9_measuredIn_32 : ((cX9_measuredIn.data.toList.drop 32).take 1).map UInt8.toNat = [172] := by decide +kernel
theorem dX9_measuredIn_32 : decode cX9_measuredIn 32 = .ok (.ireturn, 1) := z_o172 (z_wat (q := 32) (j := 0) zwX9_measuredIn_32 rfl)
theorem zwX9_middleOf_0 : ((cX9_middleOf.data.toList.drop 0).take 34).map UInt8.toNat = [3, 62, 29, 16, 99, 163, 0, 16, 42, 180, 0, 18, 29, 3, 79, 132, 3, 1, 167, 255, 240, 3, 62, 29, 42, 180, 0, 21, 162, 0, 37, 42, 180, 0] := by decide +kernel
theorem dX9_middleOf_0 : decode cX9_middleOf 0 = .ok (.iconst 0, 1) := z_o3 (z_wat (q := 0) (j := 0) zwX9_middleOf_0 rfl)
theorem dX9_middleOf_1 : decode cX9_middleOf 1 = .ok (.istore_n 3, 1) := z_o62 (z_wat (q := 0) (j := 1) zwX9_middleOf_0 rfl)
theorem dX9_middleOf_2 : decode cX9_middleOf 2 = .ok (.iload_n 3, 1) := z_o29 (z_wat (q := 0) (j := 2) zwX9_middleOf_0 rfl)
theorem dX9_middleOf_3 : decode cX9_middleOf 3 = .ok (.bipush 99, 2) := z_o16 (z_wat (q := 0) (j := 3) zwX9_middleOf_0 rfl) (z_wat (q := 0) (j := 4) zwX9_middleOf_0 rfl) rfl
theorem dX9_middleOf_5 : decode cX9_middleOf 5 = .ok (.if_icmp .gt 16, 3) := z_o163 (z_wat (q := 0) (j := 5) zwX9_middleOf_0 rfl) (z_wat (q := 0) (j := 6) zwX9_middleOf_0 rfl) (z_wat (q := 0) (j := 7) zwX9_middleOf_0 rfl) rfl
theorem dX9_middleOf_8 : decode cX9_middleOf 8 = .ok (.aload_n 0, 1) := z_o42 (z_wat (q := 0) (j := 8) zwX9_middleOf_0 rfl)
theorem dX9_middleOf_9 : decode cX9_middleOf 9 = .ok (.getfield 18, 3) := z_o180 (z_wat (q := 0) (j := 9) zwX9_middleOf_0 rfl) (z_wat (q := 0) (j := 10) zwX9_middleOf_0 rfl) (z_wat (q := 0) (j := 11) zwX9_middleOf_0 rfl) rfl
theorem dX9_middleOf_12 : decode cX9_middleOf 12 = .ok (.iload_n 3, 1) := z_o29 (z_wat (q := 0) (j := 12) zwX9_middleOf_0 rfl)
theorem dX9_middleOf_13 : decode cX9_middleOf 13 = .ok (.iconst 0, 1) := z_o3 (z_wat (q := 0) (j := 13) zwX9_middleOf_0 rfl)
theorem dX9_middleOf_14 : decode cX9_middleOf 14 = .ok (.iastore, 1) := z_o79 (z_wat (q := 0) (j := 14) zwX9_middleOf_0 rfl)
theorem dX9_middleOf_15 : decode cX9_middleOf 15 = .ok (.iinc 3 1, 3) := z_o132 (z_wat (q := 0) (j := 15) zwX9_middleOf_0 rfl) (z_wat (q := 0) (j := 16) zwX9_middleOf_0 rfl) (z_wat (q := 0) (j := 17) zwX9_middleOf_0 rfl) rfl
theorem dX9_middleOf_18 : decode cX9_middleOf 18 = .ok (.goto (-16), 3) := z_o167 (z_wat (q := 0) (j := 18) zwX9_middleOf_0 rfl) (z_wat (q := 0) (j := 19) zwX9_middleOf_0 rfl) (z_wat (q := 0) (j := 20) zwX9_middleOf_0 rfl) rfl
theorem dX9_middleOf_21 : decode cX9_middleOf 21 = .ok (.iconst 0, 1) := z_o3 (z_wat (q := 0) (j := 21) zwX9_middleOf_0 rfl)
theorem dX9_middleOf_22 : decode cX9_middleOf 22 = .ok (.istore_n 3, 1) := z_o62 (z_wat (q := 0) (j := 22) zwX9_middleOf_0 rfl)
theorem dX9_middleOf_23 : decode cX9_middleOf 23 = .ok (.iload_n 3, 1) := z_o29 (z_wat (q := 0) (j := 23) zwX9_middleOf_0 rfl)
theorem dX9_middleOf_24 : decode cX9_middleOf 24 = .ok (.aload_n 0, 1) := z_o42 (z_wat (q := 0) (j := 24) zwX9_middleOf_0 rfl)
theorem dX9_middleOf_25 : decode cX9_middleOf 25 = .ok (.getfield 21, 3) := z_o180 (z_wat (q := 0) (j := 25) zwX9_middleOf_0 rfl) (z_wat (q := 0) (j := 26) zwX9_middleOf_0 rfl) (z_wat (q := 0) (j := 27) zwX9_middleOf_0 rfl) rfl
theorem dX9_middleOf_28 : decode cX9_middleOf 28 = .ok (.if_icmp .ge 37, 3) := z_o162 (z_wat (q := 0) (j := 28) zwX9_middleOf_0 rfl) (z_wat (q := 0) (j := 29) zwX9_middleOf_0 rfl) (z_wat (q := 0) (j := 30) zwX9_middleOf_0 rfl) rfl
theorem dX9_middleOf_31 : decode cX9_middleOf 31 = .ok (.aload_n 0, 1) := z_o42 (z_wat (q := 0) (j := 31) zwX9_middleOf_0 rfl)
theorem zwX9_middleOf_32 : ((cX9_middleOf.data.toList.drop 32).take 34).map UInt8.toNat = [180, 0, 18, 42, 180, 0, 15, 29, 6, 104, 28, 96, 46, 92, 46, 27, 42, 180, 0, 11, 29, 46, 122, 4, 126, 96, 79, 132, 3, 1, 167, 255, 217, 42] := by decide +kernel
theorem dX9_middleOf_32 : decode cX9_middleOf 32 = .ok (.getfield 18, 3) := z_o180 (z_wat (q := 32) (j := 0) zwX9_middleOf_32 rfl) (z_wat (q := 32) (j := 1) zwX9_middleOf_32 rfl) (z_wat (q := 32) (j := 2) zwX9_middleOf_32 rfl) rfl
theorem dX9_middleOf_35 : decode cX9_middleOf 35 = .ok (.aload_n 0, 1) := z_o42 (z_wat (q := 32) (j := 3) zwX9_middleOf_32 rfl)
theorem dX9_middleOf_36 : decode cX9_middleOf 36 = .ok (.getfield 15, 3) := z_o180 (z_wat (q := 32) (j := 4) zwX9_middleOf_32 rfl) (z_wat (q := 32) (j := 5) zwX9_middleOf_32 rfl) (z_wat (q := 32) (j := 6) zwX9_middleOf_32 rfl) rfl
theorem dX9_middleOf_39 : decode cX9_middleOf 39 = .ok (.iload_n 3, 1) := z_o29 (z_wat (q := 32) (j := 7) zwX9_middleOf_32 rfl)
theorem dX9_middleOf_40 : decode cX9_middleOf 40 = .ok (.iconst 3, 1) := z_o6 (z_wat (q := 32) (j := 8) zwX9_middleOf_32 rfl)
theorem dX9_middleOf_41 : decode cX9_middleOf 41 = .ok (.imul, 1) := z_o104 (z_wat (q := 32) (j := 9) zwX9_middleOf_32 rfl)
theorem dX9_middleOf_42 : decode cX9_middleOf 42 = .ok (.iload_n 2, 1) := z_o28 (z_wat (q := 32) (j := 10) zwX9_middleOf_32 rfl)
theorem dX9_middleOf_43 : decode cX9_middleOf 43 = .ok (.iadd, 1) := z_o96 (z_wat (q := 32) (j := 11) zwX9_middleOf_32 rfl)
theorem dX9_middleOf_44 : decode cX9_middleOf 44 = .ok (.iaload, 1) := z_o46 (z_wat (q := 32) (j := 12) zwX9_middleOf_32 rfl)
theorem dX9_middleOf_45 : decode cX9_middleOf 45 = .ok (.dup2, 1) := z_o92 (z_wat (q := 32) (j := 13) zwX9_middleOf_32 rfl)
theorem dX9_middleOf_46 : decode cX9_middleOf 46 = .ok (.iaload, 1) := z_o46 (z_wat (q := 32) (j := 14) zwX9_middleOf_32 rfl)
theorem dX9_middleOf_47 : decode cX9_middleOf 47 = .ok (.iload_n 1, 1) := z_o27 (z_wat (q := 32) (j := 15) zwX9_middleOf_32 rfl)
theorem dX9_middleOf_48 : decode cX9_middleOf 48 = .ok (.aload_n 0, 1) := z_o42 (z_wat (q := 32) (j := 16) zwX9_middleOf_32 rfl)
theorem dX9_middleOf_49 : decode cX9_middleOf 49 = .ok (.getfield 11, 3) := z_o180 (z_wat (q := 32) (j := 17) zwX9_middleOf_32 rfl) (z_wat (q := 32) (j := 18) zwX9_middleOf_32 rfl) (z_wat (q := 32) (j := 19) zwX9_middleOf_32 rfl) rfl
theorem dX9_middleOf_52 : decode cX9_middleOf 52 = .ok (.iload_n 3, 1) := z_o29 (z_wat (q := 32) (j := 20) zwX9_middleOf_32 rfl)
theorem dX9_middleOf_53 : decode cX9_middleOf 53 = .ok (.iaload, 1) := z_o46 (z_wat (q := 32) (j := 21) zwX9_middleOf_32 rfl)
theorem dX9_middleOf_54 : decode cX9_middleOf 54 = .ok (.ishr, 1) := z_o122 (z_wat (q := 32) (j := 22) zwX9_middleOf_32 rfl)
theorem dX9_middleOf_55 : decode cX9_middleOf 55 = .ok (.iconst 1, 1) := z_o4 (z_wat (q := 32) (j := 23) zwX9_middleOf_32 rfl)
theorem dX9_middleOf_56 : decode cX9_middleOf 56 = .ok (.iand, 1) := z_o126 (z_wat (q := 32) (j := 24) zwX9_middleOf_32 rfl)
theorem dX9_middleOf_57 : decode cX9_middleOf 57 = .ok (.iadd, 1) := z_o96 (z_wat (q := 32) (j := 25) zwX9_middleOf_32 rfl)
theorem dX9_middleOf_58 : decode cX9_middleOf 58 = .ok (.iastore, 1) := z_o79 (z_wat (q := 32) (j := 26) zwX9_middleOf_32 rfl)
theorem dX9_middleOf_59 : decode cX9_middleOf 59 = .ok (.iinc 3 1, 3) := z_o132 (z_wat (q := 32) (j := 27) zwX9_middleOf_32 rfl) (z_wat (q := 32) (j := 28) zwX9_middleOf_32 rfl) (z_wat (q := 32) (j := 29) zwX9_middleOf_32 rfl) rfl
theorem dX9_middleOf_62 : decode cX9_middleOf 62 = .ok (.goto (-39), 3) := z_o167 (z_wat (q := 32) (j := 30) zwX9_middleOf_32 rfl) (z_wat (q := 32) (j := 31) zwX9_middleOf_32 rfl) (z_wat (q := 32) (j := 32) zwX9_middleOf_32 rfl) rfl
theorem zwX9_middleOf_64 : ((cX9_middleOf.data.toList.drop 64).take 34).map UInt8.toNat = [217, 42, 27, 182, 0, 25, 4, 96, 5, 108, 62, 29, 154, 0, 5, 2, 172, 3, 54, 4, 21, 4, 16, 99, 163, 0, 26, 29, 42, 180, 0, 18, 21, 4] := by decide +kernel
theorem dX9_middleOf_65 : decode cX9_middleOf 65 = .ok (.aload_n 0, 1) := z_o42 (z_wat (q := 64) (j := 1) zwX9_middleOf_64 rfl)
theorem dX9_middleOf_66 : decode cX9_middleOf 66 = .ok (.iload_n 1, 1) := z_o27 (z_wat (q := 64) (j := 2) zwX9_middleOf_64 rfl)
theorem dX9_middleOf_67 : decode cX9_middleOf 67 = .ok (.invokevirtual 25, 3) := z_o182 (z_wat (q := 64) (j := 3) zwX9_middleOf_64 rfl) (z_wat (q := 64) (j := 4) zwX9_middleOf_64 rfl) (z_wat (q := 64) (j := 5) zwX9_middleOf_64 rfl) rfl
theorem dX9_middleOf_70 : decode cX9_middleOf 70 = .ok (.iconst 1, 1) := z_o4 (z_wat (q := 64) (j := 6) zwX9_middleOf_64 rfl)
theorem dX9_middleOf_71 : decode cX9_middleOf 71 = .ok (.iadd, 1) := z_o96 (z_wat (q := 64) (j := 7) zwX9_middleOf_64 rfl)
theorem dX9_middleOf_72 : decode cX9_middleOf 72 = .ok (.iconst 2, 1) := z_o5 (z_wat (q := 64) (j := 8) zwX9_middleOf_64 rfl)
theorem dX9_middleOf_73 : decode cX9_middleOf 73 = .ok (.idiv, 1) := z_o108 (z_wat (q := 64) (j := 9) zwX9_middleOf_64 rfl)
theorem dX9_middleOf_74 : decode cX9_middleOf 74 = .ok (.istore_n 3, 1) := z_o62 (z_wat (q := 64) (j := 10) zwX9_middleOf_64 rfl)
theorem dX9_middleOf_75 : decode cX9_middleOf 75 = .ok (.iload_n 3, 1) := z_o29 (z_wat (q := 64) (j := 11) zwX9_middleOf_64 rfl)
theorem dX9_middleOf_76 : decode cX9_middleOf 76 = .ok (.ifCond .ne 5, 3) := z_o154 (z_wat (q := 64) (j := 12) zwX9_middleOf_64 rfl) (z_wat (q := 64) (j := 13) zwX9_middleOf_64 rfl) (z_wat (q := 64) (j := 14) zwX9_middleOf_64 rfl) rfl
theorem dX9_middleOf_79 : decode cX9_middleOf 79 = .ok (.iconst (-1), 1) := z_o2 (z_wat (q := 64) (j := 15) zwX9_middleOf_64 rfl)
theorem dX9_middleOf_80 : decode cX9_middleOf 80 = .ok (.ireturn, 1) := z_o172 (z_wat (q := 64) (j := 16) zwX9_middleOf_64 rfl)
theorem dX9_middleOf_81 : decode cX9_middleOf 81 = .ok (.iconst 0, 1) := z_o3 (z_wat (q := 64) (j := 17) zwX9_middleOf_64 rfl)
theorem dX9_middleOf_82 : decode cX9_middleOf 82 = .ok (.istore 4, 2) := z_o54 (z_wat (q := 64) (j := 18) zwX9_middleOf_64 rfl) (z_wat (q := 64) (j := 19) zwX9_middleOf_64 rfl)
theorem dX9_middleOf_84 : decode cX9_middleOf 84 = .ok (.iload 4, 2) := z_o21 (z_wat (q := 64) (j := 20) zwX9_middleOf_64 rfl) (z_wat (q := 64) (j := 21) zwX9_middleOf_64 rfl)
theorem dX9_middleOf_86 : decode cX9_middleOf 86 = .ok (.bipush 99, 2) := z_o16 (z_wat (q := 64) (j := 22) zwX9_middleOf_64 rfl) (z_wat (q := 64) (j := 23) zwX9_middleOf_64 rfl) rfl
theorem dX9_middleOf_88 : decode cX9_middleOf 88 = .ok (.if_icmp .gt 26, 3) := z_o163 (z_wat (q := 64) (j := 24) zwX9_middleOf_64 rfl) (z_wat (q := 64) (j := 25) zwX9_middleOf_64 rfl) (z_wat (q := 64) (j := 26) zwX9_middleOf_64 rfl) rfl
theorem dX9_middleOf_91 : decode cX9_middleOf 91 = .ok (.iload_n 3, 1) := z_o29 (z_wat (q := 64) (j := 27) zwX9_middleOf_64 rfl)
theorem dX9_middleOf_92 : decode cX9_middleOf 92 = .ok (.aload_n 0, 1) := z_o42 (z_wat (q := 64) (j := 28) zwX9_middleOf_64 rfl)
theorem dX9_middleOf_93 : decode cX9_middleOf 93 = .ok (.getfield 18, 3) := z_o180 (z_wat (q := 64) (j := 29) zwX9_middleOf_64 rfl) (z_wat (q := 64) (j := 30) zwX9_middleOf_64 rfl) (z_wat (q := 64) (j := 31) zwX9_middleOf_64 rfl) rfl
theorem zwX9_middleOf_96 : ((cX9_middleOf.data.toList.drop 96).take 20).map UInt8.toNat = [21, 4, 46, 100, 62, 29, 157, 0, 6, 21, 4, 172, 132, 4, 1, 167, 255, 229, 2, 172] := by decide +kernel
theorem dX9_middleOf_96 : decode cX9_middleOf 96 = .ok (.iload 4, 2) := z_o21 (z_wat (q := 96) (j := 0) zwX9_middleOf_96 rfl) (z_wat (q := 96) (j := 1) zwX9_middleOf_96 rfl)
theorem dX9_middleOf_98 : decode cX9_middleOf 98 = .ok (.iaload, 1) := z_o46 (z_wat (q := 96) (j := 2) zwX9_middleOf_96 rfl)
theorem dX9_middleOf_99 : decode cX9_middleOf 99 = .ok (.isub, 1) := z_o100 (z_wat (q := 96) (j := 3) zwX9_middleOf_96 rfl)
theorem dX9_middleOf_100 : decode cX9_middleOf 100 = .ok (.istore_n 3, 1) := z_o62 (z_wat (q := 96) (j := 4) zwX9_middleOf_96 rfl)
theorem dX9_middleOf_101 : decode cX9_middleOf 101 = .ok (.iload_n 3, 1) := z_o29 (z_wat (q := 96) (j := 5) zwX9_middleOf_96 rfl)
theorem dX9_middleOf_102 : decode cX9_middleOf 102 = .ok (.ifCond .gt 6, 3) := z_o157 (z_wat (q := 96) (j := 6) zwX9_middleOf_96 rfl) (z_wat (q := 96) (j := 7) zwX9_middleOf_96 rfl) (z_wat (q := 96) (j := 8) zwX9_middleOf_96 rfl) rfl
theorem dX9_middleOf_105 : decode cX9_middleOf 105 = .ok (.iload 4, 2) := z_o21 (z_wat (q := 96) (j := 9) zwX9_middleOf_96 rfl) (z_wat (q := 96) (j := 10) zwX9_middleOf_96 rfl)
theorem dX9_middleOf_107 : decode cX9_middleOf 107 = .ok (.ireturn, 1) := z_o172 (z_wat (q := 96) (j := 11) zwX9_middleOf_96 rfl)
theorem dX9_middleOf_108 : decode cX9_middleOf 108 = .ok (.iinc 4 1, 3) := z_o132 (z_wat (q := 96) (j := 12) zwX9_middleOf_96 rfl) (z_wat (q := 96) (j := 13) zwX9_middleOf_96 rfl) (z_wat (q := 96) (j := 14) zwX9_middleOf_96 rfl) rfl
theorem dX9_middleOf_111 : decode cX9_middleOf 111 = .ok (.goto (-27), 3) := z_o167 (z_wat (q := 96) (j := 15) zwX9_middleOf_96 rfl) (z_wat (q := 96) (j := 16) zwX9_middleOf_96 rfl) (z_wat (q := 96) (j := 17) zwX9_middleOf_96 rfl) rfl
theorem dX9_middleOf_114 : decode cX9_middleOf 114 = .ok (.iconst (-1), 1) := z_o2 (z_wat (q := 96) (j := 18) zwX9_middleOf_96 rfl)
theorem dX9_middleOf_115 : decode cX9_middleOf 115 = .ok (.ireturn, 1) := z_o172 (z_wat (q := 96) (j := 19) zwX9_middleOf_96 rfl)
