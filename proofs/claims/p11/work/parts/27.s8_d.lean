theorem zwX0_write_0 : ((cX0_write.data.toList.drop 0).take 34).map UInt8.toNat = [42, 182, 0, 31, 153, 0, 5, 2, 172, 42, 180, 0, 9, 42, 180, 0, 24, 27, 79, 42, 180, 0, 15, 42, 180, 0, 24, 28, 79, 42, 180, 0, 18, 42] := by decide +kernel
theorem dX0_write_0 : decode cX0_write 0 = .ok (.aload_n 0, 1) := z_o42 (z_wat (q := 0) (j := 0) zwX0_write_0 rfl)
theorem dX0_write_1 : decode cX0_write 1 = .ok (.invokevirtual 31, 3) := z_o182 (z_wat (q := 0) (j := 1) zwX0_write_0 rfl) (z_wat (q := 0) (j := 2) zwX0_write_0 rfl) (z_wat (q := 0) (j := 3) zwX0_write_0 rfl) rfl
theorem dX0_write_4 : decode cX0_write 4 = .ok (.ifCond .eq 5, 3) := z_o153 (z_wat (q := 0) (j := 4) zwX0_write_0 rfl) (z_wat (q := 0) (j := 5) zwX0_write_0 rfl) (z_wat (q := 0) (j := 6) zwX0_write_0 rfl) rfl
theorem dX0_write_7 : decode cX0_write 7 = .ok (.iconst (-1), 1) := z_o2 (z_wat (q := 0) (j := 7) zwX0_write_0 rfl)
theorem dX0_write_8 : decode cX0_write 8 = .ok (.ireturn, 1) := z_o172 (z_wat (q := 0) (j := 8) zwX0_write_0 rfl)
theorem dX0_write_9 : decode cX0_write 9 = .ok (.aload_n 0, 1) := z_o42 (z_wat (q := 0) (j := 9) zwX0_write_0 rfl)
theorem dX0_write_10 : decode cX0_write 10 = .ok (.getfield 9, 3) := z_o180 (z_wat (q := 0) (j := 10) zwX0_write_0 rfl) (z_wat (q := 0) (j := 11) zwX0_write_0 rfl) (z_wat (q := 0) (j := 12) zwX0_write_0 rfl) rfl
theorem dX0_write_13 : decode cX0_write 13 = .ok (.aload_n 0, 1) := z_o42 (z_wat (q := 0) (j := 13) zwX0_write_0 rfl)
theorem dX0_write_14 : decode cX0_write 14 = .ok (.getfield 24, 3) := z_o180 (z_wat (q := 0) (j := 14) zwX0_write_0 rfl) (z_wat (q := 0) (j := 15) zwX0_write_0 rfl) (z_wat (q := 0) (j := 16) zwX0_write_0 rfl) rfl
theorem dX0_write_17 : decode cX0_write 17 = .ok (.iload_n 1, 1) := z_o27 (z_wat (q := 0) (j := 17) zwX0_write_0 rfl)
theorem dX0_write_18 : decode cX0_write 18 = .ok (.iastore, 1) := z_o79 (z_wat (q := 0) (j := 18) zwX0_write_0 rfl)
theorem dX0_write_19 : decode cX0_write 19 = .ok (.aload_n 0, 1) := z_o42 (z_wat (q := 0) (j := 19) zwX0_write_0 rfl)
theorem dX0_write_20 : decode cX0_write 20 = .ok (.getfield 15, 3) := z_o180 (z_wat (q := 0) (j := 20) zwX0_write_0 rfl) (z_wat (q := 0) (j := 21) zwX0_write_0 rfl) (z_wat (q := 0) (j := 22) zwX0_write_0 rfl) rfl
theorem dX0_write_23 : decode cX0_write 23 = .ok (.aload_n 0, 1) := z_o42 (z_wat (q := 0) (j := 23) zwX0_write_0 rfl)
theorem dX0_write_24 : decode cX0_write 24 = .ok (.getfield 24, 3) := z_o180 (z_wat (q := 0) (j := 24) zwX0_write_0 rfl) (z_wat (q := 0) (j := 25) zwX0_write_0 rfl) (z_wat (q := 0) (j := 26) zwX0_write_0 rfl) rfl
theorem dX0_write_27 : decode cX0_write 27 = .ok (.iload_n 2, 1) := z_o28 (z_wat (q := 0) (j := 27) zwX0_write_0 rfl)
theorem dX0_write_28 : decode cX0_write 28 = .ok (.iastore, 1) := z_o79 (z_wat (q := 0) (j := 28) zwX0_write_0 rfl)
theorem dX0_write_29 : decode cX0_write 29 = .ok (.aload_n 0, 1) := z_o42 (z_wat (q := 0) (j := 29) zwX0_write_0 rfl)
theorem dX0_write_30 : decode cX0_write 30 = .ok (.getfield 18, 3) := z_o180 (z_wat (q := 0) (j := 30) zwX0_write_0 rfl) (z_wat (q := 0) (j := 31) zwX0_write_0 rfl) (z_wat (q := 0) (j := 32) zwX0_write_0 rfl) rfl
theorem zwX0_write_32 : ((cX0_write.data.toList.drop 32).take 34).map UInt8.toNat = [18, 42, 180, 0, 24, 29, 79, 42, 180, 0, 21, 42, 180, 0, 24, 21, 4, 79, 42, 89, 180, 0, 24, 4, 96, 181, 0, 24, 42, 180, 0, 24, 4, 100] := by decide +kernel
theorem dX0_write_33 : decode cX0_write 33 = .ok (.aload_n 0, 1) := z_o42 (z_wat (q := 32) (j := 1) zwX0_write_32 rfl)
theorem dX0_write_34 : decode cX0_write 34 = .ok (.getfield 24, 3) := z_o180 (z_wat (q := 32) (j := 2) zwX0_write_32 rfl) (z_wat (q := 32) (j := 3) zwX0_write_32 rfl) (z_wat (q := 32) (j := 4) zwX0_write_32 rfl) rfl
theorem dX0_write_37 : decode cX0_write 37 = .ok (.iload_n 3, 1) := z_o29 (z_wat (q := 32) (j := 5) zwX0_write_32 rfl)
theorem dX0_write_38 : decode cX0_write 38 = .ok (.iastore, 1) := z_o79 (z_wat (q := 32) (j := 6) zwX0_write_32 rfl)
theorem dX0_write_39 : decode cX0_write 39 = .ok (.aload_n 0, 1) := z_o42 (z_wat (q := 32) (j := 7) zwX0_write_32 rfl)
theorem dX0_write_40 : decode cX0_write 40 = .ok (.getfield 21, 3) := z_o180 (z_wat (q := 32) (j := 8) zwX0_write_32 rfl) (z_wat (q := 32) (j := 9) zwX0_write_32 rfl) (z_wat (q := 32) (j := 10) zwX0_write_32 rfl) rfl
theorem dX0_write_43 : decode cX0_write 43 = .ok (.aload_n 0, 1) := z_o42 (z_wat (q := 32) (j := 11) zwX0_write_32 rfl)
theorem dX0_write_44 : decode cX0_write 44 = .ok (.getfield 24, 3) := z_o180 (z_wat (q := 32) (j := 12) zwX0_write_32 rfl) (z_wat (q := 32) (j := 13) zwX0_write_32 rfl) (z_wat (q := 32) (j := 14) zwX0_write_32 rfl) rfl
theorem dX0_write_47 : decode cX0_write 47 = .ok (.iload 4, 2) := z_o21 (z_wat (q := 32) (j := 15) zwX0_write_32 rfl) (z_wat (q := 32) (j := 16) zwX0_write_32 rfl)
theorem dX0_write_49 : decode cX0_write 49 = .ok (.iastore, 1) := z_o79 (z_wat (q := 32) (j := 17) zwX0_write_32 rfl)
theorem dX0_write_50 : decode cX0_write 50 = .ok (.aload_n 0, 1) := z_o42 (z_wat (q := 32) (j := 18) zwX0_write_32 rfl)
theorem dX0_write_51 : decode cX0_write 51 = .ok (.dup, 1) := z_o89 (z_wat (q := 32) (j := 19) zwX0_write_32 rfl)
theorem dX0_write_52 : decode cX0_write 52 = .ok (.getfield 24, 3) := z_o180 (z_wat (q := 32) (j := 20) zwX0_write_32 rfl) (z_wat (q := 32) (j := 21) zwX0_write_32 rfl) (z_wat (q := 32) (j := 22) zwX0_write_32 rfl) rfl
theorem dX0_write_55 : decode cX0_write 55 = .ok (.iconst 1, 1) := z_o4 (z_wat (q := 32) (j := 23) zwX0_write_32 rfl)
theorem dX0_write_56 : decode cX0_write 56 = .ok (.iadd, 1) := z_o96 (z_wat (q := 32) (j := 24) zwX0_write_32 rfl)
theorem dX0_write_57 : decode cX0_write 57 = .ok (.putfield 24, 3) := z_o181 (z_wat (q := 32) (j := 25) zwX0_write_32 rfl) (z_wat (q := 32) (j := 26) zwX0_write_32 rfl) (z_wat (q := 32) (j := 27) zwX0_write_32 rfl) rfl
theorem dX0_write_60 : decode cX0_write 60 = .ok (.aload_n 0, 1) := z_o42 (z_wat (q := 32) (j := 28) zwX0_write_32 rfl)
theorem dX0_write_61 : decode cX0_write 61 = .ok (.getfield 24, 3) := z_o180 (z_wat (q := 32) (j := 29) zwX0_write_32 rfl) (z_wat (q := 32) (j := 30) zwX0_write_32 rfl) (z_wat (q := 32) (j := 31) zwX0_write_32 rfl) rfl
theorem zwX0_write_64 : ((cX0_write.data.toList.drop 64).take 3).map UInt8.toNat = [4, 100, 172] := by decide +kernel
theorem dX0_write_64 : decode cX0_write 64 = .ok (.iconst 1, 1) := z_o4 (z_wat (q := 64) (j := 0) zwX0_write_64 rfl)
theorem dX0_write_65 : decode cX0_write 65 = .ok (.isub, 1) := z_o100 (z_wat (q := 64) (j := 1) zwX0_write_64 rfl)
theorem dX0_write_66 : decode cX0_write 66 = .ok (.ireturn, 1) := z_o172 (z_wat (q := 64) (j := 2) zwX0_write_64 rfl)
theorem zwX11_bedNow_0 : ((cX11_bedNow.data.toList.drop 0).take 31).map UInt8.toNat = [42, 180, 0, 28, 42, 180, 0, 19, 180, 0, 121, 182, 0, 143, 42, 180, 0, 28, 42, 180, 0, 28, 180, 0, 146, 27, 46, 182, 0, 150, 172] := by decide +kernel
theorem dX11_bedNow_0 : decode cX11_bedNow 0 = .ok (.aload_n 0, 1) := z_o42 (z_wat (q := 0) (j := 0) zwX11_bedNow_0 rfl)
theorem dX11_bedNow_1 : decode cX11_bedNow 1 = .ok (.getfield 28, 3) := z_o180 (z_wat (q := 0) (j := 1) zwX11_bedNow_0 rfl) (z_wat (q := 0) (j := 2) zwX11_bedNow_0 rfl) (z_wat (q := 0) (j := 3) zwX11_bedNow_0 rfl) rfl
theorem dX11_bedNow_4 : decode cX11_bedNow 4 = .ok (.aload_n 0, 1) := z_o42 (z_wat (q := 0) (j := 4) zwX11_bedNow_0 rfl)
theorem dX11_bedNow_5 : decode cX11_bedNow 5 = .ok (.getfield 19, 3) := z_o180 (z_wat (q := 0) (j := 5) zwX11_bedNow_0 rfl) (z_wat (q := 0) (j := 6) zwX11_bedNow_0 rfl) (z_wat (q := 0) (j := 7) zwX11_bedNow_0 rfl) rfl
theorem dX11_bedNow_8 : decode cX11_bedNow 8 = .ok (.getfield 121, 3) := z_o180 (z_wat (q := 0) (j := 8) zwX11_bedNow_0 rfl) (z_wat (q := 0) (j := 9) zwX11_bedNow_0 rfl) (z_wat (q := 0) (j := 10) zwX11_bedNow_0 rfl) rfl
theorem dX11_bedNow_11 : decode cX11_bedNow 11 = .ok (.invokevirtual 143, 3) := z_o182 (z_wat (q := 0) (j := 11) zwX11_bedNow_0 rfl) (z_wat (q := 0) (j := 12) zwX11_bedNow_0 rfl) (z_wat (q := 0) (j := 13) zwX11_bedNow_0 rfl) rfl
theorem dX11_bedNow_14 : decode cX11_bedNow 14 = .ok (.aload_n 0, 1) := z_o42 (z_wat (q := 0) (j := 14) zwX11_bedNow_0 rfl)
theorem dX11_bedNow_15 : decode cX11_bedNow 15 = .ok (.getfield 28, 3) := z_o180 (z_wat (q := 0) (j := 15) zwX11_bedNow_0 rfl) (z_wat (q := 0) (j := 16) zwX11_bedNow_0 rfl) (z_wat (q := 0) (j := 17) zwX11_bedNow_0 rfl) rfl
theorem dX11_bedNow_18 : decode cX11_bedNow 18 = .ok (.aload_n 0, 1) := z_o42 (z_wat (q := 0) (j := 18) zwX11_bedNow_0 rfl)
theorem dX11_bedNow_19 : decode cX11_bedNow 19 = .ok (.getfield 28, 3) := z_o180 (z_wat (q := 0) (j := 19) zwX11_bedNow_0 rfl) (z_wat (q := 0) (j := 20) zwX11_bedNow_0 rfl) (z_wat (q := 0) (j := 21) zwX11_bedNow_0 rfl) rfl
theorem dX11_bedNow_22 : decode cX11_bedNow 22 = .ok (.getfield 146, 3) := z_o180 (z_wat (q := 0) (j := 22) zwX11_bedNow_0 rfl) (z_wat (q := 0) (j := 23) zwX11_bedNow_0 rfl) (z_wat (q := 0) (j := 24) zwX11_bedNow_0 rfl) rfl
theorem dX11_bedNow_25 : decode cX11_bedNow 25 = .ok (.iload_n 1, 1) := z_o27 (z_wat (q := 0) (j := 25) zwX11_bedNow_0 rfl)
theorem dX11_bedNow_26 : decode cX11_bedNow 26 = .ok (.iaload, 1) := z_o46 (z_wat (q := 0) (j := 26) zwX11_bedNow_0 rfl)
theorem dX11_bedNow_27 : decode cX11_bedNow 27 = .ok (.invokevirtual 150, 3) := z_o182 (z_wat (q := 0) (j := 27) zwX11_bedNow_0 rfl) (z_wat (q := 0) (j := 28) zwX11_bedNow_0 rfl) (z_wat (q := 0) (j := 29) zwX11_bedNow_0 rfl) rfl
theorem dX11_bedNow_30 : decode cX11_bedNow 30 = .ok (.ireturn, 1) := z_o172 (z_wat (q := 0) (j := 30) zwX11_bedNow_0 rfl)
theorem zwX11_column_0 : ((cX11_column.data.toList.drop 0).take 10).map UInt8.toNat = [42, 180, 0, 35, 27, 28, 182, 0, 177, 172] := by decide +kernel
theorem dX11_column_0 : decode cX11_column 0 = .ok (.aload_n 0, 1) := z_o42 (z_wat (q := 0) (j := 0) zwX11_column_0 rfl)
theorem dX11_column_1 : decode cX11_column 1 = .ok (.getfield 35, 3) := z_o180 (z_wat (q := 0) (j := 1) zwX11_column_0 rfl) (z_wat (q := 0) (j := 2) zwX11_column_0 rfl) (z_wat (q := 0) (j := 3) zwX11_column_0 rfl) rfl
theorem dX11_column_4 : decode cX11_column 4 = .ok (.iload_n 1, 1) := z_o27 (z_wat (q := 0) (j := 4) zwX11_column_0 rfl)
theorem dX11_column_5 : decode cX11_column 5 = .ok (.iload_n 2, 1) := z_o28 (z_wat (q := 0) (j := 5) zwX11_column_0 rfl)
theorem dX11_column_6 : decode cX11_column 6 = .ok (.invokevirtual 177, 3) := z_o182 (z_wat (q := 0) (j := 6) zwX11_column_0 rfl) (z_wat (q := 0) (j := 7) zwX11_column_0 rfl) (z_wat (q := 0) (j := 8) zwX11_column_0 rfl) rfl
theorem dX11_column_9 : decode cX11_column 9 = .ok (.ireturn, 1) := z_o172 (z_wat (q := 0) (j := 9) zwX11_column_0 rfl)
theorem zwX11_fault_0 : ((cX11_fault.data.toList.drop 0).take 29).map UInt8.toNat = [27, 154, 0, 11, 42, 180, 0, 10, 180, 0, 131, 172, 27, 4, 160, 0, 13, 42, 180, 0, 10, 180, 0, 134, 167, 0, 4, 2, 172] := by decide +kernel
theorem dX11_fault_0 : decode cX11_fault 0 = .ok (.iload_n 1, 1) := z_o27 (z_wat (q := 0) (j := 0) zwX11_fault_0 rfl)
theorem dX11_fault_1 : decode cX11_fault 1 = .ok (.ifCond .ne 11, 3) := z_o154 (z_wat (q := 0) (j := 1) zwX11_fault_0 rfl) (z_wat (q := 0) (j := 2) zwX11_fault_0 rfl) (z_wat (q := 0) (j := 3) zwX11_fault_0 rfl) rfl
theorem dX11_fault_4 : decode cX11_fault 4 = .ok (.aload_n 0, 1) := z_o42 (z_wat (q := 0) (j := 4) zwX11_fault_0 rfl)
theorem dX11_fault_5 : decode cX11_fault 5 = .ok (.getfield 10, 3) := z_o180 (z_wat (q := 0) (j := 5) zwX11_fault_0 rfl) (z_wat (q := 0) (j := 6) zwX11_fault_0 rfl) (z_wat (q := 0) (j := 7) zwX11_fault_0 rfl) rfl
theorem dX11_fault_8 : decode cX11_fault 8 = .ok (.getfield 131, 3) := z_o180 (z_wat (q := 0) (j := 8) zwX11_fault_0 rfl) (z_wat (q := 0) (j := 9) zwX11_fault_0 rfl) (z_wat (q := 0) (j := 10) zwX11_fault_0 rfl) rfl
theorem dX11_fault_11 : decode cX11_fault 11 = .ok (.ireturn, 1) := z_o172 (z_wat (q := 0) (j := 11) zwX11_fault_0 rfl)
theorem dX11_fault_12 : decode cX11_fault 12 = .ok (.iload_n 1, 1) := z_o27 (z_wat (q := 0) (j := 12) zwX11_fault_0 rfl)
theorem dX11_fault_13 : decode cX11_fault 13 = .ok (.iconst 1, 1) := z_o4 (z_wat (q := 0) (j := 13) zwX11_fault_0 rfl)
theorem dX11_fault_14 : decode cX11_fault 14 = .ok (.if_icmp .ne 13, 3) := z_o160 (z_wat (q := 0) (j := 14) zwX11_fault_0 rfl) (z_wat (q := 0) (j := 15) zwX11_fault_0 rfl) (z_wat (q := 0) (j := 16) zwX11_fault_0 rfl) rfl
theorem dX11_fault_17 : decode cX11_fault 17 = .ok (.aload_n 0, 1) := z_o42 (z_wat (q := 0) (j := 17) zwX11_fault_0 rfl)
theorem dX11_fault_18 : decode cX11_fault 18 = .ok (.getfield 10, 3) := z_o180 (z_wat (q := 0) (j := 18) zwX11_fault_0 rfl) (z_wat (q := 0) (j := 19) zwX11_fault_0 rfl) (z_wat (q := 0) (j := 20) zwX11_fault_0 rfl) rfl
theorem dX11_fault_21 : decode cX11_fault 21 = .ok (.getfield 134, 3) := z_o180 (z_wat (q := 0) (j := 21) zwX11_fault_0 rfl) (z_wat (q := 0) (j := 22) zwX11_fault_0 rfl) (z_wat (q := 0) (j := 23) zwX11_fault_0 rfl) rfl
theorem dX11_fault_24 : decode cX11_fault 24 = .ok (.goto 4, 3) := z_o167 (z_wat (q := 0) (j := 24) zwX11_fault_0 rfl) (z_wat (q := 0) (j := 25) zwX11_fault_0 rfl) (z_wat (q := 0) (j := 26) zwX11_fault_0 rfl) rfl
theorem dX11_fault_27 : decode cX11_fault 27 = .ok (.iconst (-1), 1) := z_o2 (z_wat (q := 0) (j := 27) zwX11_fault_0 rfl)
theorem dX11_fault_28 : decode cX11_fault 28 = .ok (.ireturn, 1) := z_o172 (z_wat (q := 0) (j := 28) zwX11_fault_0 rfl)
theorem zwX11_feed_0 : ((cX11_feed.data.toList.drop 0).take 34).map UInt8.toNat = [42, 180, 0, 10, 182, 0, 87, 154, 0, 5, 2, 172, 42, 180, 0, 10, 27, 182, 0, 91, 42, 180, 0, 10, 28, 182, 0, 91, 42, 180, 0, 10, 29, 182] := by decide +kernel
theorem dX11_feed_0 : decode cX11_feed 0 = .ok (.aload_n 0, 1) := z_o42 (z_wat (q := 0) (j := 0) zwX11_feed_0 rfl)
theorem dX11_feed_1 : decode cX11_feed 1 = .ok (.getfield 10, 3) := z_o180 (z_wat (q := 0) (j := 1) zwX11_feed_0 rfl) (z_wat (q := 0) (j := 2) zwX11_feed_0 rfl) (z_wat (q := 0) (j := 3) zwX11_feed_0 rfl) rfl
theorem dX11_feed_4 : decode cX11_feed 4 = .ok (.invokevirtual 87, 3) := z_o182 (z_wat (q := 0) (j := 4) zwX11_feed_0 rfl) (z_wat (q := 0) (j := 5) zwX11_feed_0 rfl) (z_wat (q := 0) (j := 6) zwX11_feed_0 rfl) rfl
theorem dX11_feed_7 : decode cX11_feed 7 = .ok (.ifCond .ne 5, 3) := z_o154 (z_wat (q := 0) (j := 7) zwX11_feed_0 rfl) (z_wat (q := 0) (j := 8) zwX11_feed_0 rfl) (z_wat (q := 0) (j := 9) zwX11_feed_0 rfl) rfl
theorem dX11_feed_10 : decode cX11_feed 10 = .ok (.iconst (-1), 1) := z_o2 (z_wat (q := 0) (j := 10) zwX11_feed_0 rfl)
theorem dX11_feed_11 : decode cX11_feed 11 = .ok (.ireturn, 1) := z_o172 (z_wat (q := 0) (j := 11) zwX11_feed_0 rfl)
theorem dX11_feed_12 : decode cX11_feed 12 = .ok (.aload_n 0, 1) := z_o42 (z_wat (q := 0) (j := 12) zwX11_feed_0 rfl)
theorem dX11_feed_13 : decode cX11_feed 13 = .ok (.getfield 10, 3) := z_o180 (z_wat (q := 0) (j := 13) zwX11_feed_0 rfl) (z_wat (q := 0) (j := 14) zwX11_feed_0 rfl) (z_wat (q := 0) (j := 15) zwX11_feed_0 rfl) rfl
theorem dX11_feed_16 : decode cX11_feed 16 = .ok (.iload_n 1, 1) := z_o27 (z_wat (q := 0) (j := 16) zwX11_feed_0 rfl)
theorem dX11_feed_17 : decode cX11_feed 17 = .ok (.invokevirtual 91, 3) := z_o182 (z_wat (q := 0) (j := 17) zwX11_feed_0 rfl) (z_wat (q := 0) (j := 18) zwX11_feed_0 rfl) (z_wat (q := 0) (j := 19) zwX11_feed_0 rfl) rfl
theorem dX11_feed_20 : decode cX11_feed 20 = .ok (.aload_n 0, 1) := z_o42 (z_wat (q := 0) (j := 20) zwX11_feed_0 rfl)
theorem dX11_feed_21 : decode cX11_feed 21 = .ok (.getfield 10, 3) := z_o180 (z_wat (q := 0) (j := 21) zwX11_feed_0 rfl) (z_wat (q := 0) (j := 22) zwX11_feed_0 rfl) (z_wat (q := 0) (j := 23) zwX11_feed_0 rfl) rfl
theorem dX11_feed_24 : decode cX11_feed 24 = .ok (.iload_n 2, 1) := z_o28 (z_wat (q := 0) (j := 24) zwX11_feed_0 rfl)
theorem dX11_feed_25 : decode cX11_feed 25 = .ok (.invokevirtual 91, 3) := z_o182 (z_wat (q := 0) (j := 25) zwX11_feed_0 rfl) (z_wat (q := 0) (j := 26) zwX11_feed_0 rfl) (z_wat (q := 0) (j := 27) zwX11_feed_0 rfl) rfl
theorem dX11_feed_28 : decode cX11_feed 28 = .ok (.aload_n 0, 1) := z_o42 (z_wat (q := 0) (j := 28) zwX11_feed_0 rfl)
theorem dX11_feed_29 : decode cX11_feed 29 = .ok (.getfield 10, 3) := z_o180 (z_wat (q := 0) (j := 29) zwX11_feed_0 rfl) (z_wat (q := 0) (j := 30) zwX11_feed_0 rfl) (z_wat (q := 0) (j := 31) zwX11_feed_0 rfl) rfl
theorem zwX11_feed_32 : ((cX11_feed.data.toList.drop 32).take 30).map UInt8.toNat = [29, 182, 0, 91, 42, 180, 0, 10, 21, 4, 182, 0, 91, 42, 180, 0, 10, 21, 5, 182, 0, 91, 42, 180, 0, 10, 180, 0, 95, 172] := by decide +kernel
theorem dX11_feed_32 : decode cX11_feed 32 = .ok (.iload_n 3, 1) := z_o29 (z_wat (q := 32) (j := 0) zwX11_feed_32 rfl)
theorem dX11_feed_33 : decode cX11_feed 33 = .ok (.invokevirtual 91, 3) := z_o182 (z_wat (q := 32) (j := 1) zwX11_feed_32 rfl) (z_wat (q := 32) (j := 2) zwX11_feed_32 rfl) (z_wat (q := 32) (j := 3) zwX11_feed_32 rfl) rfl
theorem dX11_feed_36 : decode cX11_feed 36 = .ok (.aload_n 0, 1) := z_o42 (z_wat (q := 32) (j := 4) zwX11_feed_32 rfl)
theorem dX11_feed_37 : decode cX11_feed 37 = .ok (.getfield 10, 3) := z_o180 (z_wat (q := 32) (j := 5) zwX11_feed_32 rfl) (z_wat (q := 32) (j := 6) zwX11_feed_32 rfl) (z_wat (q := 32) (j := 7) zwX11_feed_32 rfl) rfl
theorem dX11_feed_40 : decode cX11_feed 40 = .ok (.iload 4, 2) := z_o21 (z_wat (q := 32) (j := 8) zwX11_feed_32 rfl) (z_wat (q := 32) (j := 9) zwX11_feed_32 rfl)
theorem dX11_feed_42 : decode cX11_feed 42 = .ok (.invokevirtual 91, 3) := z_o182 (z_wat (q := 32) (j := 10) zwX11_feed_32 rfl) (z_wat (q := 32) (j := 11) zwX11_feed_32 rfl) (z_wat (q := 32) (j := 12) zwX11_feed_32 rfl) rfl
theorem dX11_feed_45 : decode cX11_feed 45 = .ok (.aload_n 0, 1) := z_o42 (z_wat (q := 32) (j := 13) zwX11_feed_32 rfl)
theorem dX11_feed_46 : decode cX11_feed 46 = .ok (.getfield 10, 3) := z_o180 (z_wat (q := 32) (j := 14) zwX11_feed_32 rfl) (z_wat (q := 32) (j := 15) zwX11_feed_32 rfl) (z_wat (q := 32) (j := 16) zwX11_feed_32 rfl) rfl
theorem dX11_feed_49 : decode cX11_feed 49 = .ok (.iload 5, 2) := z_o21 (z_wat (q := 32) (j := 17) zwX11_feed_32 rfl) (z_wat (q := 32) (j := 18) zwX11_feed_32 rfl)
theorem dX11_feed_51 : decode cX11_feed 51 = .ok (.invokevirtual 91, 3) := z_o182 (z_wat (q := 32) (j := 19) zwX11_feed_32 rfl) (z_wat (q := 32) (j := 20) zwX11_feed_32 rfl) (z_wat (q := 32) (j := 21) zwX11_feed_32 rfl) rfl
theorem dX11_feed_54 : decode cX11_feed 54 = .ok (.aload_n 0, 1) := z_o42 (z_wat (q := 32) (j := 22) zwX11_feed_32 rfl)
theorem dX11_feed_55 : decode cX11_feed 55 = .ok (.getfield 10, 3) := z_o180 (z_wat (q := 32) (j := 23) zwX11_feed_32 rfl) (z_wat (q := 32) (j := 24) zwX11_feed_32 rfl) (z_wat (q := 32) (j := 25) zwX11_feed_32 rfl) rfl
theorem dX11_feed_58 : decode cX11_feed 58 = .ok (.getfield 95, 3) := z_o180 (z_wat (q := 32) (j := 26) zwX11_feed_32 rfl) (z_wat (q := 32) (j := 27) zwX11_feed_32 rfl) (z_wat (q := 32) (j := 28) zwX11_feed_32 rfl) rfl
theorem dX11_feed_61 : decode cX11_feed 61 = .ok (.ireturn, 1) := z_o172 (z_wat (q := 32) (j := 29) zwX11_feed_32 rfl)
theorem zwX11_heap_0 : ((cX11_heap.data.toList.drop 0).take 10).map UInt8.toNat = [42, 180, 0, 35, 27, 28, 182, 0, 174, 172] := by decide +kernel
theorem dX11_heap_0 : decode cX11_heap 0 = .ok (.aload_n 0, 1) := z_o42 (z_wat (q := 0) (j := 0) zwX11_heap_0 rfl)
theorem dX11_heap_1 : decode cX11_heap 1 = .ok (.getfield 35, 3) := z_o180 (z_wat (q := 0) (j := 1) zwX11_heap_0 rfl) (z_wat (q := 0) (j := 2) zwX11_heap_0 rfl) (z_wat (q := 0) (j := 3) zwX11_heap_0 rfl) rfl
theorem dX11_heap_4 : decode cX11_heap 4 = .ok (.iload_n 1, 1) := z_o27 (z_wat (q := 0) (j := 4) zwX11_heap_0 rfl)
theorem dX11_heap_5 : decode cX11_heap 5 = .ok (.iload_n 2, 1) := z_o28 (z_wat (q := 0) (j := 5) zwX11_heap_0 rfl)
theorem dX11_heap_6 : decode cX11_heap 6 = .ok (.invokevirtual 174, 3) := z_o182 (z_wat (q := 0) (j := 6) zwX11_heap_0 rfl) (z_wat (q := 0) (j := 7) zwX11_heap_0 rfl) (z_wat (q := 0) (j := 8) zwX11_heap_0 rfl) rfl
theorem dX11_heap_9 : decode cX11_heap 9 = .ok (.ireturn, 1) := z_o172 (z_wat (q := 0) (j := 9) zwX11_heap_0 rfl)
theorem zwX11_kept_0 : ((cX11_kept.data.toList.drop 0).take 34).map UInt8.toNat = [42, 180, 0, 42, 27, 182, 0, 203, 153, 0, 23, 28, 155, 0, 19, 28, 7, 162, 0, 14, 29, 4, 161, 0, 9, 29, 16, 16, 164, 0, 5, 3, 172, 42] := by decide +kernel
theorem dX11_kept_0 : decode cX11_kept 0 = .ok (.aload_n 0, 1) := z_o42 (z_wat (q := 0) (j := 0) zwX11_kept_0 rfl)
theorem dX11_kept_1 : decode cX11_kept 1 = .ok (.getfield 42, 3) := z_o180 (z_wat (q := 0) (j := 1) zwX11_kept_0 rfl) (z_wat (q := 0) (j := 2) zwX11_kept_0 rfl) (z_wat (q := 0) (j := 3) zwX11_kept_0 rfl) rfl
theorem dX11_kept_4 : decode cX11_kept 4 = .ok (.iload_n 1, 1) := z_o27 (z_wat (q := 0) (j := 4) zwX11_kept_0 rfl)
theorem dX11_kept_5 : decode cX11_kept 5 = .ok (.invokevirtual 203, 3) := z_o182 (z_wat (q := 0) (j := 5) zwX11_kept_0 rfl) (z_wat (q := 0) (j := 6) zwX11_kept_0 rfl) (z_wat (q := 0) (j := 7) zwX11_kept_0 rfl) rfl
theorem dX11_kept_8 : decode cX11_kept 8 = .ok (.ifCond .eq 23, 3) := z_o153 (z_wat (q := 0) (j := 8) zwX11_kept_0 rfl) (z_wat (q := 0) (j := 9) zwX11_kept_0 rfl) (z_wat (q := 0) (j := 10) zwX11_kept_0 rfl) rfl
theorem dX11_kept_11 : decode cX11_kept 11 = .ok (.iload_n 2, 1) := z_o28 (z_wat (q := 0) (j := 11) zwX11_kept_0 rfl)
theorem dX11_kept_12 : decode cX11_kept 12 = .ok (.ifCond .lt 19, 3) := z_o155 (z_wat (q := 0) (j := 12) zwX11_kept_0 rfl) (z_wat (q := 0) (j := 13) zwX11_kept_0 rfl) (z_wat (q := 0) (j := 14) zwX11_kept_0 rfl) rfl
theorem dX11_kept_15 : decode cX11_kept 15 = .ok (.iload_n 2, 1) := z_o28 (z_wat (q := 0) (j := 15) zwX11_kept_0 rfl)
theorem dX11_kept_16 : decode cX11_kept 16 = .ok (.iconst 4, 1) := z_o7 (z_wat (q := 0) (j := 16) zwX11_kept_0 rfl)
theorem dX11_kept_17 : decode cX11_kept 17 = .ok (.if_icmp .ge 14, 3) := z_o162 (z_wat (q := 0) (j := 17) zwX11_kept_0 rfl) (z_wat (q := 0) (j := 18) zwX11_kept_0 rfl) (z_wat (q := 0) (j := 19) zwX11_kept_0 rfl) rfl
theorem dX11_kept_20 : decode cX11_kept 20 = .ok (.iload_n 3, 1) := z_o29 (z_wat (q := 0) (j := 20) zwX11_kept_0 rfl)
theorem dX11_kept_21 : decode cX11_kept 21 = .ok (.iconst 1, 1) := z_o4 (z_wat (q := 0) (j := 21) zwX11_kept_0 rfl)
theorem dX11_kept_22 : decode cX11_kept 22 = .ok (.if_icmp .lt 9, 3) := z_o161 (z_wat (q := 0) (j := 22) zwX11_kept_0 rfl) (z_wat (q := 0) (j := 23) zwX11_kept_0 rfl) (z_wat (q := 0) (j := 24) zwX11_kept_0 rfl) rfl
theorem dX11_kept_25 : decode cX11_kept 25 = .ok (.iload_n 3, 1) := z_o29 (z_wat (q := 0) (j := 25) zwX11_kept_0 rfl)
theorem dX11_kept_26 : decode cX11_kept 26 = .ok (.bipush 16, 2) := z_o16 (z_wat (q := 0) (j := 26) zwX11_kept_0 rfl) (z_wat (q := 0) (j := 27) zwX11_kept_0 rfl) rfl
theorem dX11_kept_28 : decode cX11_kept 28 = .ok (.if_icmp .le 5, 3) := z_o164 (z_wat (q := 0) (j := 28) zwX11_kept_0 rfl) (z_wat (q := 0) (j := 29) zwX11_kept_0 rfl) (z_wat (q := 0) (j := 30) zwX11_kept_0 rfl) rfl
theorem dX11_kept_31 : decode cX11_kept 31 = .ok (.iconst 0, 1) := z_o3 (z_wat (q := 0) (j := 31) zwX11_kept_0 rfl)
theorem zwX11_kept_32 : ((cX11_kept.data.toList.drop 32).take 17).map UInt8.toNat = [172, 42, 180, 0, 42, 180, 0, 206, 27, 7, 104, 28, 96, 29, 79, 4, 172] := by decide +kernel
theorem dX11_kept_32 : decode cX11_kept 32 = .ok (.ireturn, 1) := z_o172 (z_wat (q := 32) (j := 0) zwX11_kept_32 rfl)
theorem dX11_kept_33 : decode cX11_kept 33 = .ok (.aload_n 0, 1) := z_o42 (z_wat (q := 32) (j := 1) zwX11_kept_32 rfl)
theorem dX11_kept_34 : decode cX11_kept 34 = .ok (.getfield 42, 3) := z_o180 (z_wat (q := 32) (j := 2) zwX11_kept_32 rfl) (z_wat (q := 32) (j := 3) zwX11_kept_32 rfl) (z_wat (q := 32) (j := 4) zwX11_kept_32 rfl) rfl
theorem dX11_kept_37 : decode cX11_kept 37 = .ok (.getfield 206, 3) := z_o180 (z_wat (q := 32) (j := 5) zwX11_kept_32 rfl) (z_wat (q := 32) (j := 6) zwX11_kept_32 rfl) (z_wat (q := 32) (j := 7) zwX11_kept_32 rfl) rfl
theorem dX11_kept_40 : decode cX11_kept 40 = .ok (.iload_n 1, 1) := z_o27 (z_wat (q := 32) (j := 8) zwX11_kept_32 rfl)
theorem dX11_kept_41 : decode cX11_kept 41 = .ok (.iconst 4, 1) := z_o7 (z_wat (q := 32) (j := 9) zwX11_kept_32 rfl)
theorem dX11_kept_42 : decode cX11_kept 42 = .ok (.imul, 1) := z_o104 (z_wat (q := 32) (j := 10) zwX11_kept_32 rfl)
theorem dX11_kept_43 : decode cX11_kept 43 = .ok (.iload_n 2, 1) := z_o28 (z_wat (q := 32) (j := 11) zwX11_kept_32 rfl)
theorem dX11_kept_44 : decode cX11_kept 44 = .ok (.iadd, 1) := z_o96 (z_wat (q := 32) (j := 12) zwX11_kept_32 rfl)
theorem dX11_kept_45 : decode cX11_kept 45 = .ok (.iload_n 3, 1) := z_o29 (z_wat (q := 32) (j := 13) zwX11_kept_32 rfl)
theorem dX11_kept_46 : decode cX11_kept 46 = .ok (.iastore, 1) := z_o79 (z_wat (q := 32) (j := 14) zwX11_kept_32 rfl)
theorem dX11_kept_47 : decode cX11_kept 47 = .ok (.iconst 1, 1) := z_o4 (z_wat (q := 32) (j := 15) zwX11_kept_32 rfl)
theorem dX11_kept_48 : decode cX11_kept 48 = .ok (.ireturn, 1) := z_o172 (z_wat (q := 32) (j := 16) zwX11_kept_32 rfl)
theorem zwX11_kind_0 : ((cX11_kind.data.toList.drop 0).take 10).map UInt8.toNat = [42, 180, 0, 42, 27, 28, 182, 0, 200, 172] := by decide +kernel
theorem dX11_kind_0 : decode cX11_kind 0 = .ok (.aload_n 0, 1) := z_o42 (z_wat (q := 0) (j := 0) zwX11_kind_0 rfl)
theorem dX11_kind_1 : decode cX11_kind 1 = .ok (.getfield 42, 3) := z_o180 (z_wat (q := 0) (j := 1) zwX11_kind_0 rfl) (z_wat (q := 0) (j := 2) zwX11_kind_0 rfl) (z_wat (q := 0) (j := 3) zwX11_kind_0 rfl) rfl
theorem dX11_kind_4 : decode cX11_kind 4 = .ok (.iload_n 1, 1) := z_o27 (z_wat (q := 0) (j := 4) zwX11_kind_0 rfl)
theorem dX11_kind_5 : decode cX11_kind 5 = .ok (.iload_n 2, 1) := z_o28 (z_wat (q := 0) (j := 5) zwX11_kind_0 rfl)
theorem dX11_kind_6 : decode cX11_kind 6 = .ok (.invokevirtual 200, 3) := z_o182 (z_wat (q := 0) (j := 6) zwX11_kind_0 rfl) (z_wat (q := 0) (j := 7) zwX11_kind_0 rfl) (z_wat (q := 0) (j := 8) zwX11_kind_0 rfl) rfl
theorem dX11_kind_9 : decode cX11_kind 9 = .ok (.ireturn, 1) := z_o172 (z_wat (q := 0) (j := 9) zwX11_kind_0 rfl)
theorem zwX11_layer_0 : ((cX11_layer.data.toList.drop 0).take 34).map UInt8.toNat = [42, 180, 0, 19, 180, 0, 137, 16, 12, 161, 0, 5, 2, 172, 42, 180, 0, 19, 89, 180, 0, 137, 4, 96, 181, 0, 137, 42, 180, 0, 19, 180, 0, 137] := by decide +kernel
theorem dX11_layer_0 : decode cX11_layer 0 = .ok (.aload_n 0, 1) := z_o42 (z_wat (q := 0) (j := 0) zwX11_layer_0 rfl)
theorem dX11_layer_1 : decode cX11_layer 1 = .ok (.getfield 19, 3) := z_o180 (z_wat (q := 0) (j := 1) zwX11_layer_0 rfl) (z_wat (q := 0) (j := 2) zwX11_layer_0 rfl) (z_wat (q := 0) (j := 3) zwX11_layer_0 rfl) rfl
theorem dX11_layer_4 : decode cX11_layer 4 = .ok (.getfield 137, 3) := z_o180 (z_wat (q := 0) (j := 4) zwX11_layer_0 rfl) (z_wat (q := 0) (j := 5) zwX11_layer_0 rfl) (z_wat (q := 0) (j := 6) zwX11_layer_0 rfl) rfl
theorem dX11_layer_7 : decode cX11_layer 7 = .ok (.bipush 12, 2) := z_o16 (z_wat (q := 0) (j := 7) zwX11_layer_0 rfl) (z_wat (q := 0) (j := 8) zwX11_layer_0 rfl) rfl
theorem dX11_layer_9 : decode cX11_layer 9 = .ok (.if_icmp .lt 5, 3) := z_o161 (z_wat (q := 0) (j := 9) zwX11_layer_0 rfl) (z_wat (q := 0) (j := 10) zwX11_layer_0 rfl) (z_wat (q := 0) (j := 11) zwX11_layer_0 rfl) rfl
theorem dX11_layer_12 : decode cX11_layer 12 = .ok (.iconst (-1), 1) := z_o2 (z_wat (q := 0) (j := 12) zwX11_layer_0 rfl)
theorem dX11_layer_13 : decode cX11_layer 13 = .ok (.ireturn, 1) := z_o172 (z_wat (q := 0) (j := 13) zwX11_layer_0 rfl)
theorem dX11_layer_14 : decode cX11_layer 14 = .ok (.aload_n 0, 1) := z_o42 (z_wat (q := 0) (j := 14) zwX11_layer_0 rfl)
theorem dX11_layer_15 : decode cX11_layer 15 = .ok (.getfield 19, 3) := z_o180 (z_wat (q := 0) (j := 15) zwX11_layer_0 rfl) (z_wat (q := 0) (j := 16) zwX11_layer_0 rfl) (z_wat (q := 0) (j := 17) zwX11_layer_0 rfl) rfl
theorem dX11_layer_18 : decode cX11_layer 18 = .ok (.dup, 1) := z_o89 (z_wat (q := 0) (j := 18) zwX11_layer_0 rfl)
theorem dX11_layer_19 : decode cX11_layer 19 = .ok (.getfield 137, 3) := z_o180 (z_wat (q := 0) (j := 19) zwX11_layer_0 rfl) (z_wat (q := 0) (j := 20) zwX11_layer_0 rfl) (z_wat (q := 0) (j := 21) zwX11_layer_0 rfl) rfl
theorem dX11_layer_22 : decode cX11_layer 22 = .ok (.iconst 1, 1) := z_o4 (z_wat (q := 0) (j := 22) zwX11_layer_0 rfl)
theorem dX11_layer_23 : decode cX11_layer 23 = .ok (.iadd, 1) := z_o96 (z_wat (q := 0) (j := 23) zwX11_layer_0 rfl)
theorem dX11_layer_24 : decode cX11_layer 24 = .ok (.putfield 137, 3) := z_o181 (z_wat (q := 0) (j := 24) zwX11_layer_0 rfl) (z_wat (q := 0) (j := 25) zwX11_layer_0 rfl) (z_wat (q := 0) (j := 26) zwX11_layer_0 rfl) rfl
theorem dX11_layer_27 : decode cX11_layer 27 = .ok (.aload_n 0, 1) := z_o42 (z_wat (q := 0) (j := 27) zwX11_layer_0 rfl)
theorem dX11_layer_28 : decode cX11_layer 28 = .ok (.getfield 19, 3) := z_o180 (z_wat (q := 0) (j := 28) zwX11_layer_0 rfl) (z_wat (q := 0) (j := 29) zwX11_layer_0 rfl) (z_wat (q := 0) (j := 30) zwX11_layer_0 rfl) rfl
theorem dX11_layer_31 : decode cX11_layer 31 = .ok (.getfield 137, 3) := z_o180 (z_wat (q := 0) (j := 31) zwX11_layer_0 rfl) (z_wat (q := 0) (j := 32) zwX11_layer_0 rfl) (z_wat (q := 0) (j := 33) zwX11_layer_0 rfl) rfl
theorem zwX11_layer_32 : ((cX11_layer.data.toList.drop 32).take 5).map UInt8.toNat = [0, 137, 4, 100, 172] := by decide +kernel
theorem dX11_layer_34 : decode cX11_layer 34 = .ok (.iconst 1, 1) := z_o4 (z_wat (q := 32) (j := 2) zwX11_layer_32 rfl)
theorem dX11_layer_35 : decode cX11_layer 35 = .ok (.isub, 1) := z_o100 (z_wat (q := 32) (j := 3) zwX11_layer_32 rfl)
theorem dX11_layer_36 : decode cX11_layer 36 = .ok (.ireturn, 1) := z_o172 (z_wat (q := 32) (j := 4) zwX11_layer_32 rfl)
theorem zwX11_measure_0 : ((cX11_measure.data.toList.drop 0).take 28).map UInt8.toNat = [42, 180, 0, 19, 27, 182, 0, 115, 153, 0, 18, 42, 180, 0, 56, 27, 28, 29, 21, 4, 182, 1, 7, 167, 0, 4, 2, 172] := by decide +kernel
theorem dX11_measure_0 : decode cX11_measure 0 = .ok (.aload_n 0, 1) := z_o42 (z_wat (q := 0) (j := 0) zwX11_measure_0 rfl)
theorem dX11_measure_1 : decode cX11_measure 1 = .ok (.getfield 19, 3) := z_o180 (z_wat (q := 0) (j := 1) zwX11_measure_0 rfl) (z_wat (q := 0) (j := 2) zwX11_measure_0 rfl) (z_wat (q := 0) (j := 3) zwX11_measure_0 rfl) rfl
theorem dX11_measure_4 : decode cX11_measure 4 = .ok (.iload_n 1, 1) := z_o27 (z_wat (q := 0) (j := 4) zwX11_measure_0 rfl)
theorem dX11_measure_5 : decode cX11_measure 5 = .ok (.invokevirtual 115, 3) := z_o182 (z_wat (q := 0) (j := 5) zwX11_measure_0 rfl) (z_wat (q := 0) (j := 6) zwX11_measure_0 rfl) (z_wat (q := 0) (j := 7) zwX11_measure_0 rfl) rfl
theorem dX11_measure_8 : decode cX11_measure 8 = .ok (.ifCond .eq 18, 3) := z_o153 (z_wat (q := 0) (j := 8) zwX11_measure_0 rfl) (z_wat (q := 0) (j := 9) zwX11_measure_0 rfl) (z_wat (q := 0) (j := 10) zwX11_measure_0 rfl) rfl
theorem dX11_measure_11 : decode cX11_measure 11 = .ok (.aload_n 0, 1) := z_o42 (z_wat (q := 0) (j := 11) zwX11_measure_0 rfl)
theorem dX11_measure_12 : decode cX11_measure 12 = .ok (.getfield 56, 3) := z_o180 (z_wat (q := 0) (j := 12) zwX11_measure_0 rfl) (z_wat (q := 0) (j := 13) zwX11_measure_0 rfl) (z_wat (q := 0) (j := 14) zwX11_measure_0 rfl) rfl
theorem dX11_measure_15 : decode cX11_measure 15 = .ok (.iload_n 1, 1) := z_o27 (z_wat (q := 0) (j := 15) zwX11_measure_0 rfl)
theorem dX11_measure_16 : decode cX11_measure 16 = .ok (.iload_n 2, 1) := z_o28 (z_wat (q := 0) (j := 16) zwX11_measure_0 rfl)
theorem dX11_measure_17 : decode cX11_measure 17 = .ok (.iload_n 3, 1) := z_o29 (z_wat (q := 0) (j := 17) zwX11_measure_0 rfl)
theorem dX11_measure_18 : decode cX11_measure 18 = .ok (.iload 4, 2) := z_o21 (z_wat (q := 0) (j := 18) zwX11_measure_0 rfl) (z_wat (q := 0) (j := 19) zwX11_measure_0 rfl)
theorem dX11_measure_20 : decode cX11_measure 20 = .ok (.invokevirtual 263, 3) := z_o182 (z_wat (q := 0) (j := 20) zwX11_measure_0 rfl) (z_wat (q := 0) (j := 21) zwX11_measure_0 rfl) (z_wat (q := 0) (j := 22) zwX11_measure_0 rfl) rfl
theorem dX11_measure_23 : decode cX11_measure 23 = .ok (.goto 4, 3) := z_o167 (z_wat (q := 0) (j := 23) zwX11_measure_0 rfl) (z_wat (q := 0) (j := 24) zwX11_measure_0 rfl) (z_wat (q := 0) (j := 25) zwX11_measure_0 rfl) rfl
theorem dX11_measure_26 : decode cX11_measure 26 = .ok (.iconst (-1), 1) := z_o2 (z_wat (q := 0) (j := 26) zwX11_measure_0 rfl)
theorem dX11_measure_27 : decode cX11_measure 27 = .ok (.ireturn, 1) := z_o172 (z_wat (q := 0) (j := 27) zwX11_measure_0 rfl)
theorem zwX11_note_0 : ((cX11_note.data.toList.drop 0).take 34).map UInt8.toNat = [42, 180, 0, 19, 28, 182, 0, 115, 154, 0, 5, 2, 172, 27, 6, 160, 0, 38, 29, 155, 0, 32, 29, 21, 4, 163, 0, 26, 21, 4, 17, 39, 15, 163] := by decide +kernel
theorem dX11_note_0 : decode cX11_note 0 = .ok (.aload_n 0, 1) := z_o42 (z_wat (q := 0) (j := 0) zwX11_note_0 rfl)
theorem dX11_note_1 : decode cX11_note 1 = .ok (.getfield 19, 3) := z_o180 (z_wat (q := 0) (j := 1) zwX11_note_0 rfl) (z_wat (q := 0) (j := 2) zwX11_note_0 rfl) (z_wat (q := 0) (j := 3) zwX11_note_0 rfl) rfl
theorem dX11_note_4 : decode cX11_note 4 = .ok (.iload_n 2, 1) := z_o28 (z_wat (q := 0) (j := 4) zwX11_note_0 rfl)
theorem dX11_note_5 : decode cX11_note 5 = .ok (.invokevirtual 115, 3) := z_o182 (z_wat (q := 0) (j := 5) zwX11_note_0 rfl) (z_wat (q := 0) (j := 6) zwX11_note_0 rfl) (z_wat (q := 0) (j := 7) zwX11_note_0 rfl) rfl
theorem dX11_note_8 : decode cX11_note 8 = .ok (.ifCond .ne 5, 3) := z_o154 (z_wat (q := 0) (j := 8) zwX11_note_0 rfl) (z_wat (q := 0) (j := 9) zwX11_note_0 rfl) (z_wat (q := 0) (j := 10) zwX11_note_0 rfl) rfl
theorem dX11_note_11 : decode cX11_note 11 = .ok (.iconst (-1), 1) := z_o2 (z_wat (q := 0) (j := 11) zwX11_note_0 rfl)
theorem dX11_note_12 : decode cX11_note 12 = .ok (.ireturn, 1) := z_o172 (z_wat (q := 0) (j := 12) zwX11_note_0 rfl)
theorem dX11_note_13 : decode cX11_note 13 = .ok (.iload_n 1, 1) := z_o27 (z_wat (q := 0) (j := 13) zwX11_note_0 rfl)
theorem dX11_note_14 : decode cX11_note 14 = .ok (.iconst 3, 1) := z_o6 (z_wat (q := 0) (j := 14) zwX11_note_0 rfl)
theorem dX11_note_15 : decode cX11_note 15 = .ok (.if_icmp .ne 38, 3) := z_o160 (z_wat (q := 0) (j := 15) zwX11_note_0 rfl) (z_wat (q := 0) (j := 16) zwX11_note_0 rfl) (z_wat (q := 0) (j := 17) zwX11_note_0 rfl) rfl
theorem dX11_note_18 : decode cX11_note 18 = .ok (.iload_n 3, 1) := z_o29 (z_wat (q := 0) (j := 18) zwX11_note_0 rfl)
theorem dX11_note_19 : decode cX11_note 19 = .ok (.ifCond .lt 32, 3) := z_o155 (z_wat (q := 0) (j := 19) zwX11_note_0 rfl) (z_wat (q := 0) (j := 20) zwX11_note_0 rfl) (z_wat (q := 0) (j := 21) zwX11_note_0 rfl) rfl
theorem dX11_note_22 : decode cX11_note 22 = .ok (.iload_n 3, 1) := z_o29 (z_wat (q := 0) (j := 22) zwX11_note_0 rfl)
theorem dX11_note_23 : decode cX11_note 23 = .ok (.iload 4, 2) := z_o21 (z_wat (q := 0) (j := 23) zwX11_note_0 rfl) (z_wat (q := 0) (j := 24) zwX11_note_0 rfl)
theorem dX11_note_25 : decode cX11_note 25 = .ok (.if_icmp .gt 26, 3) := z_o163 (z_wat (q := 0) (j := 25) zwX11_note_0 rfl) (z_wat (q := 0) (j := 26) zwX11_note_0 rfl) (z_wat (q := 0) (j := 27) zwX11_note_0 rfl) rfl
theorem dX11_note_28 : decode cX11_note 28 = .ok (.iload 4, 2) := z_o21 (z_wat (q := 0) (j := 28) zwX11_note_0 rfl) (z_wat (q := 0) (j := 29) zwX11_note_0 rfl)
theorem dX11_note_30 : decode cX11_note 30 = .ok (.sipush 9999, 3) := z_o17 (z_wat (q := 0) (j := 30) zwX11_note_0 rfl) (z_wat (q := 0) (j := 31) zwX11_note_0 rfl) (z_wat (q := 0) (j := 32) zwX11_note_0 rfl) rfl
theorem zwX11_note_32 : ((cX11_note.data.toList.drop 32).take 34).map UInt8.toNat = [15, 163, 0, 18, 42, 180, 0, 19, 27, 28, 29, 21, 4, 182, 0, 127, 167, 0, 4, 2, 172, 27, 153, 0, 15, 27, 4, 159, 0, 10, 27, 5, 159, 0] := by decide +kernel
theorem dX11_note_33 : decode cX11_note 33 = .ok (.if_icmp .gt 18, 3) := z_o163 (z_wat (q := 32) (j := 1) zwX11_note_32 rfl) (z_wat (q := 32) (j := 2) zwX11_note_32 rfl) (z_wat (q := 32) (j := 3) zwX11_note_32 rfl) rfl
theorem dX11_note_36 : decode cX11_note 36 = .ok (.aload_n 0, 1) := z_o42 (z_wat (q := 32) (j := 4) zwX11_note_32 rfl)
theorem dX11_note_37 : decode cX11_note 37 = .ok (.getfield 19, 3) := z_o180 (z_wat (q := 32) (j := 5) zwX11_note_32 rfl) (z_wat (q := 32) (j := 6) zwX11_note_32 rfl) (z_wat (q := 32) (j := 7) zwX11_note_32 rfl) rfl
theorem dX11_note_40 : decode cX11_note 40 = .ok (.iload_n 1, 1) := z_o27 (z_wat (q := 32) (j := 8) zwX11_note_32 rfl)
theorem dX11_note_41 : decode cX11_note 41 = .ok (.iload_n 2, 1) := z_o28 (z_wat (q := 32) (j := 9) zwX11_note_32 rfl)
theorem dX11_note_42 : decode cX11_note 42 = .ok (.iload_n 3, 1) := z_o29 (z_wat (q := 32) (j := 10) zwX11_note_32 rfl)
theorem dX11_note_43 : decode cX11_note 43 = .ok (.iload 4, 2) := z_o21 (z_wat (q := 32) (j := 11) zwX11_note_32 rfl) (z_wat (q := 32) (j := 12) zwX11_note_32 rfl)
theorem dX11_note_45 : decode cX11_note 45 = .ok (.invokevirtual 127, 3) := z_o182 (z_wat (q := 32) (j := 13) zwX11_note_32 rfl) (z_wat (q := 32) (j := 14) zwX11_note_32 rfl) (z_wat (q := 32) (j := 15) zwX11_note_32 rfl) rfl
theorem dX11_note_48 : decode cX11_note 48 = .ok (.goto 4, 3) := z_o167 (z_wat (q := 32) (j := 16) zwX11_note_32 rfl) (z_wat (q := 32) (j := 17) zwX11_note_32 rfl) (z_wat (q := 32) (j := 18) zwX11_note_32 rfl) rfl
theorem dX11_note_51 : decode cX11_note 51 = .ok (.iconst (-1), 1) := z_o2 (z_wat (q := 32) (j := 19) zwX11_note_32 rfl)
theorem dX11_note_52 : decode cX11_note 52 = .ok (.ireturn, 1) := z_o172 (z_wat (q := 32) (j := 20) zwX11_note_32 rfl)
theorem dX11_note_53 : decode cX11_note 53 = .ok (.iload_n 1, 1) := z_o27 (z_wat (q := 32) (j := 21) zwX11_note_32 rfl)
theorem dX11_note_54 : decode cX11_note 54 = .ok (.ifCond .eq 15, 3) := z_o153 (z_wat (q := 32) (j := 22) zwX11_note_32 rfl) (z_wat (q := 32) (j := 23) zwX11_note_32 rfl) (z_wat (q := 32) (j := 24) zwX11_note_32 rfl) rfl
theorem dX11_note_57 : decode cX11_note 57 = .ok (.iload_n 1, 1) := z_o27 (z_wat (q := 32) (j := 25) zwX11_note_32 rfl)
theorem dX11_note_58 : decode cX11_note 58 = .ok (.iconst 1, 1) := z_o4 (z_wat (q := 32) (j := 26) zwX11_note_32 rfl)
theorem dX11_note_59 : decode cX11_note 59 = .ok (.if_icmp .eq 10, 3) := z_o159 (z_wat (q := 32) (j := 27) zwX11_note_32 rfl) (z_wat (q := 32) (j := 28) zwX11_note_32 rfl) (z_wat (q := 32) (j := 29) zwX11_note_32 rfl) rfl
theorem dX11_note_62 : decode cX11_note 62 = .ok (.iload_n 1, 1) := z_o27 (z_wat (q := 32) (j := 30) zwX11_note_32 rfl)
theorem dX11_note_63 : decode cX11_note 63 = .ok (.iconst 2, 1) := z_o5 (z_wat (q := 32) (j := 31) zwX11_note_32 rfl)
theorem zwX11_note_64 : ((cX11_note.data.toList.drop 64).take 34).map UInt8.toNat = [159, 0, 5, 2, 172, 42, 180, 0, 19, 29, 182, 0, 115, 153, 0, 22, 28, 29, 159, 0, 17, 42, 180, 0, 19, 27, 28, 29, 3, 182, 0, 127, 167, 0] := by decide +kernel
theorem dX11_note_64 : decode cX11_note 64 = .ok (.if_icmp .eq 5, 3) := z_o159 (z_wat (q := 64) (j := 0) zwX11_note_64 rfl) (z_wat (q := 64) (j := 1) zwX11_note_64 rfl) (z_wat (q := 64) (j := 2) zwX11_note_64 rfl) rfl
theorem dX11_note_67 : decode cX11_note 67 = .ok (.iconst (-1), 1) := z_o2 (z_wat (q := 64) (j := 3) zwX11_note_64 rfl)
theorem dX11_note_68 : decode cX11_note 68 = .ok (.ireturn, 1) := z_o172 (z_wat (q := 64) (j := 4) zwX11_note_64 rfl)
theorem dX11_note_69 : decode cX11_note 69 = .ok (.aload_n 0, 1) := z_o42 (z_wat (q := 64) (j := 5) zwX11_note_64 rfl)
theorem dX11_note_70 : decode cX11_note 70 = .ok (.getfield 19, 3) := z_o180 (z_wat (q := 64) (j := 6) zwX11_note_64 rfl) (z_wat (q := 64) (j := 7) zwX11_note_64 rfl) (z_wat (q := 64) (j := 8) zwX11_note_64 rfl) rfl
theorem dX11_note_73 : decode cX11_note 73 = .ok (.iload_n 3, 1) := z_o29 (z_wat (q := 64) (j := 9) zwX11_note_64 rfl)
theorem dX11_note_74 : decode cX11_note 74 = .ok (.invokevirtual 115, 3) := z_o182 (z_wat (q := 64) (j := 10) zwX11_note_64 rfl) (z_wat (q := 64) (j := 11) zwX11_note_64 rfl) (z_wat (q := 64) (j := 12) zwX11_note_64 rfl) rfl
theorem dX11_note_77 : decode cX11_note 77 = .ok (.ifCond .eq 22, 3) := z_o153 (z_wat (q := 64) (j := 13) zwX11_note_64 rfl) (z_wat (q := 64) (j := 14) zwX11_note_64 rfl) (z_wat (q := 64) (j := 15) zwX11_note_64 rfl) rfl
theorem dX11_note_80 : decode cX11_note 80 = .ok (.iload_n 2, 1) := z_o28 (z_wat (q := 64) (j := 16) zwX11_note_64 rfl)
theorem dX11_note_81 : decode cX11_note 81 = .ok (.iload_n 3, 1) := z_o29 (z_wat (q := 64) (j := 17) zwX11_note_64 rfl)
theorem dX11_note_82 : decode cX11_note 82 = .ok (.if_icmp .eq 17, 3) := z_o159 (z_wat (q := 64) (j := 18) zwX11_note_64 rfl) (z_wat (q := 64) (j := 19) zwX11_note_64 rfl) (z_wat (q := 64) (j := 20) zwX11_note_64 rfl) rfl
theorem dX11_note_85 : decode cX11_note 85 = .ok (.aload_n 0, 1) := z_o42 (z_wat (q := 64) (j := 21) zwX11_note_64 rfl)
theorem dX11_note_86 : decode cX11_note 86 = .ok (.getfield 19, 3) := z_o180 (z_wat (q := 64) (j := 22) zwX11_note_64 rfl) (z_wat (q := 64) (j := 23) zwX11_note_64 rfl) (z_wat (q := 64) (j := 24) zwX11_note_64 rfl) rfl
theorem dX11_note_89 : decode cX11_note 89 = .ok (.iload_n 1, 1) := z_o27 (z_wat (q := 64) (j := 25) zwX11_note_64 rfl)
theorem dX11_note_90 : decode cX11_note 90 = .ok (.iload_n 2, 1) := z_o28 (z_wat (q := 64) (j := 26) zwX11_note_64 rfl)
theorem dX11_note_91 : decode cX11_note 91 = .ok (.iload_n 3, 1) := z_o29 (z_wat (q := 64) (j := 27) zwX11_note_64 rfl)
theorem dX11_note_92 : decode cX11_note 92 = .ok (.iconst 0, 1) := z_o3 (z_wat (q := 64) (j := 28) zwX11_note_64 rfl)
theorem dX11_note_93 : decode cX11_note 93 = .ok (.invokevirtual 127, 3) := z_o182 (z_wat (q := 64) (j := 29) zwX11_note_64 rfl) (z_wat (q := 64) (j := 30) zwX11_note_64 rfl) (z_wat (q := 64) (j := 31) zwX11_note_64 rfl) rfl
theorem zwX11_note_96 : ((cX11_note.data.toList.drop 96).take 5).map UInt8.toNat = [167, 0, 4, 2, 172] := by decide +kernel
theorem dX11_note_96 : decode cX11_note 96 = .ok (.goto 4, 3) := z_o167 (z_wat (q := 96) (j := 0) zwX11_note_96 rfl) (z_wat (q := 96) (j := 1) zwX11_note_96 rfl) (z_wat (q := 96) (j := 2) zwX11_note_96 rfl) rfl
theorem dX11_note_99 : decode cX11_note 99 = .ok (.iconst (-1), 1) := z_o2 (z_wat (q := 96) (j := 3) zwX11_note_96 rfl)
theorem dX11_note_100 : decode cX11_note 100 = .ok (.ireturn, 1) := z_o172 (z_wat (q := 96) (j := 4) zwX11_note_96 rfl)
theorem zwX11_order_0 : ((cX11_order.data.toList.drop 0).take 34).map UInt8.toNat = [42, 180, 0, 19, 27, 182, 0, 140, 153, 0, 25, 42, 180, 0, 19, 28, 182, 0, 115, 153, 0, 14, 42, 180, 0, 19, 29, 182, 0, 115, 154, 0, 5, 2] := by decide +kernel
theorem dX11_order_0 : decode cX11_order 0 = .ok (.aload_n 0, 1) := z_o42 (z_wat (q := 0) (j := 0) zwX11_order_0 rfl)
theorem dX11_order_1 : decode cX11_order 1 = .ok (.getfield 19, 3) := z_o180 (z_wat (q := 0) (j := 1) zwX11_order_0 rfl) (z_wat (q := 0) (j := 2) zwX11_order_0 rfl) (z_wat (q := 0) (j := 3) zwX11_order_0 rfl) rfl
theorem dX11_order_4 : decode cX11_order 4 = .ok (.iload_n 1, 1) := z_o27 (z_wat (q := 0) (j := 4) zwX11_order_0 rfl)
theorem dX11_order_5 : decode cX11_order 5 = .ok (.invokevirtual 140, 3) := z_o182 (z_wat (q := 0) (j := 5) zwX11_order_0 rfl) (z_wat (q := 0) (j := 6) zwX11_order_0 rfl) (z_wat (q := 0) (j := 7) zwX11_order_0 rfl) rfl
theorem dX11_order_8 : decode cX11_order 8 = .ok (.ifCond .eq 25, 3) := z_o153 (z_wat (q := 0) (j := 8) zwX11_order_0 rfl) (z_wat (q := 0) (j := 9) zwX11_order_0 rfl) (z_wat (q := 0) (j := 10) zwX11_order_0 rfl) rfl
theorem dX11_order_11 : decode cX11_order 11 = .ok (.aload_n 0, 1) := z_o42 (z_wat (q := 0) (j := 11) zwX11_order_0 rfl)
theorem dX11_order_12 : decode cX11_order 12 = .ok (.getfield 19, 3) := z_o180 (z_wat (q := 0) (j := 12) zwX11_order_0 rfl) (z_wat (q := 0) (j := 13) zwX11_order_0 rfl) (z_wat (q := 0) (j := 14) zwX11_order_0 rfl) rfl
theorem dX11_order_15 : decode cX11_order 15 = .ok (.iload_n 2, 1) := z_o28 (z_wat (q := 0) (j := 15) zwX11_order_0 rfl)
theorem dX11_order_16 : decode cX11_order 16 = .ok (.invokevirtual 115, 3) := z_o182 (z_wat (q := 0) (j := 16) zwX11_order_0 rfl) (z_wat (q := 0) (j := 17) zwX11_order_0 rfl) (z_wat (q := 0) (j := 18) zwX11_order_0 rfl) rfl
theorem dX11_order_19 : decode cX11_order 19 = .ok (.ifCond .eq 14, 3) := z_o153 (z_wat (q := 0) (j := 19) zwX11_order_0 rfl) (z_wat (q := 0) (j := 20) zwX11_order_0 rfl) (z_wat (q := 0) (j := 21) zwX11_order_0 rfl) rfl
theorem dX11_order_22 : decode cX11_order 22 = .ok (.aload_n 0, 1) := z_o42 (z_wat (q := 0) (j := 22) zwX11_order_0 rfl)
theorem dX11_order_23 : decode cX11_order 23 = .ok (.getfield 19, 3) := z_o180 (z_wat (q := 0) (j := 23) zwX11_order_0 rfl) (z_wat (q := 0) (j := 24) zwX11_order_0 rfl) (z_wat (q := 0) (j := 25) zwX11_order_0 rfl) rfl
theorem dX11_order_26 : decode cX11_order 26 = .ok (.iload_n 3, 1) := z_o29 (z_wat (q := 0) (j := 26) zwX11_order_0 rfl)
theorem dX11_order_27 : decode cX11_order 27 = .ok (.invokevirtual 115, 3) := z_o182 (z_wat (q := 0) (j := 27) zwX11_order_0 rfl) (z_wat (q := 0) (j := 28) zwX11_order_0 rfl) (z_wat (q := 0) (j := 29) zwX11_order_0 rfl) rfl
theorem dX11_order_30 : decode cX11_order 30 = .ok (.ifCond .ne 5, 3) := z_o154 (z_wat (q := 0) (j := 30) zwX11_order_0 rfl) (z_wat (q := 0) (j := 31) zwX11_order_0 rfl) (z_wat (q := 0) (j := 32) zwX11_order_0 rfl) rfl
theorem zwX11_order_32 : ((cX11_order.data.toList.drop 32).take 34).map UInt8.toNat = [5, 2, 172, 42, 180, 0, 28, 27, 182, 0, 143, 42, 180, 0, 28, 180, 0, 146, 28, 46, 54, 4, 42, 180, 0, 28, 180, 0, 146, 29, 46, 54, 5, 42] := by decide +kernel
theorem dX11_order_33 : decode cX11_order 33 = .ok (.iconst (-1), 1) := z_o2 (z_wat (q := 32) (j := 1) zwX11_order_32 rfl)
theorem dX11_order_34 : decode cX11_order 34 = .ok (.ireturn, 1) := z_o172 (z_wat (q := 32) (j := 2) zwX11_order_32 rfl)
theorem dX11_order_35 : decode cX11_order 35 = .ok (.aload_n 0, 1) := z_o42 (z_wat (q := 32) (j := 3) zwX11_order_32 rfl)
theorem dX11_order_36 : decode cX11_order 36 = .ok (.getfield 28, 3) := z_o180 (z_wat (q := 32) (j := 4) zwX11_order_32 rfl) (z_wat (q := 32) (j := 5) zwX11_order_32 rfl) (z_wat (q := 32) (j := 6) zwX11_order_32 rfl) rfl
theorem dX11_order_39 : decode cX11_order 39 = .ok (.iload_n 1, 1) := z_o27 (z_wat (q := 32) (j := 7) zwX11_order_32 rfl)
theorem dX11_order_40 : decode cX11_order 40 = .ok (.invokevirtual 143, 3) := z_o182 (z_wat (q := 32) (j := 8) zwX11_order_32 rfl) (z_wat (q := 32) (j := 9) zwX11_order_32 rfl) (z_wat (q := 32) (j := 10) zwX11_order_32 rfl) rfl
theorem dX11_order_43 : decode cX11_order 43 = .ok (.aload_n 0, 1) := z_o42 (z_wat (q := 32) (j := 11) zwX11_order_32 rfl)
theorem dX11_order_44 : decode cX11_order 44 = .ok (.getfield 28, 3) := z_o180 (z_wat (q := 32) (j := 12) zwX11_order_32 rfl) (z_wat (q := 32) (j := 13) zwX11_order_32 rfl) (z_wat (q := 32) (j := 14) zwX11_order_32 rfl) rfl
theorem dX11_order_47 : decode cX11_order 47 = .ok (.getfield 146, 3) := z_o180 (z_wat (q := 32) (j := 15) zwX11_order_32 rfl) (z_wat (q := 32) (j := 16) zwX11_order_32 rfl) (z_wat (q := 32) (j := 17) zwX11_order_32 rfl) rfl
theorem dX11_order_50 : decode cX11_order 50 = .ok (.iload_n 2, 1) := z_o28 (z_wat (q := 32) (j := 18) zwX11_order_32 rfl)
theorem dX11_order_51 : decode cX11_order 51 = .ok (.iaload, 1) := z_o46 (z_wat (q := 32) (j := 19) zwX11_order_32 rfl)
theorem dX11_order_52 : decode cX11_order 52 = .ok (.istore 4, 2) := z_o54 (z_wat (q := 32) (j := 20) zwX11_order_32 rfl) (z_wat (q := 32) (j := 21) zwX11_order_32 rfl)
theorem dX11_order_54 : decode cX11_order 54 = .ok (.aload_n 0, 1) := z_o42 (z_wat (q := 32) (j := 22) zwX11_order_32 rfl)
theorem dX11_order_55 : decode cX11_order 55 = .ok (.getfield 28, 3) := z_o180 (z_wat (q := 32) (j := 23) zwX11_order_32 rfl) (z_wat (q := 32) (j := 24) zwX11_order_32 rfl) (z_wat (q := 32) (j := 25) zwX11_order_32 rfl) rfl
theorem dX11_order_58 : decode cX11_order 58 = .ok (.getfield 146, 3) := z_o180 (z_wat (q := 32) (j := 26) zwX11_order_32 rfl) (z_wat (q := 32) (j := 27) zwX11_order_32 rfl) (z_wat (q := 32) (j := 28) zwX11_order_32 rfl) rfl
theorem dX11_order_61 : decode cX11_order 61 = .ok (.iload_n 3, 1) := z_o29 (z_wat (q := 32) (j := 29) zwX11_order_32 rfl)
theorem dX11_order_62 : decode cX11_order 62 = .ok (.iaload, 1) := z_o46 (z_wat (q := 32) (j := 30) zwX11_order_32 rfl)
theorem dX11_order_63 : decode cX11_order 63 = .ok (.istore 5, 2) := z_o54 (z_wat (q := 32) (j := 31) zwX11_order_32 rfl) (z_wat (q := 32) (j := 32) zwX11_order_32 rfl)
theorem zwX11_order_64 : ((cX11_order.data.toList.drop 64).take 34).map UInt8.toNat = [5, 42, 180, 0, 28, 21, 4, 21, 5, 182, 0, 171, 153, 0, 7, 4, 167, 0, 4, 3, 42, 180, 0, 28, 21, 5, 21, 4, 182, 0, 171, 153, 0, 7] := by decide +kernel
theorem dX11_order_65 : decode cX11_order 65 = .ok (.aload_n 0, 1) := z_o42 (z_wat (q := 64) (j := 1) zwX11_order_64 rfl)
theorem dX11_order_66 : decode cX11_order 66 = .ok (.getfield 28, 3) := z_o180 (z_wat (q := 64) (j := 2) zwX11_order_64 rfl) (z_wat (q := 64) (j := 3) zwX11_order_64 rfl) (z_wat (q := 64) (j := 4) zwX11_order_64 rfl) rfl
theorem dX11_order_69 : decode cX11_order 69 = .ok (.iload 4, 2) := z_o21 (z_wat (q := 64) (j := 5) zwX11_order_64 rfl) (z_wat (q := 64) (j := 6) zwX11_order_64 rfl)
theorem dX11_order_71 : decode cX11_order 71 = .ok (.iload 5, 2) := z_o21 (z_wat (q := 64) (j := 7) zwX11_order_64 rfl) (z_wat (q := 64) (j := 8) zwX11_order_64 rfl)
theorem dX11_order_73 : decode cX11_order 73 = .ok (.invokevirtual 171, 3) := z_o182 (z_wat (q := 64) (j := 9) zwX11_order_64 rfl) (z_wat (q := 64) (j := 10) zwX11_order_64 rfl) (z_wat (q := 64) (j := 11) zwX11_order_64 rfl) rfl
theorem dX11_order_76 : decode cX11_order 76 = .ok (.ifCond .eq 7, 3) := z_o153 (z_wat (q := 64) (j := 12) zwX11_order_64 rfl) (z_wat (q := 64) (j := 13) zwX11_order_64 rfl) (z_wat (q := 64) (j := 14) zwX11_order_64 rfl) rfl
theorem dX11_order_79 : decode cX11_order 79 = .ok (.iconst 1, 1) := z_o4 (z_wat (q := 64) (j := 15) zwX11_order_64 rfl)
theorem dX11_order_80 : decode cX11_order 80 = .ok (.goto 4, 3) := z_o167 (z_wat (q := 64) (j := 16) zwX11_order_64 rfl) (z_wat (q := 64) (j := 17) zwX11_order_64 rfl) (z_wat (q := 64) (j := 18) zwX11_order_64 rfl) rfl
theorem dX11_order_83 : decode cX11_order 83 = .ok (.iconst 0, 1) := z_o3 (z_wat (q := 64) (j := 19) zwX11_order_64 rfl)
theorem dX11_order_84 : decode cX11_order 84 = .ok (.aload_n 0, 1) := z_o42 (z_wat (q := 64) (j := 20) zwX11_order_64 rfl)
theorem dX11_order_85 : decode cX11_order 85 = .ok (.getfield 28, 3) := z_o180 (z_wat (q := 64) (j := 21) zwX11_order_64 rfl) (z_wat (q := 64) (j := 22) zwX11_order_64 rfl) (z_wat (q := 64) (j := 23) zwX11_order_64 rfl) rfl
theorem dX11_order_88 : decode cX11_order 88 = .ok (.iload 5, 2) := z_o21 (z_wat (q := 64) (j := 24) zwX11_order_64 rfl) (z_wat (q := 64) (j := 25) zwX11_order_64 rfl)
theorem dX11_order_90 : decode cX11_order 90 = .ok (.iload 4, 2) := z_o21 (z_wat (q := 64) (j := 26) zwX11_order_64 rfl) (z_wat (q := 64) (j := 27) zwX11_order_64 rfl)
theorem dX11_order_92 : decode cX11_order 92 = .ok (.invokevirtual 171, 3) := z_o182 (z_wat (q := 64) (j := 28) zwX11_order_64 rfl) (z_wat (q := 64) (j := 29) zwX11_order_64 rfl) (z_wat (q := 64) (j := 30) zwX11_order_64 rfl) rfl
theorem dX11_order_95 : decode cX11_order 95 = .ok (.ifCond .eq 7, 3) := z_o153 (z_wat (q := 64) (j := 31) zwX11_order_64 rfl) (z_wat (q := 64) (j := 32) zwX11_order_64 rfl) (z_wat (q := 64) (j := 33) zwX11_order_64 rfl) rfl
theorem zwX11_order_96 : ((cX11_order.data.toList.drop 96).take 9).map UInt8.toNat = [0, 7, 5, 167, 0, 4, 3, 96, 172] := by decide +kernel
theorem dX11_order_98 : decode cX11_order 98 = .ok (.iconst 2, 1) := z_o5 (z_wat (q := 96) (j := 2) zwX11_order_96 rfl)
theorem dX11_order_99 : decode cX11_order 99 = .ok (.goto 4, 3) := z_o167 (z_wat (q := 96) (j := 3) zwX11_order_96 rfl) (z_wat (q := 96) (j := 4) zwX11_order_96 rfl) (z_wat (q := 96) (j := 5) zwX11_order_96 rfl) rfl
theorem dX11_order_102 : decode cX11_order 102 = .ok (.iconst 0, 1) := z_o3 (z_wat (q := 96) (j := 6) zwX11_order_96 rfl)
theorem dX11_order_103 : decode cX11_order 103 = .ok (.iadd, 1) := z_o96 (z_wat (q := 96) (j := 7) zwX11_order_96 rfl)
theorem dX11_order_104 : decode cX11_order 104 = .ok (.ireturn, 1) := z_o172 (z_wat (q := 96) (j := 8) zwX11_order_96 rfl)
theorem zwX11_quarrel_0 : ((cX11_quarrel.data.toList.drop 0).take 29).map UInt8.toNat = [42, 180, 0, 19, 27, 182, 0, 140, 154, 0, 5, 2, 172, 42, 180, 0, 28, 27, 182, 0, 143, 42, 180, 0, 28, 180, 0, 162, 172] := by decide +kernel
theorem dX11_quarrel_0 : decode cX11_quarrel 0 = .ok (.aload_n 0, 1) := z_o42 (z_wat (q := 0) (j := 0) zwX11_quarrel_0 rfl)
theorem dX11_quarrel_1 : decode cX11_quarrel 1 = .ok (.getfield 19, 3) := z_o180 (z_wat (q := 0) (j := 1) zwX11_quarrel_0 rfl) (z_wat (q := 0) (j := 2) zwX11_quarrel_0 rfl) (z_wat (q := 0) (j := 3) zwX11_quarrel_0 rfl) rfl
theorem dX11_quarrel_4 : decode cX11_quarrel 4 = .ok (.iload_n 1, 1) := z_o27 (z_wat (q := 0) (j := 4) zwX11_quarrel_0 rfl)
theorem dX11_quarrel_5 : decode cX11_quarrel 5 = .ok (.invokevirtual 140, 3) := z_o182 (z_wat (q := 0) (j := 5) zwX11_quarrel_0 rfl) (z_wat (q := 0) (j := 6) zwX11_quarrel_0 rfl) (z_wat (q := 0) (j := 7) zwX11_quarrel_0 rfl) rfl
theorem dX11_quarrel_8 : decode cX11_quarrel 8 = .ok (.ifCond .ne 5, 3) := z_o154 (z_wat (q := 0) (j := 8) zwX11_quarrel_0 rfl) (z_wat (q := 0) (j := 9) zwX11_quarrel_0 rfl) (z_wat (q := 0) (j := 10) zwX11_quarrel_0 rfl) rfl
theorem dX11_quarrel_11 : decode cX11_quarrel 11 = .ok (.iconst (-1), 1) := z_o2 (z_wat (q := 0) (j := 11) zwX11_quarrel_0 rfl)
theorem dX11_quarrel_12 : decode cX11_quarrel 12 = .ok (.ireturn, 1) := z_o172 (z_wat (q := 0) (j := 12) zwX11_quarrel_0 rfl)
theorem dX11_quarrel_13 : decode cX11_quarrel 13 = .ok (.aload_n 0, 1) := z_o42 (z_wat (q := 0) (j := 13) zwX11_quarrel_0 rfl)
theorem dX11_quarrel_14 : decode cX11_quarrel 14 = .ok (.getfield 28, 3) := z_o180 (z_wat (q := 0) (j := 14) zwX11_quarrel_0 rfl) (z_wat (q := 0) (j := 15) zwX11_quarrel_0 rfl) (z_wat (q := 0) (j := 16) zwX11_quarrel_0 rfl) rfl
theorem dX11_quarrel_17 : decode cX11_quarrel 17 = .ok (.iload_n 1, 1) := z_o27 (z_wat (q := 0) (j := 17) zwX11_quarrel_0 rfl)
theorem dX11_quarrel_18 : decode cX11_quarrel 18 = .ok (.invokevirtual 143, 3) := z_o182 (z_wat (q := 0) (j := 18) zwX11_quarrel_0 rfl) (z_wat (q := 0) (j := 19) zwX11_quarrel_0 rfl) (z_wat (q := 0) (j := 20) zwX11_quarrel_0 rfl) rfl
theorem dX11_quarrel_21 : decode cX11_quarrel 21 = .ok (.aload_n 0, 1) := z_o42 (z_wat (q := 0) (j := 21) zwX11_quarrel_0 rfl)
theorem dX11_quarrel_22 : decode cX11_quarrel 22 = .ok (.getfield 28, 3) := z_o180 (z_wat (q := 0) (j := 22) zwX11_quarrel_0 rfl) (z_wat (q := 0) (j := 23) zwX11_quarrel_0 rfl) (z_wat (q := 0) (j := 24) zwX11_quarrel_0 rfl) rfl
theorem dX11_quarrel_25 : decode cX11_quarrel 25 = .ok (.getfield 162, 3) := z_o180 (z_wat (q := 0) (j := 25) zwX11_quarrel_0 rfl) (z_wat (q := 0) (j := 26) zwX11_quarrel_0 rfl) (z_wat (q := 0) (j := 27) zwX11_quarrel_0 rfl) rfl
theorem dX11_quarrel_28 : decode cX11_quarrel 28 = .ok (.ireturn, 1) := z_o172 (z_wat (q := 0) (j := 28) zwX11_quarrel_0 rfl)
theorem zwX11_reads_0 : ((cX11_reads.data.toList.drop 0).take 34).map UInt8.toNat = [27, 184, 0, 234, 153, 0, 12, 28, 155, 0, 8, 28, 7, 161, 0, 5, 3, 172, 16, 16, 29, 21, 4, 21, 5, 21, 6, 184, 0, 237, 153, 0, 18, 29] := by decide +kernel
theorem dX11_reads_0 : decode cX11_reads 0 = .ok (.iload_n 1, 1) := z_o27 (z_wat (q := 0) (j := 0) zwX11_reads_0 rfl)
theorem dX11_reads_1 : decode cX11_reads 1 = .ok (.invokestatic 234, 3) := z_o184 (z_wat (q := 0) (j := 1) zwX11_reads_0 rfl) (z_wat (q := 0) (j := 2) zwX11_reads_0 rfl) (z_wat (q := 0) (j := 3) zwX11_reads_0 rfl) rfl
theorem dX11_reads_4 : decode cX11_reads 4 = .ok (.ifCond .eq 12, 3) := z_o153 (z_wat (q := 0) (j := 4) zwX11_reads_0 rfl) (z_wat (q := 0) (j := 5) zwX11_reads_0 rfl) (z_wat (q := 0) (j := 6) zwX11_reads_0 rfl) rfl
theorem dX11_reads_7 : decode cX11_reads 7 = .ok (.iload_n 2, 1) := z_o28 (z_wat (q := 0) (j := 7) zwX11_reads_0 rfl)
theorem dX11_reads_8 : decode cX11_reads 8 = .ok (.ifCond .lt 8, 3) := z_o155 (z_wat (q := 0) (j := 8) zwX11_reads_0 rfl) (z_wat (q := 0) (j := 9) zwX11_reads_0 rfl) (z_wat (q := 0) (j := 10) zwX11_reads_0 rfl) rfl
theorem dX11_reads_11 : decode cX11_reads 11 = .ok (.iload_n 2, 1) := z_o28 (z_wat (q := 0) (j := 11) zwX11_reads_0 rfl)
theorem dX11_reads_12 : decode cX11_reads 12 = .ok (.iconst 4, 1) := z_o7 (z_wat (q := 0) (j := 12) zwX11_reads_0 rfl)
theorem dX11_reads_13 : decode cX11_reads 13 = .ok (.if_icmp .lt 5, 3) := z_o161 (z_wat (q := 0) (j := 13) zwX11_reads_0 rfl) (z_wat (q := 0) (j := 14) zwX11_reads_0 rfl) (z_wat (q := 0) (j := 15) zwX11_reads_0 rfl) rfl
theorem dX11_reads_16 : decode cX11_reads 16 = .ok (.iconst 0, 1) := z_o3 (z_wat (q := 0) (j := 16) zwX11_reads_0 rfl)
theorem dX11_reads_17 : decode cX11_reads 17 = .ok (.ireturn, 1) := z_o172 (z_wat (q := 0) (j := 17) zwX11_reads_0 rfl)
theorem dX11_reads_18 : decode cX11_reads 18 = .ok (.bipush 16, 2) := z_o16 (z_wat (q := 0) (j := 18) zwX11_reads_0 rfl) (z_wat (q := 0) (j := 19) zwX11_reads_0 rfl) rfl
theorem dX11_reads_20 : decode cX11_reads 20 = .ok (.iload_n 3, 1) := z_o29 (z_wat (q := 0) (j := 20) zwX11_reads_0 rfl)
theorem dX11_reads_21 : decode cX11_reads 21 = .ok (.iload 4, 2) := z_o21 (z_wat (q := 0) (j := 21) zwX11_reads_0 rfl) (z_wat (q := 0) (j := 22) zwX11_reads_0 rfl)
theorem dX11_reads_23 : decode cX11_reads 23 = .ok (.iload 5, 2) := z_o21 (z_wat (q := 0) (j := 23) zwX11_reads_0 rfl) (z_wat (q := 0) (j := 24) zwX11_reads_0 rfl)
theorem dX11_reads_25 : decode cX11_reads 25 = .ok (.iload 6, 2) := z_o21 (z_wat (q := 0) (j := 25) zwX11_reads_0 rfl) (z_wat (q := 0) (j := 26) zwX11_reads_0 rfl)
theorem dX11_reads_27 : decode cX11_reads 27 = .ok (.invokestatic 237, 3) := z_o184 (z_wat (q := 0) (j := 27) zwX11_reads_0 rfl) (z_wat (q := 0) (j := 28) zwX11_reads_0 rfl) (z_wat (q := 0) (j := 29) zwX11_reads_0 rfl) rfl
theorem dX11_reads_30 : decode cX11_reads 30 = .ok (.ifCond .eq 18, 3) := z_o153 (z_wat (q := 0) (j := 30) zwX11_reads_0 rfl) (z_wat (q := 0) (j := 31) zwX11_reads_0 rfl) (z_wat (q := 0) (j := 32) zwX11_reads_0 rfl) rfl
theorem zwX11_reads_32 : ((cX11_reads.data.toList.drop 32).take 34).map UInt8.toNat = [18, 29, 21, 4, 96, 21, 5, 96, 21, 6, 96, 16, 16, 159, 0, 5, 3, 172, 42, 180, 0, 49, 27, 28, 29, 21, 4, 21, 5, 21, 6, 182, 0, 241] := by decide +kernel
theorem dX11_reads_33 : decode cX11_reads 33 = .ok (.iload_n 3, 1) := z_o29 (z_wat (q := 32) (j := 1) zwX11_reads_32 rfl)
theorem dX11_reads_34 : decode cX11_reads 34 = .ok (.iload 4, 2) := z_o21 (z_wat (q := 32) (j := 2) zwX11_reads_32 rfl) (z_wat (q := 32) (j := 3) zwX11_reads_32 rfl)
theorem dX11_reads_36 : decode cX11_reads 36 = .ok (.iadd, 1) := z_o96 (z_wat (q := 32) (j := 4) zwX11_reads_32 rfl)
theorem dX11_reads_37 : decode cX11_reads 37 = .ok (.iload 5, 2) := z_o21 (z_wat (q := 32) (j := 5) zwX11_reads_32 rfl) (z_wat (q := 32) (j := 6) zwX11_reads_32 rfl)
theorem dX11_reads_39 : decode cX11_reads 39 = .ok (.iadd, 1) := z_o96 (z_wat (q := 32) (j := 7) zwX11_reads_32 rfl)
theorem dX11_reads_40 : decode cX11_reads 40 = .ok (.iload 6, 2) := z_o21 (z_wat (q := 32) (j := 8) zwX11_reads_32 rfl) (z_wat (q := 32) (j := 9) zwX11_reads_32 rfl)
theorem dX11_reads_42 : decode cX11_reads 42 = .ok (.iadd, 1) := z_o96 (z_wat (q := 32) (j := 10) zwX11_reads_32 rfl)
theorem dX11_reads_43 : decode cX11_reads 43 = .ok (.bipush 16, 2) := z_o16 (z_wat (q := 32) (j := 11) zwX11_reads_32 rfl) (z_wat (q := 32) (j := 12) zwX11_reads_32 rfl) rfl
theorem dX11_reads_45 : decode cX11_reads 45 = .ok (.if_icmp .eq 5, 3) := z_o159 (z_wat (q := 32) (j := 13) zwX11_reads_32 rfl) (z_wat (q := 32) (j := 14) zwX11_reads_32 rfl) (z_wat (q := 32) (j := 15) zwX11_reads_32 rfl) rfl
theorem dX11_reads_48 : decode cX11_reads 48 = .ok (.iconst 0, 1) := z_o3 (z_wat (q := 32) (j := 16) zwX11_reads_32 rfl)
theorem dX11_reads_49 : decode cX11_reads 49 = .ok (.ireturn, 1) := z_o172 (z_wat (q := 32) (j := 17) zwX11_reads_32 rfl)
theorem dX11_reads_50 : decode cX11_reads 50 = .ok (.aload_n 0, 1) := z_o42 (z_wat (q := 32) (j := 18) zwX11_reads_32 rfl)
theorem dX11_reads_51 : decode cX11_reads 51 = .ok (.getfield 49, 3) := z_o180 (z_wat (q := 32) (j := 19) zwX11_reads_32 rfl) (z_wat (q := 32) (j := 20) zwX11_reads_32 rfl) (z_wat (q := 32) (j := 21) zwX11_reads_32 rfl) rfl
theorem dX11_reads_54 : decode cX11_reads 54 = .ok (.iload_n 1, 1) := z_o27 (z_wat (q := 32) (j := 22) zwX11_reads_32 rfl)
theorem dX11_reads_55 : decode cX11_reads 55 = .ok (.iload_n 2, 1) := z_o28 (z_wat (q := 32) (j := 23) zwX11_reads_32 rfl)
theorem dX11_reads_56 : decode cX11_reads 56 = .ok (.iload_n 3, 1) := z_o29 (z_wat (q := 32) (j := 24) zwX11_reads_32 rfl)
theorem dX11_reads_57 : decode cX11_reads 57 = .ok (.iload 4, 2) := z_o21 (z_wat (q := 32) (j := 25) zwX11_reads_32 rfl) (z_wat (q := 32) (j := 26) zwX11_reads_32 rfl)
theorem dX11_reads_59 : decode cX11_reads 59 = .ok (.iload 5, 2) := z_o21 (z_wat (q := 32) (j := 27) zwX11_reads_32 rfl) (z_wat (q := 32) (j := 28) zwX11_reads_32 rfl)
theorem dX11_reads_61 : decode cX11_reads 61 = .ok (.iload 6, 2) := z_o21 (z_wat (q := 32) (j := 29) zwX11_reads_32 rfl) (z_wat (q := 32) (j := 30) zwX11_reads_32 rfl)
theorem dX11_reads_63 : decode cX11_reads 63 = .ok (.invokevirtual 241, 3) := z_o182 (z_wat (q := 32) (j := 31) zwX11_reads_32 rfl) (z_wat (q := 32) (j := 32) zwX11_reads_32 rfl) (z_wat (q := 32) (j := 33) zwX11_reads_32 rfl) rfl
theorem zwX11_reads_64 : ((cX11_reads.data.toList.drop 64).take 4).map UInt8.toNat = [0, 241, 4, 172] := by decide +kernel
theorem dX11_reads_66 : decode cX11_reads 66 = .ok (.iconst 1, 1) := z_o4 (z_wat (q := 64) (j := 2) zwX11_reads_64 rfl)
theorem dX11_reads_67 : decode cX11_reads 67 = .ok (.ireturn, 1) := z_o172 (z_wat (q := 64) (j := 3) zwX11_reads_64 rfl)
theorem zwX11_strike_0 : ((cX11_strike.data.toList.drop 0).take 31).map UInt8.toNat = [27, 155, 0, 28, 27, 42, 180, 0, 19, 180, 0, 121, 162, 0, 17, 42, 180, 0, 19, 8, 27, 3, 3, 182, 0, 127, 167, 0, 4, 2, 172] := by decide +kernel
theorem dX11_strike_0 : decode cX11_strike 0 = .ok (.iload_n 1, 1) := z_o27 (z_wat (q := 0) (j := 0) zwX11_strike_0 rfl)
theorem dX11_strike_1 : decode cX11_strike 1 = .ok (.ifCond .lt 28, 3) := z_o155 (z_wat (q := 0) (j := 1) zwX11_strike_0 rfl) (z_wat (q := 0) (j := 2) zwX11_strike_0 rfl) (z_wat (q := 0) (j := 3) zwX11_strike_0 rfl) rfl
theorem dX11_strike_4 : decode cX11_strike 4 = .ok (.iload_n 1, 1) := z_o27 (z_wat (q := 0) (j := 4) zwX11_strike_0 rfl)
theorem dX11_strike_5 : decode cX11_strike 5 = .ok (.aload_n 0, 1) := z_o42 (z_wat (q := 0) (j := 5) zwX11_strike_0 rfl)
theorem dX11_strike_6 : decode cX11_strike 6 = .ok (.getfield 19, 3) := z_o180 (z_wat (q := 0) (j := 6) zwX11_strike_0 rfl) (z_wat (q := 0) (j := 7) zwX11_strike_0 rfl) (z_wat (q := 0) (j := 8) zwX11_strike_0 rfl) rfl
theorem dX11_strike_9 : decode cX11_strike 9 = .ok (.getfield 121, 3) := z_o180 (z_wat (q := 0) (j := 9) zwX11_strike_0 rfl) (z_wat (q := 0) (j := 10) zwX11_strike_0 rfl) (z_wat (q := 0) (j := 11) zwX11_strike_0 rfl) rfl
theorem dX11_strike_12 : decode cX11_strike 12 = .ok (.if_icmp .ge 17, 3) := z_o162 (z_wat (q := 0) (j := 12) zwX11_strike_0 rfl) (z_wat (q := 0) (j := 13) zwX11_strike_0 rfl) (z_wat (q := 0) (j := 14) zwX11_strike_0 rfl) rfl
theorem dX11_strike_15 : decode cX11_strike 15 = .ok (.aload_n 0, 1) := z_o42 (z_wat (q := 0) (j := 15) zwX11_strike_0 rfl)
theorem dX11_strike_16 : decode cX11_strike 16 = .ok (.getfield 19, 3) := z_o180 (z_wat (q := 0) (j := 16) zwX11_strike_0 rfl) (z_wat (q := 0) (j := 17) zwX11_strike_0 rfl) (z_wat (q := 0) (j := 18) zwX11_strike_0 rfl) rfl
theorem dX11_strike_19 : decode cX11_strike 19 = .ok (.iconst 5, 1) := z_o8 (z_wat (q := 0) (j := 19) zwX11_strike_0 rfl)
theorem dX11_strike_20 : decode cX11_strike 20 = .ok (.iload_n 1, 1) := z_o27 (z_wat (q := 0) (j := 20) zwX11_strike_0 rfl)
theorem dX11_strike_21 : decode cX11_strike 21 = .ok (.iconst 0, 1) := z_o3 (z_wat (q := 0) (j := 21) zwX11_strike_0 rfl)
theorem dX11_strike_22 : decode cX11_strike 22 = .ok (.iconst 0, 1) := z_o3 (z_wat (q := 0) (j := 22) zwX11_strike_0 rfl)
theorem dX11_strike_23 : decode cX11_strike 23 = .ok (.invokevirtual 127, 3) := z_o182 (z_wat (q := 0) (j := 23) zwX11_strike_0 rfl) (z_wat (q := 0) (j := 24) zwX11_strike_0 rfl) (z_wat (q := 0) (j := 25) zwX11_strike_0 rfl) rfl
theorem dX11_strike_26 : decode cX11_strike 26 = .ok (.goto 4, 3) := z_o167 (z_wat (q := 0) (j := 26) zwX11_strike_0 rfl) (z_wat (q := 0) (j := 27) zwX11_strike_0 rfl) (z_wat (q := 0) (j := 28) zwX11_strike_0 rfl) rfl
theorem dX11_strike_29 : decode cX11_strike 29 = .ok (.iconst (-1), 1) := z_o2 (z_wat (q := 0) (j := 29) zwX11_strike_0 rfl)
theorem dX11_strike_30 : decode cX11_strike 30 = .ok (.ireturn, 1) := z_o172 (z_wat (q := 0) (j := 30) zwX11_strike_0 rfl)
theorem zwX11_thick_0 : ((cX11_thick.data.toList.drop 0).take 34).map UInt8.toNat = [27, 155, 0, 36, 27, 42, 180, 0, 35, 180, 0, 181, 162, 0, 25, 42, 180, 0, 19, 28, 182, 0, 115, 153, 0, 14, 29, 155, 0, 10, 29, 17, 1, 244] := by decide +kernel
theorem dX11_thick_0 : decode cX11_thick 0 = .ok (.iload_n 1, 1) := z_o27 (z_wat (q := 0) (j := 0) zwX11_thick_0 rfl)
theorem dX11_thick_1 : decode cX11_thick 1 = .ok (.ifCond .lt 36, 3) := z_o155 (z_wat (q := 0) (j := 1) zwX11_thick_0 rfl) (z_wat (q := 0) (j := 2) zwX11_thick_0 rfl) (z_wat (q := 0) (j := 3) zwX11_thick_0 rfl) rfl
theorem dX11_thick_4 : decode cX11_thick 4 = .ok (.iload_n 1, 1) := z_o27 (z_wat (q := 0) (j := 4) zwX11_thick_0 rfl)
theorem dX11_thick_5 : decode cX11_thick 5 = .ok (.aload_n 0, 1) := z_o42 (z_wat (q := 0) (j := 5) zwX11_thick_0 rfl)
theorem dX11_thick_6 : decode cX11_thick 6 = .ok (.getfield 35, 3) := z_o180 (z_wat (q := 0) (j := 6) zwX11_thick_0 rfl) (z_wat (q := 0) (j := 7) zwX11_thick_0 rfl) (z_wat (q := 0) (j := 8) zwX11_thick_0 rfl) rfl
theorem dX11_thick_9 : decode cX11_thick 9 = .ok (.getfield 181, 3) := z_o180 (z_wat (q := 0) (j := 9) zwX11_thick_0 rfl) (z_wat (q := 0) (j := 10) zwX11_thick_0 rfl) (z_wat (q := 0) (j := 11) zwX11_thick_0 rfl) rfl
theorem dX11_thick_12 : decode cX11_thick 12 = .ok (.if_icmp .ge 25, 3) := z_o162 (z_wat (q := 0) (j := 12) zwX11_thick_0 rfl) (z_wat (q := 0) (j := 13) zwX11_thick_0 rfl) (z_wat (q := 0) (j := 14) zwX11_thick_0 rfl) rfl
theorem dX11_thick_15 : decode cX11_thick 15 = .ok (.aload_n 0, 1) := z_o42 (z_wat (q := 0) (j := 15) zwX11_thick_0 rfl)
theorem dX11_thick_16 : decode cX11_thick 16 = .ok (.getfield 19, 3) := z_o180 (z_wat (q := 0) (j := 16) zwX11_thick_0 rfl) (z_wat (q := 0) (j := 17) zwX11_thick_0 rfl) (z_wat (q := 0) (j := 18) zwX11_thick_0 rfl) rfl
theorem dX11_thick_19 : decode cX11_thick 19 = .ok (.iload_n 2, 1) := z_o28 (z_wat (q := 0) (j := 19) zwX11_thick_0 rfl)
theorem dX11_thick_20 : decode cX11_thick 20 = .ok (.invokevirtual 115, 3) := z_o182 (z_wat (q := 0) (j := 20) zwX11_thick_0 rfl) (z_wat (q := 0) (j := 21) zwX11_thick_0 rfl) (z_wat (q := 0) (j := 22) zwX11_thick_0 rfl) rfl
theorem dX11_thick_23 : decode cX11_thick 23 = .ok (.ifCond .eq 14, 3) := z_o153 (z_wat (q := 0) (j := 23) zwX11_thick_0 rfl) (z_wat (q := 0) (j := 24) zwX11_thick_0 rfl) (z_wat (q := 0) (j := 25) zwX11_thick_0 rfl) rfl
theorem dX11_thick_26 : decode cX11_thick 26 = .ok (.iload_n 3, 1) := z_o29 (z_wat (q := 0) (j := 26) zwX11_thick_0 rfl)
theorem dX11_thick_27 : decode cX11_thick 27 = .ok (.ifCond .lt 10, 3) := z_o155 (z_wat (q := 0) (j := 27) zwX11_thick_0 rfl) (z_wat (q := 0) (j := 28) zwX11_thick_0 rfl) (z_wat (q := 0) (j := 29) zwX11_thick_0 rfl) rfl
theorem dX11_thick_30 : decode cX11_thick 30 = .ok (.iload_n 3, 1) := z_o29 (z_wat (q := 0) (j := 30) zwX11_thick_0 rfl)
theorem dX11_thick_31 : decode cX11_thick 31 = .ok (.sipush 500, 3) := z_o17 (z_wat (q := 0) (j := 31) zwX11_thick_0 rfl) (z_wat (q := 0) (j := 32) zwX11_thick_0 rfl) (z_wat (q := 0) (j := 33) zwX11_thick_0 rfl) rfl
theorem zwX11_thick_32 : ((cX11_thick.data.toList.drop 32).take 24).map UInt8.toNat = [1, 244, 164, 0, 5, 3, 172, 42, 180, 0, 35, 180, 0, 184, 27, 16, 12, 104, 28, 96, 29, 79, 4, 172] := by decide +kernel
theorem dX11_thick_34 : decode cX11_thick 34 = .ok (.if_icmp .le 5, 3) := z_o164 (z_wat (q := 32) (j := 2) zwX11_thick_32 rfl) (z_wat (q := 32) (j := 3) zwX11_thick_32 rfl) (z_wat (q := 32) (j := 4) zwX11_thick_32 rfl) rfl
theorem dX11_thick_37 : decode cX11_thick 37 = .ok (.iconst 0, 1) := z_o3 (z_wat (q := 32) (j := 5) zwX11_thick_32 rfl)
theorem dX11_thick_38 : decode cX11_thick 38 = .ok (.ireturn, 1) := z_o172 (z_wat (q := 32) (j := 6) zwX11_thick_32 rfl)
theorem dX11_thick_39 : decode cX11_thick 39 = .ok (.aload_n 0, 1) := z_o42 (z_wat (q := 32) (j := 7) zwX11_thick_32 rfl)
theorem dX11_thick_40 : decode cX11_thick 40 = .ok (.getfield 35, 3) := z_o180 (z_wat (q := 32) (j := 8) zwX11_thick_32 rfl) (z_wat (q := 32) (j := 9) zwX11_thick_32 rfl) (z_wat (q := 32) (j := 10) zwX11_thick_32 rfl) rfl
theorem dX11_thick_43 : decode cX11_thick 43 = .ok (.getfield 184, 3) := z_o180 (z_wat (q := 32) (j := 11) zwX11_thick_32 rfl) (z_wat (q := 32) (j := 12) zwX11_thick_32 rfl) (z_wat (q := 32) (j := 13) zwX11_thick_32 rfl) rfl
theorem dX11_thick_46 : decode cX11_thick 46 = .ok (.iload_n 1, 1) := z_o27 (z_wat (q := 32) (j := 14) zwX11_thick_32 rfl)
theorem dX11_thick_47 : decode cX11_thick 47 = .ok (.bipush 12, 2) := z_o16 (z_wat (q := 32) (j := 15) zwX11_thick_32 rfl) (z_wat (q := 32) (j := 16) zwX11_thick_32 rfl) rfl
theorem dX11_thick_49 : decode cX11_thick 49 = .ok (.imul, 1) := z_o104 (z_wat (q := 32) (j := 17) zwX11_thick_32 rfl)
theorem dX11_thick_50 : decode cX11_thick 50 = .ok (.iload_n 2, 1) := z_o28 (z_wat (q := 32) (j := 18) zwX11_thick_32 rfl)
theorem dX11_thick_51 : decode cX11_thick 51 = .ok (.iadd, 1) := z_o96 (z_wat (q := 32) (j := 19) zwX11_thick_32 rfl)
theorem dX11_thick_52 : decode cX11_thick 52 = .ok (.iload_n 3, 1) := z_o29 (z_wat (q := 32) (j := 20) zwX11_thick_32 rfl)
theorem dX11_thick_53 : decode cX11_thick 53 = .ok (.iastore, 1) := z_o79 (z_wat (q := 32) (j := 21) zwX11_thick_32 rfl)
theorem dX11_thick_54 : decode cX11_thick 54 = .ok (.iconst 1, 1) := z_o4 (z_wat (q := 32) (j := 22) zwX11_thick_32 rfl)
theorem dX11_thick_55 : decode cX11_thick 55 = .ok (.ireturn, 1) := z_o172 (z_wat (q := 32) (j := 23) zwX11_thick_32 rfl)
