theorem zwX11_finds_0 : ((cX11_finds.data.toList.drop 0).take 34).map UInt8.toNat = [42, 180, 0, 10, 27, 182, 0, 99, 153, 0, 24, 42, 180, 0, 19, 28, 182, 0, 115, 153, 0, 13, 42, 180, 0, 19, 182, 0, 118, 153, 0, 6, 16, 254] := by decide +kernel
theorem dX11_finds_0 : decode cX11_finds 0 = .ok (.aload_n 0, 1) := z_o42 (z_wat (q := 0) (j := 0) zwX11_finds_0 rfl)
theorem dX11_finds_1 : decode cX11_finds 1 = .ok (.getfield 10, 3) := z_o180 (z_wat (q := 0) (j := 1) zwX11_finds_0 rfl) (z_wat (q := 0) (j := 2) zwX11_finds_0 rfl) (z_wat (q := 0) (j := 3) zwX11_finds_0 rfl) rfl
theorem dX11_finds_4 : decode cX11_finds 4 = .ok (.iload_n 1, 1) := z_o27 (z_wat (q := 0) (j := 4) zwX11_finds_0 rfl)
theorem dX11_finds_5 : decode cX11_finds 5 = .ok (.invokevirtual 99, 3) := z_o182 (z_wat (q := 0) (j := 5) zwX11_finds_0 rfl) (z_wat (q := 0) (j := 6) zwX11_finds_0 rfl) (z_wat (q := 0) (j := 7) zwX11_finds_0 rfl) rfl
theorem dX11_finds_8 : decode cX11_finds 8 = .ok (.ifCond .eq 24, 3) := z_o153 (z_wat (q := 0) (j := 8) zwX11_finds_0 rfl) (z_wat (q := 0) (j := 9) zwX11_finds_0 rfl) (z_wat (q := 0) (j := 10) zwX11_finds_0 rfl) rfl
theorem dX11_finds_11 : decode cX11_finds 11 = .ok (.aload_n 0, 1) := z_o42 (z_wat (q := 0) (j := 11) zwX11_finds_0 rfl)
theorem dX11_finds_12 : decode cX11_finds 12 = .ok (.getfield 19, 3) := z_o180 (z_wat (q := 0) (j := 12) zwX11_finds_0 rfl) (z_wat (q := 0) (j := 13) zwX11_finds_0 rfl) (z_wat (q := 0) (j := 14) zwX11_finds_0 rfl) rfl
theorem dX11_finds_15 : decode cX11_finds 15 = .ok (.iload_n 2, 1) := z_o28 (z_wat (q := 0) (j := 15) zwX11_finds_0 rfl)
theorem dX11_finds_16 : decode cX11_finds 16 = .ok (.invokevirtual 115, 3) := z_o182 (z_wat (q := 0) (j := 16) zwX11_finds_0 rfl) (z_wat (q := 0) (j := 17) zwX11_finds_0 rfl) (z_wat (q := 0) (j := 18) zwX11_finds_0 rfl) rfl
theorem dX11_finds_19 : decode cX11_finds 19 = .ok (.ifCond .eq 13, 3) := z_o153 (z_wat (q := 0) (j := 19) zwX11_finds_0 rfl) (z_wat (q := 0) (j := 20) zwX11_finds_0 rfl) (z_wat (q := 0) (j := 21) zwX11_finds_0 rfl) rfl
theorem dX11_finds_22 : decode cX11_finds 22 = .ok (.aload_n 0, 1) := z_o42 (z_wat (q := 0) (j := 22) zwX11_finds_0 rfl)
theorem dX11_finds_23 : decode cX11_finds 23 = .ok (.getfield 19, 3) := z_o180 (z_wat (q := 0) (j := 23) zwX11_finds_0 rfl) (z_wat (q := 0) (j := 24) zwX11_finds_0 rfl) (z_wat (q := 0) (j := 25) zwX11_finds_0 rfl) rfl
theorem dX11_finds_26 : decode cX11_finds 26 = .ok (.invokevirtual 118, 3) := z_o182 (z_wat (q := 0) (j := 26) zwX11_finds_0 rfl) (z_wat (q := 0) (j := 27) zwX11_finds_0 rfl) (z_wat (q := 0) (j := 28) zwX11_finds_0 rfl) rfl
theorem dX11_finds_29 : decode cX11_finds 29 = .ok (.ifCond .eq 6, 3) := z_o153 (z_wat (q := 0) (j := 29) zwX11_finds_0 rfl) (z_wat (q := 0) (j := 30) zwX11_finds_0 rfl) (z_wat (q := 0) (j := 31) zwX11_finds_0 rfl) rfl
theorem zwX11_finds_32 : ((cX11_finds.data.toList.drop 32).take 34).map UInt8.toNat = [16, 254, 172, 42, 180, 0, 65, 27, 42, 180, 0, 19, 180, 0, 121, 182, 0, 124, 154, 0, 5, 2, 172, 42, 180, 0, 19, 7, 28, 3, 3, 182, 0, 127] := by decide +kernel
theorem dX11_finds_32 : decode cX11_finds 32 = .ok (.bipush (-2), 2) := z_o16 (z_wat (q := 32) (j := 0) zwX11_finds_32 rfl) (z_wat (q := 32) (j := 1) zwX11_finds_32 rfl) rfl
theorem dX11_finds_34 : decode cX11_finds 34 = .ok (.ireturn, 1) := z_o172 (z_wat (q := 32) (j := 2) zwX11_finds_32 rfl)
theorem dX11_finds_35 : decode cX11_finds 35 = .ok (.aload_n 0, 1) := z_o42 (z_wat (q := 32) (j := 3) zwX11_finds_32 rfl)
theorem dX11_finds_36 : decode cX11_finds 36 = .ok (.getfield 65, 3) := z_o180 (z_wat (q := 32) (j := 4) zwX11_finds_32 rfl) (z_wat (q := 32) (j := 5) zwX11_finds_32 rfl) (z_wat (q := 32) (j := 6) zwX11_finds_32 rfl) rfl
theorem dX11_finds_39 : decode cX11_finds 39 = .ok (.iload_n 1, 1) := z_o27 (z_wat (q := 32) (j := 7) zwX11_finds_32 rfl)
theorem dX11_finds_40 : decode cX11_finds 40 = .ok (.aload_n 0, 1) := z_o42 (z_wat (q := 32) (j := 8) zwX11_finds_32 rfl)
theorem dX11_finds_41 : decode cX11_finds 41 = .ok (.getfield 19, 3) := z_o180 (z_wat (q := 32) (j := 9) zwX11_finds_32 rfl) (z_wat (q := 32) (j := 10) zwX11_finds_32 rfl) (z_wat (q := 32) (j := 11) zwX11_finds_32 rfl) rfl
theorem dX11_finds_44 : decode cX11_finds 44 = .ok (.getfield 121, 3) := z_o180 (z_wat (q := 32) (j := 12) zwX11_finds_32 rfl) (z_wat (q := 32) (j := 13) zwX11_finds_32 rfl) (z_wat (q := 32) (j := 14) zwX11_finds_32 rfl) rfl
theorem dX11_finds_47 : decode cX11_finds 47 = .ok (.invokevirtual 124, 3) := z_o182 (z_wat (q := 32) (j := 15) zwX11_finds_32 rfl) (z_wat (q := 32) (j := 16) zwX11_finds_32 rfl) (z_wat (q := 32) (j := 17) zwX11_finds_32 rfl) rfl
theorem dX11_finds_50 : decode cX11_finds 50 = .ok (.ifCond .ne 5, 3) := z_o154 (z_wat (q := 32) (j := 18) zwX11_finds_32 rfl) (z_wat (q := 32) (j := 19) zwX11_finds_32 rfl) (z_wat (q := 32) (j := 20) zwX11_finds_32 rfl) rfl
theorem dX11_finds_53 : decode cX11_finds 53 = .ok (.iconst (-1), 1) := z_o2 (z_wat (q := 32) (j := 21) zwX11_finds_32 rfl)
theorem dX11_finds_54 : decode cX11_finds 54 = .ok (.ireturn, 1) := z_o172 (z_wat (q := 32) (j := 22) zwX11_finds_32 rfl)
theorem dX11_finds_55 : decode cX11_finds 55 = .ok (.aload_n 0, 1) := z_o42 (z_wat (q := 32) (j := 23) zwX11_finds_32 rfl)
theorem dX11_finds_56 : decode cX11_finds 56 = .ok (.getfield 19, 3) := z_o180 (z_wat (q := 32) (j := 24) zwX11_finds_32 rfl) (z_wat (q := 32) (j := 25) zwX11_finds_32 rfl) (z_wat (q := 32) (j := 26) zwX11_finds_32 rfl) rfl
theorem dX11_finds_59 : decode cX11_finds 59 = .ok (.iconst 4, 1) := z_o7 (z_wat (q := 32) (j := 27) zwX11_finds_32 rfl)
theorem dX11_finds_60 : decode cX11_finds 60 = .ok (.iload_n 2, 1) := z_o28 (z_wat (q := 32) (j := 28) zwX11_finds_32 rfl)
theorem dX11_finds_61 : decode cX11_finds 61 = .ok (.iconst 0, 1) := z_o3 (z_wat (q := 32) (j := 29) zwX11_finds_32 rfl)
theorem dX11_finds_62 : decode cX11_finds 62 = .ok (.iconst 0, 1) := z_o3 (z_wat (q := 32) (j := 30) zwX11_finds_32 rfl)
theorem dX11_finds_63 : decode cX11_finds 63 = .ok (.invokevirtual 127, 3) := z_o182 (z_wat (q := 32) (j := 31) zwX11_finds_32 rfl) (z_wat (q := 32) (j := 32) zwX11_finds_32 rfl) (z_wat (q := 32) (j := 33) zwX11_finds_32 rfl) rfl
theorem zwX11_finds_64 : ((cX11_finds.data.toList.drop 64).take 3).map UInt8.toNat = [0, 127, 172] := by decide +kernel
theorem dX11_finds_66 : decode cX11_finds 66 = .ok (.ireturn, 1) := z_o172 (z_wat (q := 64) (j := 2) zwX11_finds_64 rfl)
theorem zwX11_rules_0 : ((cX11_rules.data.toList.drop 0).take 34).map UInt8.toNat = [42, 180, 0, 10, 27, 182, 0, 99, 154, 0, 6, 16, 254, 172, 42, 180, 0, 74, 27, 182, 0, 103, 153, 0, 16, 42, 180, 0, 74, 180, 0, 106, 180, 0] := by decide +kernel
theorem dX11_rules_0 : decode cX11_rules 0 = .ok (.aload_n 0, 1) := z_o42 (z_wat (q := 0) (j := 0) zwX11_rules_0 rfl)
theorem dX11_rules_1 : decode cX11_rules 1 = .ok (.getfield 10, 3) := z_o180 (z_wat (q := 0) (j := 1) zwX11_rules_0 rfl) (z_wat (q := 0) (j := 2) zwX11_rules_0 rfl) (z_wat (q := 0) (j := 3) zwX11_rules_0 rfl) rfl
theorem dX11_rules_4 : decode cX11_rules 4 = .ok (.iload_n 1, 1) := z_o27 (z_wat (q := 0) (j := 4) zwX11_rules_0 rfl)
theorem dX11_rules_5 : decode cX11_rules 5 = .ok (.invokevirtual 99, 3) := z_o182 (z_wat (q := 0) (j := 5) zwX11_rules_0 rfl) (z_wat (q := 0) (j := 6) zwX11_rules_0 rfl) (z_wat (q := 0) (j := 7) zwX11_rules_0 rfl) rfl
theorem dX11_rules_8 : decode cX11_rules 8 = .ok (.ifCond .ne 6, 3) := z_o154 (z_wat (q := 0) (j := 8) zwX11_rules_0 rfl) (z_wat (q := 0) (j := 9) zwX11_rules_0 rfl) (z_wat (q := 0) (j := 10) zwX11_rules_0 rfl) rfl
theorem dX11_rules_11 : decode cX11_rules 11 = .ok (.bipush (-2), 2) := z_o16 (z_wat (q := 0) (j := 11) zwX11_rules_0 rfl) (z_wat (q := 0) (j := 12) zwX11_rules_0 rfl) rfl
theorem dX11_rules_13 : decode cX11_rules 13 = .ok (.ireturn, 1) := z_o172 (z_wat (q := 0) (j := 13) zwX11_rules_0 rfl)
theorem dX11_rules_14 : decode cX11_rules 14 = .ok (.aload_n 0, 1) := z_o42 (z_wat (q := 0) (j := 14) zwX11_rules_0 rfl)
theorem dX11_rules_15 : decode cX11_rules 15 = .ok (.getfield 74, 3) := z_o180 (z_wat (q := 0) (j := 15) zwX11_rules_0 rfl) (z_wat (q := 0) (j := 16) zwX11_rules_0 rfl) (z_wat (q := 0) (j := 17) zwX11_rules_0 rfl) rfl
theorem dX11_rules_18 : decode cX11_rules 18 = .ok (.iload_n 1, 1) := z_o27 (z_wat (q := 0) (j := 18) zwX11_rules_0 rfl)
theorem dX11_rules_19 : decode cX11_rules 19 = .ok (.invokevirtual 103, 3) := z_o182 (z_wat (q := 0) (j := 19) zwX11_rules_0 rfl) (z_wat (q := 0) (j := 20) zwX11_rules_0 rfl) (z_wat (q := 0) (j := 21) zwX11_rules_0 rfl) rfl
theorem dX11_rules_22 : decode cX11_rules 22 = .ok (.ifCond .eq 16, 3) := z_o153 (z_wat (q := 0) (j := 22) zwX11_rules_0 rfl) (z_wat (q := 0) (j := 23) zwX11_rules_0 rfl) (z_wat (q := 0) (j := 24) zwX11_rules_0 rfl) rfl
theorem dX11_rules_25 : decode cX11_rules 25 = .ok (.aload_n 0, 1) := z_o42 (z_wat (q := 0) (j := 25) zwX11_rules_0 rfl)
theorem dX11_rules_26 : decode cX11_rules 26 = .ok (.getfield 74, 3) := z_o180 (z_wat (q := 0) (j := 26) zwX11_rules_0 rfl) (z_wat (q := 0) (j := 27) zwX11_rules_0 rfl) (z_wat (q := 0) (j := 28) zwX11_rules_0 rfl) rfl
theorem dX11_rules_29 : decode cX11_rules 29 = .ok (.getfield 106, 3) := z_o180 (z_wat (q := 0) (j := 29) zwX11_rules_0 rfl) (z_wat (q := 0) (j := 30) zwX11_rules_0 rfl) (z_wat (q := 0) (j := 31) zwX11_rules_0 rfl) rfl
theorem zwX11_rules_32 : ((cX11_rules.data.toList.drop 32).take 8).map UInt8.toNat = [180, 0, 110, 167, 0, 4, 2, 172] := by decide +kernel
theorem dX11_rules_32 : decode cX11_rules 32 = .ok (.getfield 110, 3) := z_o180 (z_wat (q := 32) (j := 0) zwX11_rules_32 rfl) (z_wat (q := 32) (j := 1) zwX11_rules_32 rfl) (z_wat (q := 32) (j := 2) zwX11_rules_32 rfl) rfl
theorem dX11_rules_35 : decode cX11_rules 35 = .ok (.goto 4, 3) := z_o167 (z_wat (q := 32) (j := 3) zwX11_rules_32 rfl) (z_wat (q := 32) (j := 4) zwX11_rules_32 rfl) (z_wat (q := 32) (j := 5) zwX11_rules_32 rfl) rfl
theorem dX11_rules_38 : decode cX11_rules 38 = .ok (.iconst (-1), 1) := z_o2 (z_wat (q := 32) (j := 6) zwX11_rules_32 rfl)
theorem dX11_rules_39 : decode cX11_rules 39 = .ok (.ireturn, 1) := z_o172 (z_wat (q := 32) (j := 7) zwX11_rules_32 rfl)
theorem zwX1_passSign_0 : ((cX1_passSign.data.toList.drop 0).take 29).map UInt8.toNat = [42, 180, 0, 24, 180, 0, 59, 27, 159, 0, 12, 42, 180, 0, 24, 4, 182, 0, 55, 172, 42, 180, 0, 24, 182, 0, 62, 4, 172] := by decide +kernel
theorem dX1_passSign_0 : decode cX1_passSign 0 = .ok (.aload_n 0, 1) := z_o42 (z_wat (q := 0) (j := 0) zwX1_passSign_0 rfl)
theorem dX1_passSign_1 : decode cX1_passSign 1 = .ok (.getfield 24, 3) := z_o180 (z_wat (q := 0) (j := 1) zwX1_passSign_0 rfl) (z_wat (q := 0) (j := 2) zwX1_passSign_0 rfl) (z_wat (q := 0) (j := 3) zwX1_passSign_0 rfl) rfl
theorem dX1_passSign_4 : decode cX1_passSign 4 = .ok (.getfield 59, 3) := z_o180 (z_wat (q := 0) (j := 4) zwX1_passSign_0 rfl) (z_wat (q := 0) (j := 5) zwX1_passSign_0 rfl) (z_wat (q := 0) (j := 6) zwX1_passSign_0 rfl) rfl
theorem dX1_passSign_7 : decode cX1_passSign 7 = .ok (.iload_n 1, 1) := z_o27 (z_wat (q := 0) (j := 7) zwX1_passSign_0 rfl)
theorem dX1_passSign_8 : decode cX1_passSign 8 = .ok (.if_icmp .eq 12, 3) := z_o159 (z_wat (q := 0) (j := 8) zwX1_passSign_0 rfl) (z_wat (q := 0) (j := 9) zwX1_passSign_0 rfl) (z_wat (q := 0) (j := 10) zwX1_passSign_0 rfl) rfl
theorem dX1_passSign_11 : decode cX1_passSign 11 = .ok (.aload_n 0, 1) := z_o42 (z_wat (q := 0) (j := 11) zwX1_passSign_0 rfl)
theorem dX1_passSign_12 : decode cX1_passSign 12 = .ok (.getfield 24, 3) := z_o180 (z_wat (q := 0) (j := 12) zwX1_passSign_0 rfl) (z_wat (q := 0) (j := 13) zwX1_passSign_0 rfl) (z_wat (q := 0) (j := 14) zwX1_passSign_0 rfl) rfl
theorem dX1_passSign_15 : decode cX1_passSign 15 = .ok (.iconst 1, 1) := z_o4 (z_wat (q := 0) (j := 15) zwX1_passSign_0 rfl)
theorem dX1_passSign_16 : decode cX1_passSign 16 = .ok (.invokevirtual 55, 3) := z_o182 (z_wat (q := 0) (j := 16) zwX1_passSign_0 rfl) (z_wat (q := 0) (j := 17) zwX1_passSign_0 rfl) (z_wat (q := 0) (j := 18) zwX1_passSign_0 rfl) rfl
theorem dX1_passSign_19 : decode cX1_passSign 19 = .ok (.ireturn, 1) := z_o172 (z_wat (q := 0) (j := 19) zwX1_passSign_0 rfl)
theorem dX1_passSign_20 : decode cX1_passSign 20 = .ok (.aload_n 0, 1) := z_o42 (z_wat (q := 0) (j := 20) zwX1_passSign_0 rfl)
theorem dX1_passSign_21 : decode cX1_passSign 21 = .ok (.getfield 24, 3) := z_o180 (z_wat (q := 0) (j := 21) zwX1_passSign_0 rfl) (z_wat (q := 0) (j := 22) zwX1_passSign_0 rfl) (z_wat (q := 0) (j := 23) zwX1_passSign_0 rfl) rfl
theorem dX1_passSign_24 : decode cX1_passSign 24 = .ok (.invokevirtual 62, 3) := z_o182 (z_wat (q := 0) (j := 24) zwX1_passSign_0 rfl) (z_wat (q := 0) (j := 25) zwX1_passSign_0 rfl) (z_wat (q := 0) (j := 26) zwX1_passSign_0 rfl) rfl
theorem dX1_passSign_27 : decode cX1_passSign 27 = .ok (.iconst 1, 1) := z_o4 (z_wat (q := 0) (j := 27) zwX1_passSign_0 rfl)
theorem dX1_passSign_28 : decode cX1_passSign 28 = .ok (.ireturn, 1) := z_o172 (z_wat (q := 0) (j := 28) zwX1_passSign_0 rfl)
theorem zwX1_read_0 : ((cX1_read.data.toList.drop 0).take 34).map UInt8.toNat = [42, 28, 181, 0, 9, 42, 180, 0, 28, 42, 180, 0, 9, 182, 0, 32, 42, 180, 0, 24, 27, 4, 182, 0, 38, 3, 62, 29, 17, 2, 188, 162, 0, 53] := by decide +kernel
theorem dX1_read_0 : decode cX1_read 0 = .ok (.aload_n 0, 1) := z_o42 (z_wat (q := 0) (j := 0) zwX1_read_0 rfl)
theorem dX1_read_1 : decode cX1_read 1 = .ok (.iload_n 2, 1) := z_o28 (z_wat (q := 0) (j := 1) zwX1_read_0 rfl)
theorem dX1_read_2 : decode cX1_read 2 = .ok (.putfield 9, 3) := z_o181 (z_wat (q := 0) (j := 2) zwX1_read_0 rfl) (z_wat (q := 0) (j := 3) zwX1_read_0 rfl) (z_wat (q := 0) (j := 4) zwX1_read_0 rfl) rfl
theorem dX1_read_5 : decode cX1_read 5 = .ok (.aload_n 0, 1) := z_o42 (z_wat (q := 0) (j := 5) zwX1_read_0 rfl)
theorem dX1_read_6 : decode cX1_read 6 = .ok (.getfield 28, 3) := z_o180 (z_wat (q := 0) (j := 6) zwX1_read_0 rfl) (z_wat (q := 0) (j := 7) zwX1_read_0 rfl) (z_wat (q := 0) (j := 8) zwX1_read_0 rfl) rfl
theorem dX1_read_9 : decode cX1_read 9 = .ok (.aload_n 0, 1) := z_o42 (z_wat (q := 0) (j := 9) zwX1_read_0 rfl)
theorem dX1_read_10 : decode cX1_read 10 = .ok (.getfield 9, 3) := z_o180 (z_wat (q := 0) (j := 10) zwX1_read_0 rfl) (z_wat (q := 0) (j := 11) zwX1_read_0 rfl) (z_wat (q := 0) (j := 12) zwX1_read_0 rfl) rfl
theorem dX1_read_13 : decode cX1_read 13 = .ok (.invokevirtual 32, 3) := z_o182 (z_wat (q := 0) (j := 13) zwX1_read_0 rfl) (z_wat (q := 0) (j := 14) zwX1_read_0 rfl) (z_wat (q := 0) (j := 15) zwX1_read_0 rfl) rfl
theorem dX1_read_16 : decode cX1_read 16 = .ok (.aload_n 0, 1) := z_o42 (z_wat (q := 0) (j := 16) zwX1_read_0 rfl)
theorem dX1_read_17 : decode cX1_read 17 = .ok (.getfield 24, 3) := z_o180 (z_wat (q := 0) (j := 17) zwX1_read_0 rfl) (z_wat (q := 0) (j := 18) zwX1_read_0 rfl) (z_wat (q := 0) (j := 19) zwX1_read_0 rfl) rfl
theorem dX1_read_20 : decode cX1_read 20 = .ok (.iload_n 1, 1) := z_o27 (z_wat (q := 0) (j := 20) zwX1_read_0 rfl)
theorem dX1_read_21 : decode cX1_read 21 = .ok (.iconst 1, 1) := z_o4 (z_wat (q := 0) (j := 21) zwX1_read_0 rfl)
theorem dX1_read_22 : decode cX1_read 22 = .ok (.invokevirtual 38, 3) := z_o182 (z_wat (q := 0) (j := 22) zwX1_read_0 rfl) (z_wat (q := 0) (j := 23) zwX1_read_0 rfl) (z_wat (q := 0) (j := 24) zwX1_read_0 rfl) rfl
theorem dX1_read_25 : decode cX1_read 25 = .ok (.iconst 0, 1) := z_o3 (z_wat (q := 0) (j := 25) zwX1_read_0 rfl)
theorem dX1_read_26 : decode cX1_read 26 = .ok (.istore_n 3, 1) := z_o62 (z_wat (q := 0) (j := 26) zwX1_read_0 rfl)
theorem dX1_read_27 : decode cX1_read 27 = .ok (.iload_n 3, 1) := z_o29 (z_wat (q := 0) (j := 27) zwX1_read_0 rfl)
theorem dX1_read_28 : decode cX1_read 28 = .ok (.sipush 700, 3) := z_o17 (z_wat (q := 0) (j := 28) zwX1_read_0 rfl) (z_wat (q := 0) (j := 29) zwX1_read_0 rfl) (z_wat (q := 0) (j := 30) zwX1_read_0 rfl) rfl
theorem dX1_read_31 : decode cX1_read 31 = .ok (.if_icmp .ge 53, 3) := z_o162 (z_wat (q := 0) (j := 31) zwX1_read_0 rfl) (z_wat (q := 0) (j := 32) zwX1_read_0 rfl) (z_wat (q := 0) (j := 33) zwX1_read_0 rfl) rfl
theorem zwX1_read_32 : ((cX1_read.data.toList.drop 32).take 34).map UInt8.toNat = [0, 53, 42, 182, 0, 44, 154, 0, 5, 3, 172, 42, 180, 0, 24, 180, 0, 48, 154, 0, 5, 4, 172, 42, 16, 59, 182, 0, 51, 154, 0, 5, 3, 172] := by decide +kernel
theorem dX1_read_34 : decode cX1_read 34 = .ok (.aload_n 0, 1) := z_o42 (z_wat (q := 32) (j := 2) zwX1_read_32 rfl)
theorem dX1_read_35 : decode cX1_read 35 = .ok (.invokevirtual 44, 3) := z_o182 (z_wat (q := 32) (j := 3) zwX1_read_32 rfl) (z_wat (q := 32) (j := 4) zwX1_read_32 rfl) (z_wat (q := 32) (j := 5) zwX1_read_32 rfl) rfl
theorem dX1_read_38 : decode cX1_read 38 = .ok (.ifCond .ne 5, 3) := z_o154 (z_wat (q := 32) (j := 6) zwX1_read_32 rfl) (z_wat (q := 32) (j := 7) zwX1_read_32 rfl) (z_wat (q := 32) (j := 8) zwX1_read_32 rfl) rfl
theorem dX1_read_41 : decode cX1_read 41 = .ok (.iconst 0, 1) := z_o3 (z_wat (q := 32) (j := 9) zwX1_read_32 rfl)
theorem dX1_read_42 : decode cX1_read 42 = .ok (.ireturn, 1) := z_o172 (z_wat (q := 32) (j := 10) zwX1_read_32 rfl)
theorem dX1_read_43 : decode cX1_read 43 = .ok (.aload_n 0, 1) := z_o42 (z_wat (q := 32) (j := 11) zwX1_read_32 rfl)
theorem dX1_read_44 : decode cX1_read 44 = .ok (.getfield 24, 3) := z_o180 (z_wat (q := 32) (j := 12) zwX1_read_32 rfl) (z_wat (q := 32) (j := 13) zwX1_read_32 rfl) (z_wat (q := 32) (j := 14) zwX1_read_32 rfl) rfl
theorem dX1_read_47 : decode cX1_read 47 = .ok (.getfield 48, 3) := z_o180 (z_wat (q := 32) (j := 15) zwX1_read_32 rfl) (z_wat (q := 32) (j := 16) zwX1_read_32 rfl) (z_wat (q := 32) (j := 17) zwX1_read_32 rfl) rfl
theorem dX1_read_50 : decode cX1_read 50 = .ok (.ifCond .ne 5, 3) := z_o154 (z_wat (q := 32) (j := 18) zwX1_read_32 rfl) (z_wat (q := 32) (j := 19) zwX1_read_32 rfl) (z_wat (q := 32) (j := 20) zwX1_read_32 rfl) rfl
theorem dX1_read_53 : decode cX1_read 53 = .ok (.iconst 1, 1) := z_o4 (z_wat (q := 32) (j := 21) zwX1_read_32 rfl)
theorem dX1_read_54 : decode cX1_read 54 = .ok (.ireturn, 1) := z_o172 (z_wat (q := 32) (j := 22) zwX1_read_32 rfl)
theorem dX1_read_55 : decode cX1_read 55 = .ok (.aload_n 0, 1) := z_o42 (z_wat (q := 32) (j := 23) zwX1_read_32 rfl)
theorem dX1_read_56 : decode cX1_read 56 = .ok (.bipush 59, 2) := z_o16 (z_wat (q := 32) (j := 24) zwX1_read_32 rfl) (z_wat (q := 32) (j := 25) zwX1_read_32 rfl) rfl
theorem dX1_read_58 : decode cX1_read 58 = .ok (.invokevirtual 51, 3) := z_o182 (z_wat (q := 32) (j := 26) zwX1_read_32 rfl) (z_wat (q := 32) (j := 27) zwX1_read_32 rfl) (z_wat (q := 32) (j := 28) zwX1_read_32 rfl) rfl
theorem dX1_read_61 : decode cX1_read 61 = .ok (.ifCond .ne 5, 3) := z_o154 (z_wat (q := 32) (j := 29) zwX1_read_32 rfl) (z_wat (q := 32) (j := 30) zwX1_read_32 rfl) (z_wat (q := 32) (j := 31) zwX1_read_32 rfl) rfl
theorem zwX1_read_64 : ((cX1_read.data.toList.drop 64).take 29).map UInt8.toNat = [3, 172, 42, 180, 0, 24, 180, 0, 48, 154, 0, 5, 4, 172, 132, 3, 1, 167, 255, 202, 42, 180, 0, 24, 4, 182, 0, 55, 172] := by decide +kernel
theorem dX1_read_64 : decode cX1_read 64 = .ok (.iconst 0, 1) := z_o3 (z_wat (q := 64) (j := 0) zwX1_read_64 rfl)
theorem dX1_read_65 : decode cX1_read 65 = .ok (.ireturn, 1) := z_o172 (z_wat (q := 64) (j := 1) zwX1_read_64 rfl)
theorem dX1_read_66 : decode cX1_read 66 = .ok (.aload_n 0, 1) := z_o42 (z_wat (q := 64) (j := 2) zwX1_read_64 rfl)
theorem dX1_read_67 : decode cX1_read 67 = .ok (.getfield 24, 3) := z_o180 (z_wat (q := 64) (j := 3) zwX1_read_64 rfl) (z_wat (q := 64) (j := 4) zwX1_read_64 rfl) (z_wat (q := 64) (j := 5) zwX1_read_64 rfl) rfl
theorem dX1_read_70 : decode cX1_read 70 = .ok (.getfield 48, 3) := z_o180 (z_wat (q := 64) (j := 6) zwX1_read_64 rfl) (z_wat (q := 64) (j := 7) zwX1_read_64 rfl) (z_wat (q := 64) (j := 8) zwX1_read_64 rfl) rfl
theorem dX1_read_73 : decode cX1_read 73 = .ok (.ifCond .ne 5, 3) := z_o154 (z_wat (q := 64) (j := 9) zwX1_read_64 rfl) (z_wat (q := 64) (j := 10) zwX1_read_64 rfl) (z_wat (q := 64) (j := 11) zwX1_read_64 rfl) rfl
theorem dX1_read_76 : decode cX1_read 76 = .ok (.iconst 1, 1) := z_o4 (z_wat (q := 64) (j := 12) zwX1_read_64 rfl)
theorem dX1_read_77 : decode cX1_read 77 = .ok (.ireturn, 1) := z_o172 (z_wat (q := 64) (j := 13) zwX1_read_64 rfl)
theorem dX1_read_78 : decode cX1_read 78 = .ok (.iinc 3 1, 3) := z_o132 (z_wat (q := 64) (j := 14) zwX1_read_64 rfl) (z_wat (q := 64) (j := 15) zwX1_read_64 rfl) (z_wat (q := 64) (j := 16) zwX1_read_64 rfl) rfl
theorem dX1_read_81 : decode cX1_read 81 = .ok (.goto (-54), 3) := z_o167 (z_wat (q := 64) (j := 17) zwX1_read_64 rfl) (z_wat (q := 64) (j := 18) zwX1_read_64 rfl) (z_wat (q := 64) (j := 19) zwX1_read_64 rfl) rfl
theorem zwX1_readFind_0 : ((cX1_readFind.data.toList.drop 0).take 34).map UInt8.toNat = [42, 182, 0, 65, 153, 0, 19, 42, 182, 0, 68, 153, 0, 12, 42, 16, 58, 182, 0, 51, 154, 0, 5, 3, 172, 42, 3, 181, 0, 21, 3, 60, 27, 17] := by decide +kernel
theorem dX1_readFind_0 : decode cX1_readFind 0 = .ok (.aload_n 0, 1) := z_o42 (z_wat (q := 0) (j := 0) zwX1_readFind_0 rfl)
theorem dX1_readFind_1 : decode cX1_readFind 1 = .ok (.invokevirtual 65, 3) := z_o182 (z_wat (q := 0) (j := 1) zwX1_readFind_0 rfl) (z_wat (q := 0) (j := 2) zwX1_readFind_0 rfl) (z_wat (q := 0) (j := 3) zwX1_readFind_0 rfl) rfl
theorem dX1_readFind_4 : decode cX1_readFind 4 = .ok (.ifCond .eq 19, 3) := z_o153 (z_wat (q := 0) (j := 4) zwX1_readFind_0 rfl) (z_wat (q := 0) (j := 5) zwX1_readFind_0 rfl) (z_wat (q := 0) (j := 6) zwX1_readFind_0 rfl) rfl
theorem dX1_readFind_7 : decode cX1_readFind 7 = .ok (.aload_n 0, 1) := z_o42 (z_wat (q := 0) (j := 7) zwX1_readFind_0 rfl)
theorem dX1_readFind_8 : decode cX1_readFind 8 = .ok (.invokevirtual 68, 3) := z_o182 (z_wat (q := 0) (j := 8) zwX1_readFind_0 rfl) (z_wat (q := 0) (j := 9) zwX1_readFind_0 rfl) (z_wat (q := 0) (j := 10) zwX1_readFind_0 rfl) rfl
theorem dX1_readFind_11 : decode cX1_readFind 11 = .ok (.ifCond .eq 12, 3) := z_o153 (z_wat (q := 0) (j := 11) zwX1_readFind_0 rfl) (z_wat (q := 0) (j := 12) zwX1_readFind_0 rfl) (z_wat (q := 0) (j := 13) zwX1_readFind_0 rfl) rfl
theorem dX1_readFind_14 : decode cX1_readFind 14 = .ok (.aload_n 0, 1) := z_o42 (z_wat (q := 0) (j := 14) zwX1_readFind_0 rfl)
theorem dX1_readFind_15 : decode cX1_readFind 15 = .ok (.bipush 58, 2) := z_o16 (z_wat (q := 0) (j := 15) zwX1_readFind_0 rfl) (z_wat (q := 0) (j := 16) zwX1_readFind_0 rfl) rfl
theorem dX1_readFind_17 : decode cX1_readFind 17 = .ok (.invokevirtual 51, 3) := z_o182 (z_wat (q := 0) (j := 17) zwX1_readFind_0 rfl) (z_wat (q := 0) (j := 18) zwX1_readFind_0 rfl) (z_wat (q := 0) (j := 19) zwX1_readFind_0 rfl) rfl
theorem dX1_readFind_20 : decode cX1_readFind 20 = .ok (.ifCond .ne 5, 3) := z_o154 (z_wat (q := 0) (j := 20) zwX1_readFind_0 rfl) (z_wat (q := 0) (j := 21) zwX1_readFind_0 rfl) (z_wat (q := 0) (j := 22) zwX1_readFind_0 rfl) rfl
theorem dX1_readFind_23 : decode cX1_readFind 23 = .ok (.iconst 0, 1) := z_o3 (z_wat (q := 0) (j := 23) zwX1_readFind_0 rfl)
theorem dX1_readFind_24 : decode cX1_readFind 24 = .ok (.ireturn, 1) := z_o172 (z_wat (q := 0) (j := 24) zwX1_readFind_0 rfl)
theorem dX1_readFind_25 : decode cX1_readFind 25 = .ok (.aload_n 0, 1) := z_o42 (z_wat (q := 0) (j := 25) zwX1_readFind_0 rfl)
theorem dX1_readFind_26 : decode cX1_readFind 26 = .ok (.iconst 0, 1) := z_o3 (z_wat (q := 0) (j := 26) zwX1_readFind_0 rfl)
theorem dX1_readFind_27 : decode cX1_readFind 27 = .ok (.putfield 21, 3) := z_o181 (z_wat (q := 0) (j := 27) zwX1_readFind_0 rfl) (z_wat (q := 0) (j := 28) zwX1_readFind_0 rfl) (z_wat (q := 0) (j := 29) zwX1_readFind_0 rfl) rfl
theorem dX1_readFind_30 : decode cX1_readFind 30 = .ok (.iconst 0, 1) := z_o3 (z_wat (q := 0) (j := 30) zwX1_readFind_0 rfl)
theorem dX1_readFind_31 : decode cX1_readFind 31 = .ok (.istore_n 1, 1) := z_o60 (z_wat (q := 0) (j := 31) zwX1_readFind_0 rfl)
theorem zwX1_readFind_32 : ((cX1_readFind.data.toList.drop 32).take 34).map UInt8.toNat = [27, 17, 2, 188, 162, 0, 39, 42, 182, 0, 71, 154, 0, 5, 3, 172, 42, 180, 0, 24, 180, 0, 59, 16, 44, 159, 0, 5, 4, 172, 42, 180, 0, 24] := by decide +kernel
theorem dX1_readFind_32 : decode cX1_readFind 32 = .ok (.iload_n 1, 1) := z_o27 (z_wat (q := 32) (j := 0) zwX1_readFind_32 rfl)
theorem dX1_readFind_33 : decode cX1_readFind 33 = .ok (.sipush 700, 3) := z_o17 (z_wat (q := 32) (j := 1) zwX1_readFind_32 rfl) (z_wat (q := 32) (j := 2) zwX1_readFind_32 rfl) (z_wat (q := 32) (j := 3) zwX1_readFind_32 rfl) rfl
theorem dX1_readFind_36 : decode cX1_readFind 36 = .ok (.if_icmp .ge 39, 3) := z_o162 (z_wat (q := 32) (j := 4) zwX1_readFind_32 rfl) (z_wat (q := 32) (j := 5) zwX1_readFind_32 rfl) (z_wat (q := 32) (j := 6) zwX1_readFind_32 rfl) rfl
theorem dX1_readFind_39 : decode cX1_readFind 39 = .ok (.aload_n 0, 1) := z_o42 (z_wat (q := 32) (j := 7) zwX1_readFind_32 rfl)
theorem dX1_readFind_40 : decode cX1_readFind 40 = .ok (.invokevirtual 71, 3) := z_o182 (z_wat (q := 32) (j := 8) zwX1_readFind_32 rfl) (z_wat (q := 32) (j := 9) zwX1_readFind_32 rfl) (z_wat (q := 32) (j := 10) zwX1_readFind_32 rfl) rfl
theorem dX1_readFind_43 : decode cX1_readFind 43 = .ok (.ifCond .ne 5, 3) := z_o154 (z_wat (q := 32) (j := 11) zwX1_readFind_32 rfl) (z_wat (q := 32) (j := 12) zwX1_readFind_32 rfl) (z_wat (q := 32) (j := 13) zwX1_readFind_32 rfl) rfl
theorem dX1_readFind_46 : decode cX1_readFind 46 = .ok (.iconst 0, 1) := z_o3 (z_wat (q := 32) (j := 14) zwX1_readFind_32 rfl)
theorem dX1_readFind_47 : decode cX1_readFind 47 = .ok (.ireturn, 1) := z_o172 (z_wat (q := 32) (j := 15) zwX1_readFind_32 rfl)
theorem dX1_readFind_48 : decode cX1_readFind 48 = .ok (.aload_n 0, 1) := z_o42 (z_wat (q := 32) (j := 16) zwX1_readFind_32 rfl)
theorem dX1_readFind_49 : decode cX1_readFind 49 = .ok (.getfield 24, 3) := z_o180 (z_wat (q := 32) (j := 17) zwX1_readFind_32 rfl) (z_wat (q := 32) (j := 18) zwX1_readFind_32 rfl) (z_wat (q := 32) (j := 19) zwX1_readFind_32 rfl) rfl
theorem dX1_readFind_52 : decode cX1_readFind 52 = .ok (.getfield 59, 3) := z_o180 (z_wat (q := 32) (j := 20) zwX1_readFind_32 rfl) (z_wat (q := 32) (j := 21) zwX1_readFind_32 rfl) (z_wat (q := 32) (j := 22) zwX1_readFind_32 rfl) rfl
theorem dX1_readFind_55 : decode cX1_readFind 55 = .ok (.bipush 44, 2) := z_o16 (z_wat (q := 32) (j := 23) zwX1_readFind_32 rfl) (z_wat (q := 32) (j := 24) zwX1_readFind_32 rfl) rfl
theorem dX1_readFind_57 : decode cX1_readFind 57 = .ok (.if_icmp .eq 5, 3) := z_o159 (z_wat (q := 32) (j := 25) zwX1_readFind_32 rfl) (z_wat (q := 32) (j := 26) zwX1_readFind_32 rfl) (z_wat (q := 32) (j := 27) zwX1_readFind_32 rfl) rfl
theorem dX1_readFind_60 : decode cX1_readFind 60 = .ok (.iconst 1, 1) := z_o4 (z_wat (q := 32) (j := 28) zwX1_readFind_32 rfl)
theorem dX1_readFind_61 : decode cX1_readFind 61 = .ok (.ireturn, 1) := z_o172 (z_wat (q := 32) (j := 29) zwX1_readFind_32 rfl)
theorem dX1_readFind_62 : decode cX1_readFind 62 = .ok (.aload_n 0, 1) := z_o42 (z_wat (q := 32) (j := 30) zwX1_readFind_32 rfl)
theorem dX1_readFind_63 : decode cX1_readFind 63 = .ok (.getfield 24, 3) := z_o180 (z_wat (q := 32) (j := 31) zwX1_readFind_32 rfl) (z_wat (q := 32) (j := 32) zwX1_readFind_32 rfl) (z_wat (q := 32) (j := 33) zwX1_readFind_32 rfl) rfl
theorem zwX1_readFind_64 : ((cX1_readFind.data.toList.drop 64).take 20).map UInt8.toNat = [0, 24, 182, 0, 62, 132, 1, 1, 167, 255, 216, 42, 180, 0, 24, 4, 182, 0, 55, 172] := by decide +kernel
theorem dX1_readFind_66 : decode cX1_readFind 66 = .ok (.invokevirtual 62, 3) := z_o182 (z_wat (q := 64) (j := 2) zwX1_readFind_64 rfl) (z_wat (q := 64) (j := 3) zwX1_readFind_64 rfl) (z_wat (q := 64) (j := 4) zwX1_readFind_64 rfl) rfl
theorem dX1_readFind_69 : decode cX1_readFind 69 = .ok (.iinc 1 1, 3) := z_o132 (z_wat (q := 64) (j := 5) zwX1_readFind_64 rfl) (z_wat (q := 64) (j := 6) zwX1_readFind_64 rfl) (z_wat (q := 64) (j := 7) zwX1_readFind_64 rfl) rfl
theorem dX1_readFind_72 : decode cX1_readFind 72 = .ok (.goto (-40), 3) := z_o167 (z_wat (q := 64) (j := 8) zwX1_readFind_64 rfl) (z_wat (q := 64) (j := 9) zwX1_readFind_64 rfl) (z_wat (q := 64) (j := 10) zwX1_readFind_64 rfl) rfl
theorem zwX1_readKind_0 : ((cX1_readKind.data.toList.drop 0).take 34).map UInt8.toNat = [42, 42, 180, 0, 24, 16, 107, 182, 0, 74, 181, 0, 15, 42, 180, 0, 15, 2, 160, 0, 12, 42, 180, 0, 24, 4, 182, 0, 55, 172, 42, 180, 0, 28] := by decide +kernel
theorem dX1_readKind_0 : decode cX1_readKind 0 = .ok (.aload_n 0, 1) := z_o42 (z_wat (q := 0) (j := 0) zwX1_readKind_0 rfl)
theorem dX1_readKind_1 : decode cX1_readKind 1 = .ok (.aload_n 0, 1) := z_o42 (z_wat (q := 0) (j := 1) zwX1_readKind_0 rfl)
theorem dX1_readKind_2 : decode cX1_readKind 2 = .ok (.getfield 24, 3) := z_o180 (z_wat (q := 0) (j := 2) zwX1_readKind_0 rfl) (z_wat (q := 0) (j := 3) zwX1_readKind_0 rfl) (z_wat (q := 0) (j := 4) zwX1_readKind_0 rfl) rfl
theorem dX1_readKind_5 : decode cX1_readKind 5 = .ok (.bipush 107, 2) := z_o16 (z_wat (q := 0) (j := 5) zwX1_readKind_0 rfl) (z_wat (q := 0) (j := 6) zwX1_readKind_0 rfl) rfl
theorem dX1_readKind_7 : decode cX1_readKind 7 = .ok (.invokevirtual 74, 3) := z_o182 (z_wat (q := 0) (j := 7) zwX1_readKind_0 rfl) (z_wat (q := 0) (j := 8) zwX1_readKind_0 rfl) (z_wat (q := 0) (j := 9) zwX1_readKind_0 rfl) rfl
theorem dX1_readKind_10 : decode cX1_readKind 10 = .ok (.putfield 15, 3) := z_o181 (z_wat (q := 0) (j := 10) zwX1_readKind_0 rfl) (z_wat (q := 0) (j := 11) zwX1_readKind_0 rfl) (z_wat (q := 0) (j := 12) zwX1_readKind_0 rfl) rfl
theorem dX1_readKind_13 : decode cX1_readKind 13 = .ok (.aload_n 0, 1) := z_o42 (z_wat (q := 0) (j := 13) zwX1_readKind_0 rfl)
theorem dX1_readKind_14 : decode cX1_readKind 14 = .ok (.getfield 15, 3) := z_o180 (z_wat (q := 0) (j := 14) zwX1_readKind_0 rfl) (z_wat (q := 0) (j := 15) zwX1_readKind_0 rfl) (z_wat (q := 0) (j := 16) zwX1_readKind_0 rfl) rfl
theorem dX1_readKind_17 : decode cX1_readKind 17 = .ok (.iconst (-1), 1) := z_o2 (z_wat (q := 0) (j := 17) zwX1_readKind_0 rfl)
theorem dX1_readKind_18 : decode cX1_readKind 18 = .ok (.if_icmp .ne 12, 3) := z_o160 (z_wat (q := 0) (j := 18) zwX1_readKind_0 rfl) (z_wat (q := 0) (j := 19) zwX1_readKind_0 rfl) (z_wat (q := 0) (j := 20) zwX1_readKind_0 rfl) rfl
theorem dX1_readKind_21 : decode cX1_readKind 21 = .ok (.aload_n 0, 1) := z_o42 (z_wat (q := 0) (j := 21) zwX1_readKind_0 rfl)
theorem dX1_readKind_22 : decode cX1_readKind 22 = .ok (.getfield 24, 3) := z_o180 (z_wat (q := 0) (j := 22) zwX1_readKind_0 rfl) (z_wat (q := 0) (j := 23) zwX1_readKind_0 rfl) (z_wat (q := 0) (j := 24) zwX1_readKind_0 rfl) rfl
theorem dX1_readKind_25 : decode cX1_readKind 25 = .ok (.iconst 1, 1) := z_o4 (z_wat (q := 0) (j := 25) zwX1_readKind_0 rfl)
theorem dX1_readKind_26 : decode cX1_readKind 26 = .ok (.invokevirtual 55, 3) := z_o182 (z_wat (q := 0) (j := 26) zwX1_readKind_0 rfl) (z_wat (q := 0) (j := 27) zwX1_readKind_0 rfl) (z_wat (q := 0) (j := 28) zwX1_readKind_0 rfl) rfl
theorem dX1_readKind_29 : decode cX1_readKind 29 = .ok (.ireturn, 1) := z_o172 (z_wat (q := 0) (j := 29) zwX1_readKind_0 rfl)
theorem dX1_readKind_30 : decode cX1_readKind 30 = .ok (.aload_n 0, 1) := z_o42 (z_wat (q := 0) (j := 30) zwX1_readKind_0 rfl)
theorem dX1_readKind_31 : decode cX1_readKind 31 = .ok (.getfield 28, 3) := z_o180 (z_wat (q := 0) (j := 31) zwX1_readKind_0 rfl) (z_wat (q := 0) (j := 32) zwX1_readKind_0 rfl) (z_wat (q := 0) (j := 33) zwX1_readKind_0 rfl) rfl
theorem zwX1_readKind_32 : ((cX1_readKind.data.toList.drop 32).take 30).map UInt8.toNat = [0, 28, 42, 180, 0, 15, 182, 0, 78, 154, 0, 12, 42, 180, 0, 24, 5, 182, 0, 55, 172, 42, 180, 0, 24, 182, 0, 62, 4, 172] := by decide +kernel
theorem dX1_readKind_34 : decode cX1_readKind 34 = .ok (.aload_n 0, 1) := z_o42 (z_wat (q := 32) (j := 2) zwX1_readKind_32 rfl)
theorem dX1_readKind_35 : decode cX1_readKind 35 = .ok (.getfield 15, 3) := z_o180 (z_wat (q := 32) (j := 3) zwX1_readKind_32 rfl) (z_wat (q := 32) (j := 4) zwX1_readKind_32 rfl) (z_wat (q := 32) (j := 5) zwX1_readKind_32 rfl) rfl
theorem dX1_readKind_38 : decode cX1_readKind 38 = .ok (.invokevirtual 78, 3) := z_o182 (z_wat (q := 32) (j := 6) zwX1_readKind_32 rfl) (z_wat (q := 32) (j := 7) zwX1_readKind_32 rfl) (z_wat (q := 32) (j := 8) zwX1_readKind_32 rfl) rfl
theorem dX1_readKind_41 : decode cX1_readKind 41 = .ok (.ifCond .ne 12, 3) := z_o154 (z_wat (q := 32) (j := 9) zwX1_readKind_32 rfl) (z_wat (q := 32) (j := 10) zwX1_readKind_32 rfl) (z_wat (q := 32) (j := 11) zwX1_readKind_32 rfl) rfl
theorem dX1_readKind_44 : decode cX1_readKind 44 = .ok (.aload_n 0, 1) := z_o42 (z_wat (q := 32) (j := 12) zwX1_readKind_32 rfl)
theorem dX1_readKind_45 : decode cX1_readKind 45 = .ok (.getfield 24, 3) := z_o180 (z_wat (q := 32) (j := 13) zwX1_readKind_32 rfl) (z_wat (q := 32) (j := 14) zwX1_readKind_32 rfl) (z_wat (q := 32) (j := 15) zwX1_readKind_32 rfl) rfl
theorem dX1_readKind_48 : decode cX1_readKind 48 = .ok (.iconst 2, 1) := z_o5 (z_wat (q := 32) (j := 16) zwX1_readKind_32 rfl)
theorem dX1_readKind_49 : decode cX1_readKind 49 = .ok (.invokevirtual 55, 3) := z_o182 (z_wat (q := 32) (j := 17) zwX1_readKind_32 rfl) (z_wat (q := 32) (j := 18) zwX1_readKind_32 rfl) (z_wat (q := 32) (j := 19) zwX1_readKind_32 rfl) rfl
theorem dX1_readKind_52 : decode cX1_readKind 52 = .ok (.ireturn, 1) := z_o172 (z_wat (q := 32) (j := 20) zwX1_readKind_32 rfl)
theorem dX1_readKind_53 : decode cX1_readKind 53 = .ok (.aload_n 0, 1) := z_o42 (z_wat (q := 32) (j := 21) zwX1_readKind_32 rfl)
theorem dX1_readKind_54 : decode cX1_readKind 54 = .ok (.getfield 24, 3) := z_o180 (z_wat (q := 32) (j := 22) zwX1_readKind_32 rfl) (z_wat (q := 32) (j := 23) zwX1_readKind_32 rfl) (z_wat (q := 32) (j := 24) zwX1_readKind_32 rfl) rfl
theorem dX1_readKind_57 : decode cX1_readKind 57 = .ok (.invokevirtual 62, 3) := z_o182 (z_wat (q := 32) (j := 25) zwX1_readKind_32 rfl) (z_wat (q := 32) (j := 26) zwX1_readKind_32 rfl) (z_wat (q := 32) (j := 27) zwX1_readKind_32 rfl) rfl
theorem dX1_readKind_60 : decode cX1_readKind 60 = .ok (.iconst 1, 1) := z_o4 (z_wat (q := 32) (j := 28) zwX1_readKind_32 rfl)
theorem dX1_readKind_61 : decode cX1_readKind 61 = .ok (.ireturn, 1) := z_o172 (z_wat (q := 32) (j := 29) zwX1_readKind_32 rfl)
theorem zwX1_readPart_0 : ((cX1_readPart.data.toList.drop 0).take 34).map UInt8.toNat = [42, 180, 0, 24, 18, 81, 182, 0, 83, 60, 27, 2, 160, 0, 12, 42, 180, 0, 24, 4, 182, 0, 55, 172, 42, 180, 0, 21, 27, 122, 4, 126, 153, 0] := by decide +kernel
theorem dX1_readPart_0 : decode cX1_readPart 0 = .ok (.aload_n 0, 1) := z_o42 (z_wat (q := 0) (j := 0) zwX1_readPart_0 rfl)
theorem dX1_readPart_1 : decode cX1_readPart 1 = .ok (.getfield 24, 3) := z_o180 (z_wat (q := 0) (j := 1) zwX1_readPart_0 rfl) (z_wat (q := 0) (j := 2) zwX1_readPart_0 rfl) (z_wat (q := 0) (j := 3) zwX1_readPart_0 rfl) rfl
theorem dX1_readPart_4 : decode cX1_readPart 4 = .ok (.ldc 81, 2) := z_o18 (z_wat (q := 0) (j := 4) zwX1_readPart_0 rfl) (z_wat (q := 0) (j := 5) zwX1_readPart_0 rfl)
theorem dX1_readPart_6 : decode cX1_readPart 6 = .ok (.invokevirtual 83, 3) := z_o182 (z_wat (q := 0) (j := 6) zwX1_readPart_0 rfl) (z_wat (q := 0) (j := 7) zwX1_readPart_0 rfl) (z_wat (q := 0) (j := 8) zwX1_readPart_0 rfl) rfl
theorem dX1_readPart_9 : decode cX1_readPart 9 = .ok (.istore_n 1, 1) := z_o60 (z_wat (q := 0) (j := 9) zwX1_readPart_0 rfl)
theorem dX1_readPart_10 : decode cX1_readPart 10 = .ok (.iload_n 1, 1) := z_o27 (z_wat (q := 0) (j := 10) zwX1_readPart_0 rfl)
theorem dX1_readPart_11 : decode cX1_readPart 11 = .ok (.iconst (-1), 1) := z_o2 (z_wat (q := 0) (j := 11) zwX1_readPart_0 rfl)
theorem dX1_readPart_12 : decode cX1_readPart 12 = .ok (.if_icmp .ne 12, 3) := z_o160 (z_wat (q := 0) (j := 12) zwX1_readPart_0 rfl) (z_wat (q := 0) (j := 13) zwX1_readPart_0 rfl) (z_wat (q := 0) (j := 14) zwX1_readPart_0 rfl) rfl
theorem dX1_readPart_15 : decode cX1_readPart 15 = .ok (.aload_n 0, 1) := z_o42 (z_wat (q := 0) (j := 15) zwX1_readPart_0 rfl)
theorem dX1_readPart_16 : decode cX1_readPart 16 = .ok (.getfield 24, 3) := z_o180 (z_wat (q := 0) (j := 16) zwX1_readPart_0 rfl) (z_wat (q := 0) (j := 17) zwX1_readPart_0 rfl) (z_wat (q := 0) (j := 18) zwX1_readPart_0 rfl) rfl
theorem dX1_readPart_19 : decode cX1_readPart 19 = .ok (.iconst 1, 1) := z_o4 (z_wat (q := 0) (j := 19) zwX1_readPart_0 rfl)
theorem dX1_readPart_20 : decode cX1_readPart 20 = .ok (.invokevirtual 55, 3) := z_o182 (z_wat (q := 0) (j := 20) zwX1_readPart_0 rfl) (z_wat (q := 0) (j := 21) zwX1_readPart_0 rfl) (z_wat (q := 0) (j := 22) zwX1_readPart_0 rfl) rfl
theorem dX1_readPart_23 : decode cX1_readPart 23 = .ok (.ireturn, 1) := z_o172 (z_wat (q := 0) (j := 23) zwX1_readPart_0 rfl)
theorem dX1_readPart_24 : decode cX1_readPart 24 = .ok (.aload_n 0, 1) := z_o42 (z_wat (q := 0) (j := 24) zwX1_readPart_0 rfl)
theorem dX1_readPart_25 : decode cX1_readPart 25 = .ok (.getfield 21, 3) := z_o180 (z_wat (q := 0) (j := 25) zwX1_readPart_0 rfl) (z_wat (q := 0) (j := 26) zwX1_readPart_0 rfl) (z_wat (q := 0) (j := 27) zwX1_readPart_0 rfl) rfl
theorem dX1_readPart_28 : decode cX1_readPart 28 = .ok (.iload_n 1, 1) := z_o27 (z_wat (q := 0) (j := 28) zwX1_readPart_0 rfl)
theorem dX1_readPart_29 : decode cX1_readPart 29 = .ok (.ishr, 1) := z_o122 (z_wat (q := 0) (j := 29) zwX1_readPart_0 rfl)
theorem dX1_readPart_30 : decode cX1_readPart 30 = .ok (.iconst 1, 1) := z_o4 (z_wat (q := 0) (j := 30) zwX1_readPart_0 rfl)
theorem dX1_readPart_31 : decode cX1_readPart 31 = .ok (.iand, 1) := z_o126 (z_wat (q := 0) (j := 31) zwX1_readPart_0 rfl)
theorem zwX1_readPart_32 : ((cX1_readPart.data.toList.drop 32).take 34).map UInt8.toNat = [153, 0, 12, 42, 180, 0, 24, 6, 182, 0, 55, 172, 42, 89, 180, 0, 21, 4, 27, 120, 128, 181, 0, 21, 42, 180, 0, 24, 182, 0, 62, 42, 180, 0] := by decide +kernel
theorem dX1_readPart_32 : decode cX1_readPart 32 = .ok (.ifCond .eq 12, 3) := z_o153 (z_wat (q := 32) (j := 0) zwX1_readPart_32 rfl) (z_wat (q := 32) (j := 1) zwX1_readPart_32 rfl) (z_wat (q := 32) (j := 2) zwX1_readPart_32 rfl) rfl
theorem dX1_readPart_35 : decode cX1_readPart 35 = .ok (.aload_n 0, 1) := z_o42 (z_wat (q := 32) (j := 3) zwX1_readPart_32 rfl)
theorem dX1_readPart_36 : decode cX1_readPart 36 = .ok (.getfield 24, 3) := z_o180 (z_wat (q := 32) (j := 4) zwX1_readPart_32 rfl) (z_wat (q := 32) (j := 5) zwX1_readPart_32 rfl) (z_wat (q := 32) (j := 6) zwX1_readPart_32 rfl) rfl
theorem dX1_readPart_39 : decode cX1_readPart 39 = .ok (.iconst 3, 1) := z_o6 (z_wat (q := 32) (j := 7) zwX1_readPart_32 rfl)
theorem dX1_readPart_40 : decode cX1_readPart 40 = .ok (.invokevirtual 55, 3) := z_o182 (z_wat (q := 32) (j := 8) zwX1_readPart_32 rfl) (z_wat (q := 32) (j := 9) zwX1_readPart_32 rfl) (z_wat (q := 32) (j := 10) zwX1_readPart_32 rfl) rfl
theorem dX1_readPart_43 : decode cX1_readPart 43 = .ok (.ireturn, 1) := z_o172 (z_wat (q := 32) (j := 11) zwX1_readPart_32 rfl)
theorem dX1_readPart_44 : decode cX1_readPart 44 = .ok (.aload_n 0, 1) := z_o42 (z_wat (q := 32) (j := 12) zwX1_readPart_32 rfl)
theorem dX1_readPart_45 : decode cX1_readPart 45 = .ok (.dup, 1) := z_o89 (z_wat (q := 32) (j := 13) zwX1_readPart_32 rfl)
theorem dX1_readPart_46 : decode cX1_readPart 46 = .ok (.getfield 21, 3) := z_o180 (z_wat (q := 32) (j := 14) zwX1_readPart_32 rfl) (z_wat (q := 32) (j := 15) zwX1_readPart_32 rfl) (z_wat (q := 32) (j := 16) zwX1_readPart_32 rfl) rfl
theorem dX1_readPart_49 : decode cX1_readPart 49 = .ok (.iconst 1, 1) := z_o4 (z_wat (q := 32) (j := 17) zwX1_readPart_32 rfl)
theorem dX1_readPart_50 : decode cX1_readPart 50 = .ok (.iload_n 1, 1) := z_o27 (z_wat (q := 32) (j := 18) zwX1_readPart_32 rfl)
theorem dX1_readPart_51 : decode cX1_readPart 51 = .ok (.ishl, 1) := z_o120 (z_wat (q := 32) (j := 19) zwX1_readPart_32 rfl)
theorem dX1_readPart_52 : decode cX1_readPart 52 = .ok (.ior, 1) := z_o128 (z_wat (q := 32) (j := 20) zwX1_readPart_32 rfl)
theorem dX1_readPart_53 : decode cX1_readPart 53 = .ok (.putfield 21, 3) := z_o181 (z_wat (q := 32) (j := 21) zwX1_readPart_32 rfl) (z_wat (q := 32) (j := 22) zwX1_readPart_32 rfl) (z_wat (q := 32) (j := 23) zwX1_readPart_32 rfl) rfl
theorem dX1_readPart_56 : decode cX1_readPart 56 = .ok (.aload_n 0, 1) := z_o42 (z_wat (q := 32) (j := 24) zwX1_readPart_32 rfl)
theorem dX1_readPart_57 : decode cX1_readPart 57 = .ok (.getfield 24, 3) := z_o180 (z_wat (q := 32) (j := 25) zwX1_readPart_32 rfl) (z_wat (q := 32) (j := 26) zwX1_readPart_32 rfl) (z_wat (q := 32) (j := 27) zwX1_readPart_32 rfl) rfl
theorem dX1_readPart_60 : decode cX1_readPart 60 = .ok (.invokevirtual 62, 3) := z_o182 (z_wat (q := 32) (j := 28) zwX1_readPart_32 rfl) (z_wat (q := 32) (j := 29) zwX1_readPart_32 rfl) (z_wat (q := 32) (j := 30) zwX1_readPart_32 rfl) rfl
theorem dX1_readPart_63 : decode cX1_readPart 63 = .ok (.aload_n 0, 1) := z_o42 (z_wat (q := 32) (j := 31) zwX1_readPart_32 rfl)
theorem zwX1_readPart_64 : ((cX1_readPart.data.toList.drop 64).take 34).map UInt8.toNat = [180, 0, 24, 180, 0, 48, 5, 159, 0, 12, 42, 180, 0, 24, 4, 182, 0, 55, 172, 42, 180, 0, 24, 42, 180, 0, 24, 180, 0, 87, 182, 0, 90, 61] := by decide +kernel
theorem dX1_readPart_64 : decode cX1_readPart 64 = .ok (.getfield 24, 3) := z_o180 (z_wat (q := 64) (j := 0) zwX1_readPart_64 rfl) (z_wat (q := 64) (j := 1) zwX1_readPart_64 rfl) (z_wat (q := 64) (j := 2) zwX1_readPart_64 rfl) rfl
theorem dX1_readPart_67 : decode cX1_readPart 67 = .ok (.getfield 48, 3) := z_o180 (z_wat (q := 64) (j := 3) zwX1_readPart_64 rfl) (z_wat (q := 64) (j := 4) zwX1_readPart_64 rfl) (z_wat (q := 64) (j := 5) zwX1_readPart_64 rfl) rfl
theorem dX1_readPart_70 : decode cX1_readPart 70 = .ok (.iconst 2, 1) := z_o5 (z_wat (q := 64) (j := 6) zwX1_readPart_64 rfl)
theorem dX1_readPart_71 : decode cX1_readPart 71 = .ok (.if_icmp .eq 12, 3) := z_o159 (z_wat (q := 64) (j := 7) zwX1_readPart_64 rfl) (z_wat (q := 64) (j := 8) zwX1_readPart_64 rfl) (z_wat (q := 64) (j := 9) zwX1_readPart_64 rfl) rfl
theorem dX1_readPart_74 : decode cX1_readPart 74 = .ok (.aload_n 0, 1) := z_o42 (z_wat (q := 64) (j := 10) zwX1_readPart_64 rfl)
theorem dX1_readPart_75 : decode cX1_readPart 75 = .ok (.getfield 24, 3) := z_o180 (z_wat (q := 64) (j := 11) zwX1_readPart_64 rfl) (z_wat (q := 64) (j := 12) zwX1_readPart_64 rfl) (z_wat (q := 64) (j := 13) zwX1_readPart_64 rfl) rfl
theorem dX1_readPart_78 : decode cX1_readPart 78 = .ok (.iconst 1, 1) := z_o4 (z_wat (q := 64) (j := 14) zwX1_readPart_64 rfl)
theorem dX1_readPart_79 : decode cX1_readPart 79 = .ok (.invokevirtual 55, 3) := z_o182 (z_wat (q := 64) (j := 15) zwX1_readPart_64 rfl) (z_wat (q := 64) (j := 16) zwX1_readPart_64 rfl) (z_wat (q := 64) (j := 17) zwX1_readPart_64 rfl) rfl
theorem dX1_readPart_82 : decode cX1_readPart 82 = .ok (.ireturn, 1) := z_o172 (z_wat (q := 64) (j := 18) zwX1_readPart_64 rfl)
theorem dX1_readPart_83 : decode cX1_readPart 83 = .ok (.aload_n 0, 1) := z_o42 (z_wat (q := 64) (j := 19) zwX1_readPart_64 rfl)
theorem dX1_readPart_84 : decode cX1_readPart 84 = .ok (.getfield 24, 3) := z_o180 (z_wat (q := 64) (j := 20) zwX1_readPart_64 rfl) (z_wat (q := 64) (j := 21) zwX1_readPart_64 rfl) (z_wat (q := 64) (j := 22) zwX1_readPart_64 rfl) rfl
theorem dX1_readPart_87 : decode cX1_readPart 87 = .ok (.aload_n 0, 1) := z_o42 (z_wat (q := 64) (j := 23) zwX1_readPart_64 rfl)
theorem dX1_readPart_88 : decode cX1_readPart 88 = .ok (.getfield 24, 3) := z_o180 (z_wat (q := 64) (j := 24) zwX1_readPart_64 rfl) (z_wat (q := 64) (j := 25) zwX1_readPart_64 rfl) (z_wat (q := 64) (j := 26) zwX1_readPart_64 rfl) rfl
theorem dX1_readPart_91 : decode cX1_readPart 91 = .ok (.getfield 87, 3) := z_o180 (z_wat (q := 64) (j := 27) zwX1_readPart_64 rfl) (z_wat (q := 64) (j := 28) zwX1_readPart_64 rfl) (z_wat (q := 64) (j := 29) zwX1_readPart_64 rfl) rfl
theorem dX1_readPart_94 : decode cX1_readPart 94 = .ok (.invokevirtual 90, 3) := z_o182 (z_wat (q := 64) (j := 30) zwX1_readPart_64 rfl) (z_wat (q := 64) (j := 31) zwX1_readPart_64 rfl) (z_wat (q := 64) (j := 32) zwX1_readPart_64 rfl) rfl
theorem zwX1_readPart_96 : ((cX1_readPart.data.toList.drop 96).take 34).map UInt8.toNat = [90, 61, 28, 17, 3, 231, 164, 0, 12, 42, 180, 0, 24, 5, 182, 0, 55, 172, 42, 180, 0, 28, 42, 180, 0, 9, 42, 180, 0, 15, 42, 180, 0, 18] := by decide +kernel
theorem dX1_readPart_97 : decode cX1_readPart 97 = .ok (.istore_n 2, 1) := z_o61 (z_wat (q := 96) (j := 1) zwX1_readPart_96 rfl)
theorem dX1_readPart_98 : decode cX1_readPart 98 = .ok (.iload_n 2, 1) := z_o28 (z_wat (q := 96) (j := 2) zwX1_readPart_96 rfl)
theorem dX1_readPart_99 : decode cX1_readPart 99 = .ok (.sipush 999, 3) := z_o17 (z_wat (q := 96) (j := 3) zwX1_readPart_96 rfl) (z_wat (q := 96) (j := 4) zwX1_readPart_96 rfl) (z_wat (q := 96) (j := 5) zwX1_readPart_96 rfl) rfl
theorem dX1_readPart_102 : decode cX1_readPart 102 = .ok (.if_icmp .le 12, 3) := z_o164 (z_wat (q := 96) (j := 6) zwX1_readPart_96 rfl) (z_wat (q := 96) (j := 7) zwX1_readPart_96 rfl) (z_wat (q := 96) (j := 8) zwX1_readPart_96 rfl) rfl
theorem dX1_readPart_105 : decode cX1_readPart 105 = .ok (.aload_n 0, 1) := z_o42 (z_wat (q := 96) (j := 9) zwX1_readPart_96 rfl)
theorem dX1_readPart_106 : decode cX1_readPart 106 = .ok (.getfield 24, 3) := z_o180 (z_wat (q := 96) (j := 10) zwX1_readPart_96 rfl) (z_wat (q := 96) (j := 11) zwX1_readPart_96 rfl) (z_wat (q := 96) (j := 12) zwX1_readPart_96 rfl) rfl
theorem dX1_readPart_109 : decode cX1_readPart 109 = .ok (.iconst 2, 1) := z_o5 (z_wat (q := 96) (j := 13) zwX1_readPart_96 rfl)
theorem dX1_readPart_110 : decode cX1_readPart 110 = .ok (.invokevirtual 55, 3) := z_o182 (z_wat (q := 96) (j := 14) zwX1_readPart_96 rfl) (z_wat (q := 96) (j := 15) zwX1_readPart_96 rfl) (z_wat (q := 96) (j := 16) zwX1_readPart_96 rfl) rfl
theorem dX1_readPart_113 : decode cX1_readPart 113 = .ok (.ireturn, 1) := z_o172 (z_wat (q := 96) (j := 17) zwX1_readPart_96 rfl)
theorem dX1_readPart_114 : decode cX1_readPart 114 = .ok (.aload_n 0, 1) := z_o42 (z_wat (q := 96) (j := 18) zwX1_readPart_96 rfl)
theorem dX1_readPart_115 : decode cX1_readPart 115 = .ok (.getfield 28, 3) := z_o180 (z_wat (q := 96) (j := 19) zwX1_readPart_96 rfl) (z_wat (q := 96) (j := 20) zwX1_readPart_96 rfl) (z_wat (q := 96) (j := 21) zwX1_readPart_96 rfl) rfl
theorem dX1_readPart_118 : decode cX1_readPart 118 = .ok (.aload_n 0, 1) := z_o42 (z_wat (q := 96) (j := 22) zwX1_readPart_96 rfl)
theorem dX1_readPart_119 : decode cX1_readPart 119 = .ok (.getfield 9, 3) := z_o180 (z_wat (q := 96) (j := 23) zwX1_readPart_96 rfl) (z_wat (q := 96) (j := 24) zwX1_readPart_96 rfl) (z_wat (q := 96) (j := 25) zwX1_readPart_96 rfl) rfl
theorem dX1_readPart_122 : decode cX1_readPart 122 = .ok (.aload_n 0, 1) := z_o42 (z_wat (q := 96) (j := 26) zwX1_readPart_96 rfl)
theorem dX1_readPart_123 : decode cX1_readPart 123 = .ok (.getfield 15, 3) := z_o180 (z_wat (q := 96) (j := 27) zwX1_readPart_96 rfl) (z_wat (q := 96) (j := 28) zwX1_readPart_96 rfl) (z_wat (q := 96) (j := 29) zwX1_readPart_96 rfl) rfl
theorem dX1_readPart_126 : decode cX1_readPart 126 = .ok (.aload_n 0, 1) := z_o42 (z_wat (q := 96) (j := 30) zwX1_readPart_96 rfl)
theorem dX1_readPart_127 : decode cX1_readPart 127 = .ok (.getfield 18, 3) := z_o180 (z_wat (q := 96) (j := 31) zwX1_readPart_96 rfl) (z_wat (q := 96) (j := 32) zwX1_readPart_96 rfl) (z_wat (q := 96) (j := 33) zwX1_readPart_96 rfl) rfl
theorem zwX1_readPart_128 : ((cX1_readPart.data.toList.drop 128).take 16).map UInt8.toNat = [0, 18, 27, 28, 182, 0, 94, 42, 180, 0, 24, 182, 0, 62, 4, 172] := by decide +kernel
theorem dX1_readPart_130 : decode cX1_readPart 130 = .ok (.iload_n 1, 1) := z_o27 (z_wat (q := 128) (j := 2) zwX1_readPart_128 rfl)
theorem dX1_readPart_131 : decode cX1_readPart 131 = .ok (.iload_n 2, 1) := z_o28 (z_wat (q := 128) (j := 3) zwX1_readPart_128 rfl)
theorem dX1_readPart_132 : decode cX1_readPart 132 = .ok (.invokevirtual 94, 3) := z_o182 (z_wat (q := 128) (j := 4) zwX1_readPart_128 rfl) (z_wat (q := 128) (j := 5) zwX1_readPart_128 rfl) (z_wat (q := 128) (j := 6) zwX1_readPart_128 rfl) rfl
theorem dX1_readPart_135 : decode cX1_readPart 135 = .ok (.aload_n 0, 1) := z_o42 (z_wat (q := 128) (j := 7) zwX1_readPart_128 rfl)
theorem dX1_readPart_136 : decode cX1_readPart 136 = .ok (.getfield 24, 3) := z_o180 (z_wat (q := 128) (j := 8) zwX1_readPart_128 rfl) (z_wat (q := 128) (j := 9) zwX1_readPart_128 rfl) (z_wat (q := 128) (j := 10) zwX1_readPart_128 rfl) rfl
theorem dX1_readPart_139 : decode cX1_readPart 139 = .ok (.invokevirtual 62, 3) := z_o182 (z_wat (q := 128) (j := 11) zwX1_readPart_128 rfl) (z_wat (q := 128) (j := 12) zwX1_readPart_128 rfl) (z_wat (q := 128) (j := 13) zwX1_readPart_128 rfl) rfl
theorem dX1_readPart_142 : decode cX1_readPart 142 = .ok (.iconst 1, 1) := z_o4 (z_wat (q := 128) (j := 14) zwX1_readPart_128 rfl)
theorem dX1_readPart_143 : decode cX1_readPart 143 = .ok (.ireturn, 1) := z_o172 (z_wat (q := 128) (j := 15) zwX1_readPart_128 rfl)
theorem zwX1_readSieve_0 : ((cX1_readSieve.data.toList.drop 0).take 34).map UInt8.toNat = [42, 42, 180, 0, 24, 16, 115, 182, 0, 74, 181, 0, 18, 42, 180, 0, 18, 2, 160, 0, 12, 42, 180, 0, 24, 4, 182, 0, 55, 172, 42, 180, 0, 18] := by decide +kernel
theorem dX1_readSieve_0 : decode cX1_readSieve 0 = .ok (.aload_n 0, 1) := z_o42 (z_wat (q := 0) (j := 0) zwX1_readSieve_0 rfl)
theorem dX1_readSieve_1 : decode cX1_readSieve 1 = .ok (.aload_n 0, 1) := z_o42 (z_wat (q := 0) (j := 1) zwX1_readSieve_0 rfl)
theorem dX1_readSieve_2 : decode cX1_readSieve 2 = .ok (.getfield 24, 3) := z_o180 (z_wat (q := 0) (j := 2) zwX1_readSieve_0 rfl) (z_wat (q := 0) (j := 3) zwX1_readSieve_0 rfl) (z_wat (q := 0) (j := 4) zwX1_readSieve_0 rfl) rfl
theorem dX1_readSieve_5 : decode cX1_readSieve 5 = .ok (.bipush 115, 2) := z_o16 (z_wat (q := 0) (j := 5) zwX1_readSieve_0 rfl) (z_wat (q := 0) (j := 6) zwX1_readSieve_0 rfl) rfl
theorem dX1_readSieve_7 : decode cX1_readSieve 7 = .ok (.invokevirtual 74, 3) := z_o182 (z_wat (q := 0) (j := 7) zwX1_readSieve_0 rfl) (z_wat (q := 0) (j := 8) zwX1_readSieve_0 rfl) (z_wat (q := 0) (j := 9) zwX1_readSieve_0 rfl) rfl
theorem dX1_readSieve_10 : decode cX1_readSieve 10 = .ok (.putfield 18, 3) := z_o181 (z_wat (q := 0) (j := 10) zwX1_readSieve_0 rfl) (z_wat (q := 0) (j := 11) zwX1_readSieve_0 rfl) (z_wat (q := 0) (j := 12) zwX1_readSieve_0 rfl) rfl
theorem dX1_readSieve_13 : decode cX1_readSieve 13 = .ok (.aload_n 0, 1) := z_o42 (z_wat (q := 0) (j := 13) zwX1_readSieve_0 rfl)
theorem dX1_readSieve_14 : decode cX1_readSieve 14 = .ok (.getfield 18, 3) := z_o180 (z_wat (q := 0) (j := 14) zwX1_readSieve_0 rfl) (z_wat (q := 0) (j := 15) zwX1_readSieve_0 rfl) (z_wat (q := 0) (j := 16) zwX1_readSieve_0 rfl) rfl
theorem dX1_readSieve_17 : decode cX1_readSieve 17 = .ok (.iconst (-1), 1) := z_o2 (z_wat (q := 0) (j := 17) zwX1_readSieve_0 rfl)
theorem dX1_readSieve_18 : decode cX1_readSieve 18 = .ok (.if_icmp .ne 12, 3) := z_o160 (z_wat (q := 0) (j := 18) zwX1_readSieve_0 rfl) (z_wat (q := 0) (j := 19) zwX1_readSieve_0 rfl) (z_wat (q := 0) (j := 20) zwX1_readSieve_0 rfl) rfl
theorem dX1_readSieve_21 : decode cX1_readSieve 21 = .ok (.aload_n 0, 1) := z_o42 (z_wat (q := 0) (j := 21) zwX1_readSieve_0 rfl)
theorem dX1_readSieve_22 : decode cX1_readSieve 22 = .ok (.getfield 24, 3) := z_o180 (z_wat (q := 0) (j := 22) zwX1_readSieve_0 rfl) (z_wat (q := 0) (j := 23) zwX1_readSieve_0 rfl) (z_wat (q := 0) (j := 24) zwX1_readSieve_0 rfl) rfl
theorem dX1_readSieve_25 : decode cX1_readSieve 25 = .ok (.iconst 1, 1) := z_o4 (z_wat (q := 0) (j := 25) zwX1_readSieve_0 rfl)
theorem dX1_readSieve_26 : decode cX1_readSieve 26 = .ok (.invokevirtual 55, 3) := z_o182 (z_wat (q := 0) (j := 26) zwX1_readSieve_0 rfl) (z_wat (q := 0) (j := 27) zwX1_readSieve_0 rfl) (z_wat (q := 0) (j := 28) zwX1_readSieve_0 rfl) rfl
theorem dX1_readSieve_29 : decode cX1_readSieve 29 = .ok (.ireturn, 1) := z_o172 (z_wat (q := 0) (j := 29) zwX1_readSieve_0 rfl)
theorem dX1_readSieve_30 : decode cX1_readSieve 30 = .ok (.aload_n 0, 1) := z_o42 (z_wat (q := 0) (j := 30) zwX1_readSieve_0 rfl)
theorem dX1_readSieve_31 : decode cX1_readSieve 31 = .ok (.getfield 18, 3) := z_o180 (z_wat (q := 0) (j := 31) zwX1_readSieve_0 rfl) (z_wat (q := 0) (j := 32) zwX1_readSieve_0 rfl) (z_wat (q := 0) (j := 33) zwX1_readSieve_0 rfl) rfl
theorem zwX1_readSieve_32 : ((cX1_readSieve.data.toList.drop 32).take 24).map UInt8.toNat = [0, 18, 7, 161, 0, 12, 42, 180, 0, 24, 5, 182, 0, 55, 172, 42, 180, 0, 24, 182, 0, 62, 4, 172] := by decide +kernel
theorem dX1_readSieve_34 : decode cX1_readSieve 34 = .ok (.iconst 4, 1) := z_o7 (z_wat (q := 32) (j := 2) zwX1_readSieve_32 rfl)
theorem dX1_readSieve_35 : decode cX1_readSieve 35 = .ok (.if_icmp .lt 12, 3) := z_o161 (z_wat (q := 32) (j := 3) zwX1_readSieve_32 rfl) (z_wat (q := 32) (j := 4) zwX1_readSieve_32 rfl) (z_wat (q := 32) (j := 5) zwX1_readSieve_32 rfl) rfl
theorem dX1_readSieve_38 : decode cX1_readSieve 38 = .ok (.aload_n 0, 1) := z_o42 (z_wat (q := 32) (j := 6) zwX1_readSieve_32 rfl)
theorem dX1_readSieve_39 : decode cX1_readSieve 39 = .ok (.getfield 24, 3) := z_o180 (z_wat (q := 32) (j := 7) zwX1_readSieve_32 rfl) (z_wat (q := 32) (j := 8) zwX1_readSieve_32 rfl) (z_wat (q := 32) (j := 9) zwX1_readSieve_32 rfl) rfl
theorem dX1_readSieve_42 : decode cX1_readSieve 42 = .ok (.iconst 2, 1) := z_o5 (z_wat (q := 32) (j := 10) zwX1_readSieve_32 rfl)
theorem dX1_readSieve_43 : decode cX1_readSieve 43 = .ok (.invokevirtual 55, 3) := z_o182 (z_wat (q := 32) (j := 11) zwX1_readSieve_32 rfl) (z_wat (q := 32) (j := 12) zwX1_readSieve_32 rfl) (z_wat (q := 32) (j := 13) zwX1_readSieve_32 rfl) rfl
theorem dX1_readSieve_46 : decode cX1_readSieve 46 = .ok (.ireturn, 1) := z_o172 (z_wat (q := 32) (j := 14) zwX1_readSieve_32 rfl)
theorem dX1_readSieve_47 : decode cX1_readSieve 47 = .ok (.aload_n 0, 1) := z_o42 (z_wat (q := 32) (j := 15) zwX1_readSieve_32 rfl)
theorem dX1_readSieve_48 : decode cX1_readSieve 48 = .ok (.getfield 24, 3) := z_o180 (z_wat (q := 32) (j := 16) zwX1_readSieve_32 rfl) (z_wat (q := 32) (j := 17) zwX1_readSieve_32 rfl) (z_wat (q := 32) (j := 18) zwX1_readSieve_32 rfl) rfl
theorem dX1_readSieve_51 : decode cX1_readSieve 51 = .ok (.invokevirtual 62, 3) := z_o182 (z_wat (q := 32) (j := 19) zwX1_readSieve_32 rfl) (z_wat (q := 32) (j := 20) zwX1_readSieve_32 rfl) (z_wat (q := 32) (j := 21) zwX1_readSieve_32 rfl) rfl
theorem dX1_readSieve_54 : decode cX1_readSieve 54 = .ok (.iconst 1, 1) := z_o4 (z_wat (q := 32) (j := 22) zwX1_readSieve_32 rfl)
theorem dX1_readSieve_55 : decode cX1_readSieve 55 = .ok (.ireturn, 1) := z_o172 (z_wat (q := 32) (j := 23) zwX1_readSieve_32 rfl)
theorem zwX8_await_0 : ((cX8_await.data.toList.drop 0).take 33).map UInt8.toNat = [42, 180, 0, 23, 42, 180, 0, 20, 190, 162, 0, 23, 42, 180, 0, 20, 42, 180, 0, 23, 27, 79, 42, 89, 180, 0, 23, 4, 96, 181, 0, 23, 177] := by decide +kernel
theorem dX8_await_0 : decode cX8_await 0 = .ok (.aload_n 0, 1) := z_o42 (z_wat (q := 0) (j := 0) zwX8_await_0 rfl)
theorem dX8_await_1 : decode cX8_await 1 = .ok (.getfield 23, 3) := z_o180 (z_wat (q := 0) (j := 1) zwX8_await_0 rfl) (z_wat (q := 0) (j := 2) zwX8_await_0 rfl) (z_wat (q := 0) (j := 3) zwX8_await_0 rfl) rfl
theorem dX8_await_4 : decode cX8_await 4 = .ok (.aload_n 0, 1) := z_o42 (z_wat (q := 0) (j := 4) zwX8_await_0 rfl)
theorem dX8_await_5 : decode cX8_await 5 = .ok (.getfield 20, 3) := z_o180 (z_wat (q := 0) (j := 5) zwX8_await_0 rfl) (z_wat (q := 0) (j := 6) zwX8_await_0 rfl) (z_wat (q := 0) (j := 7) zwX8_await_0 rfl) rfl
theorem dX8_await_8 : decode cX8_await 8 = .ok (.arraylength, 1) := z_o190 (z_wat (q := 0) (j := 8) zwX8_await_0 rfl)
theorem dX8_await_9 : decode cX8_await 9 = .ok (.if_icmp .ge 23, 3) := z_o162 (z_wat (q := 0) (j := 9) zwX8_await_0 rfl) (z_wat (q := 0) (j := 10) zwX8_await_0 rfl) (z_wat (q := 0) (j := 11) zwX8_await_0 rfl) rfl
theorem dX8_await_12 : decode cX8_await 12 = .ok (.aload_n 0, 1) := z_o42 (z_wat (q := 0) (j := 12) zwX8_await_0 rfl)
theorem dX8_await_13 : decode cX8_await 13 = .ok (.getfield 20, 3) := z_o180 (z_wat (q := 0) (j := 13) zwX8_await_0 rfl) (z_wat (q := 0) (j := 14) zwX8_await_0 rfl) (z_wat (q := 0) (j := 15) zwX8_await_0 rfl) rfl
theorem dX8_await_16 : decode cX8_await 16 = .ok (.aload_n 0, 1) := z_o42 (z_wat (q := 0) (j := 16) zwX8_await_0 rfl)
theorem dX8_await_17 : decode cX8_await 17 = .ok (.getfield 23, 3) := z_o180 (z_wat (q := 0) (j := 17) zwX8_await_0 rfl) (z_wat (q := 0) (j := 18) zwX8_await_0 rfl) (z_wat (q := 0) (j := 19) zwX8_await_0 rfl) rfl
theorem dX8_await_20 : decode cX8_await 20 = .ok (.iload_n 1, 1) := z_o27 (z_wat (q := 0) (j := 20) zwX8_await_0 rfl)
theorem dX8_await_21 : decode cX8_await 21 = .ok (.iastore, 1) := z_o79 (z_wat (q := 0) (j := 21) zwX8_await_0 rfl)
theorem dX8_await_22 : decode cX8_await 22 = .ok (.aload_n 0, 1) := z_o42 (z_wat (q := 0) (j := 22) zwX8_await_0 rfl)
theorem dX8_await_23 : decode cX8_await 23 = .ok (.dup, 1) := z_o89 (z_wat (q := 0) (j := 23) zwX8_await_0 rfl)
theorem dX8_await_24 : decode cX8_await 24 = .ok (.getfield 23, 3) := z_o180 (z_wat (q := 0) (j := 24) zwX8_await_0 rfl) (z_wat (q := 0) (j := 25) zwX8_await_0 rfl) (z_wat (q := 0) (j := 26) zwX8_await_0 rfl) rfl
theorem dX8_await_27 : decode cX8_await 27 = .ok (.iconst 1, 1) := z_o4 (z_wat (q := 0) (j := 27) zwX8_await_0 rfl)
theorem dX8_await_28 : decode cX8_await 28 = .ok (.iadd, 1) := z_o96 (z_wat (q := 0) (j := 28) zwX8_await_0 rfl)
theorem dX8_await_29 : decode cX8_await 29 = .ok (.putfield 23, 3) := z_o181 (z_wat (q := 0) (j := 29) zwX8_await_0 rfl) (z_wat (q := 0) (j := 30) zwX8_await_0 rfl) (z_wat (q := 0) (j := 31) zwX8_await_0 rfl) rfl
theorem zwX8_await_32 : ((cX8_await.data.toList.drop 32).take 1).map UInt8.toNat = [177] := by decide +kernel
theorem dX8_await_32 : decode cX8_await 32 = .ok (.return_, 1) := z_o177 (z_wat (q := 32) (j := 0) zwX8_await_32 rfl)
theorem zwX8_joinInHand_0 : ((cX8_joinInHand.data.toList.drop 0).take 34).map UInt8.toNat = [42, 180, 0, 42, 18, 166, 182, 0, 63, 60, 27, 2, 159, 0, 15, 27, 154, 0, 8, 16, 10, 167, 0, 5, 16, 20, 172, 42, 180, 0, 42, 180, 0, 80] := by decide +kernel
theorem dX8_joinInHand_0 : decode cX8_joinInHand 0 = .ok (.aload_n 0, 1) := z_o42 (z_wat (q := 0) (j := 0) zwX8_joinInHand_0 rfl)
theorem dX8_joinInHand_1 : decode cX8_joinInHand 1 = .ok (.getfield 42, 3) := z_o180 (z_wat (q := 0) (j := 1) zwX8_joinInHand_0 rfl) (z_wat (q := 0) (j := 2) zwX8_joinInHand_0 rfl) (z_wat (q := 0) (j := 3) zwX8_joinInHand_0 rfl) rfl
theorem dX8_joinInHand_4 : decode cX8_joinInHand 4 = .ok (.ldc 166, 2) := z_o18 (z_wat (q := 0) (j := 4) zwX8_joinInHand_0 rfl) (z_wat (q := 0) (j := 5) zwX8_joinInHand_0 rfl)
theorem dX8_joinInHand_6 : decode cX8_joinInHand 6 = .ok (.invokevirtual 63, 3) := z_o182 (z_wat (q := 0) (j := 6) zwX8_joinInHand_0 rfl) (z_wat (q := 0) (j := 7) zwX8_joinInHand_0 rfl) (z_wat (q := 0) (j := 8) zwX8_joinInHand_0 rfl) rfl
theorem dX8_joinInHand_9 : decode cX8_joinInHand 9 = .ok (.istore_n 1, 1) := z_o60 (z_wat (q := 0) (j := 9) zwX8_joinInHand_0 rfl)
theorem dX8_joinInHand_10 : decode cX8_joinInHand 10 = .ok (.iload_n 1, 1) := z_o27 (z_wat (q := 0) (j := 10) zwX8_joinInHand_0 rfl)
theorem dX8_joinInHand_11 : decode cX8_joinInHand 11 = .ok (.iconst (-1), 1) := z_o2 (z_wat (q := 0) (j := 11) zwX8_joinInHand_0 rfl)
theorem dX8_joinInHand_12 : decode cX8_joinInHand 12 = .ok (.if_icmp .eq 15, 3) := z_o159 (z_wat (q := 0) (j := 12) zwX8_joinInHand_0 rfl) (z_wat (q := 0) (j := 13) zwX8_joinInHand_0 rfl) (z_wat (q := 0) (j := 14) zwX8_joinInHand_0 rfl) rfl
theorem dX8_joinInHand_15 : decode cX8_joinInHand 15 = .ok (.iload_n 1, 1) := z_o27 (z_wat (q := 0) (j := 15) zwX8_joinInHand_0 rfl)
theorem dX8_joinInHand_16 : decode cX8_joinInHand 16 = .ok (.ifCond .ne 8, 3) := z_o154 (z_wat (q := 0) (j := 16) zwX8_joinInHand_0 rfl) (z_wat (q := 0) (j := 17) zwX8_joinInHand_0 rfl) (z_wat (q := 0) (j := 18) zwX8_joinInHand_0 rfl) rfl
theorem dX8_joinInHand_19 : decode cX8_joinInHand 19 = .ok (.bipush 10, 2) := z_o16 (z_wat (q := 0) (j := 19) zwX8_joinInHand_0 rfl) (z_wat (q := 0) (j := 20) zwX8_joinInHand_0 rfl) rfl
theorem dX8_joinInHand_21 : decode cX8_joinInHand 21 = .ok (.goto 5, 3) := z_o167 (z_wat (q := 0) (j := 21) zwX8_joinInHand_0 rfl) (z_wat (q := 0) (j := 22) zwX8_joinInHand_0 rfl) (z_wat (q := 0) (j := 23) zwX8_joinInHand_0 rfl) rfl
theorem dX8_joinInHand_24 : decode cX8_joinInHand 24 = .ok (.bipush 20, 2) := z_o16 (z_wat (q := 0) (j := 24) zwX8_joinInHand_0 rfl) (z_wat (q := 0) (j := 25) zwX8_joinInHand_0 rfl) rfl
theorem dX8_joinInHand_26 : decode cX8_joinInHand 26 = .ok (.ireturn, 1) := z_o172 (z_wat (q := 0) (j := 26) zwX8_joinInHand_0 rfl)
theorem dX8_joinInHand_27 : decode cX8_joinInHand 27 = .ok (.aload_n 0, 1) := z_o42 (z_wat (q := 0) (j := 27) zwX8_joinInHand_0 rfl)
theorem dX8_joinInHand_28 : decode cX8_joinInHand 28 = .ok (.getfield 42, 3) := z_o180 (z_wat (q := 0) (j := 28) zwX8_joinInHand_0 rfl) (z_wat (q := 0) (j := 29) zwX8_joinInHand_0 rfl) (z_wat (q := 0) (j := 30) zwX8_joinInHand_0 rfl) rfl
theorem dX8_joinInHand_31 : decode cX8_joinInHand 31 = .ok (.getfield 80, 3) := z_o180 (z_wat (q := 0) (j := 31) zwX8_joinInHand_0 rfl) (z_wat (q := 0) (j := 32) zwX8_joinInHand_0 rfl) (z_wat (q := 0) (j := 33) zwX8_joinInHand_0 rfl) rfl
theorem dX8_joinInHand_34 : decode cX8_joinInHand 34 = .ok (.lookupswitch 120 #[(42, 114), (43, 108), (45, 111), (47, 117), (60, 90), (61, 96), (62, 105), (15676, 93), (15678, 102), (15932, 99)], 90) := by decide +kernel
theorem zwX8_joinInHand_96 : ((cX8_joinInHand.data.toList.drop 96).take 34).map UInt8.toNat = [0, 0, 0, 105, 0, 0, 61, 60, 0, 0, 0, 93, 0, 0, 61, 62, 0, 0, 0, 102, 0, 0, 62, 60, 0, 0, 0, 99, 16, 40, 172, 16, 41, 172] := by decide +kernel
theorem dX8_joinInHand_124 : decode cX8_joinInHand 124 = .ok (.bipush 40, 2) := z_o16 (z_wat (q := 96) (j := 28) zwX8_joinInHand_96 rfl) (z_wat (q := 96) (j := 29) zwX8_joinInHand_96 rfl) rfl
theorem dX8_joinInHand_126 : decode cX8_joinInHand 126 = .ok (.ireturn, 1) := z_o172 (z_wat (q := 96) (j := 30) zwX8_joinInHand_96 rfl)
theorem dX8_joinInHand_127 : decode cX8_joinInHand 127 = .ok (.bipush 41, 2) := z_o16 (z_wat (q := 96) (j := 31) zwX8_joinInHand_96 rfl) (z_wat (q := 96) (j := 32) zwX8_joinInHand_96 rfl) rfl
theorem zwX8_joinInHand_128 : ((cX8_joinInHand.data.toList.drop 128).take 28).map UInt8.toNat = [41, 172, 16, 42, 172, 16, 43, 172, 16, 44, 172, 16, 45, 172, 16, 50, 172, 16, 51, 172, 16, 60, 172, 16, 61, 172, 2, 172] := by decide +kernel
theorem dX8_joinInHand_129 : decode cX8_joinInHand 129 = .ok (.ireturn, 1) := z_o172 (z_wat (q := 128) (j := 1) zwX8_joinInHand_128 rfl)
theorem dX8_joinInHand_130 : decode cX8_joinInHand 130 = .ok (.bipush 42, 2) := z_o16 (z_wat (q := 128) (j := 2) zwX8_joinInHand_128 rfl) (z_wat (q := 128) (j := 3) zwX8_joinInHand_128 rfl) rfl
theorem dX8_joinInHand_132 : decode cX8_joinInHand 132 = .ok (.ireturn, 1) := z_o172 (z_wat (q := 128) (j := 4) zwX8_joinInHand_128 rfl)
theorem dX8_joinInHand_133 : decode cX8_joinInHand 133 = .ok (.bipush 43, 2) := z_o16 (z_wat (q := 128) (j := 5) zwX8_joinInHand_128 rfl) (z_wat (q := 128) (j := 6) zwX8_joinInHand_128 rfl) rfl
theorem dX8_joinInHand_135 : decode cX8_joinInHand 135 = .ok (.ireturn, 1) := z_o172 (z_wat (q := 128) (j := 7) zwX8_joinInHand_128 rfl)
theorem dX8_joinInHand_136 : decode cX8_joinInHand 136 = .ok (.bipush 44, 2) := z_o16 (z_wat (q := 128) (j := 8) zwX8_joinInHand_128 rfl) (z_wat (q := 128) (j := 9) zwX8_joinInHand_128 rfl) rfl
theorem dX8_joinInHand_138 : decode cX8_joinInHand 138 = .ok (.ireturn, 1) := z_o172 (z_wat (q := 128) (j := 10) zwX8_joinInHand_128 rfl)
theorem dX8_joinInHand_139 : decode cX8_joinInHand 139 = .ok (.bipush 45, 2) := z_o16 (z_wat (q := 128) (j := 11) zwX8_joinInHand_128 rfl) (z_wat (q := 128) (j := 12) zwX8_joinInHand_128 rfl) rfl
theorem dX8_joinInHand_141 : decode cX8_joinInHand 141 = .ok (.ireturn, 1) := z_o172 (z_wat (q := 128) (j := 13) zwX8_joinInHand_128 rfl)
theorem dX8_joinInHand_142 : decode cX8_joinInHand 142 = .ok (.bipush 50, 2) := z_o16 (z_wat (q := 128) (j := 14) zwX8_joinInHand_128 rfl) (z_wat (q := 128) (j := 15) zwX8_joinInHand_128 rfl) rfl
theorem dX8_joinInHand_144 : decode cX8_joinInHand 144 = .ok (.ireturn, 1) := z_o172 (z_wat (q := 128) (j := 16) zwX8_joinInHand_128 rfl)
theorem dX8_joinInHand_145 : decode cX8_joinInHand 145 = .ok (.bipush 51, 2) := z_o16 (z_wat (q := 128) (j := 17) zwX8_joinInHand_128 rfl) (z_wat (q := 128) (j := 18) zwX8_joinInHand_128 rfl) rfl
theorem dX8_joinInHand_147 : decode cX8_joinInHand 147 = .ok (.ireturn, 1) := z_o172 (z_wat (q := 128) (j := 19) zwX8_joinInHand_128 rfl)
theorem dX8_joinInHand_148 : decode cX8_joinInHand 148 = .ok (.bipush 60, 2) := z_o16 (z_wat (q := 128) (j := 20) zwX8_joinInHand_128 rfl) (z_wat (q := 128) (j := 21) zwX8_joinInHand_128 rfl) rfl
theorem dX8_joinInHand_150 : decode cX8_joinInHand 150 = .ok (.ireturn, 1) := z_o172 (z_wat (q := 128) (j := 22) zwX8_joinInHand_128 rfl)
theorem dX8_joinInHand_151 : decode cX8_joinInHand 151 = .ok (.bipush 61, 2) := z_o16 (z_wat (q := 128) (j := 23) zwX8_joinInHand_128 rfl) (z_wat (q := 128) (j := 24) zwX8_joinInHand_128 rfl) rfl
theorem dX8_joinInHand_153 : decode cX8_joinInHand 153 = .ok (.ireturn, 1) := z_o172 (z_wat (q := 128) (j := 25) zwX8_joinInHand_128 rfl)
theorem dX8_joinInHand_154 : decode cX8_joinInHand 154 = .ok (.iconst (-1), 1) := z_o2 (z_wat (q := 128) (j := 26) zwX8_joinInHand_128 rfl)
theorem dX8_joinInHand_155 : decode cX8_joinInHand 155 = .ok (.ireturn, 1) := z_o172 (z_wat (q := 128) (j := 27) zwX8_joinInHand_128 rfl)
theorem zwX8_lastWaiting_0 : ((cX8_lastWaiting.data.toList.drop 0).take 34).map UInt8.toNat = [42, 180, 0, 23, 158, 0, 29, 42, 180, 0, 23, 42, 180, 0, 20, 190, 163, 0, 17, 42, 180, 0, 20, 42, 180, 0, 23, 4, 100, 46, 167, 0, 4, 3] := by decide +kernel
theorem dX8_lastWaiting_0 : decode cX8_lastWaiting 0 = .ok (.aload_n 0, 1) := z_o42 (z_wat (q := 0) (j := 0) zwX8_lastWaiting_0 rfl)
theorem dX8_lastWaiting_1 : decode cX8_lastWaiting 1 = .ok (.getfield 23, 3) := z_o180 (z_wat (q := 0) (j := 1) zwX8_lastWaiting_0 rfl) (z_wat (q := 0) (j := 2) zwX8_lastWaiting_0 rfl) (z_wat (q := 0) (j := 3) zwX8_lastWaiting_0 rfl) rfl
theorem dX8_lastWaiting_4 : decode cX8_lastWaiting 4 = .ok (.ifCond .le 29, 3) := z_o158 (z_wat (q := 0) (j := 4) zwX8_lastWaiting_0 rfl) (z_wat (q := 0) (j := 5) zwX8_lastWaiting_0 rfl) (z_wat (q := 0) (j := 6) zwX8_lastWaiting_0 rfl) rfl
theorem dX8_lastWaiting_7 : decode cX8_lastWaiting 7 = .ok (.aload_n 0, 1) := z_o42 (z_wat (q := 0) (j := 7) zwX8_lastWaiting_0 rfl)
theorem dX8_lastWaiting_8 : decode cX8_lastWaiting 8 = .ok (.getfield 23, 3) := z_o180 (z_wat (q := 0) (j := 8) zwX8_lastWaiting_0 rfl) (z_wat (q := 0) (j := 9) zwX8_lastWaiting_0 rfl) (z_wat (q := 0) (j := 10) zwX8_lastWaiting_0 rfl) rfl
theorem dX8_lastWaiting_11 : decode cX8_lastWaiting 11 = .ok (.aload_n 0, 1) := z_o42 (z_wat (q := 0) (j := 11) zwX8_lastWaiting_0 rfl)
theorem dX8_lastWaiting_12 : decode cX8_lastWaiting 12 = .ok (.getfield 20, 3) := z_o180 (z_wat (q := 0) (j := 12) zwX8_lastWaiting_0 rfl) (z_wat (q := 0) (j := 13) zwX8_lastWaiting_0 rfl) (z_wat (q := 0) (j := 14) zwX8_lastWaiting_0 rfl) rfl
theorem dX8_lastWaiting_15 : decode cX8_lastWaiting 15 = .ok (.arraylength, 1) := z_o190 (z_wat (q := 0) (j := 15) zwX8_lastWaiting_0 rfl)
theorem dX8_lastWaiting_16 : decode cX8_lastWaiting 16 = .ok (.if_icmp .gt 17, 3) := z_o163 (z_wat (q := 0) (j := 16) zwX8_lastWaiting_0 rfl) (z_wat (q := 0) (j := 17) zwX8_lastWaiting_0 rfl) (z_wat (q := 0) (j := 18) zwX8_lastWaiting_0 rfl) rfl
theorem dX8_lastWaiting_19 : decode cX8_lastWaiting 19 = .ok (.aload_n 0, 1) := z_o42 (z_wat (q := 0) (j := 19) zwX8_lastWaiting_0 rfl)
theorem dX8_lastWaiting_20 : decode cX8_lastWaiting 20 = .ok (.getfield 20, 3) := z_o180 (z_wat (q := 0) (j := 20) zwX8_lastWaiting_0 rfl) (z_wat (q := 0) (j := 21) zwX8_lastWaiting_0 rfl) (z_wat (q := 0) (j := 22) zwX8_lastWaiting_0 rfl) rfl
theorem dX8_lastWaiting_23 : decode cX8_lastWaiting 23 = .ok (.aload_n 0, 1) := z_o42 (z_wat (q := 0) (j := 23) zwX8_lastWaiting_0 rfl)
theorem dX8_lastWaiting_24 : decode cX8_lastWaiting 24 = .ok (.getfield 23, 3) := z_o180 (z_wat (q := 0) (j := 24) zwX8_lastWaiting_0 rfl) (z_wat (q := 0) (j := 25) zwX8_lastWaiting_0 rfl) (z_wat (q := 0) (j := 26) zwX8_lastWaiting_0 rfl) rfl
theorem dX8_lastWaiting_27 : decode cX8_lastWaiting 27 = .ok (.iconst 1, 1) := z_o4 (z_wat (q := 0) (j := 27) zwX8_lastWaiting_0 rfl)
theorem dX8_lastWaiting_28 : decode cX8_lastWaiting 28 = .ok (.isub, 1) := z_o100 (z_wat (q := 0) (j := 28) zwX8_lastWaiting_0 rfl)
theorem dX8_lastWaiting_29 : decode cX8_lastWaiting 29 = .ok (.iaload, 1) := z_o46 (z_wat (q := 0) (j := 29) zwX8_lastWaiting_0 rfl)
theorem dX8_lastWaiting_30 : decode cX8_lastWaiting 30 = .ok (.goto 4, 3) := z_o167 (z_wat (q := 0) (j := 30) zwX8_lastWaiting_0 rfl) (z_wat (q := 0) (j := 31) zwX8_lastWaiting_0 rfl) (z_wat (q := 0) (j := 32) zwX8_lastWaiting_0 rfl) rfl
theorem zwX8_lastWaiting_32 : ((cX8_lastWaiting.data.toList.drop 32).take 3).map UInt8.toNat = [4, 3, 172] := by decide +kernel
theorem dX8_lastWaiting_33 : decode cX8_lastWaiting 33 = .ok (.iconst 0, 1) := z_o3 (z_wat (q := 32) (j := 1) zwX8_lastWaiting_32 rfl)
theorem dX8_lastWaiting_34 : decode cX8_lastWaiting 34 = .ok (.ireturn, 1) := z_o172 (z_wat (q := 32) (j := 2) zwX8_lastWaiting_32 rfl)
theorem zwX8_read_0 : ((cX8_read.data.toList.drop 0).take 34).map UInt8.toNat = [42, 180, 0, 42, 27, 3, 182, 0, 46, 42, 180, 0, 35, 182, 0, 51, 3, 61, 28, 17, 2, 188, 162, 0, 28, 42, 180, 0, 42, 180, 0, 54, 153, 0] := by decide +kernel
theorem dX8_read_0 : decode cX8_read 0 = .ok (.aload_n 0, 1) := z_o42 (z_wat (q := 0) (j := 0) zwX8_read_0 rfl)
theorem dX8_read_1 : decode cX8_read 1 = .ok (.getfield 42, 3) := z_o180 (z_wat (q := 0) (j := 1) zwX8_read_0 rfl) (z_wat (q := 0) (j := 2) zwX8_read_0 rfl) (z_wat (q := 0) (j := 3) zwX8_read_0 rfl) rfl
theorem dX8_read_4 : decode cX8_read 4 = .ok (.iload_n 1, 1) := z_o27 (z_wat (q := 0) (j := 4) zwX8_read_0 rfl)
theorem dX8_read_5 : decode cX8_read 5 = .ok (.iconst 0, 1) := z_o3 (z_wat (q := 0) (j := 5) zwX8_read_0 rfl)
theorem dX8_read_6 : decode cX8_read 6 = .ok (.invokevirtual 46, 3) := z_o182 (z_wat (q := 0) (j := 6) zwX8_read_0 rfl) (z_wat (q := 0) (j := 7) zwX8_read_0 rfl) (z_wat (q := 0) (j := 8) zwX8_read_0 rfl) rfl
theorem dX8_read_9 : decode cX8_read 9 = .ok (.aload_n 0, 1) := z_o42 (z_wat (q := 0) (j := 9) zwX8_read_0 rfl)
theorem dX8_read_10 : decode cX8_read 10 = .ok (.getfield 35, 3) := z_o180 (z_wat (q := 0) (j := 10) zwX8_read_0 rfl) (z_wat (q := 0) (j := 11) zwX8_read_0 rfl) (z_wat (q := 0) (j := 12) zwX8_read_0 rfl) rfl
theorem dX8_read_13 : decode cX8_read 13 = .ok (.invokevirtual 51, 3) := z_o182 (z_wat (q := 0) (j := 13) zwX8_read_0 rfl) (z_wat (q := 0) (j := 14) zwX8_read_0 rfl) (z_wat (q := 0) (j := 15) zwX8_read_0 rfl) rfl
theorem dX8_read_16 : decode cX8_read 16 = .ok (.iconst 0, 1) := z_o3 (z_wat (q := 0) (j := 16) zwX8_read_0 rfl)
theorem dX8_read_17 : decode cX8_read 17 = .ok (.istore_n 2, 1) := z_o61 (z_wat (q := 0) (j := 17) zwX8_read_0 rfl)
theorem dX8_read_18 : decode cX8_read 18 = .ok (.iload_n 2, 1) := z_o28 (z_wat (q := 0) (j := 18) zwX8_read_0 rfl)
theorem dX8_read_19 : decode cX8_read 19 = .ok (.sipush 700, 3) := z_o17 (z_wat (q := 0) (j := 19) zwX8_read_0 rfl) (z_wat (q := 0) (j := 20) zwX8_read_0 rfl) (z_wat (q := 0) (j := 21) zwX8_read_0 rfl) rfl
theorem dX8_read_22 : decode cX8_read 22 = .ok (.if_icmp .ge 28, 3) := z_o162 (z_wat (q := 0) (j := 22) zwX8_read_0 rfl) (z_wat (q := 0) (j := 23) zwX8_read_0 rfl) (z_wat (q := 0) (j := 24) zwX8_read_0 rfl) rfl
theorem dX8_read_25 : decode cX8_read 25 = .ok (.aload_n 0, 1) := z_o42 (z_wat (q := 0) (j := 25) zwX8_read_0 rfl)
theorem dX8_read_26 : decode cX8_read 26 = .ok (.getfield 42, 3) := z_o180 (z_wat (q := 0) (j := 26) zwX8_read_0 rfl) (z_wat (q := 0) (j := 27) zwX8_read_0 rfl) (z_wat (q := 0) (j := 28) zwX8_read_0 rfl) rfl
theorem dX8_read_29 : decode cX8_read 29 = .ok (.getfield 54, 3) := z_o180 (z_wat (q := 0) (j := 29) zwX8_read_0 rfl) (z_wat (q := 0) (j := 30) zwX8_read_0 rfl) (z_wat (q := 0) (j := 31) zwX8_read_0 rfl) rfl
theorem zwX8_read_32 : ((cX8_read.data.toList.drop 32).take 34).map UInt8.toNat = [153, 0, 18, 42, 182, 0, 57, 154, 0, 5, 3, 172, 132, 2, 1, 167, 255, 227, 42, 180, 0, 35, 77, 42, 42, 180, 0, 39, 181, 0, 35, 42, 44, 181] := by decide +kernel
theorem dX8_read_32 : decode cX8_read 32 = .ok (.ifCond .eq 18, 3) := z_o153 (z_wat (q := 32) (j := 0) zwX8_read_32 rfl) (z_wat (q := 32) (j := 1) zwX8_read_32 rfl) (z_wat (q := 32) (j := 2) zwX8_read_32 rfl) rfl
theorem dX8_read_35 : decode cX8_read 35 = .ok (.aload_n 0, 1) := z_o42 (z_wat (q := 32) (j := 3) zwX8_read_32 rfl)
theorem dX8_read_36 : decode cX8_read 36 = .ok (.invokevirtual 57, 3) := z_o182 (z_wat (q := 32) (j := 4) zwX8_read_32 rfl) (z_wat (q := 32) (j := 5) zwX8_read_32 rfl) (z_wat (q := 32) (j := 6) zwX8_read_32 rfl) rfl
theorem dX8_read_39 : decode cX8_read 39 = .ok (.ifCond .ne 5, 3) := z_o154 (z_wat (q := 32) (j := 7) zwX8_read_32 rfl) (z_wat (q := 32) (j := 8) zwX8_read_32 rfl) (z_wat (q := 32) (j := 9) zwX8_read_32 rfl) rfl
theorem dX8_read_42 : decode cX8_read 42 = .ok (.iconst 0, 1) := z_o3 (z_wat (q := 32) (j := 10) zwX8_read_32 rfl)
theorem dX8_read_43 : decode cX8_read 43 = .ok (.ireturn, 1) := z_o172 (z_wat (q := 32) (j := 11) zwX8_read_32 rfl)
theorem dX8_read_44 : decode cX8_read 44 = .ok (.iinc 2 1, 3) := z_o132 (z_wat (q := 32) (j := 12) zwX8_read_32 rfl) (z_wat (q := 32) (j := 13) zwX8_read_32 rfl) (z_wat (q := 32) (j := 14) zwX8_read_32 rfl) rfl
theorem dX8_read_47 : decode cX8_read 47 = .ok (.goto (-29), 3) := z_o167 (z_wat (q := 32) (j := 15) zwX8_read_32 rfl) (z_wat (q := 32) (j := 16) zwX8_read_32 rfl) (z_wat (q := 32) (j := 17) zwX8_read_32 rfl) rfl
theorem dX8_read_50 : decode cX8_read 50 = .ok (.aload_n 0, 1) := z_o42 (z_wat (q := 32) (j := 18) zwX8_read_32 rfl)
theorem dX8_read_51 : decode cX8_read 51 = .ok (.getfield 35, 3) := z_o180 (z_wat (q := 32) (j := 19) zwX8_read_32 rfl) (z_wat (q := 32) (j := 20) zwX8_read_32 rfl) (z_wat (q := 32) (j := 21) zwX8_read_32 rfl) rfl
theorem dX8_read_54 : decode cX8_read 54 = .ok (.astore_n 2, 1) := z_o77 (z_wat (q := 32) (j := 22) zwX8_read_32 rfl)
theorem dX8_read_55 : decode cX8_read 55 = .ok (.aload_n 0, 1) := z_o42 (z_wat (q := 32) (j := 23) zwX8_read_32 rfl)
theorem dX8_read_56 : decode cX8_read 56 = .ok (.aload_n 0, 1) := z_o42 (z_wat (q := 32) (j := 24) zwX8_read_32 rfl)
theorem dX8_read_57 : decode cX8_read 57 = .ok (.getfield 39, 3) := z_o180 (z_wat (q := 32) (j := 25) zwX8_read_32 rfl) (z_wat (q := 32) (j := 26) zwX8_read_32 rfl) (z_wat (q := 32) (j := 27) zwX8_read_32 rfl) rfl
theorem dX8_read_60 : decode cX8_read 60 = .ok (.putfield 35, 3) := z_o181 (z_wat (q := 32) (j := 28) zwX8_read_32 rfl) (z_wat (q := 32) (j := 29) zwX8_read_32 rfl) (z_wat (q := 32) (j := 30) zwX8_read_32 rfl) rfl
theorem dX8_read_63 : decode cX8_read 63 = .ok (.aload_n 0, 1) := z_o42 (z_wat (q := 32) (j := 31) zwX8_read_32 rfl)
theorem zwX8_read_64 : ((cX8_read.data.toList.drop 64).take 6).map UInt8.toNat = [44, 181, 0, 39, 4, 172] := by decide +kernel
theorem dX8_read_64 : decode cX8_read 64 = .ok (.aload_n 2, 1) := z_o44 (z_wat (q := 64) (j := 0) zwX8_read_64 rfl)
theorem dX8_read_65 : decode cX8_read 65 = .ok (.putfield 39, 3) := z_o181 (z_wat (q := 64) (j := 1) zwX8_read_64 rfl) (z_wat (q := 64) (j := 2) zwX8_read_64 rfl) (z_wat (q := 64) (j := 3) zwX8_read_64 rfl) rfl
theorem dX8_read_68 : decode cX8_read 68 = .ok (.iconst 1, 1) := z_o4 (z_wat (q := 64) (j := 4) zwX8_read_64 rfl)
theorem dX8_read_69 : decode cX8_read 69 = .ok (.ireturn, 1) := z_o172 (z_wat (q := 64) (j := 5) zwX8_read_64 rfl)
theorem zwX8_readBody_0 : ((cX8_readBody.data.toList.drop 0).take 34).map UInt8.toNat = [42, 3, 181, 0, 23, 42, 3, 181, 0, 27, 42, 4, 181, 0, 30, 3, 60, 27, 17, 2, 188, 163, 0, 86, 42, 180, 0, 30, 154, 0, 40, 42, 180, 0] := by decide +kernel
theorem dX8_readBody_0 : decode cX8_readBody 0 = .ok (.aload_n 0, 1) := z_o42 (z_wat (q := 0) (j := 0) zwX8_readBody_0 rfl)
theorem dX8_readBody_1 : decode cX8_readBody 1 = .ok (.iconst 0, 1) := z_o3 (z_wat (q := 0) (j := 1) zwX8_readBody_0 rfl)
theorem dX8_readBody_2 : decode cX8_readBody 2 = .ok (.putfield 23, 3) := z_o181 (z_wat (q := 0) (j := 2) zwX8_readBody_0 rfl) (z_wat (q := 0) (j := 3) zwX8_readBody_0 rfl) (z_wat (q := 0) (j := 4) zwX8_readBody_0 rfl) rfl
theorem dX8_readBody_5 : decode cX8_readBody 5 = .ok (.aload_n 0, 1) := z_o42 (z_wat (q := 0) (j := 5) zwX8_readBody_0 rfl)
theorem dX8_readBody_6 : decode cX8_readBody 6 = .ok (.iconst 0, 1) := z_o3 (z_wat (q := 0) (j := 6) zwX8_readBody_0 rfl)
theorem dX8_readBody_7 : decode cX8_readBody 7 = .ok (.putfield 27, 3) := z_o181 (z_wat (q := 0) (j := 7) zwX8_readBody_0 rfl) (z_wat (q := 0) (j := 8) zwX8_readBody_0 rfl) (z_wat (q := 0) (j := 9) zwX8_readBody_0 rfl) rfl
theorem dX8_readBody_10 : decode cX8_readBody 10 = .ok (.aload_n 0, 1) := z_o42 (z_wat (q := 0) (j := 10) zwX8_readBody_0 rfl)
theorem dX8_readBody_11 : decode cX8_readBody 11 = .ok (.iconst 1, 1) := z_o4 (z_wat (q := 0) (j := 11) zwX8_readBody_0 rfl)
theorem dX8_readBody_12 : decode cX8_readBody 12 = .ok (.putfield 30, 3) := z_o181 (z_wat (q := 0) (j := 12) zwX8_readBody_0 rfl) (z_wat (q := 0) (j := 13) zwX8_readBody_0 rfl) (z_wat (q := 0) (j := 14) zwX8_readBody_0 rfl) rfl
theorem dX8_readBody_15 : decode cX8_readBody 15 = .ok (.iconst 0, 1) := z_o3 (z_wat (q := 0) (j := 15) zwX8_readBody_0 rfl)
theorem dX8_readBody_16 : decode cX8_readBody 16 = .ok (.istore_n 1, 1) := z_o60 (z_wat (q := 0) (j := 16) zwX8_readBody_0 rfl)
theorem dX8_readBody_17 : decode cX8_readBody 17 = .ok (.iload_n 1, 1) := z_o27 (z_wat (q := 0) (j := 17) zwX8_readBody_0 rfl)
theorem dX8_readBody_18 : decode cX8_readBody 18 = .ok (.sipush 700, 3) := z_o17 (z_wat (q := 0) (j := 18) zwX8_readBody_0 rfl) (z_wat (q := 0) (j := 19) zwX8_readBody_0 rfl) (z_wat (q := 0) (j := 20) zwX8_readBody_0 rfl) rfl
theorem dX8_readBody_21 : decode cX8_readBody 21 = .ok (.if_icmp .gt 86, 3) := z_o163 (z_wat (q := 0) (j := 21) zwX8_readBody_0 rfl) (z_wat (q := 0) (j := 22) zwX8_readBody_0 rfl) (z_wat (q := 0) (j := 23) zwX8_readBody_0 rfl) rfl
theorem dX8_readBody_24 : decode cX8_readBody 24 = .ok (.aload_n 0, 1) := z_o42 (z_wat (q := 0) (j := 24) zwX8_readBody_0 rfl)
theorem dX8_readBody_25 : decode cX8_readBody 25 = .ok (.getfield 30, 3) := z_o180 (z_wat (q := 0) (j := 25) zwX8_readBody_0 rfl) (z_wat (q := 0) (j := 26) zwX8_readBody_0 rfl) (z_wat (q := 0) (j := 27) zwX8_readBody_0 rfl) rfl
theorem dX8_readBody_28 : decode cX8_readBody 28 = .ok (.ifCond .ne 40, 3) := z_o154 (z_wat (q := 0) (j := 28) zwX8_readBody_0 rfl) (z_wat (q := 0) (j := 29) zwX8_readBody_0 rfl) (z_wat (q := 0) (j := 30) zwX8_readBody_0 rfl) rfl
theorem dX8_readBody_31 : decode cX8_readBody 31 = .ok (.aload_n 0, 1) := z_o42 (z_wat (q := 0) (j := 31) zwX8_readBody_0 rfl)
theorem zwX8_readBody_32 : ((cX8_readBody.data.toList.drop 32).take 34).map UInt8.toNat = [180, 0, 27, 154, 0, 33, 42, 180, 0, 42, 180, 0, 80, 16, 59, 160, 0, 21, 42, 16, 10, 184, 0, 103, 182, 0, 107, 42, 180, 0, 42, 182, 0, 74] := by decide +kernel
theorem dX8_readBody_32 : decode cX8_readBody 32 = .ok (.getfield 27, 3) := z_o180 (z_wat (q := 32) (j := 0) zwX8_readBody_32 rfl) (z_wat (q := 32) (j := 1) zwX8_readBody_32 rfl) (z_wat (q := 32) (j := 2) zwX8_readBody_32 rfl) rfl
theorem dX8_readBody_35 : decode cX8_readBody 35 = .ok (.ifCond .ne 33, 3) := z_o154 (z_wat (q := 32) (j := 3) zwX8_readBody_32 rfl) (z_wat (q := 32) (j := 4) zwX8_readBody_32 rfl) (z_wat (q := 32) (j := 5) zwX8_readBody_32 rfl) rfl
theorem dX8_readBody_38 : decode cX8_readBody 38 = .ok (.aload_n 0, 1) := z_o42 (z_wat (q := 32) (j := 6) zwX8_readBody_32 rfl)
theorem dX8_readBody_39 : decode cX8_readBody 39 = .ok (.getfield 42, 3) := z_o180 (z_wat (q := 32) (j := 7) zwX8_readBody_32 rfl) (z_wat (q := 32) (j := 8) zwX8_readBody_32 rfl) (z_wat (q := 32) (j := 9) zwX8_readBody_32 rfl) rfl
theorem dX8_readBody_42 : decode cX8_readBody 42 = .ok (.getfield 80, 3) := z_o180 (z_wat (q := 32) (j := 10) zwX8_readBody_32 rfl) (z_wat (q := 32) (j := 11) zwX8_readBody_32 rfl) (z_wat (q := 32) (j := 12) zwX8_readBody_32 rfl) rfl
theorem dX8_readBody_45 : decode cX8_readBody 45 = .ok (.bipush 59, 2) := z_o16 (z_wat (q := 32) (j := 13) zwX8_readBody_32 rfl) (z_wat (q := 32) (j := 14) zwX8_readBody_32 rfl) rfl
theorem dX8_readBody_47 : decode cX8_readBody 47 = .ok (.if_icmp .ne 21, 3) := z_o160 (z_wat (q := 32) (j := 15) zwX8_readBody_32 rfl) (z_wat (q := 32) (j := 16) zwX8_readBody_32 rfl) (z_wat (q := 32) (j := 17) zwX8_readBody_32 rfl) rfl
theorem dX8_readBody_50 : decode cX8_readBody 50 = .ok (.aload_n 0, 1) := z_o42 (z_wat (q := 32) (j := 18) zwX8_readBody_32 rfl)
theorem dX8_readBody_51 : decode cX8_readBody 51 = .ok (.bipush 10, 2) := z_o16 (z_wat (q := 32) (j := 19) zwX8_readBody_32 rfl) (z_wat (q := 32) (j := 20) zwX8_readBody_32 rfl) rfl
theorem dX8_readBody_53 : decode cX8_readBody 53 = .ok (.invokestatic 103, 3) := z_o184 (z_wat (q := 32) (j := 21) zwX8_readBody_32 rfl) (z_wat (q := 32) (j := 22) zwX8_readBody_32 rfl) (z_wat (q := 32) (j := 23) zwX8_readBody_32 rfl) rfl
theorem dX8_readBody_56 : decode cX8_readBody 56 = .ok (.invokevirtual 107, 3) := z_o182 (z_wat (q := 32) (j := 24) zwX8_readBody_32 rfl) (z_wat (q := 32) (j := 25) zwX8_readBody_32 rfl) (z_wat (q := 32) (j := 26) zwX8_readBody_32 rfl) rfl
theorem dX8_readBody_59 : decode cX8_readBody 59 = .ok (.aload_n 0, 1) := z_o42 (z_wat (q := 32) (j := 27) zwX8_readBody_32 rfl)
theorem dX8_readBody_60 : decode cX8_readBody 60 = .ok (.getfield 42, 3) := z_o180 (z_wat (q := 32) (j := 28) zwX8_readBody_32 rfl) (z_wat (q := 32) (j := 29) zwX8_readBody_32 rfl) (z_wat (q := 32) (j := 30) zwX8_readBody_32 rfl) rfl
theorem dX8_readBody_63 : decode cX8_readBody 63 = .ok (.invokevirtual 74, 3) := z_o182 (z_wat (q := 32) (j := 31) zwX8_readBody_32 rfl) (z_wat (q := 32) (j := 32) zwX8_readBody_32 rfl) (z_wat (q := 32) (j := 33) zwX8_readBody_32 rfl) rfl
theorem zwX8_readBody_64 : ((cX8_readBody.data.toList.drop 64).take 34).map UInt8.toNat = [0, 74, 4, 172, 42, 180, 0, 30, 153, 0, 13, 42, 182, 0, 111, 153, 0, 13, 167, 0, 12, 42, 182, 0, 114, 154, 0, 5, 3, 172, 42, 180, 0, 42] := by decide +kernel
theorem dX8_readBody_66 : decode cX8_readBody 66 = .ok (.iconst 1, 1) := z_o4 (z_wat (q := 64) (j := 2) zwX8_readBody_64 rfl)
theorem dX8_readBody_67 : decode cX8_readBody 67 = .ok (.ireturn, 1) := z_o172 (z_wat (q := 64) (j := 3) zwX8_readBody_64 rfl)
theorem dX8_readBody_68 : decode cX8_readBody 68 = .ok (.aload_n 0, 1) := z_o42 (z_wat (q := 64) (j := 4) zwX8_readBody_64 rfl)
theorem dX8_readBody_69 : decode cX8_readBody 69 = .ok (.getfield 30, 3) := z_o180 (z_wat (q := 64) (j := 5) zwX8_readBody_64 rfl) (z_wat (q := 64) (j := 6) zwX8_readBody_64 rfl) (z_wat (q := 64) (j := 7) zwX8_readBody_64 rfl) rfl
theorem dX8_readBody_72 : decode cX8_readBody 72 = .ok (.ifCond .eq 13, 3) := z_o153 (z_wat (q := 64) (j := 8) zwX8_readBody_64 rfl) (z_wat (q := 64) (j := 9) zwX8_readBody_64 rfl) (z_wat (q := 64) (j := 10) zwX8_readBody_64 rfl) rfl
theorem dX8_readBody_75 : decode cX8_readBody 75 = .ok (.aload_n 0, 1) := z_o42 (z_wat (q := 64) (j := 11) zwX8_readBody_64 rfl)
theorem dX8_readBody_76 : decode cX8_readBody 76 = .ok (.invokevirtual 111, 3) := z_o182 (z_wat (q := 64) (j := 12) zwX8_readBody_64 rfl) (z_wat (q := 64) (j := 13) zwX8_readBody_64 rfl) (z_wat (q := 64) (j := 14) zwX8_readBody_64 rfl) rfl
theorem dX8_readBody_79 : decode cX8_readBody 79 = .ok (.ifCond .eq 13, 3) := z_o153 (z_wat (q := 64) (j := 15) zwX8_readBody_64 rfl) (z_wat (q := 64) (j := 16) zwX8_readBody_64 rfl) (z_wat (q := 64) (j := 17) zwX8_readBody_64 rfl) rfl
theorem dX8_readBody_82 : decode cX8_readBody 82 = .ok (.goto 12, 3) := z_o167 (z_wat (q := 64) (j := 18) zwX8_readBody_64 rfl) (z_wat (q := 64) (j := 19) zwX8_readBody_64 rfl) (z_wat (q := 64) (j := 20) zwX8_readBody_64 rfl) rfl
theorem dX8_readBody_85 : decode cX8_readBody 85 = .ok (.aload_n 0, 1) := z_o42 (z_wat (q := 64) (j := 21) zwX8_readBody_64 rfl)
theorem dX8_readBody_86 : decode cX8_readBody 86 = .ok (.invokevirtual 114, 3) := z_o182 (z_wat (q := 64) (j := 22) zwX8_readBody_64 rfl) (z_wat (q := 64) (j := 23) zwX8_readBody_64 rfl) (z_wat (q := 64) (j := 24) zwX8_readBody_64 rfl) rfl
theorem dX8_readBody_89 : decode cX8_readBody 89 = .ok (.ifCond .ne 5, 3) := z_o154 (z_wat (q := 64) (j := 25) zwX8_readBody_64 rfl) (z_wat (q := 64) (j := 26) zwX8_readBody_64 rfl) (z_wat (q := 64) (j := 27) zwX8_readBody_64 rfl) rfl
theorem dX8_readBody_92 : decode cX8_readBody 92 = .ok (.iconst 0, 1) := z_o3 (z_wat (q := 64) (j := 28) zwX8_readBody_64 rfl)
theorem dX8_readBody_93 : decode cX8_readBody 93 = .ok (.ireturn, 1) := z_o172 (z_wat (q := 64) (j := 29) zwX8_readBody_64 rfl)
theorem dX8_readBody_94 : decode cX8_readBody 94 = .ok (.aload_n 0, 1) := z_o42 (z_wat (q := 64) (j := 30) zwX8_readBody_64 rfl)
theorem dX8_readBody_95 : decode cX8_readBody 95 = .ok (.getfield 42, 3) := z_o180 (z_wat (q := 64) (j := 31) zwX8_readBody_64 rfl) (z_wat (q := 64) (j := 32) zwX8_readBody_64 rfl) (z_wat (q := 64) (j := 33) zwX8_readBody_64 rfl) rfl
theorem zwX8_readBody_96 : ((cX8_readBody.data.toList.drop 96).take 20).map UInt8.toNat = [0, 42, 182, 0, 74, 132, 1, 1, 167, 255, 169, 42, 180, 0, 42, 4, 182, 0, 67, 172] := by decide +kernel
theorem dX8_readBody_98 : decode cX8_readBody 98 = .ok (.invokevirtual 74, 3) := z_o182 (z_wat (q := 96) (j := 2) zwX8_readBody_96 rfl) (z_wat (q := 96) (j := 3) zwX8_readBody_96 rfl) (z_wat (q := 96) (j := 4) zwX8_readBody_96 rfl) rfl
theorem dX8_readBody_101 : decode cX8_readBody 101 = .ok (.iinc 1 1, 3) := z_o132 (z_wat (q := 96) (j := 5) zwX8_readBody_96 rfl) (z_wat (q := 96) (j := 6) zwX8_readBody_96 rfl) (z_wat (q := 96) (j := 7) zwX8_readBody_96 rfl) rfl
theorem dX8_readBody_104 : decode cX8_readBody 104 = .ok (.goto (-87), 3) := z_o167 (z_wat (q := 96) (j := 8) zwX8_readBody_96 rfl) (z_wat (q := 96) (j := 9) zwX8_readBody_96 rfl) (z_wat (q := 96) (j := 10) zwX8_readBody_96 rfl) rfl
theorem dX8_readBody_107 : decode cX8_readBody 107 = .ok (.aload_n 0, 1) := z_o42 (z_wat (q := 96) (j := 11) zwX8_readBody_96 rfl)
theorem dX8_readBody_108 : decode cX8_readBody 108 = .ok (.getfield 42, 3) := z_o180 (z_wat (q := 96) (j := 12) zwX8_readBody_96 rfl) (z_wat (q := 96) (j := 13) zwX8_readBody_96 rfl) (z_wat (q := 96) (j := 14) zwX8_readBody_96 rfl) rfl
theorem dX8_readBody_111 : decode cX8_readBody 111 = .ok (.iconst 1, 1) := z_o4 (z_wat (q := 96) (j := 15) zwX8_readBody_96 rfl)
theorem dX8_readBody_112 : decode cX8_readBody 112 = .ok (.invokevirtual 67, 3) := z_o182 (z_wat (q := 96) (j := 16) zwX8_readBody_96 rfl) (z_wat (q := 96) (j := 17) zwX8_readBody_96 rfl) (z_wat (q := 96) (j := 18) zwX8_readBody_96 rfl) rfl
theorem dX8_readBody_115 : decode cX8_readBody 115 = .ok (.ireturn, 1) := z_o172 (z_wat (q := 96) (j := 19) zwX8_readBody_96 rfl)
theorem zwX8_readCause_0 : ((cX8_readCause.data.toList.drop 0).take 34).map UInt8.toNat = [42, 180, 0, 42, 18, 61, 182, 0, 63, 2, 160, 0, 12, 42, 180, 0, 42, 4, 182, 0, 67, 172, 42, 180, 0, 35, 180, 0, 71, 16, 6, 161, 0, 12] := by decide +kernel
theorem dX8_readCause_0 : decode cX8_readCause 0 = .ok (.aload_n 0, 1) := z_o42 (z_wat (q := 0) (j := 0) zwX8_readCause_0 rfl)
theorem dX8_readCause_1 : decode cX8_readCause 1 = .ok (.getfield 42, 3) := z_o180 (z_wat (q := 0) (j := 1) zwX8_readCause_0 rfl) (z_wat (q := 0) (j := 2) zwX8_readCause_0 rfl) (z_wat (q := 0) (j := 3) zwX8_readCause_0 rfl) rfl
theorem dX8_readCause_4 : decode cX8_readCause 4 = .ok (.ldc 61, 2) := z_o18 (z_wat (q := 0) (j := 4) zwX8_readCause_0 rfl) (z_wat (q := 0) (j := 5) zwX8_readCause_0 rfl)
theorem dX8_readCause_6 : decode cX8_readCause 6 = .ok (.invokevirtual 63, 3) := z_o182 (z_wat (q := 0) (j := 6) zwX8_readCause_0 rfl) (z_wat (q := 0) (j := 7) zwX8_readCause_0 rfl) (z_wat (q := 0) (j := 8) zwX8_readCause_0 rfl) rfl
theorem dX8_readCause_9 : decode cX8_readCause 9 = .ok (.iconst (-1), 1) := z_o2 (z_wat (q := 0) (j := 9) zwX8_readCause_0 rfl)
theorem dX8_readCause_10 : decode cX8_readCause 10 = .ok (.if_icmp .ne 12, 3) := z_o160 (z_wat (q := 0) (j := 10) zwX8_readCause_0 rfl) (z_wat (q := 0) (j := 11) zwX8_readCause_0 rfl) (z_wat (q := 0) (j := 12) zwX8_readCause_0 rfl) rfl
theorem dX8_readCause_13 : decode cX8_readCause 13 = .ok (.aload_n 0, 1) := z_o42 (z_wat (q := 0) (j := 13) zwX8_readCause_0 rfl)
theorem dX8_readCause_14 : decode cX8_readCause 14 = .ok (.getfield 42, 3) := z_o180 (z_wat (q := 0) (j := 14) zwX8_readCause_0 rfl) (z_wat (q := 0) (j := 15) zwX8_readCause_0 rfl) (z_wat (q := 0) (j := 16) zwX8_readCause_0 rfl) rfl
theorem dX8_readCause_17 : decode cX8_readCause 17 = .ok (.iconst 1, 1) := z_o4 (z_wat (q := 0) (j := 17) zwX8_readCause_0 rfl)
theorem dX8_readCause_18 : decode cX8_readCause 18 = .ok (.invokevirtual 67, 3) := z_o182 (z_wat (q := 0) (j := 18) zwX8_readCause_0 rfl) (z_wat (q := 0) (j := 19) zwX8_readCause_0 rfl) (z_wat (q := 0) (j := 20) zwX8_readCause_0 rfl) rfl
theorem dX8_readCause_21 : decode cX8_readCause 21 = .ok (.ireturn, 1) := z_o172 (z_wat (q := 0) (j := 21) zwX8_readCause_0 rfl)
theorem dX8_readCause_22 : decode cX8_readCause 22 = .ok (.aload_n 0, 1) := z_o42 (z_wat (q := 0) (j := 22) zwX8_readCause_0 rfl)
theorem dX8_readCause_23 : decode cX8_readCause 23 = .ok (.getfield 35, 3) := z_o180 (z_wat (q := 0) (j := 23) zwX8_readCause_0 rfl) (z_wat (q := 0) (j := 24) zwX8_readCause_0 rfl) (z_wat (q := 0) (j := 25) zwX8_readCause_0 rfl) rfl
theorem dX8_readCause_26 : decode cX8_readCause 26 = .ok (.getfield 71, 3) := z_o180 (z_wat (q := 0) (j := 26) zwX8_readCause_0 rfl) (z_wat (q := 0) (j := 27) zwX8_readCause_0 rfl) (z_wat (q := 0) (j := 28) zwX8_readCause_0 rfl) rfl
theorem dX8_readCause_29 : decode cX8_readCause 29 = .ok (.bipush 6, 2) := z_o16 (z_wat (q := 0) (j := 29) zwX8_readCause_0 rfl) (z_wat (q := 0) (j := 30) zwX8_readCause_0 rfl) rfl
theorem dX8_readCause_31 : decode cX8_readCause 31 = .ok (.if_icmp .lt 12, 3) := z_o161 (z_wat (q := 0) (j := 31) zwX8_readCause_0 rfl) (z_wat (q := 0) (j := 32) zwX8_readCause_0 rfl) (z_wat (q := 0) (j := 33) zwX8_readCause_0 rfl) rfl
theorem zwX8_readCause_32 : ((cX8_readCause.data.toList.drop 32).take 34).map UInt8.toNat = [0, 12, 42, 180, 0, 42, 5, 182, 0, 67, 172, 42, 180, 0, 42, 182, 0, 74, 42, 182, 0, 77, 154, 0, 5, 3, 172, 42, 180, 0, 42, 180, 0, 80] := by decide +kernel
theorem dX8_readCause_34 : decode cX8_readCause 34 = .ok (.aload_n 0, 1) := z_o42 (z_wat (q := 32) (j := 2) zwX8_readCause_32 rfl)
theorem dX8_readCause_35 : decode cX8_readCause 35 = .ok (.getfield 42, 3) := z_o180 (z_wat (q := 32) (j := 3) zwX8_readCause_32 rfl) (z_wat (q := 32) (j := 4) zwX8_readCause_32 rfl) (z_wat (q := 32) (j := 5) zwX8_readCause_32 rfl) rfl
theorem dX8_readCause_38 : decode cX8_readCause 38 = .ok (.iconst 2, 1) := z_o5 (z_wat (q := 32) (j := 6) zwX8_readCause_32 rfl)
theorem dX8_readCause_39 : decode cX8_readCause 39 = .ok (.invokevirtual 67, 3) := z_o182 (z_wat (q := 32) (j := 7) zwX8_readCause_32 rfl) (z_wat (q := 32) (j := 8) zwX8_readCause_32 rfl) (z_wat (q := 32) (j := 9) zwX8_readCause_32 rfl) rfl
theorem dX8_readCause_42 : decode cX8_readCause 42 = .ok (.ireturn, 1) := z_o172 (z_wat (q := 32) (j := 10) zwX8_readCause_32 rfl)
theorem dX8_readCause_43 : decode cX8_readCause 43 = .ok (.aload_n 0, 1) := z_o42 (z_wat (q := 32) (j := 11) zwX8_readCause_32 rfl)
theorem dX8_readCause_44 : decode cX8_readCause 44 = .ok (.getfield 42, 3) := z_o180 (z_wat (q := 32) (j := 12) zwX8_readCause_32 rfl) (z_wat (q := 32) (j := 13) zwX8_readCause_32 rfl) (z_wat (q := 32) (j := 14) zwX8_readCause_32 rfl) rfl
theorem dX8_readCause_47 : decode cX8_readCause 47 = .ok (.invokevirtual 74, 3) := z_o182 (z_wat (q := 32) (j := 15) zwX8_readCause_32 rfl) (z_wat (q := 32) (j := 16) zwX8_readCause_32 rfl) (z_wat (q := 32) (j := 17) zwX8_readCause_32 rfl) rfl
theorem dX8_readCause_50 : decode cX8_readCause 50 = .ok (.aload_n 0, 1) := z_o42 (z_wat (q := 32) (j := 18) zwX8_readCause_32 rfl)
theorem dX8_readCause_51 : decode cX8_readCause 51 = .ok (.invokevirtual 77, 3) := z_o182 (z_wat (q := 32) (j := 19) zwX8_readCause_32 rfl) (z_wat (q := 32) (j := 20) zwX8_readCause_32 rfl) (z_wat (q := 32) (j := 21) zwX8_readCause_32 rfl) rfl
theorem dX8_readCause_54 : decode cX8_readCause 54 = .ok (.ifCond .ne 5, 3) := z_o154 (z_wat (q := 32) (j := 22) zwX8_readCause_32 rfl) (z_wat (q := 32) (j := 23) zwX8_readCause_32 rfl) (z_wat (q := 32) (j := 24) zwX8_readCause_32 rfl) rfl
theorem dX8_readCause_57 : decode cX8_readCause 57 = .ok (.iconst 0, 1) := z_o3 (z_wat (q := 32) (j := 25) zwX8_readCause_32 rfl)
theorem dX8_readCause_58 : decode cX8_readCause 58 = .ok (.ireturn, 1) := z_o172 (z_wat (q := 32) (j := 26) zwX8_readCause_32 rfl)
theorem dX8_readCause_59 : decode cX8_readCause 59 = .ok (.aload_n 0, 1) := z_o42 (z_wat (q := 32) (j := 27) zwX8_readCause_32 rfl)
theorem dX8_readCause_60 : decode cX8_readCause 60 = .ok (.getfield 42, 3) := z_o180 (z_wat (q := 32) (j := 28) zwX8_readCause_32 rfl) (z_wat (q := 32) (j := 29) zwX8_readCause_32 rfl) (z_wat (q := 32) (j := 30) zwX8_readCause_32 rfl) rfl
theorem dX8_readCause_63 : decode cX8_readCause 63 = .ok (.getfield 80, 3) := z_o180 (z_wat (q := 32) (j := 31) zwX8_readCause_32 rfl) (z_wat (q := 32) (j := 32) zwX8_readCause_32 rfl) (z_wat (q := 32) (j := 33) zwX8_readCause_32 rfl) rfl
theorem zwX8_readCause_64 : ((cX8_readCause.data.toList.drop 64).take 34).map UInt8.toNat = [0, 80, 16, 58, 159, 0, 12, 42, 180, 0, 42, 4, 182, 0, 67, 172, 42, 180, 0, 42, 182, 0, 74, 42, 182, 0, 83, 154, 0, 5, 3, 172, 42, 180] := by decide +kernel
theorem dX8_readCause_66 : decode cX8_readCause 66 = .ok (.bipush 58, 2) := z_o16 (z_wat (q := 64) (j := 2) zwX8_readCause_64 rfl) (z_wat (q := 64) (j := 3) zwX8_readCause_64 rfl) rfl
theorem dX8_readCause_68 : decode cX8_readCause 68 = .ok (.if_icmp .eq 12, 3) := z_o159 (z_wat (q := 64) (j := 4) zwX8_readCause_64 rfl) (z_wat (q := 64) (j := 5) zwX8_readCause_64 rfl) (z_wat (q := 64) (j := 6) zwX8_readCause_64 rfl) rfl
theorem dX8_readCause_71 : decode cX8_readCause 71 = .ok (.aload_n 0, 1) := z_o42 (z_wat (q := 64) (j := 7) zwX8_readCause_64 rfl)
theorem dX8_readCause_72 : decode cX8_readCause 72 = .ok (.getfield 42, 3) := z_o180 (z_wat (q := 64) (j := 8) zwX8_readCause_64 rfl) (z_wat (q := 64) (j := 9) zwX8_readCause_64 rfl) (z_wat (q := 64) (j := 10) zwX8_readCause_64 rfl) rfl
theorem dX8_readCause_75 : decode cX8_readCause 75 = .ok (.iconst 1, 1) := z_o4 (z_wat (q := 64) (j := 11) zwX8_readCause_64 rfl)
theorem dX8_readCause_76 : decode cX8_readCause 76 = .ok (.invokevirtual 67, 3) := z_o182 (z_wat (q := 64) (j := 12) zwX8_readCause_64 rfl) (z_wat (q := 64) (j := 13) zwX8_readCause_64 rfl) (z_wat (q := 64) (j := 14) zwX8_readCause_64 rfl) rfl
theorem dX8_readCause_79 : decode cX8_readCause 79 = .ok (.ireturn, 1) := z_o172 (z_wat (q := 64) (j := 15) zwX8_readCause_64 rfl)
theorem dX8_readCause_80 : decode cX8_readCause 80 = .ok (.aload_n 0, 1) := z_o42 (z_wat (q := 64) (j := 16) zwX8_readCause_64 rfl)
theorem dX8_readCause_81 : decode cX8_readCause 81 = .ok (.getfield 42, 3) := z_o180 (z_wat (q := 64) (j := 17) zwX8_readCause_64 rfl) (z_wat (q := 64) (j := 18) zwX8_readCause_64 rfl) (z_wat (q := 64) (j := 19) zwX8_readCause_64 rfl) rfl
theorem dX8_readCause_84 : decode cX8_readCause 84 = .ok (.invokevirtual 74, 3) := z_o182 (z_wat (q := 64) (j := 20) zwX8_readCause_64 rfl) (z_wat (q := 64) (j := 21) zwX8_readCause_64 rfl) (z_wat (q := 64) (j := 22) zwX8_readCause_64 rfl) rfl
theorem dX8_readCause_87 : decode cX8_readCause 87 = .ok (.aload_n 0, 1) := z_o42 (z_wat (q := 64) (j := 23) zwX8_readCause_64 rfl)
theorem dX8_readCause_88 : decode cX8_readCause 88 = .ok (.invokevirtual 83, 3) := z_o182 (z_wat (q := 64) (j := 24) zwX8_readCause_64 rfl) (z_wat (q := 64) (j := 25) zwX8_readCause_64 rfl) (z_wat (q := 64) (j := 26) zwX8_readCause_64 rfl) rfl
theorem dX8_readCause_91 : decode cX8_readCause 91 = .ok (.ifCond .ne 5, 3) := z_o154 (z_wat (q := 64) (j := 27) zwX8_readCause_64 rfl) (z_wat (q := 64) (j := 28) zwX8_readCause_64 rfl) (z_wat (q := 64) (j := 29) zwX8_readCause_64 rfl) rfl
theorem dX8_readCause_94 : decode cX8_readCause 94 = .ok (.iconst 0, 1) := z_o3 (z_wat (q := 64) (j := 30) zwX8_readCause_64 rfl)
theorem dX8_readCause_95 : decode cX8_readCause 95 = .ok (.ireturn, 1) := z_o172 (z_wat (q := 64) (j := 31) zwX8_readCause_64 rfl)
theorem zwX8_readCause_96 : ((cX8_readCause.data.toList.drop 96).take 9).map UInt8.toNat = [42, 180, 0, 35, 182, 0, 86, 4, 172] := by decide +kernel
theorem dX8_readCause_96 : decode cX8_readCause 96 = .ok (.aload_n 0, 1) := z_o42 (z_wat (q := 96) (j := 0) zwX8_readCause_96 rfl)
theorem dX8_readCause_97 : decode cX8_readCause 97 = .ok (.getfield 35, 3) := z_o180 (z_wat (q := 96) (j := 1) zwX8_readCause_96 rfl) (z_wat (q := 96) (j := 2) zwX8_readCause_96 rfl) (z_wat (q := 96) (j := 3) zwX8_readCause_96 rfl) rfl
theorem dX8_readCause_100 : decode cX8_readCause 100 = .ok (.invokevirtual 86, 3) := z_o182 (z_wat (q := 96) (j := 4) zwX8_readCause_96 rfl) (z_wat (q := 96) (j := 5) zwX8_readCause_96 rfl) (z_wat (q := 96) (j := 6) zwX8_readCause_96 rfl) rfl
theorem dX8_readCause_103 : decode cX8_readCause 103 = .ok (.iconst 1, 1) := z_o4 (z_wat (q := 96) (j := 7) zwX8_readCause_96 rfl)
theorem dX8_readCause_104 : decode cX8_readCause 104 = .ok (.ireturn, 1) := z_o172 (z_wat (q := 96) (j := 8) zwX8_readCause_96 rfl)
theorem zwX8_readTitle_0 : ((cX8_readTitle.data.toList.drop 0).take 34).map UInt8.toNat = [42, 180, 0, 42, 180, 0, 89, 42, 180, 0, 42, 180, 0, 92, 100, 60, 42, 180, 0, 42, 180, 0, 54, 4, 160, 0, 9, 27, 16, 8, 164, 0, 12, 42] := by decide +kernel
theorem dX8_readTitle_0 : decode cX8_readTitle 0 = .ok (.aload_n 0, 1) := z_o42 (z_wat (q := 0) (j := 0) zwX8_readTitle_0 rfl)
theorem dX8_readTitle_1 : decode cX8_readTitle 1 = .ok (.getfield 42, 3) := z_o180 (z_wat (q := 0) (j := 1) zwX8_readTitle_0 rfl) (z_wat (q := 0) (j := 2) zwX8_readTitle_0 rfl) (z_wat (q := 0) (j := 3) zwX8_readTitle_0 rfl) rfl
theorem dX8_readTitle_4 : decode cX8_readTitle 4 = .ok (.getfield 89, 3) := z_o180 (z_wat (q := 0) (j := 4) zwX8_readTitle_0 rfl) (z_wat (q := 0) (j := 5) zwX8_readTitle_0 rfl) (z_wat (q := 0) (j := 6) zwX8_readTitle_0 rfl) rfl
theorem dX8_readTitle_7 : decode cX8_readTitle 7 = .ok (.aload_n 0, 1) := z_o42 (z_wat (q := 0) (j := 7) zwX8_readTitle_0 rfl)
theorem dX8_readTitle_8 : decode cX8_readTitle 8 = .ok (.getfield 42, 3) := z_o180 (z_wat (q := 0) (j := 8) zwX8_readTitle_0 rfl) (z_wat (q := 0) (j := 9) zwX8_readTitle_0 rfl) (z_wat (q := 0) (j := 10) zwX8_readTitle_0 rfl) rfl
theorem dX8_readTitle_11 : decode cX8_readTitle 11 = .ok (.getfield 92, 3) := z_o180 (z_wat (q := 0) (j := 11) zwX8_readTitle_0 rfl) (z_wat (q := 0) (j := 12) zwX8_readTitle_0 rfl) (z_wat (q := 0) (j := 13) zwX8_readTitle_0 rfl) rfl
theorem dX8_readTitle_14 : decode cX8_readTitle 14 = .ok (.isub, 1) := z_o100 (z_wat (q := 0) (j := 14) zwX8_readTitle_0 rfl)
theorem dX8_readTitle_15 : decode cX8_readTitle 15 = .ok (.istore_n 1, 1) := z_o60 (z_wat (q := 0) (j := 15) zwX8_readTitle_0 rfl)
theorem dX8_readTitle_16 : decode cX8_readTitle 16 = .ok (.aload_n 0, 1) := z_o42 (z_wat (q := 0) (j := 16) zwX8_readTitle_0 rfl)
theorem dX8_readTitle_17 : decode cX8_readTitle 17 = .ok (.getfield 42, 3) := z_o180 (z_wat (q := 0) (j := 17) zwX8_readTitle_0 rfl) (z_wat (q := 0) (j := 18) zwX8_readTitle_0 rfl) (z_wat (q := 0) (j := 19) zwX8_readTitle_0 rfl) rfl
theorem dX8_readTitle_20 : decode cX8_readTitle 20 = .ok (.getfield 54, 3) := z_o180 (z_wat (q := 0) (j := 20) zwX8_readTitle_0 rfl) (z_wat (q := 0) (j := 21) zwX8_readTitle_0 rfl) (z_wat (q := 0) (j := 22) zwX8_readTitle_0 rfl) rfl
theorem dX8_readTitle_23 : decode cX8_readTitle 23 = .ok (.iconst 1, 1) := z_o4 (z_wat (q := 0) (j := 23) zwX8_readTitle_0 rfl)
theorem dX8_readTitle_24 : decode cX8_readTitle 24 = .ok (.if_icmp .ne 9, 3) := z_o160 (z_wat (q := 0) (j := 24) zwX8_readTitle_0 rfl) (z_wat (q := 0) (j := 25) zwX8_readTitle_0 rfl) (z_wat (q := 0) (j := 26) zwX8_readTitle_0 rfl) rfl
theorem dX8_readTitle_27 : decode cX8_readTitle 27 = .ok (.iload_n 1, 1) := z_o27 (z_wat (q := 0) (j := 27) zwX8_readTitle_0 rfl)
theorem dX8_readTitle_28 : decode cX8_readTitle 28 = .ok (.bipush 8, 2) := z_o16 (z_wat (q := 0) (j := 28) zwX8_readTitle_0 rfl) (z_wat (q := 0) (j := 29) zwX8_readTitle_0 rfl) rfl
theorem dX8_readTitle_30 : decode cX8_readTitle 30 = .ok (.if_icmp .le 12, 3) := z_o164 (z_wat (q := 0) (j := 30) zwX8_readTitle_0 rfl) (z_wat (q := 0) (j := 31) zwX8_readTitle_0 rfl) (z_wat (q := 0) (j := 32) zwX8_readTitle_0 rfl) rfl
theorem zwX8_readTitle_32 : ((cX8_readTitle.data.toList.drop 32).take 34).map UInt8.toNat = [12, 42, 180, 0, 42, 4, 182, 0, 67, 172, 42, 180, 0, 42, 18, 95, 182, 0, 63, 2, 160, 0, 16, 42, 180, 0, 42, 18, 97, 182, 0, 63, 2, 159] := by decide +kernel
theorem dX8_readTitle_33 : decode cX8_readTitle 33 = .ok (.aload_n 0, 1) := z_o42 (z_wat (q := 32) (j := 1) zwX8_readTitle_32 rfl)
theorem dX8_readTitle_34 : decode cX8_readTitle 34 = .ok (.getfield 42, 3) := z_o180 (z_wat (q := 32) (j := 2) zwX8_readTitle_32 rfl) (z_wat (q := 32) (j := 3) zwX8_readTitle_32 rfl) (z_wat (q := 32) (j := 4) zwX8_readTitle_32 rfl) rfl
theorem dX8_readTitle_37 : decode cX8_readTitle 37 = .ok (.iconst 1, 1) := z_o4 (z_wat (q := 32) (j := 5) zwX8_readTitle_32 rfl)
theorem dX8_readTitle_38 : decode cX8_readTitle 38 = .ok (.invokevirtual 67, 3) := z_o182 (z_wat (q := 32) (j := 6) zwX8_readTitle_32 rfl) (z_wat (q := 32) (j := 7) zwX8_readTitle_32 rfl) (z_wat (q := 32) (j := 8) zwX8_readTitle_32 rfl) rfl
theorem dX8_readTitle_41 : decode cX8_readTitle 41 = .ok (.ireturn, 1) := z_o172 (z_wat (q := 32) (j := 9) zwX8_readTitle_32 rfl)
theorem dX8_readTitle_42 : decode cX8_readTitle 42 = .ok (.aload_n 0, 1) := z_o42 (z_wat (q := 32) (j := 10) zwX8_readTitle_32 rfl)
theorem dX8_readTitle_43 : decode cX8_readTitle 43 = .ok (.getfield 42, 3) := z_o180 (z_wat (q := 32) (j := 11) zwX8_readTitle_32 rfl) (z_wat (q := 32) (j := 12) zwX8_readTitle_32 rfl) (z_wat (q := 32) (j := 13) zwX8_readTitle_32 rfl) rfl
theorem dX8_readTitle_46 : decode cX8_readTitle 46 = .ok (.ldc 95, 2) := z_o18 (z_wat (q := 32) (j := 14) zwX8_readTitle_32 rfl) (z_wat (q := 32) (j := 15) zwX8_readTitle_32 rfl)
theorem dX8_readTitle_48 : decode cX8_readTitle 48 = .ok (.invokevirtual 63, 3) := z_o182 (z_wat (q := 32) (j := 16) zwX8_readTitle_32 rfl) (z_wat (q := 32) (j := 17) zwX8_readTitle_32 rfl) (z_wat (q := 32) (j := 18) zwX8_readTitle_32 rfl) rfl
theorem dX8_readTitle_51 : decode cX8_readTitle 51 = .ok (.iconst (-1), 1) := z_o2 (z_wat (q := 32) (j := 19) zwX8_readTitle_32 rfl)
theorem dX8_readTitle_52 : decode cX8_readTitle 52 = .ok (.if_icmp .ne 16, 3) := z_o160 (z_wat (q := 32) (j := 20) zwX8_readTitle_32 rfl) (z_wat (q := 32) (j := 21) zwX8_readTitle_32 rfl) (z_wat (q := 32) (j := 22) zwX8_readTitle_32 rfl) rfl
theorem dX8_readTitle_55 : decode cX8_readTitle 55 = .ok (.aload_n 0, 1) := z_o42 (z_wat (q := 32) (j := 23) zwX8_readTitle_32 rfl)
theorem dX8_readTitle_56 : decode cX8_readTitle 56 = .ok (.getfield 42, 3) := z_o180 (z_wat (q := 32) (j := 24) zwX8_readTitle_32 rfl) (z_wat (q := 32) (j := 25) zwX8_readTitle_32 rfl) (z_wat (q := 32) (j := 26) zwX8_readTitle_32 rfl) rfl
theorem dX8_readTitle_59 : decode cX8_readTitle 59 = .ok (.ldc 97, 2) := z_o18 (z_wat (q := 32) (j := 27) zwX8_readTitle_32 rfl) (z_wat (q := 32) (j := 28) zwX8_readTitle_32 rfl)
theorem dX8_readTitle_61 : decode cX8_readTitle 61 = .ok (.invokevirtual 63, 3) := z_o182 (z_wat (q := 32) (j := 29) zwX8_readTitle_32 rfl) (z_wat (q := 32) (j := 30) zwX8_readTitle_32 rfl) (z_wat (q := 32) (j := 31) zwX8_readTitle_32 rfl) rfl
theorem zwX8_readTitle_64 : ((cX8_readTitle.data.toList.drop 64).take 34).map UInt8.toNat = [2, 159, 0, 12, 42, 180, 0, 42, 4, 182, 0, 67, 172, 3, 61, 28, 42, 180, 0, 35, 180, 0, 71, 162, 0, 40, 42, 180, 0, 42, 42, 180, 0, 11] := by decide +kernel
theorem dX8_readTitle_64 : decode cX8_readTitle 64 = .ok (.iconst (-1), 1) := z_o2 (z_wat (q := 64) (j := 0) zwX8_readTitle_64 rfl)
theorem dX8_readTitle_65 : decode cX8_readTitle 65 = .ok (.if_icmp .eq 12, 3) := z_o159 (z_wat (q := 64) (j := 1) zwX8_readTitle_64 rfl) (z_wat (q := 64) (j := 2) zwX8_readTitle_64 rfl) (z_wat (q := 64) (j := 3) zwX8_readTitle_64 rfl) rfl
theorem dX8_readTitle_68 : decode cX8_readTitle 68 = .ok (.aload_n 0, 1) := z_o42 (z_wat (q := 64) (j := 4) zwX8_readTitle_64 rfl)
theorem dX8_readTitle_69 : decode cX8_readTitle 69 = .ok (.getfield 42, 3) := z_o180 (z_wat (q := 64) (j := 5) zwX8_readTitle_64 rfl) (z_wat (q := 64) (j := 6) zwX8_readTitle_64 rfl) (z_wat (q := 64) (j := 7) zwX8_readTitle_64 rfl) rfl
theorem dX8_readTitle_72 : decode cX8_readTitle 72 = .ok (.iconst 1, 1) := z_o4 (z_wat (q := 64) (j := 8) zwX8_readTitle_64 rfl)
theorem dX8_readTitle_73 : decode cX8_readTitle 73 = .ok (.invokevirtual 67, 3) := z_o182 (z_wat (q := 64) (j := 9) zwX8_readTitle_64 rfl) (z_wat (q := 64) (j := 10) zwX8_readTitle_64 rfl) (z_wat (q := 64) (j := 11) zwX8_readTitle_64 rfl) rfl
theorem dX8_readTitle_76 : decode cX8_readTitle 76 = .ok (.ireturn, 1) := z_o172 (z_wat (q := 64) (j := 12) zwX8_readTitle_64 rfl)
theorem dX8_readTitle_77 : decode cX8_readTitle 77 = .ok (.iconst 0, 1) := z_o3 (z_wat (q := 64) (j := 13) zwX8_readTitle_64 rfl)
theorem dX8_readTitle_78 : decode cX8_readTitle 78 = .ok (.istore_n 2, 1) := z_o61 (z_wat (q := 64) (j := 14) zwX8_readTitle_64 rfl)
theorem dX8_readTitle_79 : decode cX8_readTitle 79 = .ok (.iload_n 2, 1) := z_o28 (z_wat (q := 64) (j := 15) zwX8_readTitle_64 rfl)
theorem dX8_readTitle_80 : decode cX8_readTitle 80 = .ok (.aload_n 0, 1) := z_o42 (z_wat (q := 64) (j := 16) zwX8_readTitle_64 rfl)
theorem dX8_readTitle_81 : decode cX8_readTitle 81 = .ok (.getfield 35, 3) := z_o180 (z_wat (q := 64) (j := 17) zwX8_readTitle_64 rfl) (z_wat (q := 64) (j := 18) zwX8_readTitle_64 rfl) (z_wat (q := 64) (j := 19) zwX8_readTitle_64 rfl) rfl
theorem dX8_readTitle_84 : decode cX8_readTitle 84 = .ok (.getfield 71, 3) := z_o180 (z_wat (q := 64) (j := 20) zwX8_readTitle_64 rfl) (z_wat (q := 64) (j := 21) zwX8_readTitle_64 rfl) (z_wat (q := 64) (j := 22) zwX8_readTitle_64 rfl) rfl
theorem dX8_readTitle_87 : decode cX8_readTitle 87 = .ok (.if_icmp .ge 40, 3) := z_o162 (z_wat (q := 64) (j := 23) zwX8_readTitle_64 rfl) (z_wat (q := 64) (j := 24) zwX8_readTitle_64 rfl) (z_wat (q := 64) (j := 25) zwX8_readTitle_64 rfl) rfl
theorem dX8_readTitle_90 : decode cX8_readTitle 90 = .ok (.aload_n 0, 1) := z_o42 (z_wat (q := 64) (j := 26) zwX8_readTitle_64 rfl)
theorem dX8_readTitle_91 : decode cX8_readTitle 91 = .ok (.getfield 42, 3) := z_o180 (z_wat (q := 64) (j := 27) zwX8_readTitle_64 rfl) (z_wat (q := 64) (j := 28) zwX8_readTitle_64 rfl) (z_wat (q := 64) (j := 29) zwX8_readTitle_64 rfl) rfl
theorem dX8_readTitle_94 : decode cX8_readTitle 94 = .ok (.aload_n 0, 1) := z_o42 (z_wat (q := 64) (j := 30) zwX8_readTitle_64 rfl)
theorem dX8_readTitle_95 : decode cX8_readTitle 95 = .ok (.getfield 11, 3) := z_o180 (z_wat (q := 64) (j := 31) zwX8_readTitle_64 rfl) (z_wat (q := 64) (j := 32) zwX8_readTitle_64 rfl) (z_wat (q := 64) (j := 33) zwX8_readTitle_64 rfl) rfl
theorem zwX8_readTitle_96 : ((cX8_readTitle.data.toList.drop 96).take 34).map UInt8.toNat = [0, 11, 28, 46, 42, 180, 0, 17, 28, 46, 182, 0, 99, 153, 0, 12, 42, 180, 0, 42, 6, 182, 0, 67, 172, 132, 2, 1, 167, 255, 211, 42, 180, 0] := by decide +kernel
theorem dX8_readTitle_98 : decode cX8_readTitle 98 = .ok (.iload_n 2, 1) := z_o28 (z_wat (q := 96) (j := 2) zwX8_readTitle_96 rfl)
theorem dX8_readTitle_99 : decode cX8_readTitle 99 = .ok (.iaload, 1) := z_o46 (z_wat (q := 96) (j := 3) zwX8_readTitle_96 rfl)
theorem dX8_readTitle_100 : decode cX8_readTitle 100 = .ok (.aload_n 0, 1) := z_o42 (z_wat (q := 96) (j := 4) zwX8_readTitle_96 rfl)
theorem dX8_readTitle_101 : decode cX8_readTitle 101 = .ok (.getfield 17, 3) := z_o180 (z_wat (q := 96) (j := 5) zwX8_readTitle_96 rfl) (z_wat (q := 96) (j := 6) zwX8_readTitle_96 rfl) (z_wat (q := 96) (j := 7) zwX8_readTitle_96 rfl) rfl
theorem dX8_readTitle_104 : decode cX8_readTitle 104 = .ok (.iload_n 2, 1) := z_o28 (z_wat (q := 96) (j := 8) zwX8_readTitle_96 rfl)
theorem dX8_readTitle_105 : decode cX8_readTitle 105 = .ok (.iaload, 1) := z_o46 (z_wat (q := 96) (j := 9) zwX8_readTitle_96 rfl)
theorem dX8_readTitle_106 : decode cX8_readTitle 106 = .ok (.invokevirtual 99, 3) := z_o182 (z_wat (q := 96) (j := 10) zwX8_readTitle_96 rfl) (z_wat (q := 96) (j := 11) zwX8_readTitle_96 rfl) (z_wat (q := 96) (j := 12) zwX8_readTitle_96 rfl) rfl
theorem dX8_readTitle_109 : decode cX8_readTitle 109 = .ok (.ifCond .eq 12, 3) := z_o153 (z_wat (q := 96) (j := 13) zwX8_readTitle_96 rfl) (z_wat (q := 96) (j := 14) zwX8_readTitle_96 rfl) (z_wat (q := 96) (j := 15) zwX8_readTitle_96 rfl) rfl
theorem dX8_readTitle_112 : decode cX8_readTitle 112 = .ok (.aload_n 0, 1) := z_o42 (z_wat (q := 96) (j := 16) zwX8_readTitle_96 rfl)
theorem dX8_readTitle_113 : decode cX8_readTitle 113 = .ok (.getfield 42, 3) := z_o180 (z_wat (q := 96) (j := 17) zwX8_readTitle_96 rfl) (z_wat (q := 96) (j := 18) zwX8_readTitle_96 rfl) (z_wat (q := 96) (j := 19) zwX8_readTitle_96 rfl) rfl
theorem dX8_readTitle_116 : decode cX8_readTitle 116 = .ok (.iconst 3, 1) := z_o6 (z_wat (q := 96) (j := 20) zwX8_readTitle_96 rfl)
theorem dX8_readTitle_117 : decode cX8_readTitle 117 = .ok (.invokevirtual 67, 3) := z_o182 (z_wat (q := 96) (j := 21) zwX8_readTitle_96 rfl) (z_wat (q := 96) (j := 22) zwX8_readTitle_96 rfl) (z_wat (q := 96) (j := 23) zwX8_readTitle_96 rfl) rfl
theorem dX8_readTitle_120 : decode cX8_readTitle 120 = .ok (.ireturn, 1) := z_o172 (z_wat (q := 96) (j := 24) zwX8_readTitle_96 rfl)
theorem dX8_readTitle_121 : decode cX8_readTitle 121 = .ok (.iinc 2 1, 3) := z_o132 (z_wat (q := 96) (j := 25) zwX8_readTitle_96 rfl) (z_wat (q := 96) (j := 26) zwX8_readTitle_96 rfl) (z_wat (q := 96) (j := 27) zwX8_readTitle_96 rfl) rfl
theorem dX8_readTitle_124 : decode cX8_readTitle 124 = .ok (.goto (-45), 3) := z_o167 (z_wat (q := 96) (j := 28) zwX8_readTitle_96 rfl) (z_wat (q := 96) (j := 29) zwX8_readTitle_96 rfl) (z_wat (q := 96) (j := 30) zwX8_readTitle_96 rfl) rfl
theorem dX8_readTitle_127 : decode cX8_readTitle 127 = .ok (.aload_n 0, 1) := z_o42 (z_wat (q := 96) (j := 31) zwX8_readTitle_96 rfl)
theorem zwX8_readTitle_128 : ((cX8_readTitle.data.toList.drop 128).take 34).map UInt8.toNat = [180, 0, 11, 42, 180, 0, 35, 180, 0, 71, 42, 180, 0, 42, 180, 0, 92, 79, 42, 180, 0, 17, 42, 180, 0, 35, 180, 0, 71, 27, 79, 42, 180, 0] := by decide +kernel
theorem dX8_readTitle_128 : decode cX8_readTitle 128 = .ok (.getfield 11, 3) := z_o180 (z_wat (q := 128) (j := 0) zwX8_readTitle_128 rfl) (z_wat (q := 128) (j := 1) zwX8_readTitle_128 rfl) (z_wat (q := 128) (j := 2) zwX8_readTitle_128 rfl) rfl
theorem dX8_readTitle_131 : decode cX8_readTitle 131 = .ok (.aload_n 0, 1) := z_o42 (z_wat (q := 128) (j := 3) zwX8_readTitle_128 rfl)
theorem dX8_readTitle_132 : decode cX8_readTitle 132 = .ok (.getfield 35, 3) := z_o180 (z_wat (q := 128) (j := 4) zwX8_readTitle_128 rfl) (z_wat (q := 128) (j := 5) zwX8_readTitle_128 rfl) (z_wat (q := 128) (j := 6) zwX8_readTitle_128 rfl) rfl
theorem dX8_readTitle_135 : decode cX8_readTitle 135 = .ok (.getfield 71, 3) := z_o180 (z_wat (q := 128) (j := 7) zwX8_readTitle_128 rfl) (z_wat (q := 128) (j := 8) zwX8_readTitle_128 rfl) (z_wat (q := 128) (j := 9) zwX8_readTitle_128 rfl) rfl
theorem dX8_readTitle_138 : decode cX8_readTitle 138 = .ok (.aload_n 0, 1) := z_o42 (z_wat (q := 128) (j := 10) zwX8_readTitle_128 rfl)
theorem dX8_readTitle_139 : decode cX8_readTitle 139 = .ok (.getfield 42, 3) := z_o180 (z_wat (q := 128) (j := 11) zwX8_readTitle_128 rfl) (z_wat (q := 128) (j := 12) zwX8_readTitle_128 rfl) (z_wat (q := 128) (j := 13) zwX8_readTitle_128 rfl) rfl
theorem dX8_readTitle_142 : decode cX8_readTitle 142 = .ok (.getfield 92, 3) := z_o180 (z_wat (q := 128) (j := 14) zwX8_readTitle_128 rfl) (z_wat (q := 128) (j := 15) zwX8_readTitle_128 rfl) (z_wat (q := 128) (j := 16) zwX8_readTitle_128 rfl) rfl
theorem dX8_readTitle_145 : decode cX8_readTitle 145 = .ok (.iastore, 1) := z_o79 (z_wat (q := 128) (j := 17) zwX8_readTitle_128 rfl)
theorem dX8_readTitle_146 : decode cX8_readTitle 146 = .ok (.aload_n 0, 1) := z_o42 (z_wat (q := 128) (j := 18) zwX8_readTitle_128 rfl)
theorem dX8_readTitle_147 : decode cX8_readTitle 147 = .ok (.getfield 17, 3) := z_o180 (z_wat (q := 128) (j := 19) zwX8_readTitle_128 rfl) (z_wat (q := 128) (j := 20) zwX8_readTitle_128 rfl) (z_wat (q := 128) (j := 21) zwX8_readTitle_128 rfl) rfl
theorem dX8_readTitle_150 : decode cX8_readTitle 150 = .ok (.aload_n 0, 1) := z_o42 (z_wat (q := 128) (j := 22) zwX8_readTitle_128 rfl)
theorem dX8_readTitle_151 : decode cX8_readTitle 151 = .ok (.getfield 35, 3) := z_o180 (z_wat (q := 128) (j := 23) zwX8_readTitle_128 rfl) (z_wat (q := 128) (j := 24) zwX8_readTitle_128 rfl) (z_wat (q := 128) (j := 25) zwX8_readTitle_128 rfl) rfl
theorem dX8_readTitle_154 : decode cX8_readTitle 154 = .ok (.getfield 71, 3) := z_o180 (z_wat (q := 128) (j := 26) zwX8_readTitle_128 rfl) (z_wat (q := 128) (j := 27) zwX8_readTitle_128 rfl) (z_wat (q := 128) (j := 28) zwX8_readTitle_128 rfl) rfl
theorem dX8_readTitle_157 : decode cX8_readTitle 157 = .ok (.iload_n 1, 1) := z_o27 (z_wat (q := 128) (j := 29) zwX8_readTitle_128 rfl)
theorem dX8_readTitle_158 : decode cX8_readTitle 158 = .ok (.iastore, 1) := z_o79 (z_wat (q := 128) (j := 30) zwX8_readTitle_128 rfl)
theorem dX8_readTitle_159 : decode cX8_readTitle 159 = .ok (.aload_n 0, 1) := z_o42 (z_wat (q := 128) (j := 31) zwX8_readTitle_128 rfl)
theorem zwX8_readTitle_160 : ((cX8_readTitle.data.toList.drop 160).take 8).map UInt8.toNat = [180, 0, 42, 182, 0, 74, 4, 172] := by decide +kernel
theorem dX8_readTitle_160 : decode cX8_readTitle 160 = .ok (.getfield 42, 3) := z_o180 (z_wat (q := 160) (j := 0) zwX8_readTitle_160 rfl) (z_wat (q := 160) (j := 1) zwX8_readTitle_160 rfl) (z_wat (q := 160) (j := 2) zwX8_readTitle_160 rfl) rfl
theorem dX8_readTitle_163 : decode cX8_readTitle 163 = .ok (.invokevirtual 74, 3) := z_o182 (z_wat (q := 160) (j := 3) zwX8_readTitle_160 rfl) (z_wat (q := 160) (j := 4) zwX8_readTitle_160 rfl) (z_wat (q := 160) (j := 5) zwX8_readTitle_160 rfl) rfl
theorem dX8_readTitle_166 : decode cX8_readTitle 166 = .ok (.iconst 1, 1) := z_o4 (z_wat (q := 160) (j := 6) zwX8_readTitle_160 rfl)
theorem dX8_readTitle_167 : decode cX8_readTitle 167 = .ok (.ireturn, 1) := z_o172 (z_wat (q := 160) (j := 7) zwX8_readTitle_160 rfl)
theorem zwX8_settle_0 : ((cX8_settle.data.toList.drop 0).take 34).map UInt8.toNat = [42, 180, 0, 23, 158, 0, 39, 42, 182, 0, 150, 184, 0, 103, 27, 161, 0, 28, 42, 180, 0, 35, 42, 182, 0, 150, 3, 182, 0, 146, 42, 89, 180, 0] := by decide +kernel
theorem dX8_settle_0 : decode cX8_settle 0 = .ok (.aload_n 0, 1) := z_o42 (z_wat (q := 0) (j := 0) zwX8_settle_0 rfl)
theorem dX8_settle_1 : decode cX8_settle 1 = .ok (.getfield 23, 3) := z_o180 (z_wat (q := 0) (j := 1) zwX8_settle_0 rfl) (z_wat (q := 0) (j := 2) zwX8_settle_0 rfl) (z_wat (q := 0) (j := 3) zwX8_settle_0 rfl) rfl
theorem dX8_settle_4 : decode cX8_settle 4 = .ok (.ifCond .le 39, 3) := z_o158 (z_wat (q := 0) (j := 4) zwX8_settle_0 rfl) (z_wat (q := 0) (j := 5) zwX8_settle_0 rfl) (z_wat (q := 0) (j := 6) zwX8_settle_0 rfl) rfl
theorem dX8_settle_7 : decode cX8_settle 7 = .ok (.aload_n 0, 1) := z_o42 (z_wat (q := 0) (j := 7) zwX8_settle_0 rfl)
theorem dX8_settle_8 : decode cX8_settle 8 = .ok (.invokevirtual 150, 3) := z_o182 (z_wat (q := 0) (j := 8) zwX8_settle_0 rfl) (z_wat (q := 0) (j := 9) zwX8_settle_0 rfl) (z_wat (q := 0) (j := 10) zwX8_settle_0 rfl) rfl
theorem dX8_settle_11 : decode cX8_settle 11 = .ok (.invokestatic 103, 3) := z_o184 (z_wat (q := 0) (j := 11) zwX8_settle_0 rfl) (z_wat (q := 0) (j := 12) zwX8_settle_0 rfl) (z_wat (q := 0) (j := 13) zwX8_settle_0 rfl) rfl
theorem dX8_settle_14 : decode cX8_settle 14 = .ok (.iload_n 1, 1) := z_o27 (z_wat (q := 0) (j := 14) zwX8_settle_0 rfl)
theorem dX8_settle_15 : decode cX8_settle 15 = .ok (.if_icmp .lt 28, 3) := z_o161 (z_wat (q := 0) (j := 15) zwX8_settle_0 rfl) (z_wat (q := 0) (j := 16) zwX8_settle_0 rfl) (z_wat (q := 0) (j := 17) zwX8_settle_0 rfl) rfl
theorem dX8_settle_18 : decode cX8_settle 18 = .ok (.aload_n 0, 1) := z_o42 (z_wat (q := 0) (j := 18) zwX8_settle_0 rfl)
theorem dX8_settle_19 : decode cX8_settle 19 = .ok (.getfield 35, 3) := z_o180 (z_wat (q := 0) (j := 19) zwX8_settle_0 rfl) (z_wat (q := 0) (j := 20) zwX8_settle_0 rfl) (z_wat (q := 0) (j := 21) zwX8_settle_0 rfl) rfl
theorem dX8_settle_22 : decode cX8_settle 22 = .ok (.aload_n 0, 1) := z_o42 (z_wat (q := 0) (j := 22) zwX8_settle_0 rfl)
theorem dX8_settle_23 : decode cX8_settle 23 = .ok (.invokevirtual 150, 3) := z_o182 (z_wat (q := 0) (j := 23) zwX8_settle_0 rfl) (z_wat (q := 0) (j := 24) zwX8_settle_0 rfl) (z_wat (q := 0) (j := 25) zwX8_settle_0 rfl) rfl
theorem dX8_settle_26 : decode cX8_settle 26 = .ok (.iconst 0, 1) := z_o3 (z_wat (q := 0) (j := 26) zwX8_settle_0 rfl)
theorem dX8_settle_27 : decode cX8_settle 27 = .ok (.invokevirtual 146, 3) := z_o182 (z_wat (q := 0) (j := 27) zwX8_settle_0 rfl) (z_wat (q := 0) (j := 28) zwX8_settle_0 rfl) (z_wat (q := 0) (j := 29) zwX8_settle_0 rfl) rfl
theorem dX8_settle_30 : decode cX8_settle 30 = .ok (.aload_n 0, 1) := z_o42 (z_wat (q := 0) (j := 30) zwX8_settle_0 rfl)
theorem dX8_settle_31 : decode cX8_settle 31 = .ok (.dup, 1) := z_o89 (z_wat (q := 0) (j := 31) zwX8_settle_0 rfl)
theorem zwX8_settle_32 : ((cX8_settle.data.toList.drop 32).take 12).map UInt8.toNat = [180, 0, 23, 4, 100, 181, 0, 23, 167, 255, 216, 177] := by decide +kernel
theorem dX8_settle_32 : decode cX8_settle 32 = .ok (.getfield 23, 3) := z_o180 (z_wat (q := 32) (j := 0) zwX8_settle_32 rfl) (z_wat (q := 32) (j := 1) zwX8_settle_32 rfl) (z_wat (q := 32) (j := 2) zwX8_settle_32 rfl) rfl
theorem dX8_settle_35 : decode cX8_settle 35 = .ok (.iconst 1, 1) := z_o4 (z_wat (q := 32) (j := 3) zwX8_settle_32 rfl)
theorem dX8_settle_36 : decode cX8_settle 36 = .ok (.isub, 1) := z_o100 (z_wat (q := 32) (j := 4) zwX8_settle_32 rfl)
theorem dX8_settle_37 : decode cX8_settle 37 = .ok (.putfield 23, 3) := z_o181 (z_wat (q := 32) (j := 5) zwX8_settle_32 rfl) (z_wat (q := 32) (j := 6) zwX8_settle_32 rfl) (z_wat (q := 32) (j := 7) zwX8_settle_32 rfl) rfl
theorem dX8_settle_40 : decode cX8_settle 40 = .ok (.goto (-40), 3) := z_o167 (z_wat (q := 32) (j := 8) zwX8_settle_32 rfl) (z_wat (q := 32) (j := 9) zwX8_settle_32 rfl) (z_wat (q := 32) (j := 10) zwX8_settle_32 rfl) rfl
theorem dX8_settle_43 : decode cX8_settle 43 = .ok (.return_, 1) := z_o177 (z_wat (q := 32) (j := 11) zwX8_settle_32 rfl)
theorem zwX8_takeClose_0 : ((cX8_takeClose.data.toList.drop 0).take 34).map UInt8.toNat = [42, 180, 0, 27, 154, 0, 12, 42, 180, 0, 42, 4, 182, 0, 67, 172, 42, 16, 10, 184, 0, 103, 182, 0, 107, 42, 42, 180, 0, 23, 4, 100, 3, 184] := by decide +kernel
theorem dX8_takeClose_0 : decode cX8_takeClose 0 = .ok (.aload_n 0, 1) := z_o42 (z_wat (q := 0) (j := 0) zwX8_takeClose_0 rfl)
theorem dX8_takeClose_1 : decode cX8_takeClose 1 = .ok (.getfield 27, 3) := z_o180 (z_wat (q := 0) (j := 1) zwX8_takeClose_0 rfl) (z_wat (q := 0) (j := 2) zwX8_takeClose_0 rfl) (z_wat (q := 0) (j := 3) zwX8_takeClose_0 rfl) rfl
theorem dX8_takeClose_4 : decode cX8_takeClose 4 = .ok (.ifCond .ne 12, 3) := z_o154 (z_wat (q := 0) (j := 4) zwX8_takeClose_0 rfl) (z_wat (q := 0) (j := 5) zwX8_takeClose_0 rfl) (z_wat (q := 0) (j := 6) zwX8_takeClose_0 rfl) rfl
theorem dX8_takeClose_7 : decode cX8_takeClose 7 = .ok (.aload_n 0, 1) := z_o42 (z_wat (q := 0) (j := 7) zwX8_takeClose_0 rfl)
theorem dX8_takeClose_8 : decode cX8_takeClose 8 = .ok (.getfield 42, 3) := z_o180 (z_wat (q := 0) (j := 8) zwX8_takeClose_0 rfl) (z_wat (q := 0) (j := 9) zwX8_takeClose_0 rfl) (z_wat (q := 0) (j := 10) zwX8_takeClose_0 rfl) rfl
theorem dX8_takeClose_11 : decode cX8_takeClose 11 = .ok (.iconst 1, 1) := z_o4 (z_wat (q := 0) (j := 11) zwX8_takeClose_0 rfl)
theorem dX8_takeClose_12 : decode cX8_takeClose 12 = .ok (.invokevirtual 67, 3) := z_o182 (z_wat (q := 0) (j := 12) zwX8_takeClose_0 rfl) (z_wat (q := 0) (j := 13) zwX8_takeClose_0 rfl) (z_wat (q := 0) (j := 14) zwX8_takeClose_0 rfl) rfl
theorem dX8_takeClose_15 : decode cX8_takeClose 15 = .ok (.ireturn, 1) := z_o172 (z_wat (q := 0) (j := 15) zwX8_takeClose_0 rfl)
theorem dX8_takeClose_16 : decode cX8_takeClose 16 = .ok (.aload_n 0, 1) := z_o42 (z_wat (q := 0) (j := 16) zwX8_takeClose_0 rfl)
theorem dX8_takeClose_17 : decode cX8_takeClose 17 = .ok (.bipush 10, 2) := z_o16 (z_wat (q := 0) (j := 17) zwX8_takeClose_0 rfl) (z_wat (q := 0) (j := 18) zwX8_takeClose_0 rfl) rfl
theorem dX8_takeClose_19 : decode cX8_takeClose 19 = .ok (.invokestatic 103, 3) := z_o184 (z_wat (q := 0) (j := 19) zwX8_takeClose_0 rfl) (z_wat (q := 0) (j := 20) zwX8_takeClose_0 rfl) (z_wat (q := 0) (j := 21) zwX8_takeClose_0 rfl) rfl
theorem dX8_takeClose_22 : decode cX8_takeClose 22 = .ok (.invokevirtual 107, 3) := z_o182 (z_wat (q := 0) (j := 22) zwX8_takeClose_0 rfl) (z_wat (q := 0) (j := 23) zwX8_takeClose_0 rfl) (z_wat (q := 0) (j := 24) zwX8_takeClose_0 rfl) rfl
theorem dX8_takeClose_25 : decode cX8_takeClose 25 = .ok (.aload_n 0, 1) := z_o42 (z_wat (q := 0) (j := 25) zwX8_takeClose_0 rfl)
theorem dX8_takeClose_26 : decode cX8_takeClose 26 = .ok (.aload_n 0, 1) := z_o42 (z_wat (q := 0) (j := 26) zwX8_takeClose_0 rfl)
theorem dX8_takeClose_27 : decode cX8_takeClose 27 = .ok (.getfield 23, 3) := z_o180 (z_wat (q := 0) (j := 27) zwX8_takeClose_0 rfl) (z_wat (q := 0) (j := 28) zwX8_takeClose_0 rfl) (z_wat (q := 0) (j := 29) zwX8_takeClose_0 rfl) rfl
theorem dX8_takeClose_30 : decode cX8_takeClose 30 = .ok (.iconst 1, 1) := z_o4 (z_wat (q := 0) (j := 30) zwX8_takeClose_0 rfl)
theorem dX8_takeClose_31 : decode cX8_takeClose 31 = .ok (.isub, 1) := z_o100 (z_wat (q := 0) (j := 31) zwX8_takeClose_0 rfl)
theorem zwX8_takeClose_32 : ((cX8_takeClose.data.toList.drop 32).take 19).map UInt8.toNat = [3, 184, 0, 160, 181, 0, 23, 42, 89, 180, 0, 27, 4, 100, 181, 0, 27, 4, 172] := by decide +kernel
theorem dX8_takeClose_32 : decode cX8_takeClose 32 = .ok (.iconst 0, 1) := z_o3 (z_wat (q := 32) (j := 0) zwX8_takeClose_32 rfl)
theorem dX8_takeClose_33 : decode cX8_takeClose 33 = .ok (.invokestatic 160, 3) := z_o184 (z_wat (q := 32) (j := 1) zwX8_takeClose_32 rfl) (z_wat (q := 32) (j := 2) zwX8_takeClose_32 rfl) (z_wat (q := 32) (j := 3) zwX8_takeClose_32 rfl) rfl
theorem dX8_takeClose_36 : decode cX8_takeClose 36 = .ok (.putfield 23, 3) := z_o181 (z_wat (q := 32) (j := 4) zwX8_takeClose_32 rfl) (z_wat (q := 32) (j := 5) zwX8_takeClose_32 rfl) (z_wat (q := 32) (j := 6) zwX8_takeClose_32 rfl) rfl
theorem dX8_takeClose_39 : decode cX8_takeClose 39 = .ok (.aload_n 0, 1) := z_o42 (z_wat (q := 32) (j := 7) zwX8_takeClose_32 rfl)
theorem dX8_takeClose_40 : decode cX8_takeClose 40 = .ok (.dup, 1) := z_o89 (z_wat (q := 32) (j := 8) zwX8_takeClose_32 rfl)
theorem dX8_takeClose_41 : decode cX8_takeClose 41 = .ok (.getfield 27, 3) := z_o180 (z_wat (q := 32) (j := 9) zwX8_takeClose_32 rfl) (z_wat (q := 32) (j := 10) zwX8_takeClose_32 rfl) (z_wat (q := 32) (j := 11) zwX8_takeClose_32 rfl) rfl
theorem dX8_takeClose_44 : decode cX8_takeClose 44 = .ok (.iconst 1, 1) := z_o4 (z_wat (q := 32) (j := 12) zwX8_takeClose_32 rfl)
theorem dX8_takeClose_45 : decode cX8_takeClose 45 = .ok (.isub, 1) := z_o100 (z_wat (q := 32) (j := 13) zwX8_takeClose_32 rfl)
theorem dX8_takeClose_46 : decode cX8_takeClose 46 = .ok (.putfield 27, 3) := z_o181 (z_wat (q := 32) (j := 14) zwX8_takeClose_32 rfl) (z_wat (q := 32) (j := 15) zwX8_takeClose_32 rfl) (z_wat (q := 32) (j := 16) zwX8_takeClose_32 rfl) rfl
theorem dX8_takeClose_49 : decode cX8_takeClose 49 = .ok (.iconst 1, 1) := z_o4 (z_wat (q := 32) (j := 17) zwX8_takeClose_32 rfl)
theorem dX8_takeClose_50 : decode cX8_takeClose 50 = .ok (.ireturn, 1) := z_o172 (z_wat (q := 32) (j := 18) zwX8_takeClose_32 rfl)
theorem zwX8_takeJoin_0 : ((cX8_takeJoin.data.toList.drop 0).take 34).map UInt8.toNat = [42, 180, 0, 42, 180, 0, 80, 16, 41, 160, 0, 8, 42, 182, 0, 154, 172, 42, 182, 0, 157, 60, 27, 2, 160, 0, 12, 42, 180, 0, 42, 4, 182, 0] := by decide +kernel
theorem dX8_takeJoin_0 : decode cX8_takeJoin 0 = .ok (.aload_n 0, 1) := z_o42 (z_wat (q := 0) (j := 0) zwX8_takeJoin_0 rfl)
theorem dX8_takeJoin_1 : decode cX8_takeJoin 1 = .ok (.getfield 42, 3) := z_o180 (z_wat (q := 0) (j := 1) zwX8_takeJoin_0 rfl) (z_wat (q := 0) (j := 2) zwX8_takeJoin_0 rfl) (z_wat (q := 0) (j := 3) zwX8_takeJoin_0 rfl) rfl
theorem dX8_takeJoin_4 : decode cX8_takeJoin 4 = .ok (.getfield 80, 3) := z_o180 (z_wat (q := 0) (j := 4) zwX8_takeJoin_0 rfl) (z_wat (q := 0) (j := 5) zwX8_takeJoin_0 rfl) (z_wat (q := 0) (j := 6) zwX8_takeJoin_0 rfl) rfl
theorem dX8_takeJoin_7 : decode cX8_takeJoin 7 = .ok (.bipush 41, 2) := z_o16 (z_wat (q := 0) (j := 7) zwX8_takeJoin_0 rfl) (z_wat (q := 0) (j := 8) zwX8_takeJoin_0 rfl) rfl
theorem dX8_takeJoin_9 : decode cX8_takeJoin 9 = .ok (.if_icmp .ne 8, 3) := z_o160 (z_wat (q := 0) (j := 9) zwX8_takeJoin_0 rfl) (z_wat (q := 0) (j := 10) zwX8_takeJoin_0 rfl) (z_wat (q := 0) (j := 11) zwX8_takeJoin_0 rfl) rfl
theorem dX8_takeJoin_12 : decode cX8_takeJoin 12 = .ok (.aload_n 0, 1) := z_o42 (z_wat (q := 0) (j := 12) zwX8_takeJoin_0 rfl)
theorem dX8_takeJoin_13 : decode cX8_takeJoin 13 = .ok (.invokevirtual 154, 3) := z_o182 (z_wat (q := 0) (j := 13) zwX8_takeJoin_0 rfl) (z_wat (q := 0) (j := 14) zwX8_takeJoin_0 rfl) (z_wat (q := 0) (j := 15) zwX8_takeJoin_0 rfl) rfl
theorem dX8_takeJoin_16 : decode cX8_takeJoin 16 = .ok (.ireturn, 1) := z_o172 (z_wat (q := 0) (j := 16) zwX8_takeJoin_0 rfl)
theorem dX8_takeJoin_17 : decode cX8_takeJoin 17 = .ok (.aload_n 0, 1) := z_o42 (z_wat (q := 0) (j := 17) zwX8_takeJoin_0 rfl)
theorem dX8_takeJoin_18 : decode cX8_takeJoin 18 = .ok (.invokevirtual 157, 3) := z_o182 (z_wat (q := 0) (j := 18) zwX8_takeJoin_0 rfl) (z_wat (q := 0) (j := 19) zwX8_takeJoin_0 rfl) (z_wat (q := 0) (j := 20) zwX8_takeJoin_0 rfl) rfl
theorem dX8_takeJoin_21 : decode cX8_takeJoin 21 = .ok (.istore_n 1, 1) := z_o60 (z_wat (q := 0) (j := 21) zwX8_takeJoin_0 rfl)
theorem dX8_takeJoin_22 : decode cX8_takeJoin 22 = .ok (.iload_n 1, 1) := z_o27 (z_wat (q := 0) (j := 22) zwX8_takeJoin_0 rfl)
theorem dX8_takeJoin_23 : decode cX8_takeJoin 23 = .ok (.iconst (-1), 1) := z_o2 (z_wat (q := 0) (j := 23) zwX8_takeJoin_0 rfl)
theorem dX8_takeJoin_24 : decode cX8_takeJoin 24 = .ok (.if_icmp .ne 12, 3) := z_o160 (z_wat (q := 0) (j := 24) zwX8_takeJoin_0 rfl) (z_wat (q := 0) (j := 25) zwX8_takeJoin_0 rfl) (z_wat (q := 0) (j := 26) zwX8_takeJoin_0 rfl) rfl
theorem dX8_takeJoin_27 : decode cX8_takeJoin 27 = .ok (.aload_n 0, 1) := z_o42 (z_wat (q := 0) (j := 27) zwX8_takeJoin_0 rfl)
theorem dX8_takeJoin_28 : decode cX8_takeJoin 28 = .ok (.getfield 42, 3) := z_o180 (z_wat (q := 0) (j := 28) zwX8_takeJoin_0 rfl) (z_wat (q := 0) (j := 29) zwX8_takeJoin_0 rfl) (z_wat (q := 0) (j := 30) zwX8_takeJoin_0 rfl) rfl
theorem dX8_takeJoin_31 : decode cX8_takeJoin 31 = .ok (.iconst 1, 1) := z_o4 (z_wat (q := 0) (j := 31) zwX8_takeJoin_0 rfl)
theorem zwX8_takeJoin_32 : ((cX8_takeJoin.data.toList.drop 32).take 34).map UInt8.toNat = [182, 0, 67, 172, 42, 27, 184, 0, 103, 4, 96, 182, 0, 107, 27, 184, 0, 103, 16, 40, 184, 0, 103, 160, 0, 7, 4, 167, 0, 4, 3, 61, 28, 153] := by decide +kernel
theorem dX8_takeJoin_32 : decode cX8_takeJoin 32 = .ok (.invokevirtual 67, 3) := z_o182 (z_wat (q := 32) (j := 0) zwX8_takeJoin_32 rfl) (z_wat (q := 32) (j := 1) zwX8_takeJoin_32 rfl) (z_wat (q := 32) (j := 2) zwX8_takeJoin_32 rfl) rfl
theorem dX8_takeJoin_35 : decode cX8_takeJoin 35 = .ok (.ireturn, 1) := z_o172 (z_wat (q := 32) (j := 3) zwX8_takeJoin_32 rfl)
theorem dX8_takeJoin_36 : decode cX8_takeJoin 36 = .ok (.aload_n 0, 1) := z_o42 (z_wat (q := 32) (j := 4) zwX8_takeJoin_32 rfl)
theorem dX8_takeJoin_37 : decode cX8_takeJoin 37 = .ok (.iload_n 1, 1) := z_o27 (z_wat (q := 32) (j := 5) zwX8_takeJoin_32 rfl)
theorem dX8_takeJoin_38 : decode cX8_takeJoin 38 = .ok (.invokestatic 103, 3) := z_o184 (z_wat (q := 32) (j := 6) zwX8_takeJoin_32 rfl) (z_wat (q := 32) (j := 7) zwX8_takeJoin_32 rfl) (z_wat (q := 32) (j := 8) zwX8_takeJoin_32 rfl) rfl
theorem dX8_takeJoin_41 : decode cX8_takeJoin 41 = .ok (.iconst 1, 1) := z_o4 (z_wat (q := 32) (j := 9) zwX8_takeJoin_32 rfl)
theorem dX8_takeJoin_42 : decode cX8_takeJoin 42 = .ok (.iadd, 1) := z_o96 (z_wat (q := 32) (j := 10) zwX8_takeJoin_32 rfl)
theorem dX8_takeJoin_43 : decode cX8_takeJoin 43 = .ok (.invokevirtual 107, 3) := z_o182 (z_wat (q := 32) (j := 11) zwX8_takeJoin_32 rfl) (z_wat (q := 32) (j := 12) zwX8_takeJoin_32 rfl) (z_wat (q := 32) (j := 13) zwX8_takeJoin_32 rfl) rfl
theorem dX8_takeJoin_46 : decode cX8_takeJoin 46 = .ok (.iload_n 1, 1) := z_o27 (z_wat (q := 32) (j := 14) zwX8_takeJoin_32 rfl)
theorem dX8_takeJoin_47 : decode cX8_takeJoin 47 = .ok (.invokestatic 103, 3) := z_o184 (z_wat (q := 32) (j := 15) zwX8_takeJoin_32 rfl) (z_wat (q := 32) (j := 16) zwX8_takeJoin_32 rfl) (z_wat (q := 32) (j := 17) zwX8_takeJoin_32 rfl) rfl
theorem dX8_takeJoin_50 : decode cX8_takeJoin 50 = .ok (.bipush 40, 2) := z_o16 (z_wat (q := 32) (j := 18) zwX8_takeJoin_32 rfl) (z_wat (q := 32) (j := 19) zwX8_takeJoin_32 rfl) rfl
theorem dX8_takeJoin_52 : decode cX8_takeJoin 52 = .ok (.invokestatic 103, 3) := z_o184 (z_wat (q := 32) (j := 20) zwX8_takeJoin_32 rfl) (z_wat (q := 32) (j := 21) zwX8_takeJoin_32 rfl) (z_wat (q := 32) (j := 22) zwX8_takeJoin_32 rfl) rfl
theorem dX8_takeJoin_55 : decode cX8_takeJoin 55 = .ok (.if_icmp .ne 7, 3) := z_o160 (z_wat (q := 32) (j := 23) zwX8_takeJoin_32 rfl) (z_wat (q := 32) (j := 24) zwX8_takeJoin_32 rfl) (z_wat (q := 32) (j := 25) zwX8_takeJoin_32 rfl) rfl
theorem dX8_takeJoin_58 : decode cX8_takeJoin 58 = .ok (.iconst 1, 1) := z_o4 (z_wat (q := 32) (j := 26) zwX8_takeJoin_32 rfl)
theorem dX8_takeJoin_59 : decode cX8_takeJoin 59 = .ok (.goto 4, 3) := z_o167 (z_wat (q := 32) (j := 27) zwX8_takeJoin_32 rfl) (z_wat (q := 32) (j := 28) zwX8_takeJoin_32 rfl) (z_wat (q := 32) (j := 29) zwX8_takeJoin_32 rfl) rfl
theorem dX8_takeJoin_62 : decode cX8_takeJoin 62 = .ok (.iconst 0, 1) := z_o3 (z_wat (q := 32) (j := 30) zwX8_takeJoin_32 rfl)
theorem dX8_takeJoin_63 : decode cX8_takeJoin 63 = .ok (.istore_n 2, 1) := z_o61 (z_wat (q := 32) (j := 31) zwX8_takeJoin_32 rfl)
theorem zwX8_takeJoin_64 : ((cX8_takeJoin.data.toList.drop 64).take 34).map UInt8.toNat = [28, 153, 0, 26, 42, 182, 0, 150, 184, 0, 103, 27, 184, 0, 103, 160, 0, 12, 42, 180, 0, 42, 4, 182, 0, 67, 172, 42, 182, 0, 133, 154, 0, 5] := by decide +kernel
theorem dX8_takeJoin_64 : decode cX8_takeJoin 64 = .ok (.iload_n 2, 1) := z_o28 (z_wat (q := 64) (j := 0) zwX8_takeJoin_64 rfl)
theorem dX8_takeJoin_65 : decode cX8_takeJoin 65 = .ok (.ifCond .eq 26, 3) := z_o153 (z_wat (q := 64) (j := 1) zwX8_takeJoin_64 rfl) (z_wat (q := 64) (j := 2) zwX8_takeJoin_64 rfl) (z_wat (q := 64) (j := 3) zwX8_takeJoin_64 rfl) rfl
theorem dX8_takeJoin_68 : decode cX8_takeJoin 68 = .ok (.aload_n 0, 1) := z_o42 (z_wat (q := 64) (j := 4) zwX8_takeJoin_64 rfl)
theorem dX8_takeJoin_69 : decode cX8_takeJoin 69 = .ok (.invokevirtual 150, 3) := z_o182 (z_wat (q := 64) (j := 5) zwX8_takeJoin_64 rfl) (z_wat (q := 64) (j := 6) zwX8_takeJoin_64 rfl) (z_wat (q := 64) (j := 7) zwX8_takeJoin_64 rfl) rfl
theorem dX8_takeJoin_72 : decode cX8_takeJoin 72 = .ok (.invokestatic 103, 3) := z_o184 (z_wat (q := 64) (j := 8) zwX8_takeJoin_64 rfl) (z_wat (q := 64) (j := 9) zwX8_takeJoin_64 rfl) (z_wat (q := 64) (j := 10) zwX8_takeJoin_64 rfl) rfl
theorem dX8_takeJoin_75 : decode cX8_takeJoin 75 = .ok (.iload_n 1, 1) := z_o27 (z_wat (q := 64) (j := 11) zwX8_takeJoin_64 rfl)
theorem dX8_takeJoin_76 : decode cX8_takeJoin 76 = .ok (.invokestatic 103, 3) := z_o184 (z_wat (q := 64) (j := 12) zwX8_takeJoin_64 rfl) (z_wat (q := 64) (j := 13) zwX8_takeJoin_64 rfl) (z_wat (q := 64) (j := 14) zwX8_takeJoin_64 rfl) rfl
theorem dX8_takeJoin_79 : decode cX8_takeJoin 79 = .ok (.if_icmp .ne 12, 3) := z_o160 (z_wat (q := 64) (j := 15) zwX8_takeJoin_64 rfl) (z_wat (q := 64) (j := 16) zwX8_takeJoin_64 rfl) (z_wat (q := 64) (j := 17) zwX8_takeJoin_64 rfl) rfl
theorem dX8_takeJoin_82 : decode cX8_takeJoin 82 = .ok (.aload_n 0, 1) := z_o42 (z_wat (q := 64) (j := 18) zwX8_takeJoin_64 rfl)
theorem dX8_takeJoin_83 : decode cX8_takeJoin 83 = .ok (.getfield 42, 3) := z_o180 (z_wat (q := 64) (j := 19) zwX8_takeJoin_64 rfl) (z_wat (q := 64) (j := 20) zwX8_takeJoin_64 rfl) (z_wat (q := 64) (j := 21) zwX8_takeJoin_64 rfl) rfl
theorem dX8_takeJoin_86 : decode cX8_takeJoin 86 = .ok (.iconst 1, 1) := z_o4 (z_wat (q := 64) (j := 22) zwX8_takeJoin_64 rfl)
theorem dX8_takeJoin_87 : decode cX8_takeJoin 87 = .ok (.invokevirtual 67, 3) := z_o182 (z_wat (q := 64) (j := 23) zwX8_takeJoin_64 rfl) (z_wat (q := 64) (j := 24) zwX8_takeJoin_64 rfl) (z_wat (q := 64) (j := 25) zwX8_takeJoin_64 rfl) rfl
theorem dX8_takeJoin_90 : decode cX8_takeJoin 90 = .ok (.ireturn, 1) := z_o172 (z_wat (q := 64) (j := 26) zwX8_takeJoin_64 rfl)
theorem dX8_takeJoin_91 : decode cX8_takeJoin 91 = .ok (.aload_n 0, 1) := z_o42 (z_wat (q := 64) (j := 27) zwX8_takeJoin_64 rfl)
theorem dX8_takeJoin_92 : decode cX8_takeJoin 92 = .ok (.invokevirtual 133, 3) := z_o182 (z_wat (q := 64) (j := 28) zwX8_takeJoin_64 rfl) (z_wat (q := 64) (j := 29) zwX8_takeJoin_64 rfl) (z_wat (q := 64) (j := 30) zwX8_takeJoin_64 rfl) rfl
theorem dX8_takeJoin_95 : decode cX8_takeJoin 95 = .ok (.ifCond .ne 5, 3) := z_o154 (z_wat (q := 64) (j := 31) zwX8_takeJoin_64 rfl) (z_wat (q := 64) (j := 32) zwX8_takeJoin_64 rfl) (z_wat (q := 64) (j := 33) zwX8_takeJoin_64 rfl) rfl
theorem zwX8_takeJoin_96 : ((cX8_takeJoin.data.toList.drop 96).take 24).map UInt8.toNat = [0, 5, 3, 172, 42, 27, 184, 0, 103, 182, 0, 107, 42, 27, 182, 0, 139, 42, 4, 181, 0, 30, 4, 172] := by decide +kernel
theorem dX8_takeJoin_98 : decode cX8_takeJoin 98 = .ok (.iconst 0, 1) := z_o3 (z_wat (q := 96) (j := 2) zwX8_takeJoin_96 rfl)
theorem dX8_takeJoin_99 : decode cX8_takeJoin 99 = .ok (.ireturn, 1) := z_o172 (z_wat (q := 96) (j := 3) zwX8_takeJoin_96 rfl)
theorem dX8_takeJoin_100 : decode cX8_takeJoin 100 = .ok (.aload_n 0, 1) := z_o42 (z_wat (q := 96) (j := 4) zwX8_takeJoin_96 rfl)
theorem dX8_takeJoin_101 : decode cX8_takeJoin 101 = .ok (.iload_n 1, 1) := z_o27 (z_wat (q := 96) (j := 5) zwX8_takeJoin_96 rfl)
theorem dX8_takeJoin_102 : decode cX8_takeJoin 102 = .ok (.invokestatic 103, 3) := z_o184 (z_wat (q := 96) (j := 6) zwX8_takeJoin_96 rfl) (z_wat (q := 96) (j := 7) zwX8_takeJoin_96 rfl) (z_wat (q := 96) (j := 8) zwX8_takeJoin_96 rfl) rfl
theorem dX8_takeJoin_105 : decode cX8_takeJoin 105 = .ok (.invokevirtual 107, 3) := z_o182 (z_wat (q := 96) (j := 9) zwX8_takeJoin_96 rfl) (z_wat (q := 96) (j := 10) zwX8_takeJoin_96 rfl) (z_wat (q := 96) (j := 11) zwX8_takeJoin_96 rfl) rfl
theorem dX8_takeJoin_108 : decode cX8_takeJoin 108 = .ok (.aload_n 0, 1) := z_o42 (z_wat (q := 96) (j := 12) zwX8_takeJoin_96 rfl)
theorem dX8_takeJoin_109 : decode cX8_takeJoin 109 = .ok (.iload_n 1, 1) := z_o27 (z_wat (q := 96) (j := 13) zwX8_takeJoin_96 rfl)
theorem dX8_takeJoin_110 : decode cX8_takeJoin 110 = .ok (.invokevirtual 139, 3) := z_o182 (z_wat (q := 96) (j := 14) zwX8_takeJoin_96 rfl) (z_wat (q := 96) (j := 15) zwX8_takeJoin_96 rfl) (z_wat (q := 96) (j := 16) zwX8_takeJoin_96 rfl) rfl
theorem dX8_takeJoin_113 : decode cX8_takeJoin 113 = .ok (.aload_n 0, 1) := z_o42 (z_wat (q := 96) (j := 17) zwX8_takeJoin_96 rfl)
theorem dX8_takeJoin_114 : decode cX8_takeJoin 114 = .ok (.iconst 1, 1) := z_o4 (z_wat (q := 96) (j := 18) zwX8_takeJoin_96 rfl)
theorem dX8_takeJoin_115 : decode cX8_takeJoin 115 = .ok (.putfield 30, 3) := z_o181 (z_wat (q := 96) (j := 19) zwX8_takeJoin_96 rfl) (z_wat (q := 96) (j := 20) zwX8_takeJoin_96 rfl) (z_wat (q := 96) (j := 21) zwX8_takeJoin_96 rfl) rfl
theorem dX8_takeJoin_118 : decode cX8_takeJoin 118 = .ok (.iconst 1, 1) := z_o4 (z_wat (q := 96) (j := 22) zwX8_takeJoin_96 rfl)
theorem dX8_takeJoin_119 : decode cX8_takeJoin 119 = .ok (.ireturn, 1) := z_o172 (z_wat (q := 96) (j := 23) zwX8_takeJoin_96 rfl)
theorem zwX8_takeName_0 : ((cX8_takeName.data.toList.drop 0).take 34).map UInt8.toNat = [42, 180, 0, 42, 18, 95, 182, 0, 63, 61, 28, 2, 160, 0, 12, 42, 180, 0, 42, 4, 182, 0, 67, 172, 42, 182, 0, 133, 154, 0, 5, 3, 172, 42] := by decide +kernel
theorem dX8_takeName_0 : decode cX8_takeName 0 = .ok (.aload_n 0, 1) := z_o42 (z_wat (q := 0) (j := 0) zwX8_takeName_0 rfl)
theorem dX8_takeName_1 : decode cX8_takeName 1 = .ok (.getfield 42, 3) := z_o180 (z_wat (q := 0) (j := 1) zwX8_takeName_0 rfl) (z_wat (q := 0) (j := 2) zwX8_takeName_0 rfl) (z_wat (q := 0) (j := 3) zwX8_takeName_0 rfl) rfl
theorem dX8_takeName_4 : decode cX8_takeName 4 = .ok (.ldc 95, 2) := z_o18 (z_wat (q := 0) (j := 4) zwX8_takeName_0 rfl) (z_wat (q := 0) (j := 5) zwX8_takeName_0 rfl)
theorem dX8_takeName_6 : decode cX8_takeName 6 = .ok (.invokevirtual 63, 3) := z_o182 (z_wat (q := 0) (j := 6) zwX8_takeName_0 rfl) (z_wat (q := 0) (j := 7) zwX8_takeName_0 rfl) (z_wat (q := 0) (j := 8) zwX8_takeName_0 rfl) rfl
theorem dX8_takeName_9 : decode cX8_takeName 9 = .ok (.istore_n 2, 1) := z_o61 (z_wat (q := 0) (j := 9) zwX8_takeName_0 rfl)
theorem dX8_takeName_10 : decode cX8_takeName 10 = .ok (.iload_n 2, 1) := z_o28 (z_wat (q := 0) (j := 10) zwX8_takeName_0 rfl)
theorem dX8_takeName_11 : decode cX8_takeName 11 = .ok (.iconst (-1), 1) := z_o2 (z_wat (q := 0) (j := 11) zwX8_takeName_0 rfl)
theorem dX8_takeName_12 : decode cX8_takeName 12 = .ok (.if_icmp .ne 12, 3) := z_o160 (z_wat (q := 0) (j := 12) zwX8_takeName_0 rfl) (z_wat (q := 0) (j := 13) zwX8_takeName_0 rfl) (z_wat (q := 0) (j := 14) zwX8_takeName_0 rfl) rfl
theorem dX8_takeName_15 : decode cX8_takeName 15 = .ok (.aload_n 0, 1) := z_o42 (z_wat (q := 0) (j := 15) zwX8_takeName_0 rfl)
theorem dX8_takeName_16 : decode cX8_takeName 16 = .ok (.getfield 42, 3) := z_o180 (z_wat (q := 0) (j := 16) zwX8_takeName_0 rfl) (z_wat (q := 0) (j := 17) zwX8_takeName_0 rfl) (z_wat (q := 0) (j := 18) zwX8_takeName_0 rfl) rfl
theorem dX8_takeName_19 : decode cX8_takeName 19 = .ok (.iconst 1, 1) := z_o4 (z_wat (q := 0) (j := 19) zwX8_takeName_0 rfl)
theorem dX8_takeName_20 : decode cX8_takeName 20 = .ok (.invokevirtual 67, 3) := z_o182 (z_wat (q := 0) (j := 20) zwX8_takeName_0 rfl) (z_wat (q := 0) (j := 21) zwX8_takeName_0 rfl) (z_wat (q := 0) (j := 22) zwX8_takeName_0 rfl) rfl
theorem dX8_takeName_23 : decode cX8_takeName 23 = .ok (.ireturn, 1) := z_o172 (z_wat (q := 0) (j := 23) zwX8_takeName_0 rfl)
theorem dX8_takeName_24 : decode cX8_takeName 24 = .ok (.aload_n 0, 1) := z_o42 (z_wat (q := 0) (j := 24) zwX8_takeName_0 rfl)
theorem dX8_takeName_25 : decode cX8_takeName 25 = .ok (.invokevirtual 133, 3) := z_o182 (z_wat (q := 0) (j := 25) zwX8_takeName_0 rfl) (z_wat (q := 0) (j := 26) zwX8_takeName_0 rfl) (z_wat (q := 0) (j := 27) zwX8_takeName_0 rfl) rfl
theorem dX8_takeName_28 : decode cX8_takeName 28 = .ok (.ifCond .ne 5, 3) := z_o154 (z_wat (q := 0) (j := 28) zwX8_takeName_0 rfl) (z_wat (q := 0) (j := 29) zwX8_takeName_0 rfl) (z_wat (q := 0) (j := 30) zwX8_takeName_0 rfl) rfl
theorem dX8_takeName_31 : decode cX8_takeName 31 = .ok (.iconst 0, 1) := z_o3 (z_wat (q := 0) (j := 31) zwX8_takeName_0 rfl)
theorem zwX8_takeName_32 : ((cX8_takeName.data.toList.drop 32).take 17).map UInt8.toNat = [172, 42, 180, 0, 35, 27, 28, 182, 0, 146, 42, 3, 181, 0, 30, 4, 172] := by decide +kernel
theorem dX8_takeName_32 : decode cX8_takeName 32 = .ok (.ireturn, 1) := z_o172 (z_wat (q := 32) (j := 0) zwX8_takeName_32 rfl)
theorem dX8_takeName_33 : decode cX8_takeName 33 = .ok (.aload_n 0, 1) := z_o42 (z_wat (q := 32) (j := 1) zwX8_takeName_32 rfl)
theorem dX8_takeName_34 : decode cX8_takeName 34 = .ok (.getfield 35, 3) := z_o180 (z_wat (q := 32) (j := 2) zwX8_takeName_32 rfl) (z_wat (q := 32) (j := 3) zwX8_takeName_32 rfl) (z_wat (q := 32) (j := 4) zwX8_takeName_32 rfl) rfl
theorem dX8_takeName_37 : decode cX8_takeName 37 = .ok (.iload_n 1, 1) := z_o27 (z_wat (q := 32) (j := 5) zwX8_takeName_32 rfl)
theorem dX8_takeName_38 : decode cX8_takeName 38 = .ok (.iload_n 2, 1) := z_o28 (z_wat (q := 32) (j := 6) zwX8_takeName_32 rfl)
theorem dX8_takeName_39 : decode cX8_takeName 39 = .ok (.invokevirtual 146, 3) := z_o182 (z_wat (q := 32) (j := 7) zwX8_takeName_32 rfl) (z_wat (q := 32) (j := 8) zwX8_takeName_32 rfl) (z_wat (q := 32) (j := 9) zwX8_takeName_32 rfl) rfl
theorem dX8_takeName_42 : decode cX8_takeName 42 = .ok (.aload_n 0, 1) := z_o42 (z_wat (q := 32) (j := 10) zwX8_takeName_32 rfl)
theorem dX8_takeName_43 : decode cX8_takeName 43 = .ok (.iconst 0, 1) := z_o3 (z_wat (q := 32) (j := 11) zwX8_takeName_32 rfl)
theorem dX8_takeName_44 : decode cX8_takeName 44 = .ok (.putfield 30, 3) := z_o181 (z_wat (q := 32) (j := 12) zwX8_takeName_32 rfl) (z_wat (q := 32) (j := 13) zwX8_takeName_32 rfl) (z_wat (q := 32) (j := 14) zwX8_takeName_32 rfl) rfl
theorem dX8_takeName_47 : decode cX8_takeName 47 = .ok (.iconst 1, 1) := z_o4 (z_wat (q := 32) (j := 15) zwX8_takeName_32 rfl)
theorem dX8_takeName_48 : decode cX8_takeName 48 = .ok (.ireturn, 1) := z_o172 (z_wat (q := 32) (j := 16) zwX8_takeName_32 rfl)
theorem zwX8_takeNot_0 : ((cX8_takeNot.data.toList.drop 0).take 34).map UInt8.toNat = [42, 182, 0, 150, 184, 0, 103, 16, 30, 184, 0, 103, 164, 0, 12, 42, 180, 0, 42, 4, 182, 0, 67, 172, 42, 182, 0, 133, 154, 0, 5, 3, 172, 42] := by decide +kernel
theorem dX8_takeNot_0 : decode cX8_takeNot 0 = .ok (.aload_n 0, 1) := z_o42 (z_wat (q := 0) (j := 0) zwX8_takeNot_0 rfl)
theorem dX8_takeNot_1 : decode cX8_takeNot 1 = .ok (.invokevirtual 150, 3) := z_o182 (z_wat (q := 0) (j := 1) zwX8_takeNot_0 rfl) (z_wat (q := 0) (j := 2) zwX8_takeNot_0 rfl) (z_wat (q := 0) (j := 3) zwX8_takeNot_0 rfl) rfl
theorem dX8_takeNot_4 : decode cX8_takeNot 4 = .ok (.invokestatic 103, 3) := z_o184 (z_wat (q := 0) (j := 4) zwX8_takeNot_0 rfl) (z_wat (q := 0) (j := 5) zwX8_takeNot_0 rfl) (z_wat (q := 0) (j := 6) zwX8_takeNot_0 rfl) rfl
theorem dX8_takeNot_7 : decode cX8_takeNot 7 = .ok (.bipush 30, 2) := z_o16 (z_wat (q := 0) (j := 7) zwX8_takeNot_0 rfl) (z_wat (q := 0) (j := 8) zwX8_takeNot_0 rfl) rfl
theorem dX8_takeNot_9 : decode cX8_takeNot 9 = .ok (.invokestatic 103, 3) := z_o184 (z_wat (q := 0) (j := 9) zwX8_takeNot_0 rfl) (z_wat (q := 0) (j := 10) zwX8_takeNot_0 rfl) (z_wat (q := 0) (j := 11) zwX8_takeNot_0 rfl) rfl
theorem dX8_takeNot_12 : decode cX8_takeNot 12 = .ok (.if_icmp .le 12, 3) := z_o164 (z_wat (q := 0) (j := 12) zwX8_takeNot_0 rfl) (z_wat (q := 0) (j := 13) zwX8_takeNot_0 rfl) (z_wat (q := 0) (j := 14) zwX8_takeNot_0 rfl) rfl
theorem dX8_takeNot_15 : decode cX8_takeNot 15 = .ok (.aload_n 0, 1) := z_o42 (z_wat (q := 0) (j := 15) zwX8_takeNot_0 rfl)
theorem dX8_takeNot_16 : decode cX8_takeNot 16 = .ok (.getfield 42, 3) := z_o180 (z_wat (q := 0) (j := 16) zwX8_takeNot_0 rfl) (z_wat (q := 0) (j := 17) zwX8_takeNot_0 rfl) (z_wat (q := 0) (j := 18) zwX8_takeNot_0 rfl) rfl
theorem dX8_takeNot_19 : decode cX8_takeNot 19 = .ok (.iconst 1, 1) := z_o4 (z_wat (q := 0) (j := 19) zwX8_takeNot_0 rfl)
theorem dX8_takeNot_20 : decode cX8_takeNot 20 = .ok (.invokevirtual 67, 3) := z_o182 (z_wat (q := 0) (j := 20) zwX8_takeNot_0 rfl) (z_wat (q := 0) (j := 21) zwX8_takeNot_0 rfl) (z_wat (q := 0) (j := 22) zwX8_takeNot_0 rfl) rfl
theorem dX8_takeNot_23 : decode cX8_takeNot 23 = .ok (.ireturn, 1) := z_o172 (z_wat (q := 0) (j := 23) zwX8_takeNot_0 rfl)
theorem dX8_takeNot_24 : decode cX8_takeNot 24 = .ok (.aload_n 0, 1) := z_o42 (z_wat (q := 0) (j := 24) zwX8_takeNot_0 rfl)
theorem dX8_takeNot_25 : decode cX8_takeNot 25 = .ok (.invokevirtual 133, 3) := z_o182 (z_wat (q := 0) (j := 25) zwX8_takeNot_0 rfl) (z_wat (q := 0) (j := 26) zwX8_takeNot_0 rfl) (z_wat (q := 0) (j := 27) zwX8_takeNot_0 rfl) rfl
theorem dX8_takeNot_28 : decode cX8_takeNot 28 = .ok (.ifCond .ne 5, 3) := z_o154 (z_wat (q := 0) (j := 28) zwX8_takeNot_0 rfl) (z_wat (q := 0) (j := 29) zwX8_takeNot_0 rfl) (z_wat (q := 0) (j := 30) zwX8_takeNot_0 rfl) rfl
theorem dX8_takeNot_31 : decode cX8_takeNot 31 = .ok (.iconst 0, 1) := z_o3 (z_wat (q := 0) (j := 31) zwX8_takeNot_0 rfl)
theorem zwX8_takeNot_32 : ((cX8_takeNot.data.toList.drop 32).take 9).map UInt8.toNat = [172, 42, 16, 30, 182, 0, 139, 4, 172] := by decide +kernel
theorem dX8_takeNot_32 : decode cX8_takeNot 32 = .ok (.ireturn, 1) := z_o172 (z_wat (q := 32) (j := 0) zwX8_takeNot_32 rfl)
theorem dX8_takeNot_33 : decode cX8_takeNot 33 = .ok (.aload_n 0, 1) := z_o42 (z_wat (q := 32) (j := 1) zwX8_takeNot_32 rfl)
theorem dX8_takeNot_34 : decode cX8_takeNot 34 = .ok (.bipush 30, 2) := z_o16 (z_wat (q := 32) (j := 2) zwX8_takeNot_32 rfl) (z_wat (q := 32) (j := 3) zwX8_takeNot_32 rfl) rfl
theorem dX8_takeNot_36 : decode cX8_takeNot 36 = .ok (.invokevirtual 139, 3) := z_o182 (z_wat (q := 32) (j := 4) zwX8_takeNot_32 rfl) (z_wat (q := 32) (j := 5) zwX8_takeNot_32 rfl) (z_wat (q := 32) (j := 6) zwX8_takeNot_32 rfl) rfl
theorem dX8_takeNot_39 : decode cX8_takeNot 39 = .ok (.iconst 1, 1) := z_o4 (z_wat (q := 32) (j := 7) zwX8_takeNot_32 rfl)
theorem dX8_takeNot_40 : decode cX8_takeNot 40 = .ok (.ireturn, 1) := z_o172 (z_wat (q := 32) (j := 8) zwX8_takeNot_32 rfl)
theorem zwX8_takeNumber_0 : ((cX8_takeNumber.data.toList.drop 0).take 34).map UInt8.toNat = [42, 180, 0, 42, 42, 180, 0, 42, 180, 0, 92, 182, 0, 142, 60, 27, 18, 145, 164, 0, 12, 42, 180, 0, 42, 5, 182, 0, 67, 172, 42, 182, 0, 133] := by decide +kernel
theorem dX8_takeNumber_0 : decode cX8_takeNumber 0 = .ok (.aload_n 0, 1) := z_o42 (z_wat (q := 0) (j := 0) zwX8_takeNumber_0 rfl)
theorem dX8_takeNumber_1 : decode cX8_takeNumber 1 = .ok (.getfield 42, 3) := z_o180 (z_wat (q := 0) (j := 1) zwX8_takeNumber_0 rfl) (z_wat (q := 0) (j := 2) zwX8_takeNumber_0 rfl) (z_wat (q := 0) (j := 3) zwX8_takeNumber_0 rfl) rfl
theorem dX8_takeNumber_4 : decode cX8_takeNumber 4 = .ok (.aload_n 0, 1) := z_o42 (z_wat (q := 0) (j := 4) zwX8_takeNumber_0 rfl)
theorem dX8_takeNumber_5 : decode cX8_takeNumber 5 = .ok (.getfield 42, 3) := z_o180 (z_wat (q := 0) (j := 5) zwX8_takeNumber_0 rfl) (z_wat (q := 0) (j := 6) zwX8_takeNumber_0 rfl) (z_wat (q := 0) (j := 7) zwX8_takeNumber_0 rfl) rfl
theorem dX8_takeNumber_8 : decode cX8_takeNumber 8 = .ok (.getfield 92, 3) := z_o180 (z_wat (q := 0) (j := 8) zwX8_takeNumber_0 rfl) (z_wat (q := 0) (j := 9) zwX8_takeNumber_0 rfl) (z_wat (q := 0) (j := 10) zwX8_takeNumber_0 rfl) rfl
theorem dX8_takeNumber_11 : decode cX8_takeNumber 11 = .ok (.invokevirtual 142, 3) := z_o182 (z_wat (q := 0) (j := 11) zwX8_takeNumber_0 rfl) (z_wat (q := 0) (j := 12) zwX8_takeNumber_0 rfl) (z_wat (q := 0) (j := 13) zwX8_takeNumber_0 rfl) rfl
theorem dX8_takeNumber_14 : decode cX8_takeNumber 14 = .ok (.istore_n 1, 1) := z_o60 (z_wat (q := 0) (j := 14) zwX8_takeNumber_0 rfl)
theorem dX8_takeNumber_15 : decode cX8_takeNumber 15 = .ok (.iload_n 1, 1) := z_o27 (z_wat (q := 0) (j := 15) zwX8_takeNumber_0 rfl)
theorem dX8_takeNumber_16 : decode cX8_takeNumber 16 = .ok (.ldc 145, 2) := z_o18 (z_wat (q := 0) (j := 16) zwX8_takeNumber_0 rfl) (z_wat (q := 0) (j := 17) zwX8_takeNumber_0 rfl)
theorem dX8_takeNumber_18 : decode cX8_takeNumber 18 = .ok (.if_icmp .le 12, 3) := z_o164 (z_wat (q := 0) (j := 18) zwX8_takeNumber_0 rfl) (z_wat (q := 0) (j := 19) zwX8_takeNumber_0 rfl) (z_wat (q := 0) (j := 20) zwX8_takeNumber_0 rfl) rfl
theorem dX8_takeNumber_21 : decode cX8_takeNumber 21 = .ok (.aload_n 0, 1) := z_o42 (z_wat (q := 0) (j := 21) zwX8_takeNumber_0 rfl)
theorem dX8_takeNumber_22 : decode cX8_takeNumber 22 = .ok (.getfield 42, 3) := z_o180 (z_wat (q := 0) (j := 22) zwX8_takeNumber_0 rfl) (z_wat (q := 0) (j := 23) zwX8_takeNumber_0 rfl) (z_wat (q := 0) (j := 24) zwX8_takeNumber_0 rfl) rfl
theorem dX8_takeNumber_25 : decode cX8_takeNumber 25 = .ok (.iconst 2, 1) := z_o5 (z_wat (q := 0) (j := 25) zwX8_takeNumber_0 rfl)
theorem dX8_takeNumber_26 : decode cX8_takeNumber 26 = .ok (.invokevirtual 67, 3) := z_o182 (z_wat (q := 0) (j := 26) zwX8_takeNumber_0 rfl) (z_wat (q := 0) (j := 27) zwX8_takeNumber_0 rfl) (z_wat (q := 0) (j := 28) zwX8_takeNumber_0 rfl) rfl
theorem dX8_takeNumber_29 : decode cX8_takeNumber 29 = .ok (.ireturn, 1) := z_o172 (z_wat (q := 0) (j := 29) zwX8_takeNumber_0 rfl)
theorem dX8_takeNumber_30 : decode cX8_takeNumber 30 = .ok (.aload_n 0, 1) := z_o42 (z_wat (q := 0) (j := 30) zwX8_takeNumber_0 rfl)
theorem dX8_takeNumber_31 : decode cX8_takeNumber 31 = .ok (.invokevirtual 133, 3) := z_o182 (z_wat (q := 0) (j := 31) zwX8_takeNumber_0 rfl) (z_wat (q := 0) (j := 32) zwX8_takeNumber_0 rfl) (z_wat (q := 0) (j := 33) zwX8_takeNumber_0 rfl) rfl
theorem zwX8_takeNumber_32 : ((cX8_takeNumber.data.toList.drop 32).take 23).map UInt8.toNat = [0, 133, 154, 0, 5, 3, 172, 42, 180, 0, 35, 4, 27, 182, 0, 146, 42, 3, 181, 0, 30, 4, 172] := by decide +kernel
theorem dX8_takeNumber_34 : decode cX8_takeNumber 34 = .ok (.ifCond .ne 5, 3) := z_o154 (z_wat (q := 32) (j := 2) zwX8_takeNumber_32 rfl) (z_wat (q := 32) (j := 3) zwX8_takeNumber_32 rfl) (z_wat (q := 32) (j := 4) zwX8_takeNumber_32 rfl) rfl
theorem dX8_takeNumber_37 : decode cX8_takeNumber 37 = .ok (.iconst 0, 1) := z_o3 (z_wat (q := 32) (j := 5) zwX8_takeNumber_32 rfl)
theorem dX8_takeNumber_38 : decode cX8_takeNumber 38 = .ok (.ireturn, 1) := z_o172 (z_wat (q := 32) (j := 6) zwX8_takeNumber_32 rfl)
theorem dX8_takeNumber_39 : decode cX8_takeNumber 39 = .ok (.aload_n 0, 1) := z_o42 (z_wat (q := 32) (j := 7) zwX8_takeNumber_32 rfl)
theorem dX8_takeNumber_40 : decode cX8_takeNumber 40 = .ok (.getfield 35, 3) := z_o180 (z_wat (q := 32) (j := 8) zwX8_takeNumber_32 rfl) (z_wat (q := 32) (j := 9) zwX8_takeNumber_32 rfl) (z_wat (q := 32) (j := 10) zwX8_takeNumber_32 rfl) rfl
theorem dX8_takeNumber_43 : decode cX8_takeNumber 43 = .ok (.iconst 1, 1) := z_o4 (z_wat (q := 32) (j := 11) zwX8_takeNumber_32 rfl)
theorem dX8_takeNumber_44 : decode cX8_takeNumber 44 = .ok (.iload_n 1, 1) := z_o27 (z_wat (q := 32) (j := 12) zwX8_takeNumber_32 rfl)
theorem dX8_takeNumber_45 : decode cX8_takeNumber 45 = .ok (.invokevirtual 146, 3) := z_o182 (z_wat (q := 32) (j := 13) zwX8_takeNumber_32 rfl) (z_wat (q := 32) (j := 14) zwX8_takeNumber_32 rfl) (z_wat (q := 32) (j := 15) zwX8_takeNumber_32 rfl) rfl
theorem dX8_takeNumber_48 : decode cX8_takeNumber 48 = .ok (.aload_n 0, 1) := z_o42 (z_wat (q := 32) (j := 16) zwX8_takeNumber_32 rfl)
theorem dX8_takeNumber_49 : decode cX8_takeNumber 49 = .ok (.iconst 0, 1) := z_o3 (z_wat (q := 32) (j := 17) zwX8_takeNumber_32 rfl)
theorem dX8_takeNumber_50 : decode cX8_takeNumber 50 = .ok (.putfield 30, 3) := z_o181 (z_wat (q := 32) (j := 18) zwX8_takeNumber_32 rfl) (z_wat (q := 32) (j := 19) zwX8_takeNumber_32 rfl) (z_wat (q := 32) (j := 20) zwX8_takeNumber_32 rfl) rfl
theorem dX8_takeNumber_53 : decode cX8_takeNumber 53 = .ok (.iconst 1, 1) := z_o4 (z_wat (q := 32) (j := 21) zwX8_takeNumber_32 rfl)
theorem dX8_takeNumber_54 : decode cX8_takeNumber 54 = .ok (.ireturn, 1) := z_o172 (z_wat (q := 32) (j := 22) zwX8_takeNumber_32 rfl)
theorem zwX8_takeOpen_0 : ((cX8_takeOpen.data.toList.drop 0).take 34).map UInt8.toNat = [42, 180, 0, 27, 16, 8, 161, 0, 12, 42, 180, 0, 42, 5, 182, 0, 67, 172, 42, 89, 180, 0, 27, 4, 96, 181, 0, 27, 42, 3, 182, 0, 139, 4] := by decide +kernel
theorem dX8_takeOpen_0 : decode cX8_takeOpen 0 = .ok (.aload_n 0, 1) := z_o42 (z_wat (q := 0) (j := 0) zwX8_takeOpen_0 rfl)
theorem dX8_takeOpen_1 : decode cX8_takeOpen 1 = .ok (.getfield 27, 3) := z_o180 (z_wat (q := 0) (j := 1) zwX8_takeOpen_0 rfl) (z_wat (q := 0) (j := 2) zwX8_takeOpen_0 rfl) (z_wat (q := 0) (j := 3) zwX8_takeOpen_0 rfl) rfl
theorem dX8_takeOpen_4 : decode cX8_takeOpen 4 = .ok (.bipush 8, 2) := z_o16 (z_wat (q := 0) (j := 4) zwX8_takeOpen_0 rfl) (z_wat (q := 0) (j := 5) zwX8_takeOpen_0 rfl) rfl
theorem dX8_takeOpen_6 : decode cX8_takeOpen 6 = .ok (.if_icmp .lt 12, 3) := z_o161 (z_wat (q := 0) (j := 6) zwX8_takeOpen_0 rfl) (z_wat (q := 0) (j := 7) zwX8_takeOpen_0 rfl) (z_wat (q := 0) (j := 8) zwX8_takeOpen_0 rfl) rfl
theorem dX8_takeOpen_9 : decode cX8_takeOpen 9 = .ok (.aload_n 0, 1) := z_o42 (z_wat (q := 0) (j := 9) zwX8_takeOpen_0 rfl)
theorem dX8_takeOpen_10 : decode cX8_takeOpen 10 = .ok (.getfield 42, 3) := z_o180 (z_wat (q := 0) (j := 10) zwX8_takeOpen_0 rfl) (z_wat (q := 0) (j := 11) zwX8_takeOpen_0 rfl) (z_wat (q := 0) (j := 12) zwX8_takeOpen_0 rfl) rfl
theorem dX8_takeOpen_13 : decode cX8_takeOpen 13 = .ok (.iconst 2, 1) := z_o5 (z_wat (q := 0) (j := 13) zwX8_takeOpen_0 rfl)
theorem dX8_takeOpen_14 : decode cX8_takeOpen 14 = .ok (.invokevirtual 67, 3) := z_o182 (z_wat (q := 0) (j := 14) zwX8_takeOpen_0 rfl) (z_wat (q := 0) (j := 15) zwX8_takeOpen_0 rfl) (z_wat (q := 0) (j := 16) zwX8_takeOpen_0 rfl) rfl
theorem dX8_takeOpen_17 : decode cX8_takeOpen 17 = .ok (.ireturn, 1) := z_o172 (z_wat (q := 0) (j := 17) zwX8_takeOpen_0 rfl)
theorem dX8_takeOpen_18 : decode cX8_takeOpen 18 = .ok (.aload_n 0, 1) := z_o42 (z_wat (q := 0) (j := 18) zwX8_takeOpen_0 rfl)
theorem dX8_takeOpen_19 : decode cX8_takeOpen 19 = .ok (.dup, 1) := z_o89 (z_wat (q := 0) (j := 19) zwX8_takeOpen_0 rfl)
theorem dX8_takeOpen_20 : decode cX8_takeOpen 20 = .ok (.getfield 27, 3) := z_o180 (z_wat (q := 0) (j := 20) zwX8_takeOpen_0 rfl) (z_wat (q := 0) (j := 21) zwX8_takeOpen_0 rfl) (z_wat (q := 0) (j := 22) zwX8_takeOpen_0 rfl) rfl
theorem dX8_takeOpen_23 : decode cX8_takeOpen 23 = .ok (.iconst 1, 1) := z_o4 (z_wat (q := 0) (j := 23) zwX8_takeOpen_0 rfl)
theorem dX8_takeOpen_24 : decode cX8_takeOpen 24 = .ok (.iadd, 1) := z_o96 (z_wat (q := 0) (j := 24) zwX8_takeOpen_0 rfl)
theorem dX8_takeOpen_25 : decode cX8_takeOpen 25 = .ok (.putfield 27, 3) := z_o181 (z_wat (q := 0) (j := 25) zwX8_takeOpen_0 rfl) (z_wat (q := 0) (j := 26) zwX8_takeOpen_0 rfl) (z_wat (q := 0) (j := 27) zwX8_takeOpen_0 rfl) rfl
theorem dX8_takeOpen_28 : decode cX8_takeOpen 28 = .ok (.aload_n 0, 1) := z_o42 (z_wat (q := 0) (j := 28) zwX8_takeOpen_0 rfl)
theorem dX8_takeOpen_29 : decode cX8_takeOpen 29 = .ok (.iconst 0, 1) := z_o3 (z_wat (q := 0) (j := 29) zwX8_takeOpen_0 rfl)
theorem dX8_takeOpen_30 : decode cX8_takeOpen 30 = .ok (.invokevirtual 139, 3) := z_o182 (z_wat (q := 0) (j := 30) zwX8_takeOpen_0 rfl) (z_wat (q := 0) (j := 31) zwX8_takeOpen_0 rfl) (z_wat (q := 0) (j := 32) zwX8_takeOpen_0 rfl) rfl
theorem zwX8_takeOpen_32 : ((cX8_takeOpen.data.toList.drop 32).take 3).map UInt8.toNat = [139, 4, 172] := by decide +kernel
theorem dX8_takeOpen_33 : decode cX8_takeOpen 33 = .ok (.iconst 1, 1) := z_o4 (z_wat (q := 32) (j := 1) zwX8_takeOpen_32 rfl)
theorem dX8_takeOpen_34 : decode cX8_takeOpen 34 = .ok (.ireturn, 1) := z_o172 (z_wat (q := 32) (j := 2) zwX8_takeOpen_32 rfl)
theorem zwX8_takePart_0 : ((cX8_takePart.data.toList.drop 0).take 34).map UInt8.toNat = [42, 180, 0, 42, 180, 0, 80, 16, 40, 160, 0, 8, 42, 182, 0, 117, 172, 42, 180, 0, 42, 180, 0, 54, 5, 160, 0, 8, 42, 182, 0, 120, 172, 42] := by decide +kernel
theorem dX8_takePart_0 : decode cX8_takePart 0 = .ok (.aload_n 0, 1) := z_o42 (z_wat (q := 0) (j := 0) zwX8_takePart_0 rfl)
theorem dX8_takePart_1 : decode cX8_takePart 1 = .ok (.getfield 42, 3) := z_o180 (z_wat (q := 0) (j := 1) zwX8_takePart_0 rfl) (z_wat (q := 0) (j := 2) zwX8_takePart_0 rfl) (z_wat (q := 0) (j := 3) zwX8_takePart_0 rfl) rfl
theorem dX8_takePart_4 : decode cX8_takePart 4 = .ok (.getfield 80, 3) := z_o180 (z_wat (q := 0) (j := 4) zwX8_takePart_0 rfl) (z_wat (q := 0) (j := 5) zwX8_takePart_0 rfl) (z_wat (q := 0) (j := 6) zwX8_takePart_0 rfl) rfl
theorem dX8_takePart_7 : decode cX8_takePart 7 = .ok (.bipush 40, 2) := z_o16 (z_wat (q := 0) (j := 7) zwX8_takePart_0 rfl) (z_wat (q := 0) (j := 8) zwX8_takePart_0 rfl) rfl
theorem dX8_takePart_9 : decode cX8_takePart 9 = .ok (.if_icmp .ne 8, 3) := z_o160 (z_wat (q := 0) (j := 9) zwX8_takePart_0 rfl) (z_wat (q := 0) (j := 10) zwX8_takePart_0 rfl) (z_wat (q := 0) (j := 11) zwX8_takePart_0 rfl) rfl
theorem dX8_takePart_12 : decode cX8_takePart 12 = .ok (.aload_n 0, 1) := z_o42 (z_wat (q := 0) (j := 12) zwX8_takePart_0 rfl)
theorem dX8_takePart_13 : decode cX8_takePart 13 = .ok (.invokevirtual 117, 3) := z_o182 (z_wat (q := 0) (j := 13) zwX8_takePart_0 rfl) (z_wat (q := 0) (j := 14) zwX8_takePart_0 rfl) (z_wat (q := 0) (j := 15) zwX8_takePart_0 rfl) rfl
theorem dX8_takePart_16 : decode cX8_takePart 16 = .ok (.ireturn, 1) := z_o172 (z_wat (q := 0) (j := 16) zwX8_takePart_0 rfl)
theorem dX8_takePart_17 : decode cX8_takePart 17 = .ok (.aload_n 0, 1) := z_o42 (z_wat (q := 0) (j := 17) zwX8_takePart_0 rfl)
theorem dX8_takePart_18 : decode cX8_takePart 18 = .ok (.getfield 42, 3) := z_o180 (z_wat (q := 0) (j := 18) zwX8_takePart_0 rfl) (z_wat (q := 0) (j := 19) zwX8_takePart_0 rfl) (z_wat (q := 0) (j := 20) zwX8_takePart_0 rfl) rfl
theorem dX8_takePart_21 : decode cX8_takePart 21 = .ok (.getfield 54, 3) := z_o180 (z_wat (q := 0) (j := 21) zwX8_takePart_0 rfl) (z_wat (q := 0) (j := 22) zwX8_takePart_0 rfl) (z_wat (q := 0) (j := 23) zwX8_takePart_0 rfl) rfl
theorem dX8_takePart_24 : decode cX8_takePart 24 = .ok (.iconst 2, 1) := z_o5 (z_wat (q := 0) (j := 24) zwX8_takePart_0 rfl)
theorem dX8_takePart_25 : decode cX8_takePart 25 = .ok (.if_icmp .ne 8, 3) := z_o160 (z_wat (q := 0) (j := 25) zwX8_takePart_0 rfl) (z_wat (q := 0) (j := 26) zwX8_takePart_0 rfl) (z_wat (q := 0) (j := 27) zwX8_takePart_0 rfl) rfl
theorem dX8_takePart_28 : decode cX8_takePart 28 = .ok (.aload_n 0, 1) := z_o42 (z_wat (q := 0) (j := 28) zwX8_takePart_0 rfl)
theorem dX8_takePart_29 : decode cX8_takePart 29 = .ok (.invokevirtual 120, 3) := z_o182 (z_wat (q := 0) (j := 29) zwX8_takePart_0 rfl) (z_wat (q := 0) (j := 30) zwX8_takePart_0 rfl) (z_wat (q := 0) (j := 31) zwX8_takePart_0 rfl) rfl
theorem zwX8_takePart_32 : ((cX8_takePart.data.toList.drop 32).take 34).map UInt8.toNat = [172, 42, 180, 0, 42, 18, 123, 182, 0, 63, 2, 159, 0, 8, 42, 182, 0, 125, 172, 42, 180, 0, 42, 18, 128, 182, 0, 63, 2, 160, 0, 9, 42, 5] := by decide +kernel
theorem dX8_takePart_32 : decode cX8_takePart 32 = .ok (.ireturn, 1) := z_o172 (z_wat (q := 32) (j := 0) zwX8_takePart_32 rfl)
theorem dX8_takePart_33 : decode cX8_takePart 33 = .ok (.aload_n 0, 1) := z_o42 (z_wat (q := 32) (j := 1) zwX8_takePart_32 rfl)
theorem dX8_takePart_34 : decode cX8_takePart 34 = .ok (.getfield 42, 3) := z_o180 (z_wat (q := 32) (j := 2) zwX8_takePart_32 rfl) (z_wat (q := 32) (j := 3) zwX8_takePart_32 rfl) (z_wat (q := 32) (j := 4) zwX8_takePart_32 rfl) rfl
theorem dX8_takePart_37 : decode cX8_takePart 37 = .ok (.ldc 123, 2) := z_o18 (z_wat (q := 32) (j := 5) zwX8_takePart_32 rfl) (z_wat (q := 32) (j := 6) zwX8_takePart_32 rfl)
theorem dX8_takePart_39 : decode cX8_takePart 39 = .ok (.invokevirtual 63, 3) := z_o182 (z_wat (q := 32) (j := 7) zwX8_takePart_32 rfl) (z_wat (q := 32) (j := 8) zwX8_takePart_32 rfl) (z_wat (q := 32) (j := 9) zwX8_takePart_32 rfl) rfl
theorem dX8_takePart_42 : decode cX8_takePart 42 = .ok (.iconst (-1), 1) := z_o2 (z_wat (q := 32) (j := 10) zwX8_takePart_32 rfl)
theorem dX8_takePart_43 : decode cX8_takePart 43 = .ok (.if_icmp .eq 8, 3) := z_o159 (z_wat (q := 32) (j := 11) zwX8_takePart_32 rfl) (z_wat (q := 32) (j := 12) zwX8_takePart_32 rfl) (z_wat (q := 32) (j := 13) zwX8_takePart_32 rfl) rfl
theorem dX8_takePart_46 : decode cX8_takePart 46 = .ok (.aload_n 0, 1) := z_o42 (z_wat (q := 32) (j := 14) zwX8_takePart_32 rfl)
theorem dX8_takePart_47 : decode cX8_takePart 47 = .ok (.invokevirtual 125, 3) := z_o182 (z_wat (q := 32) (j := 15) zwX8_takePart_32 rfl) (z_wat (q := 32) (j := 16) zwX8_takePart_32 rfl) (z_wat (q := 32) (j := 17) zwX8_takePart_32 rfl) rfl
theorem dX8_takePart_50 : decode cX8_takePart 50 = .ok (.ireturn, 1) := z_o172 (z_wat (q := 32) (j := 18) zwX8_takePart_32 rfl)
theorem dX8_takePart_51 : decode cX8_takePart 51 = .ok (.aload_n 0, 1) := z_o42 (z_wat (q := 32) (j := 19) zwX8_takePart_32 rfl)
theorem dX8_takePart_52 : decode cX8_takePart 52 = .ok (.getfield 42, 3) := z_o180 (z_wat (q := 32) (j := 20) zwX8_takePart_32 rfl) (z_wat (q := 32) (j := 21) zwX8_takePart_32 rfl) (z_wat (q := 32) (j := 22) zwX8_takePart_32 rfl) rfl
theorem dX8_takePart_55 : decode cX8_takePart 55 = .ok (.ldc 128, 2) := z_o18 (z_wat (q := 32) (j := 23) zwX8_takePart_32 rfl) (z_wat (q := 32) (j := 24) zwX8_takePart_32 rfl)
theorem dX8_takePart_57 : decode cX8_takePart 57 = .ok (.invokevirtual 63, 3) := z_o182 (z_wat (q := 32) (j := 25) zwX8_takePart_32 rfl) (z_wat (q := 32) (j := 26) zwX8_takePart_32 rfl) (z_wat (q := 32) (j := 27) zwX8_takePart_32 rfl) rfl
theorem dX8_takePart_60 : decode cX8_takePart 60 = .ok (.iconst (-1), 1) := z_o2 (z_wat (q := 32) (j := 28) zwX8_takePart_32 rfl)
theorem dX8_takePart_61 : decode cX8_takePart 61 = .ok (.if_icmp .ne 9, 3) := z_o160 (z_wat (q := 32) (j := 29) zwX8_takePart_32 rfl) (z_wat (q := 32) (j := 30) zwX8_takePart_32 rfl) (z_wat (q := 32) (j := 31) zwX8_takePart_32 rfl) rfl
theorem zwX8_takePart_64 : ((cX8_takePart.data.toList.drop 64).take 28).map UInt8.toNat = [42, 5, 182, 0, 130, 172, 42, 182, 0, 133, 154, 0, 5, 3, 172, 42, 180, 0, 42, 182, 0, 74, 42, 6, 182, 0, 130, 172] := by decide +kernel
theorem dX8_takePart_64 : decode cX8_takePart 64 = .ok (.aload_n 0, 1) := z_o42 (z_wat (q := 64) (j := 0) zwX8_takePart_64 rfl)
theorem dX8_takePart_65 : decode cX8_takePart 65 = .ok (.iconst 2, 1) := z_o5 (z_wat (q := 64) (j := 1) zwX8_takePart_64 rfl)
theorem dX8_takePart_66 : decode cX8_takePart 66 = .ok (.invokevirtual 130, 3) := z_o182 (z_wat (q := 64) (j := 2) zwX8_takePart_64 rfl) (z_wat (q := 64) (j := 3) zwX8_takePart_64 rfl) (z_wat (q := 64) (j := 4) zwX8_takePart_64 rfl) rfl
theorem dX8_takePart_69 : decode cX8_takePart 69 = .ok (.ireturn, 1) := z_o172 (z_wat (q := 64) (j := 5) zwX8_takePart_64 rfl)
theorem dX8_takePart_70 : decode cX8_takePart 70 = .ok (.aload_n 0, 1) := z_o42 (z_wat (q := 64) (j := 6) zwX8_takePart_64 rfl)
theorem dX8_takePart_71 : decode cX8_takePart 71 = .ok (.invokevirtual 133, 3) := z_o182 (z_wat (q := 64) (j := 7) zwX8_takePart_64 rfl) (z_wat (q := 64) (j := 8) zwX8_takePart_64 rfl) (z_wat (q := 64) (j := 9) zwX8_takePart_64 rfl) rfl
theorem dX8_takePart_74 : decode cX8_takePart 74 = .ok (.ifCond .ne 5, 3) := z_o154 (z_wat (q := 64) (j := 10) zwX8_takePart_64 rfl) (z_wat (q := 64) (j := 11) zwX8_takePart_64 rfl) (z_wat (q := 64) (j := 12) zwX8_takePart_64 rfl) rfl
theorem dX8_takePart_77 : decode cX8_takePart 77 = .ok (.iconst 0, 1) := z_o3 (z_wat (q := 64) (j := 13) zwX8_takePart_64 rfl)
theorem dX8_takePart_78 : decode cX8_takePart 78 = .ok (.ireturn, 1) := z_o172 (z_wat (q := 64) (j := 14) zwX8_takePart_64 rfl)
theorem dX8_takePart_79 : decode cX8_takePart 79 = .ok (.aload_n 0, 1) := z_o42 (z_wat (q := 64) (j := 15) zwX8_takePart_64 rfl)
theorem dX8_takePart_80 : decode cX8_takePart 80 = .ok (.getfield 42, 3) := z_o180 (z_wat (q := 64) (j := 16) zwX8_takePart_64 rfl) (z_wat (q := 64) (j := 17) zwX8_takePart_64 rfl) (z_wat (q := 64) (j := 18) zwX8_takePart_64 rfl) rfl
theorem dX8_takePart_83 : decode cX8_takePart 83 = .ok (.invokevirtual 74, 3) := z_o182 (z_wat (q := 64) (j := 19) zwX8_takePart_64 rfl) (z_wat (q := 64) (j := 20) zwX8_takePart_64 rfl) (z_wat (q := 64) (j := 21) zwX8_takePart_64 rfl) rfl
theorem dX8_takePart_86 : decode cX8_takePart 86 = .ok (.aload_n 0, 1) := z_o42 (z_wat (q := 64) (j := 22) zwX8_takePart_64 rfl)
theorem dX8_takePart_87 : decode cX8_takePart 87 = .ok (.iconst 3, 1) := z_o6 (z_wat (q := 64) (j := 23) zwX8_takePart_64 rfl)
theorem dX8_takePart_88 : decode cX8_takePart 88 = .ok (.invokevirtual 130, 3) := z_o182 (z_wat (q := 64) (j := 24) zwX8_takePart_64 rfl) (z_wat (q := 64) (j := 25) zwX8_takePart_64 rfl) (z_wat (q := 64) (j := 26) zwX8_takePart_64 rfl) rfl
theorem dX8_takePart_91 : decode cX8_takePart 91 = .ok (.ireturn, 1) := z_o172 (z_wat (q := 64) (j := 27) zwX8_takePart_64 rfl)
theorem zwX8_tieKnot_0 : ((cX8_tieKnot.data.toList.drop 0).take 34).map UInt8.toNat = [42, 180, 0, 35, 180, 0, 136, 16, 96, 161, 0, 12, 42, 180, 0, 42, 5, 182, 0, 67, 172, 42, 180, 0, 35, 89, 180, 0, 136, 4, 96, 181, 0, 136] := by decide +kernel
theorem dX8_tieKnot_0 : decode cX8_tieKnot 0 = .ok (.aload_n 0, 1) := z_o42 (z_wat (q := 0) (j := 0) zwX8_tieKnot_0 rfl)
theorem dX8_tieKnot_1 : decode cX8_tieKnot 1 = .ok (.getfield 35, 3) := z_o180 (z_wat (q := 0) (j := 1) zwX8_tieKnot_0 rfl) (z_wat (q := 0) (j := 2) zwX8_tieKnot_0 rfl) (z_wat (q := 0) (j := 3) zwX8_tieKnot_0 rfl) rfl
theorem dX8_tieKnot_4 : decode cX8_tieKnot 4 = .ok (.getfield 136, 3) := z_o180 (z_wat (q := 0) (j := 4) zwX8_tieKnot_0 rfl) (z_wat (q := 0) (j := 5) zwX8_tieKnot_0 rfl) (z_wat (q := 0) (j := 6) zwX8_tieKnot_0 rfl) rfl
theorem dX8_tieKnot_7 : decode cX8_tieKnot 7 = .ok (.bipush 96, 2) := z_o16 (z_wat (q := 0) (j := 7) zwX8_tieKnot_0 rfl) (z_wat (q := 0) (j := 8) zwX8_tieKnot_0 rfl) rfl
theorem dX8_tieKnot_9 : decode cX8_tieKnot 9 = .ok (.if_icmp .lt 12, 3) := z_o161 (z_wat (q := 0) (j := 9) zwX8_tieKnot_0 rfl) (z_wat (q := 0) (j := 10) zwX8_tieKnot_0 rfl) (z_wat (q := 0) (j := 11) zwX8_tieKnot_0 rfl) rfl
theorem dX8_tieKnot_12 : decode cX8_tieKnot 12 = .ok (.aload_n 0, 1) := z_o42 (z_wat (q := 0) (j := 12) zwX8_tieKnot_0 rfl)
theorem dX8_tieKnot_13 : decode cX8_tieKnot 13 = .ok (.getfield 42, 3) := z_o180 (z_wat (q := 0) (j := 13) zwX8_tieKnot_0 rfl) (z_wat (q := 0) (j := 14) zwX8_tieKnot_0 rfl) (z_wat (q := 0) (j := 15) zwX8_tieKnot_0 rfl) rfl
theorem dX8_tieKnot_16 : decode cX8_tieKnot 16 = .ok (.iconst 2, 1) := z_o5 (z_wat (q := 0) (j := 16) zwX8_tieKnot_0 rfl)
theorem dX8_tieKnot_17 : decode cX8_tieKnot 17 = .ok (.invokevirtual 67, 3) := z_o182 (z_wat (q := 0) (j := 17) zwX8_tieKnot_0 rfl) (z_wat (q := 0) (j := 18) zwX8_tieKnot_0 rfl) (z_wat (q := 0) (j := 19) zwX8_tieKnot_0 rfl) rfl
theorem dX8_tieKnot_20 : decode cX8_tieKnot 20 = .ok (.ireturn, 1) := z_o172 (z_wat (q := 0) (j := 20) zwX8_tieKnot_0 rfl)
theorem dX8_tieKnot_21 : decode cX8_tieKnot 21 = .ok (.aload_n 0, 1) := z_o42 (z_wat (q := 0) (j := 21) zwX8_tieKnot_0 rfl)
theorem dX8_tieKnot_22 : decode cX8_tieKnot 22 = .ok (.getfield 35, 3) := z_o180 (z_wat (q := 0) (j := 22) zwX8_tieKnot_0 rfl) (z_wat (q := 0) (j := 23) zwX8_tieKnot_0 rfl) (z_wat (q := 0) (j := 24) zwX8_tieKnot_0 rfl) rfl
theorem dX8_tieKnot_25 : decode cX8_tieKnot 25 = .ok (.dup, 1) := z_o89 (z_wat (q := 0) (j := 25) zwX8_tieKnot_0 rfl)
theorem dX8_tieKnot_26 : decode cX8_tieKnot 26 = .ok (.getfield 136, 3) := z_o180 (z_wat (q := 0) (j := 26) zwX8_tieKnot_0 rfl) (z_wat (q := 0) (j := 27) zwX8_tieKnot_0 rfl) (z_wat (q := 0) (j := 28) zwX8_tieKnot_0 rfl) rfl
theorem dX8_tieKnot_29 : decode cX8_tieKnot 29 = .ok (.iconst 1, 1) := z_o4 (z_wat (q := 0) (j := 29) zwX8_tieKnot_0 rfl)
theorem dX8_tieKnot_30 : decode cX8_tieKnot 30 = .ok (.iadd, 1) := z_o96 (z_wat (q := 0) (j := 30) zwX8_tieKnot_0 rfl)
theorem dX8_tieKnot_31 : decode cX8_tieKnot 31 = .ok (.putfield 136, 3) := z_o181 (z_wat (q := 0) (j := 31) zwX8_tieKnot_0 rfl) (z_wat (q := 0) (j := 32) zwX8_tieKnot_0 rfl) (z_wat (q := 0) (j := 33) zwX8_tieKnot_0 rfl) rfl
theorem zwX8_tieKnot_32 : ((cX8_tieKnot.data.toList.drop 32).take 4).map UInt8.toNat = [0, 136, 4, 172] := by decide +kernel
theorem dX8_tieKnot_34 : decode cX8_tieKnot 34 = .ok (.iconst 1, 1) := z_o4 (z_wat (q := 32) (j := 2) zwX8_tieKnot_32 rfl)
theorem dX8_tieKnot_35 : decode cX8_tieKnot 35 = .ok (.ireturn, 1) := z_o172 (z_wat (q := 32) (j := 3) zwX8_tieKnot_32 rfl)
theorem zwX8_tightness_0 : ((cX8_tightness.data.toList.drop 0).take 5).map UInt8.toNat = [26, 16, 10, 108, 172] := by decide +kernel
theorem dX8_tightness_0 : decode cX8_tightness 0 = .ok (.iload_n 0, 1) := z_o26 (z_wat (q := 0) (j := 0) zwX8_tightness_0 rfl)
theorem dX8_tightness_1 : decode cX8_tightness 1 = .ok (.bipush 10, 2) := z_o16 (z_wat (q := 0) (j := 1) zwX8_tightness_0 rfl) (z_wat (q := 0) (j := 2) zwX8_tightness_0 rfl) rfl
theorem dX8_tightness_3 : decode cX8_tightness 3 = .ok (.idiv, 1) := z_o108 (z_wat (q := 0) (j := 3) zwX8_tightness_0 rfl)
theorem dX8_tightness_4 : decode cX8_tightness 4 = .ok (.ireturn, 1) := z_o172 (z_wat (q := 0) (j := 4) zwX8_tightness_0 rfl)
