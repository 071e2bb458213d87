theorem zwL_count_0 : ((cL_count.data.toList.drop 0).take 17).map UInt8.toNat = [44, 3, 42, 27, 182, 0, 7, 133, 80, 167, 0, 6, 78, 4, 172, 3, 172] := by decide +kernel
theorem dL_count_0 : decode cL_count 0 = .ok (.aload_n 2, 1) := z_o44 (z_wat (q := 0) (j := 0) zwL_count_0 rfl)
theorem dL_count_1 : decode cL_count 1 = .ok (.iconst 0, 1) := z_o3 (z_wat (q := 0) (j := 1) zwL_count_0 rfl)
theorem dL_count_2 : decode cL_count 2 = .ok (.aload_n 0, 1) := z_o42 (z_wat (q := 0) (j := 2) zwL_count_0 rfl)
theorem dL_count_3 : decode cL_count 3 = .ok (.iload_n 1, 1) := z_o27 (z_wat (q := 0) (j := 3) zwL_count_0 rfl)
theorem dL_count_4 : decode cL_count 4 = .ok (.invokevirtual 7, 3) := z_o182 (z_wat (q := 0) (j := 4) zwL_count_0 rfl) (z_wat (q := 0) (j := 5) zwL_count_0 rfl) (z_wat (q := 0) (j := 6) zwL_count_0 rfl) rfl
theorem dL_count_7 : decode cL_count 7 = .ok (.i2l, 1) := z_o133 (z_wat (q := 0) (j := 7) zwL_count_0 rfl)
theorem dL_count_8 : decode cL_count 8 = .ok (.lastore, 1) := z_o80 (z_wat (q := 0) (j := 8) zwL_count_0 rfl)
theorem dL_count_9 : decode cL_count 9 = .ok (.goto 6, 3) := z_o167 (z_wat (q := 0) (j := 9) zwL_count_0 rfl) (z_wat (q := 0) (j := 10) zwL_count_0 rfl) (z_wat (q := 0) (j := 11) zwL_count_0 rfl) rfl
theorem dL_count_15 : decode cL_count 15 = .ok (.iconst 0, 1) := z_o3 (z_wat (q := 0) (j := 15) zwL_count_0 rfl)
theorem dL_count_16 : decode cL_count 16 = .ok (.ireturn, 1) := z_o172 (z_wat (q := 0) (j := 16) zwL_count_0 rfl)
