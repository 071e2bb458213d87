theorem zwX0_init_0 : ((cX0_init.data.toList.drop 0).take 34).map UInt8.toNat = [42, 183, 0, 3, 42, 16, 80, 188, 10, 181, 0, 9, 42, 16, 80, 188, 10, 181, 0, 15, 42, 16, 80, 188, 10, 181, 0, 18, 42, 16, 80, 188, 10, 181] := by decide +kernel
theorem dX0_init_0 : decode cX0_init 0 = .ok (.aload_n 0, 1) := z_o42 (z_wat (q := 0) (j := 0) zwX0_init_0 rfl)
theorem dX0_init_1 : decode cX0_init 1 = .ok (.invokespecial 3, 3) := z_o183 (z_wat (q := 0) (j := 1) zwX0_init_0 rfl) (z_wat (q := 0) (j := 2) zwX0_init_0 rfl) (z_wat (q := 0) (j := 3) zwX0_init_0 rfl) rfl
theorem dX0_init_4 : decode cX0_init 4 = .ok (.aload_n 0, 1) := z_o42 (z_wat (q := 0) (j := 4) zwX0_init_0 rfl)
theorem dX0_init_5 : decode cX0_init 5 = .ok (.bipush 80, 2) := z_o16 (z_wat (q := 0) (j := 5) zwX0_init_0 rfl) (z_wat (q := 0) (j := 6) zwX0_init_0 rfl) rfl
theorem dX0_init_7 : decode cX0_init 7 = .ok (.newarray .int, 2) := z_o188_10 (z_wat (q := 0) (j := 7) zwX0_init_0 rfl) (z_wat (q := 0) (j := 8) zwX0_init_0 rfl)
theorem dX0_init_9 : decode cX0_init 9 = .ok (.putfield 9, 3) := z_o181 (z_wat (q := 0) (j := 9) zwX0_init_0 rfl) (z_wat (q := 0) (j := 10) zwX0_init_0 rfl) (z_wat (q := 0) (j := 11) zwX0_init_0 rfl) rfl
theorem dX0_init_12 : decode cX0_init 12 = .ok (.aload_n 0, 1) := z_o42 (z_wat (q := 0) (j := 12) zwX0_init_0 rfl)
theorem dX0_init_13 : decode cX0_init 13 = .ok (.bipush 80, 2) := z_o16 (z_wat (q := 0) (j := 13) zwX0_init_0 rfl) (z_wat (q := 0) (j := 14) zwX0_init_0 rfl) rfl
theorem dX0_init_15 : decode cX0_init 15 = .ok (.newarray .int, 2) := z_o188_10 (z_wat (q := 0) (j := 15) zwX0_init_0 rfl) (z_wat (q := 0) (j := 16) zwX0_init_0 rfl)
theorem dX0_init_17 : decode cX0_init 17 = .ok (.putfield 15, 3) := z_o181 (z_wat (q := 0) (j := 17) zwX0_init_0 rfl) (z_wat (q := 0) (j := 18) zwX0_init_0 rfl) (z_wat (q := 0) (j := 19) zwX0_init_0 rfl) rfl
theorem dX0_init_20 : decode cX0_init 20 = .ok (.aload_n 0, 1) := z_o42 (z_wat (q := 0) (j := 20) zwX0_init_0 rfl)
theorem dX0_init_21 : decode cX0_init 21 = .ok (.bipush 80, 2) := z_o16 (z_wat (q := 0) (j := 21) zwX0_init_0 rfl) (z_wat (q := 0) (j := 22) zwX0_init_0 rfl) rfl
theorem dX0_init_23 : decode cX0_init 23 = .ok (.newarray .int, 2) := z_o188_10 (z_wat (q := 0) (j := 23) zwX0_init_0 rfl) (z_wat (q := 0) (j := 24) zwX0_init_0 rfl)
theorem dX0_init_25 : decode cX0_init 25 = .ok (.putfield 18, 3) := z_o181 (z_wat (q := 0) (j := 25) zwX0_init_0 rfl) (z_wat (q := 0) (j := 26) zwX0_init_0 rfl) (z_wat (q := 0) (j := 27) zwX0_init_0 rfl) rfl
theorem dX0_init_28 : decode cX0_init 28 = .ok (.aload_n 0, 1) := z_o42 (z_wat (q := 0) (j := 28) zwX0_init_0 rfl)
theorem dX0_init_29 : decode cX0_init 29 = .ok (.bipush 80, 2) := z_o16 (z_wat (q := 0) (j := 29) zwX0_init_0 rfl) (z_wat (q := 0) (j := 30) zwX0_init_0 rfl) rfl
theorem dX0_init_31 : decode cX0_init 31 = .ok (.newarray .int, 2) := z_o188_10 (z_wat (q := 0) (j := 31) zwX0_init_0 rfl) (z_wat (q := 0) (j := 32) zwX0_init_0 rfl)
theorem zwX0_init_32 : ((cX0_init.data.toList.drop 32).take 15).map UInt8.toNat = [10, 181, 0, 21, 42, 3, 181, 0, 24, 42, 3, 181, 0, 28, 177] := by decide +kernel
theorem dX0_init_33 : decode cX0_init 33 = .ok (.putfield 21, 3) := z_o181 (z_wat (q := 32) (j := 1) zwX0_init_32 rfl) (z_wat (q := 32) (j := 2) zwX0_init_32 rfl) (z_wat (q := 32) (j := 3) zwX0_init_32 rfl) rfl
theorem dX0_init_36 : decode cX0_init 36 = .ok (.aload_n 0, 1) := z_o42 (z_wat (q := 32) (j := 4) zwX0_init_32 rfl)
theorem dX0_init_37 : decode cX0_init 37 = .ok (.iconst 0, 1) := z_o3 (z_wat (q := 32) (j := 5) zwX0_init_32 rfl)
theorem dX0_init_38 : decode cX0_init 38 = .ok (.putfield 24, 3) := z_o181 (z_wat (q := 32) (j := 6) zwX0_init_32 rfl) (z_wat (q := 32) (j := 7) zwX0_init_32 rfl) (z_wat (q := 32) (j := 8) zwX0_init_32 rfl) rfl
theorem dX0_init_41 : decode cX0_init 41 = .ok (.aload_n 0, 1) := z_o42 (z_wat (q := 32) (j := 9) zwX0_init_32 rfl)
theorem dX0_init_42 : decode cX0_init 42 = .ok (.iconst 0, 1) := z_o3 (z_wat (q := 32) (j := 10) zwX0_init_32 rfl)
theorem dX0_init_43 : decode cX0_init 43 = .ok (.putfield 28, 3) := z_o181 (z_wat (q := 32) (j := 11) zwX0_init_32 rfl) (z_wat (q := 32) (j := 12) zwX0_init_32 rfl) (z_wat (q := 32) (j := 13) zwX0_init_32 rfl) rfl
theorem dX0_init_46 : decode cX0_init 46 = .ok (.return_, 1) := z_o177 (z_wat (q := 32) (j := 14) zwX0_init_32 rfl)
theorem zwX10_init_0 : ((cX10_init.data.toList.drop 0).take 34).map UInt8.toNat = [42, 183, 0, 3, 42, 17, 2, 188, 188, 10, 181, 0, 11, 42, 3, 181, 0, 15, 42, 3, 181, 0, 19, 42, 3, 181, 0, 22, 42, 3, 181, 0, 26, 42] := by decide +kernel
theorem dX10_init_0 : decode cX10_init 0 = .ok (.aload_n 0, 1) := z_o42 (z_wat (q := 0) (j := 0) zwX10_init_0 rfl)
theorem dX10_init_1 : decode cX10_init 1 = .ok (.invokespecial 3, 3) := z_o183 (z_wat (q := 0) (j := 1) zwX10_init_0 rfl) (z_wat (q := 0) (j := 2) zwX10_init_0 rfl) (z_wat (q := 0) (j := 3) zwX10_init_0 rfl) rfl
theorem dX10_init_4 : decode cX10_init 4 = .ok (.aload_n 0, 1) := z_o42 (z_wat (q := 0) (j := 4) zwX10_init_0 rfl)
theorem dX10_init_5 : decode cX10_init 5 = .ok (.sipush 700, 3) := z_o17 (z_wat (q := 0) (j := 5) zwX10_init_0 rfl) (z_wat (q := 0) (j := 6) zwX10_init_0 rfl) (z_wat (q := 0) (j := 7) zwX10_init_0 rfl) rfl
theorem dX10_init_8 : decode cX10_init 8 = .ok (.newarray .int, 2) := z_o188_10 (z_wat (q := 0) (j := 8) zwX10_init_0 rfl) (z_wat (q := 0) (j := 9) zwX10_init_0 rfl)
theorem dX10_init_10 : decode cX10_init 10 = .ok (.putfield 11, 3) := z_o181 (z_wat (q := 0) (j := 10) zwX10_init_0 rfl) (z_wat (q := 0) (j := 11) zwX10_init_0 rfl) (z_wat (q := 0) (j := 12) zwX10_init_0 rfl) rfl
theorem dX10_init_13 : decode cX10_init 13 = .ok (.aload_n 0, 1) := z_o42 (z_wat (q := 0) (j := 13) zwX10_init_0 rfl)
theorem dX10_init_14 : decode cX10_init 14 = .ok (.iconst 0, 1) := z_o3 (z_wat (q := 0) (j := 14) zwX10_init_0 rfl)
theorem dX10_init_15 : decode cX10_init 15 = .ok (.putfield 15, 3) := z_o181 (z_wat (q := 0) (j := 15) zwX10_init_0 rfl) (z_wat (q := 0) (j := 16) zwX10_init_0 rfl) (z_wat (q := 0) (j := 17) zwX10_init_0 rfl) rfl
theorem dX10_init_18 : decode cX10_init 18 = .ok (.aload_n 0, 1) := z_o42 (z_wat (q := 0) (j := 18) zwX10_init_0 rfl)
theorem dX10_init_19 : decode cX10_init 19 = .ok (.iconst 0, 1) := z_o3 (z_wat (q := 0) (j := 19) zwX10_init_0 rfl)
theorem dX10_init_20 : decode cX10_init 20 = .ok (.putfield 19, 3) := z_o181 (z_wat (q := 0) (j := 20) zwX10_init_0 rfl) (z_wat (q := 0) (j := 21) zwX10_init_0 rfl) (z_wat (q := 0) (j := 22) zwX10_init_0 rfl) rfl
theorem dX10_init_23 : decode cX10_init 23 = .ok (.aload_n 0, 1) := z_o42 (z_wat (q := 0) (j := 23) zwX10_init_0 rfl)
theorem dX10_init_24 : decode cX10_init 24 = .ok (.iconst 0, 1) := z_o3 (z_wat (q := 0) (j := 24) zwX10_init_0 rfl)
theorem dX10_init_25 : decode cX10_init 25 = .ok (.putfield 22, 3) := z_o181 (z_wat (q := 0) (j := 25) zwX10_init_0 rfl) (z_wat (q := 0) (j := 26) zwX10_init_0 rfl) (z_wat (q := 0) (j := 27) zwX10_init_0 rfl) rfl
theorem dX10_init_28 : decode cX10_init 28 = .ok (.aload_n 0, 1) := z_o42 (z_wat (q := 0) (j := 28) zwX10_init_0 rfl)
theorem dX10_init_29 : decode cX10_init 29 = .ok (.iconst 0, 1) := z_o3 (z_wat (q := 0) (j := 29) zwX10_init_0 rfl)
theorem dX10_init_30 : decode cX10_init 30 = .ok (.putfield 26, 3) := z_o181 (z_wat (q := 0) (j := 30) zwX10_init_0 rfl) (z_wat (q := 0) (j := 31) zwX10_init_0 rfl) (z_wat (q := 0) (j := 32) zwX10_init_0 rfl) rfl
theorem zwX10_init_32 : ((cX10_init.data.toList.drop 32).take 32).map UInt8.toNat = [26, 42, 3, 181, 0, 29, 42, 3, 181, 0, 32, 42, 3, 181, 0, 35, 42, 2, 181, 0, 38, 42, 3, 181, 0, 41, 42, 2, 181, 0, 44, 177] := by decide +kernel
theorem dX10_init_33 : decode cX10_init 33 = .ok (.aload_n 0, 1) := z_o42 (z_wat (q := 32) (j := 1) zwX10_init_32 rfl)
theorem dX10_init_34 : decode cX10_init 34 = .ok (.iconst 0, 1) := z_o3 (z_wat (q := 32) (j := 2) zwX10_init_32 rfl)
theorem dX10_init_35 : decode cX10_init 35 = .ok (.putfield 29, 3) := z_o181 (z_wat (q := 32) (j := 3) zwX10_init_32 rfl) (z_wat (q := 32) (j := 4) zwX10_init_32 rfl) (z_wat (q := 32) (j := 5) zwX10_init_32 rfl) rfl
theorem dX10_init_38 : decode cX10_init 38 = .ok (.aload_n 0, 1) := z_o42 (z_wat (q := 32) (j := 6) zwX10_init_32 rfl)
theorem dX10_init_39 : decode cX10_init 39 = .ok (.iconst 0, 1) := z_o3 (z_wat (q := 32) (j := 7) zwX10_init_32 rfl)
theorem dX10_init_40 : decode cX10_init 40 = .ok (.putfield 32, 3) := z_o181 (z_wat (q := 32) (j := 8) zwX10_init_32 rfl) (z_wat (q := 32) (j := 9) zwX10_init_32 rfl) (z_wat (q := 32) (j := 10) zwX10_init_32 rfl) rfl
theorem dX10_init_43 : decode cX10_init 43 = .ok (.aload_n 0, 1) := z_o42 (z_wat (q := 32) (j := 11) zwX10_init_32 rfl)
theorem dX10_init_44 : decode cX10_init 44 = .ok (.iconst 0, 1) := z_o3 (z_wat (q := 32) (j := 12) zwX10_init_32 rfl)
theorem dX10_init_45 : decode cX10_init 45 = .ok (.putfield 35, 3) := z_o181 (z_wat (q := 32) (j := 13) zwX10_init_32 rfl) (z_wat (q := 32) (j := 14) zwX10_init_32 rfl) (z_wat (q := 32) (j := 15) zwX10_init_32 rfl) rfl
theorem dX10_init_48 : decode cX10_init 48 = .ok (.aload_n 0, 1) := z_o42 (z_wat (q := 32) (j := 16) zwX10_init_32 rfl)
theorem dX10_init_49 : decode cX10_init 49 = .ok (.iconst (-1), 1) := z_o2 (z_wat (q := 32) (j := 17) zwX10_init_32 rfl)
theorem dX10_init_50 : decode cX10_init 50 = .ok (.putfield 38, 3) := z_o181 (z_wat (q := 32) (j := 18) zwX10_init_32 rfl) (z_wat (q := 32) (j := 19) zwX10_init_32 rfl) (z_wat (q := 32) (j := 20) zwX10_init_32 rfl) rfl
theorem dX10_init_53 : decode cX10_init 53 = .ok (.aload_n 0, 1) := z_o42 (z_wat (q := 32) (j := 21) zwX10_init_32 rfl)
theorem dX10_init_54 : decode cX10_init 54 = .ok (.iconst 0, 1) := z_o3 (z_wat (q := 32) (j := 22) zwX10_init_32 rfl)
theorem dX10_init_55 : decode cX10_init 55 = .ok (.putfield 41, 3) := z_o181 (z_wat (q := 32) (j := 23) zwX10_init_32 rfl) (z_wat (q := 32) (j := 24) zwX10_init_32 rfl) (z_wat (q := 32) (j := 25) zwX10_init_32 rfl) rfl
theorem dX10_init_58 : decode cX10_init 58 = .ok (.aload_n 0, 1) := z_o42 (z_wat (q := 32) (j := 26) zwX10_init_32 rfl)
theorem dX10_init_59 : decode cX10_init 59 = .ok (.iconst (-1), 1) := z_o2 (z_wat (q := 32) (j := 27) zwX10_init_32 rfl)
theorem dX10_init_60 : decode cX10_init 60 = .ok (.putfield 44, 3) := z_o181 (z_wat (q := 32) (j := 28) zwX10_init_32 rfl) (z_wat (q := 32) (j := 29) zwX10_init_32 rfl) (z_wat (q := 32) (j := 30) zwX10_init_32 rfl) rfl
theorem dX10_init_63 : decode cX10_init 63 = .ok (.return_, 1) := z_o177 (z_wat (q := 32) (j := 31) zwX10_init_32 rfl)
theorem zwX11_init_0 : ((cX11_init.data.toList.drop 0).take 34).map UInt8.toNat = [42, 183, 0, 1, 42, 187, 0, 7, 89, 183, 0, 9, 181, 0, 10, 42, 187, 0, 16, 89, 183, 0, 18, 181, 0, 19, 42, 187, 0, 23, 89, 42, 180, 0] := by decide +kernel
theorem dX11_init_0 : decode cX11_init 0 = .ok (.aload_n 0, 1) := z_o42 (z_wat (q := 0) (j := 0) zwX11_init_0 rfl)
theorem dX11_init_1 : decode cX11_init 1 = .ok (.invokespecial 1, 3) := z_o183 (z_wat (q := 0) (j := 1) zwX11_init_0 rfl) (z_wat (q := 0) (j := 2) zwX11_init_0 rfl) (z_wat (q := 0) (j := 3) zwX11_init_0 rfl) rfl
theorem dX11_init_4 : decode cX11_init 4 = .ok (.aload_n 0, 1) := z_o42 (z_wat (q := 0) (j := 4) zwX11_init_0 rfl)
theorem dX11_init_5 : decode cX11_init 5 = .ok (.new 7, 3) := z_o187 (z_wat (q := 0) (j := 5) zwX11_init_0 rfl) (z_wat (q := 0) (j := 6) zwX11_init_0 rfl) (z_wat (q := 0) (j := 7) zwX11_init_0 rfl) rfl
theorem dX11_init_8 : decode cX11_init 8 = .ok (.dup, 1) := z_o89 (z_wat (q := 0) (j := 8) zwX11_init_0 rfl)
theorem dX11_init_9 : decode cX11_init 9 = .ok (.invokespecial 9, 3) := z_o183 (z_wat (q := 0) (j := 9) zwX11_init_0 rfl) (z_wat (q := 0) (j := 10) zwX11_init_0 rfl) (z_wat (q := 0) (j := 11) zwX11_init_0 rfl) rfl
theorem dX11_init_12 : decode cX11_init 12 = .ok (.putfield 10, 3) := z_o181 (z_wat (q := 0) (j := 12) zwX11_init_0 rfl) (z_wat (q := 0) (j := 13) zwX11_init_0 rfl) (z_wat (q := 0) (j := 14) zwX11_init_0 rfl) rfl
theorem dX11_init_15 : decode cX11_init 15 = .ok (.aload_n 0, 1) := z_o42 (z_wat (q := 0) (j := 15) zwX11_init_0 rfl)
theorem dX11_init_16 : decode cX11_init 16 = .ok (.new 16, 3) := z_o187 (z_wat (q := 0) (j := 16) zwX11_init_0 rfl) (z_wat (q := 0) (j := 17) zwX11_init_0 rfl) (z_wat (q := 0) (j := 18) zwX11_init_0 rfl) rfl
theorem dX11_init_19 : decode cX11_init 19 = .ok (.dup, 1) := z_o89 (z_wat (q := 0) (j := 19) zwX11_init_0 rfl)
theorem dX11_init_20 : decode cX11_init 20 = .ok (.invokespecial 18, 3) := z_o183 (z_wat (q := 0) (j := 20) zwX11_init_0 rfl) (z_wat (q := 0) (j := 21) zwX11_init_0 rfl) (z_wat (q := 0) (j := 22) zwX11_init_0 rfl) rfl
theorem dX11_init_23 : decode cX11_init 23 = .ok (.putfield 19, 3) := z_o181 (z_wat (q := 0) (j := 23) zwX11_init_0 rfl) (z_wat (q := 0) (j := 24) zwX11_init_0 rfl) (z_wat (q := 0) (j := 25) zwX11_init_0 rfl) rfl
theorem dX11_init_26 : decode cX11_init 26 = .ok (.aload_n 0, 1) := z_o42 (z_wat (q := 0) (j := 26) zwX11_init_0 rfl)
theorem dX11_init_27 : decode cX11_init 27 = .ok (.new 23, 3) := z_o187 (z_wat (q := 0) (j := 27) zwX11_init_0 rfl) (z_wat (q := 0) (j := 28) zwX11_init_0 rfl) (z_wat (q := 0) (j := 29) zwX11_init_0 rfl) rfl
theorem dX11_init_30 : decode cX11_init 30 = .ok (.dup, 1) := z_o89 (z_wat (q := 0) (j := 30) zwX11_init_0 rfl)
theorem dX11_init_31 : decode cX11_init 31 = .ok (.aload_n 0, 1) := z_o42 (z_wat (q := 0) (j := 31) zwX11_init_0 rfl)
theorem zwX11_init_32 : ((cX11_init.data.toList.drop 32).take 34).map UInt8.toNat = [180, 0, 19, 183, 0, 25, 181, 0, 28, 42, 187, 0, 32, 89, 183, 0, 34, 181, 0, 35, 42, 187, 0, 39, 89, 183, 0, 41, 181, 0, 42, 42, 187, 0] := by decide +kernel
theorem dX11_init_32 : decode cX11_init 32 = .ok (.getfield 19, 3) := z_o180 (z_wat (q := 32) (j := 0) zwX11_init_32 rfl) (z_wat (q := 32) (j := 1) zwX11_init_32 rfl) (z_wat (q := 32) (j := 2) zwX11_init_32 rfl) rfl
theorem dX11_init_35 : decode cX11_init 35 = .ok (.invokespecial 25, 3) := z_o183 (z_wat (q := 32) (j := 3) zwX11_init_32 rfl) (z_wat (q := 32) (j := 4) zwX11_init_32 rfl) (z_wat (q := 32) (j := 5) zwX11_init_32 rfl) rfl
theorem dX11_init_38 : decode cX11_init 38 = .ok (.putfield 28, 3) := z_o181 (z_wat (q := 32) (j := 6) zwX11_init_32 rfl) (z_wat (q := 32) (j := 7) zwX11_init_32 rfl) (z_wat (q := 32) (j := 8) zwX11_init_32 rfl) rfl
theorem dX11_init_41 : decode cX11_init 41 = .ok (.aload_n 0, 1) := z_o42 (z_wat (q := 32) (j := 9) zwX11_init_32 rfl)
theorem dX11_init_42 : decode cX11_init 42 = .ok (.new 32, 3) := z_o187 (z_wat (q := 32) (j := 10) zwX11_init_32 rfl) (z_wat (q := 32) (j := 11) zwX11_init_32 rfl) (z_wat (q := 32) (j := 12) zwX11_init_32 rfl) rfl
theorem dX11_init_45 : decode cX11_init 45 = .ok (.dup, 1) := z_o89 (z_wat (q := 32) (j := 13) zwX11_init_32 rfl)
theorem dX11_init_46 : decode cX11_init 46 = .ok (.invokespecial 34, 3) := z_o183 (z_wat (q := 32) (j := 14) zwX11_init_32 rfl) (z_wat (q := 32) (j := 15) zwX11_init_32 rfl) (z_wat (q := 32) (j := 16) zwX11_init_32 rfl) rfl
theorem dX11_init_49 : decode cX11_init 49 = .ok (.putfield 35, 3) := z_o181 (z_wat (q := 32) (j := 17) zwX11_init_32 rfl) (z_wat (q := 32) (j := 18) zwX11_init_32 rfl) (z_wat (q := 32) (j := 19) zwX11_init_32 rfl) rfl
theorem dX11_init_52 : decode cX11_init 52 = .ok (.aload_n 0, 1) := z_o42 (z_wat (q := 32) (j := 20) zwX11_init_32 rfl)
theorem dX11_init_53 : decode cX11_init 53 = .ok (.new 39, 3) := z_o187 (z_wat (q := 32) (j := 21) zwX11_init_32 rfl) (z_wat (q := 32) (j := 22) zwX11_init_32 rfl) (z_wat (q := 32) (j := 23) zwX11_init_32 rfl) rfl
theorem dX11_init_56 : decode cX11_init 56 = .ok (.dup, 1) := z_o89 (z_wat (q := 32) (j := 24) zwX11_init_32 rfl)
theorem dX11_init_57 : decode cX11_init 57 = .ok (.invokespecial 41, 3) := z_o183 (z_wat (q := 32) (j := 25) zwX11_init_32 rfl) (z_wat (q := 32) (j := 26) zwX11_init_32 rfl) (z_wat (q := 32) (j := 27) zwX11_init_32 rfl) rfl
theorem dX11_init_60 : decode cX11_init 60 = .ok (.putfield 42, 3) := z_o181 (z_wat (q := 32) (j := 28) zwX11_init_32 rfl) (z_wat (q := 32) (j := 29) zwX11_init_32 rfl) (z_wat (q := 32) (j := 30) zwX11_init_32 rfl) rfl
theorem dX11_init_63 : decode cX11_init 63 = .ok (.aload_n 0, 1) := z_o42 (z_wat (q := 32) (j := 31) zwX11_init_32 rfl)
theorem zwX11_init_64 : ((cX11_init.data.toList.drop 64).take 34).map UInt8.toNat = [187, 0, 46, 89, 183, 0, 48, 181, 0, 49, 42, 187, 0, 53, 89, 183, 0, 55, 181, 0, 56, 42, 187, 0, 60, 89, 42, 180, 0, 10, 42, 180, 0, 42] := by decide +kernel
theorem dX11_init_64 : decode cX11_init 64 = .ok (.new 46, 3) := z_o187 (z_wat (q := 64) (j := 0) zwX11_init_64 rfl) (z_wat (q := 64) (j := 1) zwX11_init_64 rfl) (z_wat (q := 64) (j := 2) zwX11_init_64 rfl) rfl
theorem dX11_init_67 : decode cX11_init 67 = .ok (.dup, 1) := z_o89 (z_wat (q := 64) (j := 3) zwX11_init_64 rfl)
theorem dX11_init_68 : decode cX11_init 68 = .ok (.invokespecial 48, 3) := z_o183 (z_wat (q := 64) (j := 4) zwX11_init_64 rfl) (z_wat (q := 64) (j := 5) zwX11_init_64 rfl) (z_wat (q := 64) (j := 6) zwX11_init_64 rfl) rfl
theorem dX11_init_71 : decode cX11_init 71 = .ok (.putfield 49, 3) := z_o181 (z_wat (q := 64) (j := 7) zwX11_init_64 rfl) (z_wat (q := 64) (j := 8) zwX11_init_64 rfl) (z_wat (q := 64) (j := 9) zwX11_init_64 rfl) rfl
theorem dX11_init_74 : decode cX11_init 74 = .ok (.aload_n 0, 1) := z_o42 (z_wat (q := 64) (j := 10) zwX11_init_64 rfl)
theorem dX11_init_75 : decode cX11_init 75 = .ok (.new 53, 3) := z_o187 (z_wat (q := 64) (j := 11) zwX11_init_64 rfl) (z_wat (q := 64) (j := 12) zwX11_init_64 rfl) (z_wat (q := 64) (j := 13) zwX11_init_64 rfl) rfl
theorem dX11_init_78 : decode cX11_init 78 = .ok (.dup, 1) := z_o89 (z_wat (q := 64) (j := 14) zwX11_init_64 rfl)
theorem dX11_init_79 : decode cX11_init 79 = .ok (.invokespecial 55, 3) := z_o183 (z_wat (q := 64) (j := 15) zwX11_init_64 rfl) (z_wat (q := 64) (j := 16) zwX11_init_64 rfl) (z_wat (q := 64) (j := 17) zwX11_init_64 rfl) rfl
theorem dX11_init_82 : decode cX11_init 82 = .ok (.putfield 56, 3) := z_o181 (z_wat (q := 64) (j := 18) zwX11_init_64 rfl) (z_wat (q := 64) (j := 19) zwX11_init_64 rfl) (z_wat (q := 64) (j := 20) zwX11_init_64 rfl) rfl
theorem dX11_init_85 : decode cX11_init 85 = .ok (.aload_n 0, 1) := z_o42 (z_wat (q := 64) (j := 21) zwX11_init_64 rfl)
theorem dX11_init_86 : decode cX11_init 86 = .ok (.new 60, 3) := z_o187 (z_wat (q := 64) (j := 22) zwX11_init_64 rfl) (z_wat (q := 64) (j := 23) zwX11_init_64 rfl) (z_wat (q := 64) (j := 24) zwX11_init_64 rfl) rfl
theorem dX11_init_89 : decode cX11_init 89 = .ok (.dup, 1) := z_o89 (z_wat (q := 64) (j := 25) zwX11_init_64 rfl)
theorem dX11_init_90 : decode cX11_init 90 = .ok (.aload_n 0, 1) := z_o42 (z_wat (q := 64) (j := 26) zwX11_init_64 rfl)
theorem dX11_init_91 : decode cX11_init 91 = .ok (.getfield 10, 3) := z_o180 (z_wat (q := 64) (j := 27) zwX11_init_64 rfl) (z_wat (q := 64) (j := 28) zwX11_init_64 rfl) (z_wat (q := 64) (j := 29) zwX11_init_64 rfl) rfl
theorem dX11_init_94 : decode cX11_init 94 = .ok (.aload_n 0, 1) := z_o42 (z_wat (q := 64) (j := 30) zwX11_init_64 rfl)
theorem dX11_init_95 : decode cX11_init 95 = .ok (.getfield 42, 3) := z_o180 (z_wat (q := 64) (j := 31) zwX11_init_64 rfl) (z_wat (q := 64) (j := 32) zwX11_init_64 rfl) (z_wat (q := 64) (j := 33) zwX11_init_64 rfl) rfl
theorem zwX11_init_96 : ((cX11_init.data.toList.drop 96).take 34).map UInt8.toNat = [0, 42, 183, 0, 62, 181, 0, 65, 42, 187, 0, 69, 89, 42, 180, 0, 10, 183, 0, 71, 181, 0, 74, 42, 187, 0, 78, 89, 42, 180, 0, 28, 42, 180] := by decide +kernel
theorem dX11_init_98 : decode cX11_init 98 = .ok (.invokespecial 62, 3) := z_o183 (z_wat (q := 96) (j := 2) zwX11_init_96 rfl) (z_wat (q := 96) (j := 3) zwX11_init_96 rfl) (z_wat (q := 96) (j := 4) zwX11_init_96 rfl) rfl
theorem dX11_init_101 : decode cX11_init 101 = .ok (.putfield 65, 3) := z_o181 (z_wat (q := 96) (j := 5) zwX11_init_96 rfl) (z_wat (q := 96) (j := 6) zwX11_init_96 rfl) (z_wat (q := 96) (j := 7) zwX11_init_96 rfl) rfl
theorem dX11_init_104 : decode cX11_init 104 = .ok (.aload_n 0, 1) := z_o42 (z_wat (q := 96) (j := 8) zwX11_init_96 rfl)
theorem dX11_init_105 : decode cX11_init 105 = .ok (.new 69, 3) := z_o187 (z_wat (q := 96) (j := 9) zwX11_init_96 rfl) (z_wat (q := 96) (j := 10) zwX11_init_96 rfl) (z_wat (q := 96) (j := 11) zwX11_init_96 rfl) rfl
theorem dX11_init_108 : decode cX11_init 108 = .ok (.dup, 1) := z_o89 (z_wat (q := 96) (j := 12) zwX11_init_96 rfl)
theorem dX11_init_109 : decode cX11_init 109 = .ok (.aload_n 0, 1) := z_o42 (z_wat (q := 96) (j := 13) zwX11_init_96 rfl)
theorem dX11_init_110 : decode cX11_init 110 = .ok (.getfield 10, 3) := z_o180 (z_wat (q := 96) (j := 14) zwX11_init_96 rfl) (z_wat (q := 96) (j := 15) zwX11_init_96 rfl) (z_wat (q := 96) (j := 16) zwX11_init_96 rfl) rfl
theorem dX11_init_113 : decode cX11_init 113 = .ok (.invokespecial 71, 3) := z_o183 (z_wat (q := 96) (j := 17) zwX11_init_96 rfl) (z_wat (q := 96) (j := 18) zwX11_init_96 rfl) (z_wat (q := 96) (j := 19) zwX11_init_96 rfl) rfl
theorem dX11_init_116 : decode cX11_init 116 = .ok (.putfield 74, 3) := z_o181 (z_wat (q := 96) (j := 20) zwX11_init_96 rfl) (z_wat (q := 96) (j := 21) zwX11_init_96 rfl) (z_wat (q := 96) (j := 22) zwX11_init_96 rfl) rfl
theorem dX11_init_119 : decode cX11_init 119 = .ok (.aload_n 0, 1) := z_o42 (z_wat (q := 96) (j := 23) zwX11_init_96 rfl)
theorem dX11_init_120 : decode cX11_init 120 = .ok (.new 78, 3) := z_o187 (z_wat (q := 96) (j := 24) zwX11_init_96 rfl) (z_wat (q := 96) (j := 25) zwX11_init_96 rfl) (z_wat (q := 96) (j := 26) zwX11_init_96 rfl) rfl
theorem dX11_init_123 : decode cX11_init 123 = .ok (.dup, 1) := z_o89 (z_wat (q := 96) (j := 27) zwX11_init_96 rfl)
theorem dX11_init_124 : decode cX11_init 124 = .ok (.aload_n 0, 1) := z_o42 (z_wat (q := 96) (j := 28) zwX11_init_96 rfl)
theorem dX11_init_125 : decode cX11_init 125 = .ok (.getfield 28, 3) := z_o180 (z_wat (q := 96) (j := 29) zwX11_init_96 rfl) (z_wat (q := 96) (j := 30) zwX11_init_96 rfl) (z_wat (q := 96) (j := 31) zwX11_init_96 rfl) rfl
theorem zwX11_init_128 : ((cX11_init.data.toList.drop 128).take 23).map UInt8.toNat = [42, 180, 0, 35, 42, 180, 0, 42, 42, 180, 0, 49, 42, 180, 0, 56, 183, 0, 80, 181, 0, 83, 177] := by decide +kernel
theorem dX11_init_128 : decode cX11_init 128 = .ok (.aload_n 0, 1) := z_o42 (z_wat (q := 128) (j := 0) zwX11_init_128 rfl)
theorem dX11_init_129 : decode cX11_init 129 = .ok (.getfield 35, 3) := z_o180 (z_wat (q := 128) (j := 1) zwX11_init_128 rfl) (z_wat (q := 128) (j := 2) zwX11_init_128 rfl) (z_wat (q := 128) (j := 3) zwX11_init_128 rfl) rfl
theorem dX11_init_132 : decode cX11_init 132 = .ok (.aload_n 0, 1) := z_o42 (z_wat (q := 128) (j := 4) zwX11_init_128 rfl)
theorem dX11_init_133 : decode cX11_init 133 = .ok (.getfield 42, 3) := z_o180 (z_wat (q := 128) (j := 5) zwX11_init_128 rfl) (z_wat (q := 128) (j := 6) zwX11_init_128 rfl) (z_wat (q := 128) (j := 7) zwX11_init_128 rfl) rfl
theorem dX11_init_136 : decode cX11_init 136 = .ok (.aload_n 0, 1) := z_o42 (z_wat (q := 128) (j := 8) zwX11_init_128 rfl)
theorem dX11_init_137 : decode cX11_init 137 = .ok (.getfield 49, 3) := z_o180 (z_wat (q := 128) (j := 9) zwX11_init_128 rfl) (z_wat (q := 128) (j := 10) zwX11_init_128 rfl) (z_wat (q := 128) (j := 11) zwX11_init_128 rfl) rfl
theorem dX11_init_140 : decode cX11_init 140 = .ok (.aload_n 0, 1) := z_o42 (z_wat (q := 128) (j := 12) zwX11_init_128 rfl)
theorem dX11_init_141 : decode cX11_init 141 = .ok (.getfield 56, 3) := z_o180 (z_wat (q := 128) (j := 13) zwX11_init_128 rfl) (z_wat (q := 128) (j := 14) zwX11_init_128 rfl) (z_wat (q := 128) (j := 15) zwX11_init_128 rfl) rfl
theorem dX11_init_144 : decode cX11_init 144 = .ok (.invokespecial 80, 3) := z_o183 (z_wat (q := 128) (j := 16) zwX11_init_128 rfl) (z_wat (q := 128) (j := 17) zwX11_init_128 rfl) (z_wat (q := 128) (j := 18) zwX11_init_128 rfl) rfl
theorem dX11_init_147 : decode cX11_init 147 = .ok (.putfield 83, 3) := z_o181 (z_wat (q := 128) (j := 19) zwX11_init_128 rfl) (z_wat (q := 128) (j := 20) zwX11_init_128 rfl) (z_wat (q := 128) (j := 21) zwX11_init_128 rfl) rfl
theorem dX11_init_150 : decode cX11_init 150 = .ok (.return_, 1) := z_o177 (z_wat (q := 128) (j := 22) zwX11_init_128 rfl)
theorem zwX12_init_0 : ((cX12_init.data.toList.drop 0).take 34).map UInt8.toNat = [42, 183, 0, 1, 42, 17, 2, 188, 188, 10, 181, 0, 7, 42, 16, 80, 188, 10, 181, 0, 13, 42, 16, 80, 188, 10, 181, 0, 16, 42, 16, 80, 188, 10] := by decide +kernel
theorem dX12_init_0 : decode cX12_init 0 = .ok (.aload_n 0, 1) := z_o42 (z_wat (q := 0) (j := 0) zwX12_init_0 rfl)
theorem dX12_init_1 : decode cX12_init 1 = .ok (.invokespecial 1, 3) := z_o183 (z_wat (q := 0) (j := 1) zwX12_init_0 rfl) (z_wat (q := 0) (j := 2) zwX12_init_0 rfl) (z_wat (q := 0) (j := 3) zwX12_init_0 rfl) rfl
theorem dX12_init_4 : decode cX12_init 4 = .ok (.aload_n 0, 1) := z_o42 (z_wat (q := 0) (j := 4) zwX12_init_0 rfl)
theorem dX12_init_5 : decode cX12_init 5 = .ok (.sipush 700, 3) := z_o17 (z_wat (q := 0) (j := 5) zwX12_init_0 rfl) (z_wat (q := 0) (j := 6) zwX12_init_0 rfl) (z_wat (q := 0) (j := 7) zwX12_init_0 rfl) rfl
theorem dX12_init_8 : decode cX12_init 8 = .ok (.newarray .int, 2) := z_o188_10 (z_wat (q := 0) (j := 8) zwX12_init_0 rfl) (z_wat (q := 0) (j := 9) zwX12_init_0 rfl)
theorem dX12_init_10 : decode cX12_init 10 = .ok (.putfield 7, 3) := z_o181 (z_wat (q := 0) (j := 10) zwX12_init_0 rfl) (z_wat (q := 0) (j := 11) zwX12_init_0 rfl) (z_wat (q := 0) (j := 12) zwX12_init_0 rfl) rfl
theorem dX12_init_13 : decode cX12_init 13 = .ok (.aload_n 0, 1) := z_o42 (z_wat (q := 0) (j := 13) zwX12_init_0 rfl)
theorem dX12_init_14 : decode cX12_init 14 = .ok (.bipush 80, 2) := z_o16 (z_wat (q := 0) (j := 14) zwX12_init_0 rfl) (z_wat (q := 0) (j := 15) zwX12_init_0 rfl) rfl
theorem dX12_init_16 : decode cX12_init 16 = .ok (.newarray .int, 2) := z_o188_10 (z_wat (q := 0) (j := 16) zwX12_init_0 rfl) (z_wat (q := 0) (j := 17) zwX12_init_0 rfl)
theorem dX12_init_18 : decode cX12_init 18 = .ok (.putfield 13, 3) := z_o181 (z_wat (q := 0) (j := 18) zwX12_init_0 rfl) (z_wat (q := 0) (j := 19) zwX12_init_0 rfl) (z_wat (q := 0) (j := 20) zwX12_init_0 rfl) rfl
theorem dX12_init_21 : decode cX12_init 21 = .ok (.aload_n 0, 1) := z_o42 (z_wat (q := 0) (j := 21) zwX12_init_0 rfl)
theorem dX12_init_22 : decode cX12_init 22 = .ok (.bipush 80, 2) := z_o16 (z_wat (q := 0) (j := 22) zwX12_init_0 rfl) (z_wat (q := 0) (j := 23) zwX12_init_0 rfl) rfl
theorem dX12_init_24 : decode cX12_init 24 = .ok (.newarray .int, 2) := z_o188_10 (z_wat (q := 0) (j := 24) zwX12_init_0 rfl) (z_wat (q := 0) (j := 25) zwX12_init_0 rfl)
theorem dX12_init_26 : decode cX12_init 26 = .ok (.putfield 16, 3) := z_o181 (z_wat (q := 0) (j := 26) zwX12_init_0 rfl) (z_wat (q := 0) (j := 27) zwX12_init_0 rfl) (z_wat (q := 0) (j := 28) zwX12_init_0 rfl) rfl
theorem dX12_init_29 : decode cX12_init 29 = .ok (.aload_n 0, 1) := z_o42 (z_wat (q := 0) (j := 29) zwX12_init_0 rfl)
theorem dX12_init_30 : decode cX12_init 30 = .ok (.bipush 80, 2) := z_o16 (z_wat (q := 0) (j := 30) zwX12_init_0 rfl) (z_wat (q := 0) (j := 31) zwX12_init_0 rfl) rfl
theorem zwX12_init_32 : ((cX12_init.data.toList.drop 32).take 34).map UInt8.toNat = [188, 10, 181, 0, 19, 42, 16, 80, 188, 10, 181, 0, 22, 42, 16, 80, 188, 4, 181, 0, 25, 42, 17, 45, 0, 188, 10, 181, 0, 29, 42, 16, 12, 188] := by decide +kernel
theorem dX12_init_32 : decode cX12_init 32 = .ok (.newarray .int, 2) := z_o188_10 (z_wat (q := 32) (j := 0) zwX12_init_32 rfl) (z_wat (q := 32) (j := 1) zwX12_init_32 rfl)
theorem dX12_init_34 : decode cX12_init 34 = .ok (.putfield 19, 3) := z_o181 (z_wat (q := 32) (j := 2) zwX12_init_32 rfl) (z_wat (q := 32) (j := 3) zwX12_init_32 rfl) (z_wat (q := 32) (j := 4) zwX12_init_32 rfl) rfl
theorem dX12_init_37 : decode cX12_init 37 = .ok (.aload_n 0, 1) := z_o42 (z_wat (q := 32) (j := 5) zwX12_init_32 rfl)
theorem dX12_init_38 : decode cX12_init 38 = .ok (.bipush 80, 2) := z_o16 (z_wat (q := 32) (j := 6) zwX12_init_32 rfl) (z_wat (q := 32) (j := 7) zwX12_init_32 rfl) rfl
theorem dX12_init_40 : decode cX12_init 40 = .ok (.newarray .int, 2) := z_o188_10 (z_wat (q := 32) (j := 8) zwX12_init_32 rfl) (z_wat (q := 32) (j := 9) zwX12_init_32 rfl)
theorem dX12_init_42 : decode cX12_init 42 = .ok (.putfield 22, 3) := z_o181 (z_wat (q := 32) (j := 10) zwX12_init_32 rfl) (z_wat (q := 32) (j := 11) zwX12_init_32 rfl) (z_wat (q := 32) (j := 12) zwX12_init_32 rfl) rfl
theorem dX12_init_45 : decode cX12_init 45 = .ok (.aload_n 0, 1) := z_o42 (z_wat (q := 32) (j := 13) zwX12_init_32 rfl)
theorem dX12_init_46 : decode cX12_init 46 = .ok (.bipush 80, 2) := z_o16 (z_wat (q := 32) (j := 14) zwX12_init_32 rfl) (z_wat (q := 32) (j := 15) zwX12_init_32 rfl) rfl
theorem dX12_init_48 : decode cX12_init 48 = .ok (.newarray .boolean, 2) := z_o188_4 (z_wat (q := 32) (j := 16) zwX12_init_32 rfl) (z_wat (q := 32) (j := 17) zwX12_init_32 rfl)
theorem dX12_init_50 : decode cX12_init 50 = .ok (.putfield 25, 3) := z_o181 (z_wat (q := 32) (j := 18) zwX12_init_32 rfl) (z_wat (q := 32) (j := 19) zwX12_init_32 rfl) (z_wat (q := 32) (j := 20) zwX12_init_32 rfl) rfl
theorem dX12_init_53 : decode cX12_init 53 = .ok (.aload_n 0, 1) := z_o42 (z_wat (q := 32) (j := 21) zwX12_init_32 rfl)
theorem dX12_init_54 : decode cX12_init 54 = .ok (.sipush 11520, 3) := z_o17 (z_wat (q := 32) (j := 22) zwX12_init_32 rfl) (z_wat (q := 32) (j := 23) zwX12_init_32 rfl) (z_wat (q := 32) (j := 24) zwX12_init_32 rfl) rfl
theorem dX12_init_57 : decode cX12_init 57 = .ok (.newarray .int, 2) := z_o188_10 (z_wat (q := 32) (j := 25) zwX12_init_32 rfl) (z_wat (q := 32) (j := 26) zwX12_init_32 rfl)
theorem dX12_init_59 : decode cX12_init 59 = .ok (.putfield 29, 3) := z_o181 (z_wat (q := 32) (j := 27) zwX12_init_32 rfl) (z_wat (q := 32) (j := 28) zwX12_init_32 rfl) (z_wat (q := 32) (j := 29) zwX12_init_32 rfl) rfl
theorem dX12_init_62 : decode cX12_init 62 = .ok (.aload_n 0, 1) := z_o42 (z_wat (q := 32) (j := 30) zwX12_init_32 rfl)
theorem dX12_init_63 : decode cX12_init 63 = .ok (.bipush 12, 2) := z_o16 (z_wat (q := 32) (j := 31) zwX12_init_32 rfl) (z_wat (q := 32) (j := 32) zwX12_init_32 rfl) rfl
theorem zwX12_init_64 : ((cX12_init.data.toList.drop 64).take 34).map UInt8.toNat = [12, 188, 10, 181, 0, 32, 42, 17, 0, 144, 188, 4, 181, 0, 35, 42, 16, 12, 188, 10, 181, 0, 38, 42, 16, 12, 188, 10, 181, 0, 41, 42, 16, 12] := by decide +kernel
theorem dX12_init_65 : decode cX12_init 65 = .ok (.newarray .int, 2) := z_o188_10 (z_wat (q := 64) (j := 1) zwX12_init_64 rfl) (z_wat (q := 64) (j := 2) zwX12_init_64 rfl)
theorem dX12_init_67 : decode cX12_init 67 = .ok (.putfield 32, 3) := z_o181 (z_wat (q := 64) (j := 3) zwX12_init_64 rfl) (z_wat (q := 64) (j := 4) zwX12_init_64 rfl) (z_wat (q := 64) (j := 5) zwX12_init_64 rfl) rfl
theorem dX12_init_70 : decode cX12_init 70 = .ok (.aload_n 0, 1) := z_o42 (z_wat (q := 64) (j := 6) zwX12_init_64 rfl)
theorem dX12_init_71 : decode cX12_init 71 = .ok (.sipush 144, 3) := z_o17 (z_wat (q := 64) (j := 7) zwX12_init_64 rfl) (z_wat (q := 64) (j := 8) zwX12_init_64 rfl) (z_wat (q := 64) (j := 9) zwX12_init_64 rfl) rfl
theorem dX12_init_74 : decode cX12_init 74 = .ok (.newarray .boolean, 2) := z_o188_4 (z_wat (q := 64) (j := 10) zwX12_init_64 rfl) (z_wat (q := 64) (j := 11) zwX12_init_64 rfl)
theorem dX12_init_76 : decode cX12_init 76 = .ok (.putfield 35, 3) := z_o181 (z_wat (q := 64) (j := 12) zwX12_init_64 rfl) (z_wat (q := 64) (j := 13) zwX12_init_64 rfl) (z_wat (q := 64) (j := 14) zwX12_init_64 rfl) rfl
theorem dX12_init_79 : decode cX12_init 79 = .ok (.aload_n 0, 1) := z_o42 (z_wat (q := 64) (j := 15) zwX12_init_64 rfl)
theorem dX12_init_80 : decode cX12_init 80 = .ok (.bipush 12, 2) := z_o16 (z_wat (q := 64) (j := 16) zwX12_init_64 rfl) (z_wat (q := 64) (j := 17) zwX12_init_64 rfl) rfl
theorem dX12_init_82 : decode cX12_init 82 = .ok (.newarray .int, 2) := z_o188_10 (z_wat (q := 64) (j := 18) zwX12_init_64 rfl) (z_wat (q := 64) (j := 19) zwX12_init_64 rfl)
theorem dX12_init_84 : decode cX12_init 84 = .ok (.putfield 38, 3) := z_o181 (z_wat (q := 64) (j := 20) zwX12_init_64 rfl) (z_wat (q := 64) (j := 21) zwX12_init_64 rfl) (z_wat (q := 64) (j := 22) zwX12_init_64 rfl) rfl
theorem dX12_init_87 : decode cX12_init 87 = .ok (.aload_n 0, 1) := z_o42 (z_wat (q := 64) (j := 23) zwX12_init_64 rfl)
theorem dX12_init_88 : decode cX12_init 88 = .ok (.bipush 12, 2) := z_o16 (z_wat (q := 64) (j := 24) zwX12_init_64 rfl) (z_wat (q := 64) (j := 25) zwX12_init_64 rfl) rfl
theorem dX12_init_90 : decode cX12_init 90 = .ok (.newarray .int, 2) := z_o188_10 (z_wat (q := 64) (j := 26) zwX12_init_64 rfl) (z_wat (q := 64) (j := 27) zwX12_init_64 rfl)
theorem dX12_init_92 : decode cX12_init 92 = .ok (.putfield 41, 3) := z_o181 (z_wat (q := 64) (j := 28) zwX12_init_64 rfl) (z_wat (q := 64) (j := 29) zwX12_init_64 rfl) (z_wat (q := 64) (j := 30) zwX12_init_64 rfl) rfl
theorem dX12_init_95 : decode cX12_init 95 = .ok (.aload_n 0, 1) := z_o42 (z_wat (q := 64) (j := 31) zwX12_init_64 rfl)
theorem zwX12_init_96 : ((cX12_init.data.toList.drop 96).take 34).map UInt8.toNat = [16, 12, 188, 10, 181, 0, 44, 42, 16, 6, 181, 0, 47, 42, 16, 6, 181, 0, 51, 42, 16, 10, 188, 10, 181, 0, 54, 42, 16, 10, 188, 10, 181, 0] := by decide +kernel
theorem dX12_init_96 : decode cX12_init 96 = .ok (.bipush 12, 2) := z_o16 (z_wat (q := 96) (j := 0) zwX12_init_96 rfl) (z_wat (q := 96) (j := 1) zwX12_init_96 rfl) rfl
theorem dX12_init_98 : decode cX12_init 98 = .ok (.newarray .int, 2) := z_o188_10 (z_wat (q := 96) (j := 2) zwX12_init_96 rfl) (z_wat (q := 96) (j := 3) zwX12_init_96 rfl)
theorem dX12_init_100 : decode cX12_init 100 = .ok (.putfield 44, 3) := z_o181 (z_wat (q := 96) (j := 4) zwX12_init_96 rfl) (z_wat (q := 96) (j := 5) zwX12_init_96 rfl) (z_wat (q := 96) (j := 6) zwX12_init_96 rfl) rfl
theorem dX12_init_103 : decode cX12_init 103 = .ok (.aload_n 0, 1) := z_o42 (z_wat (q := 96) (j := 7) zwX12_init_96 rfl)
theorem dX12_init_104 : decode cX12_init 104 = .ok (.bipush 6, 2) := z_o16 (z_wat (q := 96) (j := 8) zwX12_init_96 rfl) (z_wat (q := 96) (j := 9) zwX12_init_96 rfl) rfl
theorem dX12_init_106 : decode cX12_init 106 = .ok (.putfield 47, 3) := z_o181 (z_wat (q := 96) (j := 10) zwX12_init_96 rfl) (z_wat (q := 96) (j := 11) zwX12_init_96 rfl) (z_wat (q := 96) (j := 12) zwX12_init_96 rfl) rfl
theorem dX12_init_109 : decode cX12_init 109 = .ok (.aload_n 0, 1) := z_o42 (z_wat (q := 96) (j := 13) zwX12_init_96 rfl)
theorem dX12_init_110 : decode cX12_init 110 = .ok (.bipush 6, 2) := z_o16 (z_wat (q := 96) (j := 14) zwX12_init_96 rfl) (z_wat (q := 96) (j := 15) zwX12_init_96 rfl) rfl
theorem dX12_init_112 : decode cX12_init 112 = .ok (.putfield 51, 3) := z_o181 (z_wat (q := 96) (j := 16) zwX12_init_96 rfl) (z_wat (q := 96) (j := 17) zwX12_init_96 rfl) (z_wat (q := 96) (j := 18) zwX12_init_96 rfl) rfl
theorem dX12_init_115 : decode cX12_init 115 = .ok (.aload_n 0, 1) := z_o42 (z_wat (q := 96) (j := 19) zwX12_init_96 rfl)
theorem dX12_init_116 : decode cX12_init 116 = .ok (.bipush 10, 2) := z_o16 (z_wat (q := 96) (j := 20) zwX12_init_96 rfl) (z_wat (q := 96) (j := 21) zwX12_init_96 rfl) rfl
theorem dX12_init_118 : decode cX12_init 118 = .ok (.newarray .int, 2) := z_o188_10 (z_wat (q := 96) (j := 22) zwX12_init_96 rfl) (z_wat (q := 96) (j := 23) zwX12_init_96 rfl)
theorem dX12_init_120 : decode cX12_init 120 = .ok (.putfield 54, 3) := z_o181 (z_wat (q := 96) (j := 24) zwX12_init_96 rfl) (z_wat (q := 96) (j := 25) zwX12_init_96 rfl) (z_wat (q := 96) (j := 26) zwX12_init_96 rfl) rfl
theorem dX12_init_123 : decode cX12_init 123 = .ok (.aload_n 0, 1) := z_o42 (z_wat (q := 96) (j := 27) zwX12_init_96 rfl)
theorem dX12_init_124 : decode cX12_init 124 = .ok (.bipush 10, 2) := z_o16 (z_wat (q := 96) (j := 28) zwX12_init_96 rfl) (z_wat (q := 96) (j := 29) zwX12_init_96 rfl) rfl
theorem dX12_init_126 : decode cX12_init 126 = .ok (.newarray .int, 2) := z_o188_10 (z_wat (q := 96) (j := 30) zwX12_init_96 rfl) (z_wat (q := 96) (j := 31) zwX12_init_96 rfl)
theorem zwX12_init_128 : ((cX12_init.data.toList.drop 128).take 34).map UInt8.toNat = [181, 0, 57, 42, 16, 120, 188, 10, 181, 0, 60, 42, 16, 6, 188, 10, 181, 0, 63, 42, 16, 6, 188, 10, 181, 0, 66, 42, 16, 24, 188, 10, 181, 0] := by decide +kernel
theorem dX12_init_128 : decode cX12_init 128 = .ok (.putfield 57, 3) := z_o181 (z_wat (q := 128) (j := 0) zwX12_init_128 rfl) (z_wat (q := 128) (j := 1) zwX12_init_128 rfl) (z_wat (q := 128) (j := 2) zwX12_init_128 rfl) rfl
theorem dX12_init_131 : decode cX12_init 131 = .ok (.aload_n 0, 1) := z_o42 (z_wat (q := 128) (j := 3) zwX12_init_128 rfl)
theorem dX12_init_132 : decode cX12_init 132 = .ok (.bipush 120, 2) := z_o16 (z_wat (q := 128) (j := 4) zwX12_init_128 rfl) (z_wat (q := 128) (j := 5) zwX12_init_128 rfl) rfl
theorem dX12_init_134 : decode cX12_init 134 = .ok (.newarray .int, 2) := z_o188_10 (z_wat (q := 128) (j := 6) zwX12_init_128 rfl) (z_wat (q := 128) (j := 7) zwX12_init_128 rfl)
theorem dX12_init_136 : decode cX12_init 136 = .ok (.putfield 60, 3) := z_o181 (z_wat (q := 128) (j := 8) zwX12_init_128 rfl) (z_wat (q := 128) (j := 9) zwX12_init_128 rfl) (z_wat (q := 128) (j := 10) zwX12_init_128 rfl) rfl
theorem dX12_init_139 : decode cX12_init 139 = .ok (.aload_n 0, 1) := z_o42 (z_wat (q := 128) (j := 11) zwX12_init_128 rfl)
theorem dX12_init_140 : decode cX12_init 140 = .ok (.bipush 6, 2) := z_o16 (z_wat (q := 128) (j := 12) zwX12_init_128 rfl) (z_wat (q := 128) (j := 13) zwX12_init_128 rfl) rfl
theorem dX12_init_142 : decode cX12_init 142 = .ok (.newarray .int, 2) := z_o188_10 (z_wat (q := 128) (j := 14) zwX12_init_128 rfl) (z_wat (q := 128) (j := 15) zwX12_init_128 rfl)
theorem dX12_init_144 : decode cX12_init 144 = .ok (.putfield 63, 3) := z_o181 (z_wat (q := 128) (j := 16) zwX12_init_128 rfl) (z_wat (q := 128) (j := 17) zwX12_init_128 rfl) (z_wat (q := 128) (j := 18) zwX12_init_128 rfl) rfl
theorem dX12_init_147 : decode cX12_init 147 = .ok (.aload_n 0, 1) := z_o42 (z_wat (q := 128) (j := 19) zwX12_init_128 rfl)
theorem dX12_init_148 : decode cX12_init 148 = .ok (.bipush 6, 2) := z_o16 (z_wat (q := 128) (j := 20) zwX12_init_128 rfl) (z_wat (q := 128) (j := 21) zwX12_init_128 rfl) rfl
theorem dX12_init_150 : decode cX12_init 150 = .ok (.newarray .int, 2) := z_o188_10 (z_wat (q := 128) (j := 22) zwX12_init_128 rfl) (z_wat (q := 128) (j := 23) zwX12_init_128 rfl)
theorem dX12_init_152 : decode cX12_init 152 = .ok (.putfield 66, 3) := z_o181 (z_wat (q := 128) (j := 24) zwX12_init_128 rfl) (z_wat (q := 128) (j := 25) zwX12_init_128 rfl) (z_wat (q := 128) (j := 26) zwX12_init_128 rfl) rfl
theorem dX12_init_155 : decode cX12_init 155 = .ok (.aload_n 0, 1) := z_o42 (z_wat (q := 128) (j := 27) zwX12_init_128 rfl)
theorem dX12_init_156 : decode cX12_init 156 = .ok (.bipush 24, 2) := z_o16 (z_wat (q := 128) (j := 28) zwX12_init_128 rfl) (z_wat (q := 128) (j := 29) zwX12_init_128 rfl) rfl
theorem dX12_init_158 : decode cX12_init 158 = .ok (.newarray .int, 2) := z_o188_10 (z_wat (q := 128) (j := 30) zwX12_init_128 rfl) (z_wat (q := 128) (j := 31) zwX12_init_128 rfl)
theorem zwX12_init_160 : ((cX12_init.data.toList.drop 160).take 34).map UInt8.toNat = [181, 0, 69, 42, 16, 115, 188, 10, 89, 3, 16, 108, 79, 89, 4, 16, 101, 79, 89, 5, 16, 102, 79, 89, 6, 16, 116, 79, 89, 7, 16, 32, 79, 89] := by decide +kernel
theorem dX12_init_160 : decode cX12_init 160 = .ok (.putfield 69, 3) := z_o181 (z_wat (q := 160) (j := 0) zwX12_init_160 rfl) (z_wat (q := 160) (j := 1) zwX12_init_160 rfl) (z_wat (q := 160) (j := 2) zwX12_init_160 rfl) rfl
theorem dX12_init_163 : decode cX12_init 163 = .ok (.aload_n 0, 1) := z_o42 (z_wat (q := 160) (j := 3) zwX12_init_160 rfl)
theorem dX12_init_164 : decode cX12_init 164 = .ok (.bipush 115, 2) := z_o16 (z_wat (q := 160) (j := 4) zwX12_init_160 rfl) (z_wat (q := 160) (j := 5) zwX12_init_160 rfl) rfl
theorem dX12_init_166 : decode cX12_init 166 = .ok (.newarray .int, 2) := z_o188_10 (z_wat (q := 160) (j := 6) zwX12_init_160 rfl) (z_wat (q := 160) (j := 7) zwX12_init_160 rfl)
theorem dX12_init_168 : decode cX12_init 168 = .ok (.dup, 1) := z_o89 (z_wat (q := 160) (j := 8) zwX12_init_160 rfl)
theorem dX12_init_169 : decode cX12_init 169 = .ok (.iconst 0, 1) := z_o3 (z_wat (q := 160) (j := 9) zwX12_init_160 rfl)
theorem dX12_init_170 : decode cX12_init 170 = .ok (.bipush 108, 2) := z_o16 (z_wat (q := 160) (j := 10) zwX12_init_160 rfl) (z_wat (q := 160) (j := 11) zwX12_init_160 rfl) rfl
theorem dX12_init_172 : decode cX12_init 172 = .ok (.iastore, 1) := z_o79 (z_wat (q := 160) (j := 12) zwX12_init_160 rfl)
theorem dX12_init_173 : decode cX12_init 173 = .ok (.dup, 1) := z_o89 (z_wat (q := 160) (j := 13) zwX12_init_160 rfl)
theorem dX12_init_174 : decode cX12_init 174 = .ok (.iconst 1, 1) := z_o4 (z_wat (q := 160) (j := 14) zwX12_init_160 rfl)
theorem dX12_init_175 : decode cX12_init 175 = .ok (.bipush 101, 2) := z_o16 (z_wat (q := 160) (j := 15) zwX12_init_160 rfl) (z_wat (q := 160) (j := 16) zwX12_init_160 rfl) rfl
theorem dX12_init_177 : decode cX12_init 177 = .ok (.iastore, 1) := z_o79 (z_wat (q := 160) (j := 17) zwX12_init_160 rfl)
theorem dX12_init_178 : decode cX12_init 178 = .ok (.dup, 1) := z_o89 (z_wat (q := 160) (j := 18) zwX12_init_160 rfl)
theorem dX12_init_179 : decode cX12_init 179 = .ok (.iconst 2, 1) := z_o5 (z_wat (q := 160) (j := 19) zwX12_init_160 rfl)
theorem dX12_init_180 : decode cX12_init 180 = .ok (.bipush 102, 2) := z_o16 (z_wat (q := 160) (j := 20) zwX12_init_160 rfl) (z_wat (q := 160) (j := 21) zwX12_init_160 rfl) rfl
theorem dX12_init_182 : decode cX12_init 182 = .ok (.iastore, 1) := z_o79 (z_wat (q := 160) (j := 22) zwX12_init_160 rfl)
theorem dX12_init_183 : decode cX12_init 183 = .ok (.dup, 1) := z_o89 (z_wat (q := 160) (j := 23) zwX12_init_160 rfl)
theorem dX12_init_184 : decode cX12_init 184 = .ok (.iconst 3, 1) := z_o6 (z_wat (q := 160) (j := 24) zwX12_init_160 rfl)
theorem dX12_init_185 : decode cX12_init 185 = .ok (.bipush 116, 2) := z_o16 (z_wat (q := 160) (j := 25) zwX12_init_160 rfl) (z_wat (q := 160) (j := 26) zwX12_init_160 rfl) rfl
theorem dX12_init_187 : decode cX12_init 187 = .ok (.iastore, 1) := z_o79 (z_wat (q := 160) (j := 27) zwX12_init_160 rfl)
theorem dX12_init_188 : decode cX12_init 188 = .ok (.dup, 1) := z_o89 (z_wat (q := 160) (j := 28) zwX12_init_160 rfl)
theorem dX12_init_189 : decode cX12_init 189 = .ok (.iconst 4, 1) := z_o7 (z_wat (q := 160) (j := 29) zwX12_init_160 rfl)
theorem dX12_init_190 : decode cX12_init 190 = .ok (.bipush 32, 2) := z_o16 (z_wat (q := 160) (j := 30) zwX12_init_160 rfl) (z_wat (q := 160) (j := 31) zwX12_init_160 rfl) rfl
theorem zwX12_init_192 : ((cX12_init.data.toList.drop 192).take 34).map UInt8.toNat = [79, 89, 8, 16, 114, 79, 89, 16, 6, 16, 105, 79, 89, 16, 7, 16, 103, 79, 89, 16, 8, 16, 104, 79, 89, 16, 9, 16, 116, 79, 89, 16, 10, 16] := by decide +kernel
theorem dX12_init_192 : decode cX12_init 192 = .ok (.iastore, 1) := z_o79 (z_wat (q := 192) (j := 0) zwX12_init_192 rfl)
theorem dX12_init_193 : decode cX12_init 193 = .ok (.dup, 1) := z_o89 (z_wat (q := 192) (j := 1) zwX12_init_192 rfl)
theorem dX12_init_194 : decode cX12_init 194 = .ok (.iconst 5, 1) := z_o8 (z_wat (q := 192) (j := 2) zwX12_init_192 rfl)
theorem dX12_init_195 : decode cX12_init 195 = .ok (.bipush 114, 2) := z_o16 (z_wat (q := 192) (j := 3) zwX12_init_192 rfl) (z_wat (q := 192) (j := 4) zwX12_init_192 rfl) rfl
theorem dX12_init_197 : decode cX12_init 197 = .ok (.iastore, 1) := z_o79 (z_wat (q := 192) (j := 5) zwX12_init_192 rfl)
theorem dX12_init_198 : decode cX12_init 198 = .ok (.dup, 1) := z_o89 (z_wat (q := 192) (j := 6) zwX12_init_192 rfl)
theorem dX12_init_199 : decode cX12_init 199 = .ok (.bipush 6, 2) := z_o16 (z_wat (q := 192) (j := 7) zwX12_init_192 rfl) (z_wat (q := 192) (j := 8) zwX12_init_192 rfl) rfl
theorem dX12_init_201 : decode cX12_init 201 = .ok (.bipush 105, 2) := z_o16 (z_wat (q := 192) (j := 9) zwX12_init_192 rfl) (z_wat (q := 192) (j := 10) zwX12_init_192 rfl) rfl
theorem dX12_init_203 : decode cX12_init 203 = .ok (.iastore, 1) := z_o79 (z_wat (q := 192) (j := 11) zwX12_init_192 rfl)
theorem dX12_init_204 : decode cX12_init 204 = .ok (.dup, 1) := z_o89 (z_wat (q := 192) (j := 12) zwX12_init_192 rfl)
theorem dX12_init_205 : decode cX12_init 205 = .ok (.bipush 7, 2) := z_o16 (z_wat (q := 192) (j := 13) zwX12_init_192 rfl) (z_wat (q := 192) (j := 14) zwX12_init_192 rfl) rfl
theorem dX12_init_207 : decode cX12_init 207 = .ok (.bipush 103, 2) := z_o16 (z_wat (q := 192) (j := 15) zwX12_init_192 rfl) (z_wat (q := 192) (j := 16) zwX12_init_192 rfl) rfl
theorem dX12_init_209 : decode cX12_init 209 = .ok (.iastore, 1) := z_o79 (z_wat (q := 192) (j := 17) zwX12_init_192 rfl)
theorem dX12_init_210 : decode cX12_init 210 = .ok (.dup, 1) := z_o89 (z_wat (q := 192) (j := 18) zwX12_init_192 rfl)
theorem dX12_init_211 : decode cX12_init 211 = .ok (.bipush 8, 2) := z_o16 (z_wat (q := 192) (j := 19) zwX12_init_192 rfl) (z_wat (q := 192) (j := 20) zwX12_init_192 rfl) rfl
theorem dX12_init_213 : decode cX12_init 213 = .ok (.bipush 104, 2) := z_o16 (z_wat (q := 192) (j := 21) zwX12_init_192 rfl) (z_wat (q := 192) (j := 22) zwX12_init_192 rfl) rfl
theorem dX12_init_215 : decode cX12_init 215 = .ok (.iastore, 1) := z_o79 (z_wat (q := 192) (j := 23) zwX12_init_192 rfl)
theorem dX12_init_216 : decode cX12_init 216 = .ok (.dup, 1) := z_o89 (z_wat (q := 192) (j := 24) zwX12_init_192 rfl)
theorem dX12_init_217 : decode cX12_init 217 = .ok (.bipush 9, 2) := z_o16 (z_wat (q := 192) (j := 25) zwX12_init_192 rfl) (z_wat (q := 192) (j := 26) zwX12_init_192 rfl) rfl
theorem dX12_init_219 : decode cX12_init 219 = .ok (.bipush 116, 2) := z_o16 (z_wat (q := 192) (j := 27) zwX12_init_192 rfl) (z_wat (q := 192) (j := 28) zwX12_init_192 rfl) rfl
theorem dX12_init_221 : decode cX12_init 221 = .ok (.iastore, 1) := z_o79 (z_wat (q := 192) (j := 29) zwX12_init_192 rfl)
theorem dX12_init_222 : decode cX12_init 222 = .ok (.dup, 1) := z_o89 (z_wat (q := 192) (j := 30) zwX12_init_192 rfl)
theorem dX12_init_223 : decode cX12_init 223 = .ok (.bipush 10, 2) := z_o16 (z_wat (q := 192) (j := 31) zwX12_init_192 rfl) (z_wat (q := 192) (j := 32) zwX12_init_192 rfl) rfl
theorem zwX12_init_224 : ((cX12_init.data.toList.drop 224).take 34).map UInt8.toNat = [10, 16, 32, 79, 89, 16, 11, 16, 119, 79, 89, 16, 12, 16, 104, 79, 89, 16, 13, 16, 111, 79, 89, 16, 14, 16, 108, 79, 89, 16, 15, 16, 101, 79] := by decide +kernel
theorem dX12_init_225 : decode cX12_init 225 = .ok (.bipush 32, 2) := z_o16 (z_wat (q := 224) (j := 1) zwX12_init_224 rfl) (z_wat (q := 224) (j := 2) zwX12_init_224 rfl) rfl
theorem dX12_init_227 : decode cX12_init 227 = .ok (.iastore, 1) := z_o79 (z_wat (q := 224) (j := 3) zwX12_init_224 rfl)
theorem dX12_init_228 : decode cX12_init 228 = .ok (.dup, 1) := z_o89 (z_wat (q := 224) (j := 4) zwX12_init_224 rfl)
theorem dX12_init_229 : decode cX12_init 229 = .ok (.bipush 11, 2) := z_o16 (z_wat (q := 224) (j := 5) zwX12_init_224 rfl) (z_wat (q := 224) (j := 6) zwX12_init_224 rfl) rfl
theorem dX12_init_231 : decode cX12_init 231 = .ok (.bipush 119, 2) := z_o16 (z_wat (q := 224) (j := 7) zwX12_init_224 rfl) (z_wat (q := 224) (j := 8) zwX12_init_224 rfl) rfl
theorem dX12_init_233 : decode cX12_init 233 = .ok (.iastore, 1) := z_o79 (z_wat (q := 224) (j := 9) zwX12_init_224 rfl)
theorem dX12_init_234 : decode cX12_init 234 = .ok (.dup, 1) := z_o89 (z_wat (q := 224) (j := 10) zwX12_init_224 rfl)
theorem dX12_init_235 : decode cX12_init 235 = .ok (.bipush 12, 2) := z_o16 (z_wat (q := 224) (j := 11) zwX12_init_224 rfl) (z_wat (q := 224) (j := 12) zwX12_init_224 rfl) rfl
theorem dX12_init_237 : decode cX12_init 237 = .ok (.bipush 104, 2) := z_o16 (z_wat (q := 224) (j := 13) zwX12_init_224 rfl) (z_wat (q := 224) (j := 14) zwX12_init_224 rfl) rfl
theorem dX12_init_239 : decode cX12_init 239 = .ok (.iastore, 1) := z_o79 (z_wat (q := 224) (j := 15) zwX12_init_224 rfl)
theorem dX12_init_240 : decode cX12_init 240 = .ok (.dup, 1) := z_o89 (z_wat (q := 224) (j := 16) zwX12_init_224 rfl)
theorem dX12_init_241 : decode cX12_init 241 = .ok (.bipush 13, 2) := z_o16 (z_wat (q := 224) (j := 17) zwX12_init_224 rfl) (z_wat (q := 224) (j := 18) zwX12_init_224 rfl) rfl
theorem dX12_init_243 : decode cX12_init 243 = .ok (.bipush 111, 2) := z_o16 (z_wat (q := 224) (j := 19) zwX12_init_224 rfl) (z_wat (q := 224) (j := 20) zwX12_init_224 rfl) rfl
theorem dX12_init_245 : decode cX12_init 245 = .ok (.iastore, 1) := z_o79 (z_wat (q := 224) (j := 21) zwX12_init_224 rfl)
theorem dX12_init_246 : decode cX12_init 246 = .ok (.dup, 1) := z_o89 (z_wat (q := 224) (j := 22) zwX12_init_224 rfl)
theorem dX12_init_247 : decode cX12_init 247 = .ok (.bipush 14, 2) := z_o16 (z_wat (q := 224) (j := 23) zwX12_init_224 rfl) (z_wat (q := 224) (j := 24) zwX12_init_224 rfl) rfl
theorem dX12_init_249 : decode cX12_init 249 = .ok (.bipush 108, 2) := z_o16 (z_wat (q := 224) (j := 25) zwX12_init_224 rfl) (z_wat (q := 224) (j := 26) zwX12_init_224 rfl) rfl
theorem dX12_init_251 : decode cX12_init 251 = .ok (.iastore, 1) := z_o79 (z_wat (q := 224) (j := 27) zwX12_init_224 rfl)
theorem dX12_init_252 : decode cX12_init 252 = .ok (.dup, 1) := z_o89 (z_wat (q := 224) (j := 28) zwX12_init_224 rfl)
theorem dX12_init_253 : decode cX12_init 253 = .ok (.bipush 15, 2) := z_o16 (z_wat (q := 224) (j := 29) zwX12_init_224 rfl) (z_wat (q := 224) (j := 30) zwX12_init_224 rfl) rfl
theorem dX12_init_255 : decode cX12_init 255 = .ok (.bipush 101, 2) := z_o16 (z_wat (q := 224) (j := 31) zwX12_init_224 rfl) (z_wat (q := 224) (j := 32) zwX12_init_224 rfl) rfl
theorem zwX12_init_256 : ((cX12_init.data.toList.drop 256).take 34).map UInt8.toNat = [101, 79, 89, 16, 16, 16, 32, 79, 89, 16, 17, 16, 98, 79, 89, 16, 18, 16, 114, 79, 89, 16, 19, 16, 111, 79, 89, 16, 20, 16, 107, 79, 89, 16] := by decide +kernel
theorem dX12_init_257 : decode cX12_init 257 = .ok (.iastore, 1) := z_o79 (z_wat (q := 256) (j := 1) zwX12_init_256 rfl)
theorem dX12_init_258 : decode cX12_init 258 = .ok (.dup, 1) := z_o89 (z_wat (q := 256) (j := 2) zwX12_init_256 rfl)
theorem dX12_init_259 : decode cX12_init 259 = .ok (.bipush 16, 2) := z_o16 (z_wat (q := 256) (j := 3) zwX12_init_256 rfl) (z_wat (q := 256) (j := 4) zwX12_init_256 rfl) rfl
theorem dX12_init_261 : decode cX12_init 261 = .ok (.bipush 32, 2) := z_o16 (z_wat (q := 256) (j := 5) zwX12_init_256 rfl) (z_wat (q := 256) (j := 6) zwX12_init_256 rfl) rfl
theorem dX12_init_263 : decode cX12_init 263 = .ok (.iastore, 1) := z_o79 (z_wat (q := 256) (j := 7) zwX12_init_256 rfl)
theorem dX12_init_264 : decode cX12_init 264 = .ok (.dup, 1) := z_o89 (z_wat (q := 256) (j := 8) zwX12_init_256 rfl)
theorem dX12_init_265 : decode cX12_init 265 = .ok (.bipush 17, 2) := z_o16 (z_wat (q := 256) (j := 9) zwX12_init_256 rfl) (z_wat (q := 256) (j := 10) zwX12_init_256 rfl) rfl
theorem dX12_init_267 : decode cX12_init 267 = .ok (.bipush 98, 2) := z_o16 (z_wat (q := 256) (j := 11) zwX12_init_256 rfl) (z_wat (q := 256) (j := 12) zwX12_init_256 rfl) rfl
theorem dX12_init_269 : decode cX12_init 269 = .ok (.iastore, 1) := z_o79 (z_wat (q := 256) (j := 13) zwX12_init_256 rfl)
theorem dX12_init_270 : decode cX12_init 270 = .ok (.dup, 1) := z_o89 (z_wat (q := 256) (j := 14) zwX12_init_256 rfl)
theorem dX12_init_271 : decode cX12_init 271 = .ok (.bipush 18, 2) := z_o16 (z_wat (q := 256) (j := 15) zwX12_init_256 rfl) (z_wat (q := 256) (j := 16) zwX12_init_256 rfl) rfl
theorem dX12_init_273 : decode cX12_init 273 = .ok (.bipush 114, 2) := z_o16 (z_wat (q := 256) (j := 17) zwX12_init_256 rfl) (z_wat (q := 256) (j := 18) zwX12_init_256 rfl) rfl
theorem dX12_init_275 : decode cX12_init 275 = .ok (.iastore, 1) := z_o79 (z_wat (q := 256) (j := 19) zwX12_init_256 rfl)
theorem dX12_init_276 : decode cX12_init 276 = .ok (.dup, 1) := z_o89 (z_wat (q := 256) (j := 20) zwX12_init_256 rfl)
theorem dX12_init_277 : decode cX12_init 277 = .ok (.bipush 19, 2) := z_o16 (z_wat (q := 256) (j := 21) zwX12_init_256 rfl) (z_wat (q := 256) (j := 22) zwX12_init_256 rfl) rfl
theorem dX12_init_279 : decode cX12_init 279 = .ok (.bipush 111, 2) := z_o16 (z_wat (q := 256) (j := 23) zwX12_init_256 rfl) (z_wat (q := 256) (j := 24) zwX12_init_256 rfl) rfl
theorem dX12_init_281 : decode cX12_init 281 = .ok (.iastore, 1) := z_o79 (z_wat (q := 256) (j := 25) zwX12_init_256 rfl)
theorem dX12_init_282 : decode cX12_init 282 = .ok (.dup, 1) := z_o89 (z_wat (q := 256) (j := 26) zwX12_init_256 rfl)
theorem dX12_init_283 : decode cX12_init 283 = .ok (.bipush 20, 2) := z_o16 (z_wat (q := 256) (j := 27) zwX12_init_256 rfl) (z_wat (q := 256) (j := 28) zwX12_init_256 rfl) rfl
theorem dX12_init_285 : decode cX12_init 285 = .ok (.bipush 107, 2) := z_o16 (z_wat (q := 256) (j := 29) zwX12_init_256 rfl) (z_wat (q := 256) (j := 30) zwX12_init_256 rfl) rfl
theorem dX12_init_287 : decode cX12_init 287 = .ok (.iastore, 1) := z_o79 (z_wat (q := 256) (j := 31) zwX12_init_256 rfl)
theorem zwX12_init_288 : ((cX12_init.data.toList.drop 288).take 34).map UInt8.toNat = [89, 16, 21, 16, 101, 79, 89, 16, 22, 16, 110, 79, 89, 16, 23, 16, 32, 79, 89, 16, 24, 16, 98, 79, 89, 16, 25, 16, 117, 79, 89, 16, 26, 16] := by decide +kernel
theorem dX12_init_288 : decode cX12_init 288 = .ok (.dup, 1) := z_o89 (z_wat (q := 288) (j := 0) zwX12_init_288 rfl)
theorem dX12_init_289 : decode cX12_init 289 = .ok (.bipush 21, 2) := z_o16 (z_wat (q := 288) (j := 1) zwX12_init_288 rfl) (z_wat (q := 288) (j := 2) zwX12_init_288 rfl) rfl
theorem dX12_init_291 : decode cX12_init 291 = .ok (.bipush 101, 2) := z_o16 (z_wat (q := 288) (j := 3) zwX12_init_288 rfl) (z_wat (q := 288) (j := 4) zwX12_init_288 rfl) rfl
theorem dX12_init_293 : decode cX12_init 293 = .ok (.iastore, 1) := z_o79 (z_wat (q := 288) (j := 5) zwX12_init_288 rfl)
theorem dX12_init_294 : decode cX12_init 294 = .ok (.dup, 1) := z_o89 (z_wat (q := 288) (j := 6) zwX12_init_288 rfl)
theorem dX12_init_295 : decode cX12_init 295 = .ok (.bipush 22, 2) := z_o16 (z_wat (q := 288) (j := 7) zwX12_init_288 rfl) (z_wat (q := 288) (j := 8) zwX12_init_288 rfl) rfl
theorem dX12_init_297 : decode cX12_init 297 = .ok (.bipush 110, 2) := z_o16 (z_wat (q := 288) (j := 9) zwX12_init_288 rfl) (z_wat (q := 288) (j := 10) zwX12_init_288 rfl) rfl
theorem dX12_init_299 : decode cX12_init 299 = .ok (.iastore, 1) := z_o79 (z_wat (q := 288) (j := 11) zwX12_init_288 rfl)
theorem dX12_init_300 : decode cX12_init 300 = .ok (.dup, 1) := z_o89 (z_wat (q := 288) (j := 12) zwX12_init_288 rfl)
theorem dX12_init_301 : decode cX12_init 301 = .ok (.bipush 23, 2) := z_o16 (z_wat (q := 288) (j := 13) zwX12_init_288 rfl) (z_wat (q := 288) (j := 14) zwX12_init_288 rfl) rfl
theorem dX12_init_303 : decode cX12_init 303 = .ok (.bipush 32, 2) := z_o16 (z_wat (q := 288) (j := 15) zwX12_init_288 rfl) (z_wat (q := 288) (j := 16) zwX12_init_288 rfl) rfl
theorem dX12_init_305 : decode cX12_init 305 = .ok (.iastore, 1) := z_o79 (z_wat (q := 288) (j := 17) zwX12_init_288 rfl)
theorem dX12_init_306 : decode cX12_init 306 = .ok (.dup, 1) := z_o89 (z_wat (q := 288) (j := 18) zwX12_init_288 rfl)
theorem dX12_init_307 : decode cX12_init 307 = .ok (.bipush 24, 2) := z_o16 (z_wat (q := 288) (j := 19) zwX12_init_288 rfl) (z_wat (q := 288) (j := 20) zwX12_init_288 rfl) rfl
theorem dX12_init_309 : decode cX12_init 309 = .ok (.bipush 98, 2) := z_o16 (z_wat (q := 288) (j := 21) zwX12_init_288 rfl) (z_wat (q := 288) (j := 22) zwX12_init_288 rfl) rfl
theorem dX12_init_311 : decode cX12_init 311 = .ok (.iastore, 1) := z_o79 (z_wat (q := 288) (j := 23) zwX12_init_288 rfl)
theorem dX12_init_312 : decode cX12_init 312 = .ok (.dup, 1) := z_o89 (z_wat (q := 288) (j := 24) zwX12_init_288 rfl)
theorem dX12_init_313 : decode cX12_init 313 = .ok (.bipush 25, 2) := z_o16 (z_wat (q := 288) (j := 25) zwX12_init_288 rfl) (z_wat (q := 288) (j := 26) zwX12_init_288 rfl) rfl
theorem dX12_init_315 : decode cX12_init 315 = .ok (.bipush 117, 2) := z_o16 (z_wat (q := 288) (j := 27) zwX12_init_288 rfl) (z_wat (q := 288) (j := 28) zwX12_init_288 rfl) rfl
theorem dX12_init_317 : decode cX12_init 317 = .ok (.iastore, 1) := z_o79 (z_wat (q := 288) (j := 29) zwX12_init_288 rfl)
theorem dX12_init_318 : decode cX12_init 318 = .ok (.dup, 1) := z_o89 (z_wat (q := 288) (j := 30) zwX12_init_288 rfl)
theorem dX12_init_319 : decode cX12_init 319 = .ok (.bipush 26, 2) := z_o16 (z_wat (q := 288) (j := 31) zwX12_init_288 rfl) (z_wat (q := 288) (j := 32) zwX12_init_288 rfl) rfl
theorem zwX12_init_320 : ((cX12_init.data.toList.drop 320).take 34).map UInt8.toNat = [26, 16, 114, 79, 89, 16, 27, 16, 110, 79, 89, 16, 28, 16, 116, 79, 89, 16, 29, 16, 32, 79, 89, 16, 30, 16, 103, 79, 89, 16, 31, 16, 110, 79] := by decide +kernel
theorem dX12_init_321 : decode cX12_init 321 = .ok (.bipush 114, 2) := z_o16 (z_wat (q := 320) (j := 1) zwX12_init_320 rfl) (z_wat (q := 320) (j := 2) zwX12_init_320 rfl) rfl
theorem dX12_init_323 : decode cX12_init 323 = .ok (.iastore, 1) := z_o79 (z_wat (q := 320) (j := 3) zwX12_init_320 rfl)
theorem dX12_init_324 : decode cX12_init 324 = .ok (.dup, 1) := z_o89 (z_wat (q := 320) (j := 4) zwX12_init_320 rfl)
theorem dX12_init_325 : decode cX12_init 325 = .ok (.bipush 27, 2) := z_o16 (z_wat (q := 320) (j := 5) zwX12_init_320 rfl) (z_wat (q := 320) (j := 6) zwX12_init_320 rfl) rfl
theorem dX12_init_327 : decode cX12_init 327 = .ok (.bipush 110, 2) := z_o16 (z_wat (q := 320) (j := 7) zwX12_init_320 rfl) (z_wat (q := 320) (j := 8) zwX12_init_320 rfl) rfl
theorem dX12_init_329 : decode cX12_init 329 = .ok (.iastore, 1) := z_o79 (z_wat (q := 320) (j := 9) zwX12_init_320 rfl)
theorem dX12_init_330 : decode cX12_init 330 = .ok (.dup, 1) := z_o89 (z_wat (q := 320) (j := 10) zwX12_init_320 rfl)
theorem dX12_init_331 : decode cX12_init 331 = .ok (.bipush 28, 2) := z_o16 (z_wat (q := 320) (j := 11) zwX12_init_320 rfl) (z_wat (q := 320) (j := 12) zwX12_init_320 rfl) rfl
theorem dX12_init_333 : decode cX12_init 333 = .ok (.bipush 116, 2) := z_o16 (z_wat (q := 320) (j := 13) zwX12_init_320 rfl) (z_wat (q := 320) (j := 14) zwX12_init_320 rfl) rfl
theorem dX12_init_335 : decode cX12_init 335 = .ok (.iastore, 1) := z_o79 (z_wat (q := 320) (j := 15) zwX12_init_320 rfl)
theorem dX12_init_336 : decode cX12_init 336 = .ok (.dup, 1) := z_o89 (z_wat (q := 320) (j := 16) zwX12_init_320 rfl)
theorem dX12_init_337 : decode cX12_init 337 = .ok (.bipush 29, 2) := z_o16 (z_wat (q := 320) (j := 17) zwX12_init_320 rfl) (z_wat (q := 320) (j := 18) zwX12_init_320 rfl) rfl
theorem dX12_init_339 : decode cX12_init 339 = .ok (.bipush 32, 2) := z_o16 (z_wat (q := 320) (j := 19) zwX12_init_320 rfl) (z_wat (q := 320) (j := 20) zwX12_init_320 rfl) rfl
theorem dX12_init_341 : decode cX12_init 341 = .ok (.iastore, 1) := z_o79 (z_wat (q := 320) (j := 21) zwX12_init_320 rfl)
theorem dX12_init_342 : decode cX12_init 342 = .ok (.dup, 1) := z_o89 (z_wat (q := 320) (j := 22) zwX12_init_320 rfl)
theorem dX12_init_343 : decode cX12_init 343 = .ok (.bipush 30, 2) := z_o16 (z_wat (q := 320) (j := 23) zwX12_init_320 rfl) (z_wat (q := 320) (j := 24) zwX12_init_320 rfl) rfl
theorem dX12_init_345 : decode cX12_init 345 = .ok (.bipush 103, 2) := z_o16 (z_wat (q := 320) (j := 25) zwX12_init_320 rfl) (z_wat (q := 320) (j := 26) zwX12_init_320 rfl) rfl
theorem dX12_init_347 : decode cX12_init 347 = .ok (.iastore, 1) := z_o79 (z_wat (q := 320) (j := 27) zwX12_init_320 rfl)
theorem dX12_init_348 : decode cX12_init 348 = .ok (.dup, 1) := z_o89 (z_wat (q := 320) (j := 28) zwX12_init_320 rfl)
theorem dX12_init_349 : decode cX12_init 349 = .ok (.bipush 31, 2) := z_o16 (z_wat (q := 320) (j := 29) zwX12_init_320 rfl) (z_wat (q := 320) (j := 30) zwX12_init_320 rfl) rfl
theorem dX12_init_351 : decode cX12_init 351 = .ok (.bipush 110, 2) := z_o16 (z_wat (q := 320) (j := 31) zwX12_init_320 rfl) (z_wat (q := 320) (j := 32) zwX12_init_320 rfl) rfl
theorem zwX12_init_352 : ((cX12_init.data.toList.drop 352).take 34).map UInt8.toNat = [110, 79, 89, 16, 32, 16, 97, 79, 89, 16, 33, 16, 119, 79, 89, 16, 34, 16, 101, 79, 89, 16, 35, 16, 100, 79, 89, 16, 36, 16, 32, 79, 89, 16] := by decide +kernel
theorem dX12_init_353 : decode cX12_init 353 = .ok (.iastore, 1) := z_o79 (z_wat (q := 352) (j := 1) zwX12_init_352 rfl)
theorem dX12_init_354 : decode cX12_init 354 = .ok (.dup, 1) := z_o89 (z_wat (q := 352) (j := 2) zwX12_init_352 rfl)
theorem dX12_init_355 : decode cX12_init 355 = .ok (.bipush 32, 2) := z_o16 (z_wat (q := 352) (j := 3) zwX12_init_352 rfl) (z_wat (q := 352) (j := 4) zwX12_init_352 rfl) rfl
theorem dX12_init_357 : decode cX12_init 357 = .ok (.bipush 97, 2) := z_o16 (z_wat (q := 352) (j := 5) zwX12_init_352 rfl) (z_wat (q := 352) (j := 6) zwX12_init_352 rfl) rfl
theorem dX12_init_359 : decode cX12_init 359 = .ok (.iastore, 1) := z_o79 (z_wat (q := 352) (j := 7) zwX12_init_352 rfl)
theorem dX12_init_360 : decode cX12_init 360 = .ok (.dup, 1) := z_o89 (z_wat (q := 352) (j := 8) zwX12_init_352 rfl)
theorem dX12_init_361 : decode cX12_init 361 = .ok (.bipush 33, 2) := z_o16 (z_wat (q := 352) (j := 9) zwX12_init_352 rfl) (z_wat (q := 352) (j := 10) zwX12_init_352 rfl) rfl
theorem dX12_init_363 : decode cX12_init 363 = .ok (.bipush 119, 2) := z_o16 (z_wat (q := 352) (j := 11) zwX12_init_352 rfl) (z_wat (q := 352) (j := 12) zwX12_init_352 rfl) rfl
theorem dX12_init_365 : decode cX12_init 365 = .ok (.iastore, 1) := z_o79 (z_wat (q := 352) (j := 13) zwX12_init_352 rfl)
theorem dX12_init_366 : decode cX12_init 366 = .ok (.dup, 1) := z_o89 (z_wat (q := 352) (j := 14) zwX12_init_352 rfl)
theorem dX12_init_367 : decode cX12_init 367 = .ok (.bipush 34, 2) := z_o16 (z_wat (q := 352) (j := 15) zwX12_init_352 rfl) (z_wat (q := 352) (j := 16) zwX12_init_352 rfl) rfl
theorem dX12_init_369 : decode cX12_init 369 = .ok (.bipush 101, 2) := z_o16 (z_wat (q := 352) (j := 17) zwX12_init_352 rfl) (z_wat (q := 352) (j := 18) zwX12_init_352 rfl) rfl
theorem dX12_init_371 : decode cX12_init 371 = .ok (.iastore, 1) := z_o79 (z_wat (q := 352) (j := 19) zwX12_init_352 rfl)
theorem dX12_init_372 : decode cX12_init 372 = .ok (.dup, 1) := z_o89 (z_wat (q := 352) (j := 20) zwX12_init_352 rfl)
theorem dX12_init_373 : decode cX12_init 373 = .ok (.bipush 35, 2) := z_o16 (z_wat (q := 352) (j := 21) zwX12_init_352 rfl) (z_wat (q := 352) (j := 22) zwX12_init_352 rfl) rfl
theorem dX12_init_375 : decode cX12_init 375 = .ok (.bipush 100, 2) := z_o16 (z_wat (q := 352) (j := 23) zwX12_init_352 rfl) (z_wat (q := 352) (j := 24) zwX12_init_352 rfl) rfl
theorem dX12_init_377 : decode cX12_init 377 = .ok (.iastore, 1) := z_o79 (z_wat (q := 352) (j := 25) zwX12_init_352 rfl)
theorem dX12_init_378 : decode cX12_init 378 = .ok (.dup, 1) := z_o89 (z_wat (q := 352) (j := 26) zwX12_init_352 rfl)
theorem dX12_init_379 : decode cX12_init 379 = .ok (.bipush 36, 2) := z_o16 (z_wat (q := 352) (j := 27) zwX12_init_352 rfl) (z_wat (q := 352) (j := 28) zwX12_init_352 rfl) rfl
theorem dX12_init_381 : decode cX12_init 381 = .ok (.bipush 32, 2) := z_o16 (z_wat (q := 352) (j := 29) zwX12_init_352 rfl) (z_wat (q := 352) (j := 30) zwX12_init_352 rfl) rfl
theorem dX12_init_383 : decode cX12_init 383 = .ok (.iastore, 1) := z_o79 (z_wat (q := 352) (j := 31) zwX12_init_352 rfl)
theorem zwX12_init_384 : ((cX12_init.data.toList.drop 384).take 34).map UInt8.toNat = [89, 16, 37, 16, 99, 79, 89, 16, 38, 16, 97, 79, 89, 16, 39, 16, 117, 79, 89, 16, 40, 16, 115, 79, 89, 16, 41, 16, 101, 79, 89, 16, 42, 16] := by decide +kernel
theorem dX12_init_384 : decode cX12_init 384 = .ok (.dup, 1) := z_o89 (z_wat (q := 384) (j := 0) zwX12_init_384 rfl)
theorem dX12_init_385 : decode cX12_init 385 = .ok (.bipush 37, 2) := z_o16 (z_wat (q := 384) (j := 1) zwX12_init_384 rfl) (z_wat (q := 384) (j := 2) zwX12_init_384 rfl) rfl
theorem dX12_init_387 : decode cX12_init 387 = .ok (.bipush 99, 2) := z_o16 (z_wat (q := 384) (j := 3) zwX12_init_384 rfl) (z_wat (q := 384) (j := 4) zwX12_init_384 rfl) rfl
theorem dX12_init_389 : decode cX12_init 389 = .ok (.iastore, 1) := z_o79 (z_wat (q := 384) (j := 5) zwX12_init_384 rfl)
theorem dX12_init_390 : decode cX12_init 390 = .ok (.dup, 1) := z_o89 (z_wat (q := 384) (j := 6) zwX12_init_384 rfl)
theorem dX12_init_391 : decode cX12_init 391 = .ok (.bipush 38, 2) := z_o16 (z_wat (q := 384) (j := 7) zwX12_init_384 rfl) (z_wat (q := 384) (j := 8) zwX12_init_384 rfl) rfl
theorem dX12_init_393 : decode cX12_init 393 = .ok (.bipush 97, 2) := z_o16 (z_wat (q := 384) (j := 9) zwX12_init_384 rfl) (z_wat (q := 384) (j := 10) zwX12_init_384 rfl) rfl
theorem dX12_init_395 : decode cX12_init 395 = .ok (.iastore, 1) := z_o79 (z_wat (q := 384) (j := 11) zwX12_init_384 rfl)
theorem dX12_init_396 : decode cX12_init 396 = .ok (.dup, 1) := z_o89 (z_wat (q := 384) (j := 12) zwX12_init_384 rfl)
theorem dX12_init_397 : decode cX12_init 397 = .ok (.bipush 39, 2) := z_o16 (z_wat (q := 384) (j := 13) zwX12_init_384 rfl) (z_wat (q := 384) (j := 14) zwX12_init_384 rfl) rfl
theorem dX12_init_399 : decode cX12_init 399 = .ok (.bipush 117, 2) := z_o16 (z_wat (q := 384) (j := 15) zwX12_init_384 rfl) (z_wat (q := 384) (j := 16) zwX12_init_384 rfl) rfl
theorem dX12_init_401 : decode cX12_init 401 = .ok (.iastore, 1) := z_o79 (z_wat (q := 384) (j := 17) zwX12_init_384 rfl)
theorem dX12_init_402 : decode cX12_init 402 = .ok (.dup, 1) := z_o89 (z_wat (q := 384) (j := 18) zwX12_init_384 rfl)
theorem dX12_init_403 : decode cX12_init 403 = .ok (.bipush 40, 2) := z_o16 (z_wat (q := 384) (j := 19) zwX12_init_384 rfl) (z_wat (q := 384) (j := 20) zwX12_init_384 rfl) rfl
theorem dX12_init_405 : decode cX12_init 405 = .ok (.bipush 115, 2) := z_o16 (z_wat (q := 384) (j := 21) zwX12_init_384 rfl) (z_wat (q := 384) (j := 22) zwX12_init_384 rfl) rfl
theorem dX12_init_407 : decode cX12_init 407 = .ok (.iastore, 1) := z_o79 (z_wat (q := 384) (j := 23) zwX12_init_384 rfl)
theorem dX12_init_408 : decode cX12_init 408 = .ok (.dup, 1) := z_o89 (z_wat (q := 384) (j := 24) zwX12_init_384 rfl)
theorem dX12_init_409 : decode cX12_init 409 = .ok (.bipush 41, 2) := z_o16 (z_wat (q := 384) (j := 25) zwX12_init_384 rfl) (z_wat (q := 384) (j := 26) zwX12_init_384 rfl) rfl
theorem dX12_init_411 : decode cX12_init 411 = .ok (.bipush 101, 2) := z_o16 (z_wat (q := 384) (j := 27) zwX12_init_384 rfl) (z_wat (q := 384) (j := 28) zwX12_init_384 rfl) rfl
theorem dX12_init_413 : decode cX12_init 413 = .ok (.iastore, 1) := z_o79 (z_wat (q := 384) (j := 29) zwX12_init_384 rfl)
theorem dX12_init_414 : decode cX12_init 414 = .ok (.dup, 1) := z_o89 (z_wat (q := 384) (j := 30) zwX12_init_384 rfl)
theorem dX12_init_415 : decode cX12_init 415 = .ok (.bipush 42, 2) := z_o16 (z_wat (q := 384) (j := 31) zwX12_init_384 rfl) (z_wat (q := 384) (j := 32) zwX12_init_384 rfl) rfl
theorem zwX12_init_416 : ((cX12_init.data.toList.drop 416).take 34).map UInt8.toNat = [42, 16, 32, 79, 89, 16, 43, 16, 111, 79, 89, 16, 44, 16, 114, 79, 89, 16, 45, 16, 32, 79, 89, 16, 46, 16, 97, 79, 89, 16, 47, 16, 110, 79] := by decide +kernel
theorem dX12_init_417 : decode cX12_init 417 = .ok (.bipush 32, 2) := z_o16 (z_wat (q := 416) (j := 1) zwX12_init_416 rfl) (z_wat (q := 416) (j := 2) zwX12_init_416 rfl) rfl
theorem dX12_init_419 : decode cX12_init 419 = .ok (.iastore, 1) := z_o79 (z_wat (q := 416) (j := 3) zwX12_init_416 rfl)
theorem dX12_init_420 : decode cX12_init 420 = .ok (.dup, 1) := z_o89 (z_wat (q := 416) (j := 4) zwX12_init_416 rfl)
theorem dX12_init_421 : decode cX12_init 421 = .ok (.bipush 43, 2) := z_o16 (z_wat (q := 416) (j := 5) zwX12_init_416 rfl) (z_wat (q := 416) (j := 6) zwX12_init_416 rfl) rfl
theorem dX12_init_423 : decode cX12_init 423 = .ok (.bipush 111, 2) := z_o16 (z_wat (q := 416) (j := 7) zwX12_init_416 rfl) (z_wat (q := 416) (j := 8) zwX12_init_416 rfl) rfl
theorem dX12_init_425 : decode cX12_init 425 = .ok (.iastore, 1) := z_o79 (z_wat (q := 416) (j := 9) zwX12_init_416 rfl)
theorem dX12_init_426 : decode cX12_init 426 = .ok (.dup, 1) := z_o89 (z_wat (q := 416) (j := 10) zwX12_init_416 rfl)
theorem dX12_init_427 : decode cX12_init 427 = .ok (.bipush 44, 2) := z_o16 (z_wat (q := 416) (j := 11) zwX12_init_416 rfl) (z_wat (q := 416) (j := 12) zwX12_init_416 rfl) rfl
theorem dX12_init_429 : decode cX12_init 429 = .ok (.bipush 114, 2) := z_o16 (z_wat (q := 416) (j := 13) zwX12_init_416 rfl) (z_wat (q := 416) (j := 14) zwX12_init_416 rfl) rfl
theorem dX12_init_431 : decode cX12_init 431 = .ok (.iastore, 1) := z_o79 (z_wat (q := 416) (j := 15) zwX12_init_416 rfl)
theorem dX12_init_432 : decode cX12_init 432 = .ok (.dup, 1) := z_o89 (z_wat (q := 416) (j := 16) zwX12_init_416 rfl)
theorem dX12_init_433 : decode cX12_init 433 = .ok (.bipush 45, 2) := z_o16 (z_wat (q := 416) (j := 17) zwX12_init_416 rfl) (z_wat (q := 416) (j := 18) zwX12_init_416 rfl) rfl
theorem dX12_init_435 : decode cX12_init 435 = .ok (.bipush 32, 2) := z_o16 (z_wat (q := 416) (j := 19) zwX12_init_416 rfl) (z_wat (q := 416) (j := 20) zwX12_init_416 rfl) rfl
theorem dX12_init_437 : decode cX12_init 437 = .ok (.iastore, 1) := z_o79 (z_wat (q := 416) (j := 21) zwX12_init_416 rfl)
theorem dX12_init_438 : decode cX12_init 438 = .ok (.dup, 1) := z_o89 (z_wat (q := 416) (j := 22) zwX12_init_416 rfl)
theorem dX12_init_439 : decode cX12_init 439 = .ok (.bipush 46, 2) := z_o16 (z_wat (q := 416) (j := 23) zwX12_init_416 rfl) (z_wat (q := 416) (j := 24) zwX12_init_416 rfl) rfl
theorem dX12_init_441 : decode cX12_init 441 = .ok (.bipush 97, 2) := z_o16 (z_wat (q := 416) (j := 25) zwX12_init_416 rfl) (z_wat (q := 416) (j := 26) zwX12_init_416 rfl) rfl
theorem dX12_init_443 : decode cX12_init 443 = .ok (.iastore, 1) := z_o79 (z_wat (q := 416) (j := 27) zwX12_init_416 rfl)
theorem dX12_init_444 : decode cX12_init 444 = .ok (.dup, 1) := z_o89 (z_wat (q := 416) (j := 28) zwX12_init_416 rfl)
theorem dX12_init_445 : decode cX12_init 445 = .ok (.bipush 47, 2) := z_o16 (z_wat (q := 416) (j := 29) zwX12_init_416 rfl) (z_wat (q := 416) (j := 30) zwX12_init_416 rfl) rfl
theorem dX12_init_447 : decode cX12_init 447 = .ok (.bipush 110, 2) := z_o16 (z_wat (q := 416) (j := 31) zwX12_init_416 rfl) (z_wat (q := 416) (j := 32) zwX12_init_416 rfl) rfl
theorem zwX12_init_448 : ((cX12_init.data.toList.drop 448).take 34).map UInt8.toNat = [110, 79, 89, 16, 48, 16, 100, 79, 89, 16, 49, 16, 32, 79, 89, 16, 50, 16, 110, 79, 89, 16, 51, 16, 111, 79, 89, 16, 52, 16, 116, 79, 89, 16] := by decide +kernel
theorem dX12_init_449 : decode cX12_init 449 = .ok (.iastore, 1) := z_o79 (z_wat (q := 448) (j := 1) zwX12_init_448 rfl)
theorem dX12_init_450 : decode cX12_init 450 = .ok (.dup, 1) := z_o89 (z_wat (q := 448) (j := 2) zwX12_init_448 rfl)
theorem dX12_init_451 : decode cX12_init 451 = .ok (.bipush 48, 2) := z_o16 (z_wat (q := 448) (j := 3) zwX12_init_448 rfl) (z_wat (q := 448) (j := 4) zwX12_init_448 rfl) rfl
theorem dX12_init_453 : decode cX12_init 453 = .ok (.bipush 100, 2) := z_o16 (z_wat (q := 448) (j := 5) zwX12_init_448 rfl) (z_wat (q := 448) (j := 6) zwX12_init_448 rfl) rfl
theorem dX12_init_455 : decode cX12_init 455 = .ok (.iastore, 1) := z_o79 (z_wat (q := 448) (j := 7) zwX12_init_448 rfl)
theorem dX12_init_456 : decode cX12_init 456 = .ok (.dup, 1) := z_o89 (z_wat (q := 448) (j := 8) zwX12_init_448 rfl)
theorem dX12_init_457 : decode cX12_init 457 = .ok (.bipush 49, 2) := z_o16 (z_wat (q := 448) (j := 9) zwX12_init_448 rfl) (z_wat (q := 448) (j := 10) zwX12_init_448 rfl) rfl
theorem dX12_init_459 : decode cX12_init 459 = .ok (.bipush 32, 2) := z_o16 (z_wat (q := 448) (j := 11) zwX12_init_448 rfl) (z_wat (q := 448) (j := 12) zwX12_init_448 rfl) rfl
theorem dX12_init_461 : decode cX12_init 461 = .ok (.iastore, 1) := z_o79 (z_wat (q := 448) (j := 13) zwX12_init_448 rfl)
theorem dX12_init_462 : decode cX12_init 462 = .ok (.dup, 1) := z_o89 (z_wat (q := 448) (j := 14) zwX12_init_448 rfl)
theorem dX12_init_463 : decode cX12_init 463 = .ok (.bipush 50, 2) := z_o16 (z_wat (q := 448) (j := 15) zwX12_init_448 rfl) (z_wat (q := 448) (j := 16) zwX12_init_448 rfl) rfl
theorem dX12_init_465 : decode cX12_init 465 = .ok (.bipush 110, 2) := z_o16 (z_wat (q := 448) (j := 17) zwX12_init_448 rfl) (z_wat (q := 448) (j := 18) zwX12_init_448 rfl) rfl
theorem dX12_init_467 : decode cX12_init 467 = .ok (.iastore, 1) := z_o79 (z_wat (q := 448) (j := 19) zwX12_init_448 rfl)
theorem dX12_init_468 : decode cX12_init 468 = .ok (.dup, 1) := z_o89 (z_wat (q := 448) (j := 20) zwX12_init_448 rfl)
theorem dX12_init_469 : decode cX12_init 469 = .ok (.bipush 51, 2) := z_o16 (z_wat (q := 448) (j := 21) zwX12_init_448 rfl) (z_wat (q := 448) (j := 22) zwX12_init_448 rfl) rfl
theorem dX12_init_471 : decode cX12_init 471 = .ok (.bipush 111, 2) := z_o16 (z_wat (q := 448) (j := 23) zwX12_init_448 rfl) (z_wat (q := 448) (j := 24) zwX12_init_448 rfl) rfl
theorem dX12_init_473 : decode cX12_init 473 = .ok (.iastore, 1) := z_o79 (z_wat (q := 448) (j := 25) zwX12_init_448 rfl)
theorem dX12_init_474 : decode cX12_init 474 = .ok (.dup, 1) := z_o89 (z_wat (q := 448) (j := 26) zwX12_init_448 rfl)
theorem dX12_init_475 : decode cX12_init 475 = .ok (.bipush 52, 2) := z_o16 (z_wat (q := 448) (j := 27) zwX12_init_448 rfl) (z_wat (q := 448) (j := 28) zwX12_init_448 rfl) rfl
theorem dX12_init_477 : decode cX12_init 477 = .ok (.bipush 116, 2) := z_o16 (z_wat (q := 448) (j := 29) zwX12_init_448 rfl) (z_wat (q := 448) (j := 30) zwX12_init_448 rfl) rfl
theorem dX12_init_479 : decode cX12_init 479 = .ok (.iastore, 1) := z_o79 (z_wat (q := 448) (j := 31) zwX12_init_448 rfl)
theorem zwX12_init_480 : ((cX12_init.data.toList.drop 480).take 34).map UInt8.toNat = [89, 16, 53, 16, 32, 79, 89, 16, 54, 16, 116, 79, 89, 16, 55, 16, 104, 79, 89, 16, 56, 16, 101, 79, 89, 16, 57, 16, 110, 79, 89, 16, 58, 16] := by decide +kernel
theorem dX12_init_480 : decode cX12_init 480 = .ok (.dup, 1) := z_o89 (z_wat (q := 480) (j := 0) zwX12_init_480 rfl)
theorem dX12_init_481 : decode cX12_init 481 = .ok (.bipush 53, 2) := z_o16 (z_wat (q := 480) (j := 1) zwX12_init_480 rfl) (z_wat (q := 480) (j := 2) zwX12_init_480 rfl) rfl
theorem dX12_init_483 : decode cX12_init 483 = .ok (.bipush 32, 2) := z_o16 (z_wat (q := 480) (j := 3) zwX12_init_480 rfl) (z_wat (q := 480) (j := 4) zwX12_init_480 rfl) rfl
theorem dX12_init_485 : decode cX12_init 485 = .ok (.iastore, 1) := z_o79 (z_wat (q := 480) (j := 5) zwX12_init_480 rfl)
theorem dX12_init_486 : decode cX12_init 486 = .ok (.dup, 1) := z_o89 (z_wat (q := 480) (j := 6) zwX12_init_480 rfl)
theorem dX12_init_487 : decode cX12_init 487 = .ok (.bipush 54, 2) := z_o16 (z_wat (q := 480) (j := 7) zwX12_init_480 rfl) (z_wat (q := 480) (j := 8) zwX12_init_480 rfl) rfl
theorem dX12_init_489 : decode cX12_init 489 = .ok (.bipush 116, 2) := z_o16 (z_wat (q := 480) (j := 9) zwX12_init_480 rfl) (z_wat (q := 480) (j := 10) zwX12_init_480 rfl) rfl
theorem dX12_init_491 : decode cX12_init 491 = .ok (.iastore, 1) := z_o79 (z_wat (q := 480) (j := 11) zwX12_init_480 rfl)
theorem dX12_init_492 : decode cX12_init 492 = .ok (.dup, 1) := z_o89 (z_wat (q := 480) (j := 12) zwX12_init_480 rfl)
theorem dX12_init_493 : decode cX12_init 493 = .ok (.bipush 55, 2) := z_o16 (z_wat (q := 480) (j := 13) zwX12_init_480 rfl) (z_wat (q := 480) (j := 14) zwX12_init_480 rfl) rfl
theorem dX12_init_495 : decode cX12_init 495 = .ok (.bipush 104, 2) := z_o16 (z_wat (q := 480) (j := 15) zwX12_init_480 rfl) (z_wat (q := 480) (j := 16) zwX12_init_480 rfl) rfl
theorem dX12_init_497 : decode cX12_init 497 = .ok (.iastore, 1) := z_o79 (z_wat (q := 480) (j := 17) zwX12_init_480 rfl)
theorem dX12_init_498 : decode cX12_init 498 = .ok (.dup, 1) := z_o89 (z_wat (q := 480) (j := 18) zwX12_init_480 rfl)
theorem dX12_init_499 : decode cX12_init 499 = .ok (.bipush 56, 2) := z_o16 (z_wat (q := 480) (j := 19) zwX12_init_480 rfl) (z_wat (q := 480) (j := 20) zwX12_init_480 rfl) rfl
theorem dX12_init_501 : decode cX12_init 501 = .ok (.bipush 101, 2) := z_o16 (z_wat (q := 480) (j := 21) zwX12_init_480 rfl) (z_wat (q := 480) (j := 22) zwX12_init_480 rfl) rfl
theorem dX12_init_503 : decode cX12_init 503 = .ok (.iastore, 1) := z_o79 (z_wat (q := 480) (j := 23) zwX12_init_480 rfl)
theorem dX12_init_504 : decode cX12_init 504 = .ok (.dup, 1) := z_o89 (z_wat (q := 480) (j := 24) zwX12_init_480 rfl)
theorem dX12_init_505 : decode cX12_init 505 = .ok (.bipush 57, 2) := z_o16 (z_wat (q := 480) (j := 25) zwX12_init_480 rfl) (z_wat (q := 480) (j := 26) zwX12_init_480 rfl) rfl
theorem dX12_init_507 : decode cX12_init 507 = .ok (.bipush 110, 2) := z_o16 (z_wat (q := 480) (j := 27) zwX12_init_480 rfl) (z_wat (q := 480) (j := 28) zwX12_init_480 rfl) rfl
theorem dX12_init_509 : decode cX12_init 509 = .ok (.iastore, 1) := z_o79 (z_wat (q := 480) (j := 29) zwX12_init_480 rfl)
theorem dX12_init_510 : decode cX12_init 510 = .ok (.dup, 1) := z_o89 (z_wat (q := 480) (j := 30) zwX12_init_480 rfl)
theorem dX12_init_511 : decode cX12_init 511 = .ok (.bipush 58, 2) := z_o16 (z_wat (q := 480) (j := 31) zwX12_init_480 rfl) (z_wat (q := 480) (j := 32) zwX12_init_480 rfl) rfl
theorem zwX12_init_512 : ((cX12_init.data.toList.drop 512).take 34).map UInt8.toNat = [58, 16, 32, 79, 89, 16, 59, 16, 115, 79, 89, 16, 60, 16, 105, 79, 89, 16, 61, 16, 122, 79, 89, 16, 62, 16, 101, 79, 89, 16, 63, 16, 32, 79] := by decide +kernel
theorem dX12_init_513 : decode cX12_init 513 = .ok (.bipush 32, 2) := z_o16 (z_wat (q := 512) (j := 1) zwX12_init_512 rfl) (z_wat (q := 512) (j := 2) zwX12_init_512 rfl) rfl
theorem dX12_init_515 : decode cX12_init 515 = .ok (.iastore, 1) := z_o79 (z_wat (q := 512) (j := 3) zwX12_init_512 rfl)
theorem dX12_init_516 : decode cX12_init 516 = .ok (.dup, 1) := z_o89 (z_wat (q := 512) (j := 4) zwX12_init_512 rfl)
theorem dX12_init_517 : decode cX12_init 517 = .ok (.bipush 59, 2) := z_o16 (z_wat (q := 512) (j := 5) zwX12_init_512 rfl) (z_wat (q := 512) (j := 6) zwX12_init_512 rfl) rfl
theorem dX12_init_519 : decode cX12_init 519 = .ok (.bipush 115, 2) := z_o16 (z_wat (q := 512) (j := 7) zwX12_init_512 rfl) (z_wat (q := 512) (j := 8) zwX12_init_512 rfl) rfl
theorem dX12_init_521 : decode cX12_init 521 = .ok (.iastore, 1) := z_o79 (z_wat (q := 512) (j := 9) zwX12_init_512 rfl)
theorem dX12_init_522 : decode cX12_init 522 = .ok (.dup, 1) := z_o89 (z_wat (q := 512) (j := 10) zwX12_init_512 rfl)
theorem dX12_init_523 : decode cX12_init 523 = .ok (.bipush 60, 2) := z_o16 (z_wat (q := 512) (j := 11) zwX12_init_512 rfl) (z_wat (q := 512) (j := 12) zwX12_init_512 rfl) rfl
theorem dX12_init_525 : decode cX12_init 525 = .ok (.bipush 105, 2) := z_o16 (z_wat (q := 512) (j := 13) zwX12_init_512 rfl) (z_wat (q := 512) (j := 14) zwX12_init_512 rfl) rfl
theorem dX12_init_527 : decode cX12_init 527 = .ok (.iastore, 1) := z_o79 (z_wat (q := 512) (j := 15) zwX12_init_512 rfl)
theorem dX12_init_528 : decode cX12_init 528 = .ok (.dup, 1) := z_o89 (z_wat (q := 512) (j := 16) zwX12_init_512 rfl)
theorem dX12_init_529 : decode cX12_init 529 = .ok (.bipush 61, 2) := z_o16 (z_wat (q := 512) (j := 17) zwX12_init_512 rfl) (z_wat (q := 512) (j := 18) zwX12_init_512 rfl) rfl
theorem dX12_init_531 : decode cX12_init 531 = .ok (.bipush 122, 2) := z_o16 (z_wat (q := 512) (j := 19) zwX12_init_512 rfl) (z_wat (q := 512) (j := 20) zwX12_init_512 rfl) rfl
theorem dX12_init_533 : decode cX12_init 533 = .ok (.iastore, 1) := z_o79 (z_wat (q := 512) (j := 21) zwX12_init_512 rfl)
theorem dX12_init_534 : decode cX12_init 534 = .ok (.dup, 1) := z_o89 (z_wat (q := 512) (j := 22) zwX12_init_512 rfl)
theorem dX12_init_535 : decode cX12_init 535 = .ok (.bipush 62, 2) := z_o16 (z_wat (q := 512) (j := 23) zwX12_init_512 rfl) (z_wat (q := 512) (j := 24) zwX12_init_512 rfl) rfl
theorem dX12_init_537 : decode cX12_init 537 = .ok (.bipush 101, 2) := z_o16 (z_wat (q := 512) (j := 25) zwX12_init_512 rfl) (z_wat (q := 512) (j := 26) zwX12_init_512 rfl) rfl
theorem dX12_init_539 : decode cX12_init 539 = .ok (.iastore, 1) := z_o79 (z_wat (q := 512) (j := 27) zwX12_init_512 rfl)
theorem dX12_init_540 : decode cX12_init 540 = .ok (.dup, 1) := z_o89 (z_wat (q := 512) (j := 28) zwX12_init_512 rfl)
theorem dX12_init_541 : decode cX12_init 541 = .ok (.bipush 63, 2) := z_o16 (z_wat (q := 512) (j := 29) zwX12_init_512 rfl) (z_wat (q := 512) (j := 30) zwX12_init_512 rfl) rfl
theorem dX12_init_543 : decode cX12_init 543 = .ok (.bipush 32, 2) := z_o16 (z_wat (q := 512) (j := 31) zwX12_init_512 rfl) (z_wat (q := 512) (j := 32) zwX12_init_512 rfl) rfl
theorem zwX12_init_544 : ((cX12_init.data.toList.drop 544).take 34).map UInt8.toNat = [32, 79, 89, 16, 64, 16, 97, 79, 89, 16, 65, 16, 103, 79, 89, 16, 66, 16, 101, 79, 89, 16, 67, 16, 32, 79, 89, 16, 68, 16, 103, 79, 89, 16] := by decide +kernel
theorem dX12_init_545 : decode cX12_init 545 = .ok (.iastore, 1) := z_o79 (z_wat (q := 544) (j := 1) zwX12_init_544 rfl)
theorem dX12_init_546 : decode cX12_init 546 = .ok (.dup, 1) := z_o89 (z_wat (q := 544) (j := 2) zwX12_init_544 rfl)
theorem dX12_init_547 : decode cX12_init 547 = .ok (.bipush 64, 2) := z_o16 (z_wat (q := 544) (j := 3) zwX12_init_544 rfl) (z_wat (q := 544) (j := 4) zwX12_init_544 rfl) rfl
theorem dX12_init_549 : decode cX12_init 549 = .ok (.bipush 97, 2) := z_o16 (z_wat (q := 544) (j := 5) zwX12_init_544 rfl) (z_wat (q := 544) (j := 6) zwX12_init_544 rfl) rfl
theorem dX12_init_551 : decode cX12_init 551 = .ok (.iastore, 1) := z_o79 (z_wat (q := 544) (j := 7) zwX12_init_544 rfl)
theorem dX12_init_552 : decode cX12_init 552 = .ok (.dup, 1) := z_o89 (z_wat (q := 544) (j := 8) zwX12_init_544 rfl)
theorem dX12_init_553 : decode cX12_init 553 = .ok (.bipush 65, 2) := z_o16 (z_wat (q := 544) (j := 9) zwX12_init_544 rfl) (z_wat (q := 544) (j := 10) zwX12_init_544 rfl) rfl
theorem dX12_init_555 : decode cX12_init 555 = .ok (.bipush 103, 2) := z_o16 (z_wat (q := 544) (j := 11) zwX12_init_544 rfl) (z_wat (q := 544) (j := 12) zwX12_init_544 rfl) rfl
theorem dX12_init_557 : decode cX12_init 557 = .ok (.iastore, 1) := z_o79 (z_wat (q := 544) (j := 13) zwX12_init_544 rfl)
theorem dX12_init_558 : decode cX12_init 558 = .ok (.dup, 1) := z_o89 (z_wat (q := 544) (j := 14) zwX12_init_544 rfl)
theorem dX12_init_559 : decode cX12_init 559 = .ok (.bipush 66, 2) := z_o16 (z_wat (q := 544) (j := 15) zwX12_init_544 rfl) (z_wat (q := 544) (j := 16) zwX12_init_544 rfl) rfl
theorem dX12_init_561 : decode cX12_init 561 = .ok (.bipush 101, 2) := z_o16 (z_wat (q := 544) (j := 17) zwX12_init_544 rfl) (z_wat (q := 544) (j := 18) zwX12_init_544 rfl) rfl
theorem dX12_init_563 : decode cX12_init 563 = .ok (.iastore, 1) := z_o79 (z_wat (q := 544) (j := 19) zwX12_init_544 rfl)
theorem dX12_init_564 : decode cX12_init 564 = .ok (.dup, 1) := z_o89 (z_wat (q := 544) (j := 20) zwX12_init_544 rfl)
theorem dX12_init_565 : decode cX12_init 565 = .ok (.bipush 67, 2) := z_o16 (z_wat (q := 544) (j := 21) zwX12_init_544 rfl) (z_wat (q := 544) (j := 22) zwX12_init_544 rfl) rfl
theorem dX12_init_567 : decode cX12_init 567 = .ok (.bipush 32, 2) := z_o16 (z_wat (q := 544) (j := 23) zwX12_init_544 rfl) (z_wat (q := 544) (j := 24) zwX12_init_544 rfl) rfl
theorem dX12_init_569 : decode cX12_init 569 = .ok (.iastore, 1) := z_o79 (z_wat (q := 544) (j := 25) zwX12_init_544 rfl)
theorem dX12_init_570 : decode cX12_init 570 = .ok (.dup, 1) := z_o89 (z_wat (q := 544) (j := 26) zwX12_init_544 rfl)
theorem dX12_init_571 : decode cX12_init 571 = .ok (.bipush 68, 2) := z_o16 (z_wat (q := 544) (j := 27) zwX12_init_544 rfl) (z_wat (q := 544) (j := 28) zwX12_init_544 rfl) rfl
theorem dX12_init_573 : decode cX12_init 573 = .ok (.bipush 103, 2) := z_o16 (z_wat (q := 544) (j := 29) zwX12_init_544 rfl) (z_wat (q := 544) (j := 30) zwX12_init_544 rfl) rfl
theorem dX12_init_575 : decode cX12_init 575 = .ok (.iastore, 1) := z_o79 (z_wat (q := 544) (j := 31) zwX12_init_544 rfl)
theorem zwX12_init_576 : ((cX12_init.data.toList.drop 576).take 34).map UInt8.toNat = [89, 16, 69, 16, 114, 79, 89, 16, 70, 16, 111, 79, 89, 16, 71, 16, 119, 79, 89, 16, 72, 16, 116, 79, 89, 16, 73, 16, 104, 79, 89, 16, 74, 16] := by decide +kernel
theorem dX12_init_576 : decode cX12_init 576 = .ok (.dup, 1) := z_o89 (z_wat (q := 576) (j := 0) zwX12_init_576 rfl)
theorem dX12_init_577 : decode cX12_init 577 = .ok (.bipush 69, 2) := z_o16 (z_wat (q := 576) (j := 1) zwX12_init_576 rfl) (z_wat (q := 576) (j := 2) zwX12_init_576 rfl) rfl
theorem dX12_init_579 : decode cX12_init 579 = .ok (.bipush 114, 2) := z_o16 (z_wat (q := 576) (j := 3) zwX12_init_576 rfl) (z_wat (q := 576) (j := 4) zwX12_init_576 rfl) rfl
theorem dX12_init_581 : decode cX12_init 581 = .ok (.iastore, 1) := z_o79 (z_wat (q := 576) (j := 5) zwX12_init_576 rfl)
theorem dX12_init_582 : decode cX12_init 582 = .ok (.dup, 1) := z_o89 (z_wat (q := 576) (j := 6) zwX12_init_576 rfl)
theorem dX12_init_583 : decode cX12_init 583 = .ok (.bipush 70, 2) := z_o16 (z_wat (q := 576) (j := 7) zwX12_init_576 rfl) (z_wat (q := 576) (j := 8) zwX12_init_576 rfl) rfl
theorem dX12_init_585 : decode cX12_init 585 = .ok (.bipush 111, 2) := z_o16 (z_wat (q := 576) (j := 9) zwX12_init_576 rfl) (z_wat (q := 576) (j := 10) zwX12_init_576 rfl) rfl
theorem dX12_init_587 : decode cX12_init 587 = .ok (.iastore, 1) := z_o79 (z_wat (q := 576) (j := 11) zwX12_init_576 rfl)
theorem dX12_init_588 : decode cX12_init 588 = .ok (.dup, 1) := z_o89 (z_wat (q := 576) (j := 12) zwX12_init_576 rfl)
theorem dX12_init_589 : decode cX12_init 589 = .ok (.bipush 71, 2) := z_o16 (z_wat (q := 576) (j := 13) zwX12_init_576 rfl) (z_wat (q := 576) (j := 14) zwX12_init_576 rfl) rfl
theorem dX12_init_591 : decode cX12_init 591 = .ok (.bipush 119, 2) := z_o16 (z_wat (q := 576) (j := 15) zwX12_init_576 rfl) (z_wat (q := 576) (j := 16) zwX12_init_576 rfl) rfl
theorem dX12_init_593 : decode cX12_init 593 = .ok (.iastore, 1) := z_o79 (z_wat (q := 576) (j := 17) zwX12_init_576 rfl)
theorem dX12_init_594 : decode cX12_init 594 = .ok (.dup, 1) := z_o89 (z_wat (q := 576) (j := 18) zwX12_init_576 rfl)
theorem dX12_init_595 : decode cX12_init 595 = .ok (.bipush 72, 2) := z_o16 (z_wat (q := 576) (j := 19) zwX12_init_576 rfl) (z_wat (q := 576) (j := 20) zwX12_init_576 rfl) rfl
theorem dX12_init_597 : decode cX12_init 597 = .ok (.bipush 116, 2) := z_o16 (z_wat (q := 576) (j := 21) zwX12_init_576 rfl) (z_wat (q := 576) (j := 22) zwX12_init_576 rfl) rfl
theorem dX12_init_599 : decode cX12_init 599 = .ok (.iastore, 1) := z_o79 (z_wat (q := 576) (j := 23) zwX12_init_576 rfl)
theorem dX12_init_600 : decode cX12_init 600 = .ok (.dup, 1) := z_o89 (z_wat (q := 576) (j := 24) zwX12_init_576 rfl)
theorem dX12_init_601 : decode cX12_init 601 = .ok (.bipush 73, 2) := z_o16 (z_wat (q := 576) (j := 25) zwX12_init_576 rfl) (z_wat (q := 576) (j := 26) zwX12_init_576 rfl) rfl
theorem dX12_init_603 : decode cX12_init 603 = .ok (.bipush 104, 2) := z_o16 (z_wat (q := 576) (j := 27) zwX12_init_576 rfl) (z_wat (q := 576) (j := 28) zwX12_init_576 rfl) rfl
theorem dX12_init_605 : decode cX12_init 605 = .ok (.iastore, 1) := z_o79 (z_wat (q := 576) (j := 29) zwX12_init_576 rfl)
theorem dX12_init_606 : decode cX12_init 606 = .ok (.dup, 1) := z_o89 (z_wat (q := 576) (j := 30) zwX12_init_576 rfl)
theorem dX12_init_607 : decode cX12_init 607 = .ok (.bipush 74, 2) := z_o16 (z_wat (q := 576) (j := 31) zwX12_init_576 rfl) (z_wat (q := 576) (j := 32) zwX12_init_576 rfl) rfl
theorem zwX12_init_608 : ((cX12_init.data.toList.drop 608).take 34).map UInt8.toNat = [74, 16, 32, 79, 89, 16, 75, 16, 100, 79, 89, 16, 76, 16, 97, 79, 89, 16, 77, 16, 121, 79, 89, 16, 78, 16, 115, 79, 89, 16, 79, 16, 32, 79] := by decide +kernel
theorem dX12_init_609 : decode cX12_init 609 = .ok (.bipush 32, 2) := z_o16 (z_wat (q := 608) (j := 1) zwX12_init_608 rfl) (z_wat (q := 608) (j := 2) zwX12_init_608 rfl) rfl
theorem dX12_init_611 : decode cX12_init 611 = .ok (.iastore, 1) := z_o79 (z_wat (q := 608) (j := 3) zwX12_init_608 rfl)
theorem dX12_init_612 : decode cX12_init 612 = .ok (.dup, 1) := z_o89 (z_wat (q := 608) (j := 4) zwX12_init_608 rfl)
theorem dX12_init_613 : decode cX12_init 613 = .ok (.bipush 75, 2) := z_o16 (z_wat (q := 608) (j := 5) zwX12_init_608 rfl) (z_wat (q := 608) (j := 6) zwX12_init_608 rfl) rfl
theorem dX12_init_615 : decode cX12_init 615 = .ok (.bipush 100, 2) := z_o16 (z_wat (q := 608) (j := 7) zwX12_init_608 rfl) (z_wat (q := 608) (j := 8) zwX12_init_608 rfl) rfl
theorem dX12_init_617 : decode cX12_init 617 = .ok (.iastore, 1) := z_o79 (z_wat (q := 608) (j := 9) zwX12_init_608 rfl)
theorem dX12_init_618 : decode cX12_init 618 = .ok (.dup, 1) := z_o89 (z_wat (q := 608) (j := 10) zwX12_init_608 rfl)
theorem dX12_init_619 : decode cX12_init 619 = .ok (.bipush 76, 2) := z_o16 (z_wat (q := 608) (j := 11) zwX12_init_608 rfl) (z_wat (q := 608) (j := 12) zwX12_init_608 rfl) rfl
theorem dX12_init_621 : decode cX12_init 621 = .ok (.bipush 97, 2) := z_o16 (z_wat (q := 608) (j := 13) zwX12_init_608 rfl) (z_wat (q := 608) (j := 14) zwX12_init_608 rfl) rfl
theorem dX12_init_623 : decode cX12_init 623 = .ok (.iastore, 1) := z_o79 (z_wat (q := 608) (j := 15) zwX12_init_608 rfl)
theorem dX12_init_624 : decode cX12_init 624 = .ok (.dup, 1) := z_o89 (z_wat (q := 608) (j := 16) zwX12_init_608 rfl)
theorem dX12_init_625 : decode cX12_init 625 = .ok (.bipush 77, 2) := z_o16 (z_wat (q := 608) (j := 17) zwX12_init_608 rfl) (z_wat (q := 608) (j := 18) zwX12_init_608 rfl) rfl
theorem dX12_init_627 : decode cX12_init 627 = .ok (.bipush 121, 2) := z_o16 (z_wat (q := 608) (j := 19) zwX12_init_608 rfl) (z_wat (q := 608) (j := 20) zwX12_init_608 rfl) rfl
theorem dX12_init_629 : decode cX12_init 629 = .ok (.iastore, 1) := z_o79 (z_wat (q := 608) (j := 21) zwX12_init_608 rfl)
theorem dX12_init_630 : decode cX12_init 630 = .ok (.dup, 1) := z_o89 (z_wat (q := 608) (j := 22) zwX12_init_608 rfl)
theorem dX12_init_631 : decode cX12_init 631 = .ok (.bipush 78, 2) := z_o16 (z_wat (q := 608) (j := 23) zwX12_init_608 rfl) (z_wat (q := 608) (j := 24) zwX12_init_608 rfl) rfl
theorem dX12_init_633 : decode cX12_init 633 = .ok (.bipush 115, 2) := z_o16 (z_wat (q := 608) (j := 25) zwX12_init_608 rfl) (z_wat (q := 608) (j := 26) zwX12_init_608 rfl) rfl
theorem dX12_init_635 : decode cX12_init 635 = .ok (.iastore, 1) := z_o79 (z_wat (q := 608) (j := 27) zwX12_init_608 rfl)
theorem dX12_init_636 : decode cX12_init 636 = .ok (.dup, 1) := z_o89 (z_wat (q := 608) (j := 28) zwX12_init_608 rfl)
theorem dX12_init_637 : decode cX12_init 637 = .ok (.bipush 79, 2) := z_o16 (z_wat (q := 608) (j := 29) zwX12_init_608 rfl) (z_wat (q := 608) (j := 30) zwX12_init_608 rfl) rfl
theorem dX12_init_639 : decode cX12_init 639 = .ok (.bipush 32, 2) := z_o16 (z_wat (q := 608) (j := 31) zwX12_init_608 rfl) (z_wat (q := 608) (j := 32) zwX12_init_608 rfl) rfl
theorem zwX12_init_640 : ((cX12_init.data.toList.drop 640).take 34).map UInt8.toNat = [32, 79, 89, 16, 80, 16, 115, 79, 89, 16, 81, 16, 101, 79, 89, 16, 82, 16, 97, 79, 89, 16, 83, 16, 115, 79, 89, 16, 84, 16, 111, 79, 89, 16] := by decide +kernel
theorem dX12_init_641 : decode cX12_init 641 = .ok (.iastore, 1) := z_o79 (z_wat (q := 640) (j := 1) zwX12_init_640 rfl)
theorem dX12_init_642 : decode cX12_init 642 = .ok (.dup, 1) := z_o89 (z_wat (q := 640) (j := 2) zwX12_init_640 rfl)
theorem dX12_init_643 : decode cX12_init 643 = .ok (.bipush 80, 2) := z_o16 (z_wat (q := 640) (j := 3) zwX12_init_640 rfl) (z_wat (q := 640) (j := 4) zwX12_init_640 rfl) rfl
theorem dX12_init_645 : decode cX12_init 645 = .ok (.bipush 115, 2) := z_o16 (z_wat (q := 640) (j := 5) zwX12_init_640 rfl) (z_wat (q := 640) (j := 6) zwX12_init_640 rfl) rfl
theorem dX12_init_647 : decode cX12_init 647 = .ok (.iastore, 1) := z_o79 (z_wat (q := 640) (j := 7) zwX12_init_640 rfl)
theorem dX12_init_648 : decode cX12_init 648 = .ok (.dup, 1) := z_o89 (z_wat (q := 640) (j := 8) zwX12_init_640 rfl)
theorem dX12_init_649 : decode cX12_init 649 = .ok (.bipush 81, 2) := z_o16 (z_wat (q := 640) (j := 9) zwX12_init_640 rfl) (z_wat (q := 640) (j := 10) zwX12_init_640 rfl) rfl
theorem dX12_init_651 : decode cX12_init 651 = .ok (.bipush 101, 2) := z_o16 (z_wat (q := 640) (j := 11) zwX12_init_640 rfl) (z_wat (q := 640) (j := 12) zwX12_init_640 rfl) rfl
theorem dX12_init_653 : decode cX12_init 653 = .ok (.iastore, 1) := z_o79 (z_wat (q := 640) (j := 13) zwX12_init_640 rfl)
theorem dX12_init_654 : decode cX12_init 654 = .ok (.dup, 1) := z_o89 (z_wat (q := 640) (j := 14) zwX12_init_640 rfl)
theorem dX12_init_655 : decode cX12_init 655 = .ok (.bipush 82, 2) := z_o16 (z_wat (q := 640) (j := 15) zwX12_init_640 rfl) (z_wat (q := 640) (j := 16) zwX12_init_640 rfl) rfl
theorem dX12_init_657 : decode cX12_init 657 = .ok (.bipush 97, 2) := z_o16 (z_wat (q := 640) (j := 17) zwX12_init_640 rfl) (z_wat (q := 640) (j := 18) zwX12_init_640 rfl) rfl
theorem dX12_init_659 : decode cX12_init 659 = .ok (.iastore, 1) := z_o79 (z_wat (q := 640) (j := 19) zwX12_init_640 rfl)
theorem dX12_init_660 : decode cX12_init 660 = .ok (.dup, 1) := z_o89 (z_wat (q := 640) (j := 20) zwX12_init_640 rfl)
theorem dX12_init_661 : decode cX12_init 661 = .ok (.bipush 83, 2) := z_o16 (z_wat (q := 640) (j := 21) zwX12_init_640 rfl) (z_wat (q := 640) (j := 22) zwX12_init_640 rfl) rfl
theorem dX12_init_663 : decode cX12_init 663 = .ok (.bipush 115, 2) := z_o16 (z_wat (q := 640) (j := 23) zwX12_init_640 rfl) (z_wat (q := 640) (j := 24) zwX12_init_640 rfl) rfl
theorem dX12_init_665 : decode cX12_init 665 = .ok (.iastore, 1) := z_o79 (z_wat (q := 640) (j := 25) zwX12_init_640 rfl)
theorem dX12_init_666 : decode cX12_init 666 = .ok (.dup, 1) := z_o89 (z_wat (q := 640) (j := 26) zwX12_init_640 rfl)
theorem dX12_init_667 : decode cX12_init 667 = .ok (.bipush 84, 2) := z_o16 (z_wat (q := 640) (j := 27) zwX12_init_640 rfl) (z_wat (q := 640) (j := 28) zwX12_init_640 rfl) rfl
theorem dX12_init_669 : decode cX12_init 669 = .ok (.bipush 111, 2) := z_o16 (z_wat (q := 640) (j := 29) zwX12_init_640 rfl) (z_wat (q := 640) (j := 30) zwX12_init_640 rfl) rfl
theorem dX12_init_671 : decode cX12_init 671 = .ok (.iastore, 1) := z_o79 (z_wat (q := 640) (j := 31) zwX12_init_640 rfl)
theorem zwX12_init_672 : ((cX12_init.data.toList.drop 672).take 34).map UInt8.toNat = [89, 16, 85, 16, 110, 79, 89, 16, 86, 16, 32, 79, 89, 16, 87, 16, 114, 79, 89, 16, 88, 16, 97, 79, 89, 16, 89, 16, 110, 79, 89, 16, 90, 16] := by decide +kernel
theorem dX12_init_672 : decode cX12_init 672 = .ok (.dup, 1) := z_o89 (z_wat (q := 672) (j := 0) zwX12_init_672 rfl)
theorem dX12_init_673 : decode cX12_init 673 = .ok (.bipush 85, 2) := z_o16 (z_wat (q := 672) (j := 1) zwX12_init_672 rfl) (z_wat (q := 672) (j := 2) zwX12_init_672 rfl) rfl
theorem dX12_init_675 : decode cX12_init 675 = .ok (.bipush 110, 2) := z_o16 (z_wat (q := 672) (j := 3) zwX12_init_672 rfl) (z_wat (q := 672) (j := 4) zwX12_init_672 rfl) rfl
theorem dX12_init_677 : decode cX12_init 677 = .ok (.iastore, 1) := z_o79 (z_wat (q := 672) (j := 5) zwX12_init_672 rfl)
theorem dX12_init_678 : decode cX12_init 678 = .ok (.dup, 1) := z_o89 (z_wat (q := 672) (j := 6) zwX12_init_672 rfl)
theorem dX12_init_679 : decode cX12_init 679 = .ok (.bipush 86, 2) := z_o16 (z_wat (q := 672) (j := 7) zwX12_init_672 rfl) (z_wat (q := 672) (j := 8) zwX12_init_672 rfl) rfl
theorem dX12_init_681 : decode cX12_init 681 = .ok (.bipush 32, 2) := z_o16 (z_wat (q := 672) (j := 9) zwX12_init_672 rfl) (z_wat (q := 672) (j := 10) zwX12_init_672 rfl) rfl
theorem dX12_init_683 : decode cX12_init 683 = .ok (.iastore, 1) := z_o79 (z_wat (q := 672) (j := 11) zwX12_init_672 rfl)
theorem dX12_init_684 : decode cX12_init 684 = .ok (.dup, 1) := z_o89 (z_wat (q := 672) (j := 12) zwX12_init_672 rfl)
theorem dX12_init_685 : decode cX12_init 685 = .ok (.bipush 87, 2) := z_o16 (z_wat (q := 672) (j := 13) zwX12_init_672 rfl) (z_wat (q := 672) (j := 14) zwX12_init_672 rfl) rfl
theorem dX12_init_687 : decode cX12_init 687 = .ok (.bipush 114, 2) := z_o16 (z_wat (q := 672) (j := 15) zwX12_init_672 rfl) (z_wat (q := 672) (j := 16) zwX12_init_672 rfl) rfl
theorem dX12_init_689 : decode cX12_init 689 = .ok (.iastore, 1) := z_o79 (z_wat (q := 672) (j := 17) zwX12_init_672 rfl)
theorem dX12_init_690 : decode cX12_init 690 = .ok (.dup, 1) := z_o89 (z_wat (q := 672) (j := 18) zwX12_init_672 rfl)
theorem dX12_init_691 : decode cX12_init 691 = .ok (.bipush 88, 2) := z_o16 (z_wat (q := 672) (j := 19) zwX12_init_672 rfl) (z_wat (q := 672) (j := 20) zwX12_init_672 rfl) rfl
theorem dX12_init_693 : decode cX12_init 693 = .ok (.bipush 97, 2) := z_o16 (z_wat (q := 672) (j := 21) zwX12_init_672 rfl) (z_wat (q := 672) (j := 22) zwX12_init_672 rfl) rfl
theorem dX12_init_695 : decode cX12_init 695 = .ok (.iastore, 1) := z_o79 (z_wat (q := 672) (j := 23) zwX12_init_672 rfl)
theorem dX12_init_696 : decode cX12_init 696 = .ok (.dup, 1) := z_o89 (z_wat (q := 672) (j := 24) zwX12_init_672 rfl)
theorem dX12_init_697 : decode cX12_init 697 = .ok (.bipush 89, 2) := z_o16 (z_wat (q := 672) (j := 25) zwX12_init_672 rfl) (z_wat (q := 672) (j := 26) zwX12_init_672 rfl) rfl
theorem dX12_init_699 : decode cX12_init 699 = .ok (.bipush 110, 2) := z_o16 (z_wat (q := 672) (j := 27) zwX12_init_672 rfl) (z_wat (q := 672) (j := 28) zwX12_init_672 rfl) rfl
theorem dX12_init_701 : decode cX12_init 701 = .ok (.iastore, 1) := z_o79 (z_wat (q := 672) (j := 29) zwX12_init_672 rfl)
theorem dX12_init_702 : decode cX12_init 702 = .ok (.dup, 1) := z_o89 (z_wat (q := 672) (j := 30) zwX12_init_672 rfl)
theorem dX12_init_703 : decode cX12_init 703 = .ok (.bipush 90, 2) := z_o16 (z_wat (q := 672) (j := 31) zwX12_init_672 rfl) (z_wat (q := 672) (j := 32) zwX12_init_672 rfl) rfl
theorem zwX12_init_704 : ((cX12_init.data.toList.drop 704).take 34).map UInt8.toNat = [90, 16, 107, 79, 89, 16, 91, 16, 32, 79, 89, 16, 92, 16, 108, 79, 89, 16, 93, 16, 111, 79, 89, 16, 94, 16, 115, 79, 89, 16, 95, 16, 116, 79] := by decide +kernel
theorem dX12_init_705 : decode cX12_init 705 = .ok (.bipush 107, 2) := z_o16 (z_wat (q := 704) (j := 1) zwX12_init_704 rfl) (z_wat (q := 704) (j := 2) zwX12_init_704 rfl) rfl
theorem dX12_init_707 : decode cX12_init 707 = .ok (.iastore, 1) := z_o79 (z_wat (q := 704) (j := 3) zwX12_init_704 rfl)
theorem dX12_init_708 : decode cX12_init 708 = .ok (.dup, 1) := z_o89 (z_wat (q := 704) (j := 4) zwX12_init_704 rfl)
theorem dX12_init_709 : decode cX12_init 709 = .ok (.bipush 91, 2) := z_o16 (z_wat (q := 704) (j := 5) zwX12_init_704 rfl) (z_wat (q := 704) (j := 6) zwX12_init_704 rfl) rfl
theorem dX12_init_711 : decode cX12_init 711 = .ok (.bipush 32, 2) := z_o16 (z_wat (q := 704) (j := 7) zwX12_init_704 rfl) (z_wat (q := 704) (j := 8) zwX12_init_704 rfl) rfl
theorem dX12_init_713 : decode cX12_init 713 = .ok (.iastore, 1) := z_o79 (z_wat (q := 704) (j := 9) zwX12_init_704 rfl)
theorem dX12_init_714 : decode cX12_init 714 = .ok (.dup, 1) := z_o89 (z_wat (q := 704) (j := 10) zwX12_init_704 rfl)
theorem dX12_init_715 : decode cX12_init 715 = .ok (.bipush 92, 2) := z_o16 (z_wat (q := 704) (j := 11) zwX12_init_704 rfl) (z_wat (q := 704) (j := 12) zwX12_init_704 rfl) rfl
theorem dX12_init_717 : decode cX12_init 717 = .ok (.bipush 108, 2) := z_o16 (z_wat (q := 704) (j := 13) zwX12_init_704 rfl) (z_wat (q := 704) (j := 14) zwX12_init_704 rfl) rfl
theorem dX12_init_719 : decode cX12_init 719 = .ok (.iastore, 1) := z_o79 (z_wat (q := 704) (j := 15) zwX12_init_704 rfl)
theorem dX12_init_720 : decode cX12_init 720 = .ok (.dup, 1) := z_o89 (z_wat (q := 704) (j := 16) zwX12_init_704 rfl)
theorem dX12_init_721 : decode cX12_init 721 = .ok (.bipush 93, 2) := z_o16 (z_wat (q := 704) (j := 17) zwX12_init_704 rfl) (z_wat (q := 704) (j := 18) zwX12_init_704 rfl) rfl
theorem dX12_init_723 : decode cX12_init 723 = .ok (.bipush 111, 2) := z_o16 (z_wat (q := 704) (j := 19) zwX12_init_704 rfl) (z_wat (q := 704) (j := 20) zwX12_init_704 rfl) rfl
theorem dX12_init_725 : decode cX12_init 725 = .ok (.iastore, 1) := z_o79 (z_wat (q := 704) (j := 21) zwX12_init_704 rfl)
theorem dX12_init_726 : decode cX12_init 726 = .ok (.dup, 1) := z_o89 (z_wat (q := 704) (j := 22) zwX12_init_704 rfl)
theorem dX12_init_727 : decode cX12_init 727 = .ok (.bipush 94, 2) := z_o16 (z_wat (q := 704) (j := 23) zwX12_init_704 rfl) (z_wat (q := 704) (j := 24) zwX12_init_704 rfl) rfl
theorem dX12_init_729 : decode cX12_init 729 = .ok (.bipush 115, 2) := z_o16 (z_wat (q := 704) (j := 25) zwX12_init_704 rfl) (z_wat (q := 704) (j := 26) zwX12_init_704 rfl) rfl
theorem dX12_init_731 : decode cX12_init 731 = .ok (.iastore, 1) := z_o79 (z_wat (q := 704) (j := 27) zwX12_init_704 rfl)
theorem dX12_init_732 : decode cX12_init 732 = .ok (.dup, 1) := z_o89 (z_wat (q := 704) (j := 28) zwX12_init_704 rfl)
theorem dX12_init_733 : decode cX12_init 733 = .ok (.bipush 95, 2) := z_o16 (z_wat (q := 704) (j := 29) zwX12_init_704 rfl) (z_wat (q := 704) (j := 30) zwX12_init_704 rfl) rfl
theorem dX12_init_735 : decode cX12_init 735 = .ok (.bipush 116, 2) := z_o16 (z_wat (q := 704) (j := 31) zwX12_init_704 rfl) (z_wat (q := 704) (j := 32) zwX12_init_704 rfl) rfl
theorem zwX12_init_736 : ((cX12_init.data.toList.drop 736).take 34).map UInt8.toNat = [116, 79, 89, 16, 96, 16, 32, 79, 89, 16, 97, 16, 104, 79, 89, 16, 98, 16, 111, 79, 89, 16, 99, 16, 108, 79, 89, 16, 100, 16, 100, 79, 89, 16] := by decide +kernel
theorem dX12_init_737 : decode cX12_init 737 = .ok (.iastore, 1) := z_o79 (z_wat (q := 736) (j := 1) zwX12_init_736 rfl)
theorem dX12_init_738 : decode cX12_init 738 = .ok (.dup, 1) := z_o89 (z_wat (q := 736) (j := 2) zwX12_init_736 rfl)
theorem dX12_init_739 : decode cX12_init 739 = .ok (.bipush 96, 2) := z_o16 (z_wat (q := 736) (j := 3) zwX12_init_736 rfl) (z_wat (q := 736) (j := 4) zwX12_init_736 rfl) rfl
theorem dX12_init_741 : decode cX12_init 741 = .ok (.bipush 32, 2) := z_o16 (z_wat (q := 736) (j := 5) zwX12_init_736 rfl) (z_wat (q := 736) (j := 6) zwX12_init_736 rfl) rfl
theorem dX12_init_743 : decode cX12_init 743 = .ok (.iastore, 1) := z_o79 (z_wat (q := 736) (j := 7) zwX12_init_736 rfl)
theorem dX12_init_744 : decode cX12_init 744 = .ok (.dup, 1) := z_o89 (z_wat (q := 736) (j := 8) zwX12_init_736 rfl)
theorem dX12_init_745 : decode cX12_init 745 = .ok (.bipush 97, 2) := z_o16 (z_wat (q := 736) (j := 9) zwX12_init_736 rfl) (z_wat (q := 736) (j := 10) zwX12_init_736 rfl) rfl
theorem dX12_init_747 : decode cX12_init 747 = .ok (.bipush 104, 2) := z_o16 (z_wat (q := 736) (j := 11) zwX12_init_736 rfl) (z_wat (q := 736) (j := 12) zwX12_init_736 rfl) rfl
theorem dX12_init_749 : decode cX12_init 749 = .ok (.iastore, 1) := z_o79 (z_wat (q := 736) (j := 13) zwX12_init_736 rfl)
theorem dX12_init_750 : decode cX12_init 750 = .ok (.dup, 1) := z_o89 (z_wat (q := 736) (j := 14) zwX12_init_736 rfl)
theorem dX12_init_751 : decode cX12_init 751 = .ok (.bipush 98, 2) := z_o16 (z_wat (q := 736) (j := 15) zwX12_init_736 rfl) (z_wat (q := 736) (j := 16) zwX12_init_736 rfl) rfl
theorem dX12_init_753 : decode cX12_init 753 = .ok (.bipush 111, 2) := z_o16 (z_wat (q := 736) (j := 17) zwX12_init_736 rfl) (z_wat (q := 736) (j := 18) zwX12_init_736 rfl) rfl
theorem dX12_init_755 : decode cX12_init 755 = .ok (.iastore, 1) := z_o79 (z_wat (q := 736) (j := 19) zwX12_init_736 rfl)
theorem dX12_init_756 : decode cX12_init 756 = .ok (.dup, 1) := z_o89 (z_wat (q := 736) (j := 20) zwX12_init_736 rfl)
theorem dX12_init_757 : decode cX12_init 757 = .ok (.bipush 99, 2) := z_o16 (z_wat (q := 736) (j := 21) zwX12_init_736 rfl) (z_wat (q := 736) (j := 22) zwX12_init_736 rfl) rfl
theorem dX12_init_759 : decode cX12_init 759 = .ok (.bipush 108, 2) := z_o16 (z_wat (q := 736) (j := 23) zwX12_init_736 rfl) (z_wat (q := 736) (j := 24) zwX12_init_736 rfl) rfl
theorem dX12_init_761 : decode cX12_init 761 = .ok (.iastore, 1) := z_o79 (z_wat (q := 736) (j := 25) zwX12_init_736 rfl)
theorem dX12_init_762 : decode cX12_init 762 = .ok (.dup, 1) := z_o89 (z_wat (q := 736) (j := 26) zwX12_init_736 rfl)
theorem dX12_init_763 : decode cX12_init 763 = .ok (.bipush 100, 2) := z_o16 (z_wat (q := 736) (j := 27) zwX12_init_736 rfl) (z_wat (q := 736) (j := 28) zwX12_init_736 rfl) rfl
theorem dX12_init_765 : decode cX12_init 765 = .ok (.bipush 100, 2) := z_o16 (z_wat (q := 736) (j := 29) zwX12_init_736 rfl) (z_wat (q := 736) (j := 30) zwX12_init_736 rfl) rfl
theorem dX12_init_767 : decode cX12_init 767 = .ok (.iastore, 1) := z_o79 (z_wat (q := 736) (j := 31) zwX12_init_736 rfl)
theorem zwX12_init_768 : ((cX12_init.data.toList.drop 768).take 34).map UInt8.toNat = [89, 16, 101, 16, 115, 79, 89, 16, 102, 16, 32, 79, 89, 16, 103, 16, 110, 79, 89, 16, 104, 16, 117, 79, 89, 16, 105, 16, 109, 79, 89, 16, 106, 16] := by decide +kernel
theorem dX12_init_768 : decode cX12_init 768 = .ok (.dup, 1) := z_o89 (z_wat (q := 768) (j := 0) zwX12_init_768 rfl)
theorem dX12_init_769 : decode cX12_init 769 = .ok (.bipush 101, 2) := z_o16 (z_wat (q := 768) (j := 1) zwX12_init_768 rfl) (z_wat (q := 768) (j := 2) zwX12_init_768 rfl) rfl
theorem dX12_init_771 : decode cX12_init 771 = .ok (.bipush 115, 2) := z_o16 (z_wat (q := 768) (j := 3) zwX12_init_768 rfl) (z_wat (q := 768) (j := 4) zwX12_init_768 rfl) rfl
theorem dX12_init_773 : decode cX12_init 773 = .ok (.iastore, 1) := z_o79 (z_wat (q := 768) (j := 5) zwX12_init_768 rfl)
theorem dX12_init_774 : decode cX12_init 774 = .ok (.dup, 1) := z_o89 (z_wat (q := 768) (j := 6) zwX12_init_768 rfl)
theorem dX12_init_775 : decode cX12_init 775 = .ok (.bipush 102, 2) := z_o16 (z_wat (q := 768) (j := 7) zwX12_init_768 rfl) (z_wat (q := 768) (j := 8) zwX12_init_768 rfl) rfl
theorem dX12_init_777 : decode cX12_init 777 = .ok (.bipush 32, 2) := z_o16 (z_wat (q := 768) (j := 9) zwX12_init_768 rfl) (z_wat (q := 768) (j := 10) zwX12_init_768 rfl) rfl
theorem dX12_init_779 : decode cX12_init 779 = .ok (.iastore, 1) := z_o79 (z_wat (q := 768) (j := 11) zwX12_init_768 rfl)
theorem dX12_init_780 : decode cX12_init 780 = .ok (.dup, 1) := z_o89 (z_wat (q := 768) (j := 12) zwX12_init_768 rfl)
theorem dX12_init_781 : decode cX12_init 781 = .ok (.bipush 103, 2) := z_o16 (z_wat (q := 768) (j := 13) zwX12_init_768 rfl) (z_wat (q := 768) (j := 14) zwX12_init_768 rfl) rfl
theorem dX12_init_783 : decode cX12_init 783 = .ok (.bipush 110, 2) := z_o16 (z_wat (q := 768) (j := 15) zwX12_init_768 rfl) (z_wat (q := 768) (j := 16) zwX12_init_768 rfl) rfl
theorem dX12_init_785 : decode cX12_init 785 = .ok (.iastore, 1) := z_o79 (z_wat (q := 768) (j := 17) zwX12_init_768 rfl)
theorem dX12_init_786 : decode cX12_init 786 = .ok (.dup, 1) := z_o89 (z_wat (q := 768) (j := 18) zwX12_init_768 rfl)
theorem dX12_init_787 : decode cX12_init 787 = .ok (.bipush 104, 2) := z_o16 (z_wat (q := 768) (j := 19) zwX12_init_768 rfl) (z_wat (q := 768) (j := 20) zwX12_init_768 rfl) rfl
theorem dX12_init_789 : decode cX12_init 789 = .ok (.bipush 117, 2) := z_o16 (z_wat (q := 768) (j := 21) zwX12_init_768 rfl) (z_wat (q := 768) (j := 22) zwX12_init_768 rfl) rfl
theorem dX12_init_791 : decode cX12_init 791 = .ok (.iastore, 1) := z_o79 (z_wat (q := 768) (j := 23) zwX12_init_768 rfl)
theorem dX12_init_792 : decode cX12_init 792 = .ok (.dup, 1) := z_o89 (z_wat (q := 768) (j := 24) zwX12_init_768 rfl)
theorem dX12_init_793 : decode cX12_init 793 = .ok (.bipush 105, 2) := z_o16 (z_wat (q := 768) (j := 25) zwX12_init_768 rfl) (z_wat (q := 768) (j := 26) zwX12_init_768 rfl) rfl
theorem dX12_init_795 : decode cX12_init 795 = .ok (.bipush 109, 2) := z_o16 (z_wat (q := 768) (j := 27) zwX12_init_768 rfl) (z_wat (q := 768) (j := 28) zwX12_init_768 rfl) rfl
theorem dX12_init_797 : decode cX12_init 797 = .ok (.iastore, 1) := z_o79 (z_wat (q := 768) (j := 29) zwX12_init_768 rfl)
theorem dX12_init_798 : decode cX12_init 798 = .ok (.dup, 1) := z_o89 (z_wat (q := 768) (j := 30) zwX12_init_768 rfl)
theorem dX12_init_799 : decode cX12_init 799 = .ok (.bipush 106, 2) := z_o16 (z_wat (q := 768) (j := 31) zwX12_init_768 rfl) (z_wat (q := 768) (j := 32) zwX12_init_768 rfl) rfl
theorem zwX12_init_800 : ((cX12_init.data.toList.drop 800).take 34).map UInt8.toNat = [106, 16, 98, 79, 89, 16, 107, 16, 101, 79, 89, 16, 108, 16, 114, 79, 89, 16, 109, 16, 32, 79, 89, 16, 110, 16, 102, 79, 89, 16, 111, 16, 111, 79] := by decide +kernel
theorem dX12_init_801 : decode cX12_init 801 = .ok (.bipush 98, 2) := z_o16 (z_wat (q := 800) (j := 1) zwX12_init_800 rfl) (z_wat (q := 800) (j := 2) zwX12_init_800 rfl) rfl
theorem dX12_init_803 : decode cX12_init 803 = .ok (.iastore, 1) := z_o79 (z_wat (q := 800) (j := 3) zwX12_init_800 rfl)
theorem dX12_init_804 : decode cX12_init 804 = .ok (.dup, 1) := z_o89 (z_wat (q := 800) (j := 4) zwX12_init_800 rfl)
theorem dX12_init_805 : decode cX12_init 805 = .ok (.bipush 107, 2) := z_o16 (z_wat (q := 800) (j := 5) zwX12_init_800 rfl) (z_wat (q := 800) (j := 6) zwX12_init_800 rfl) rfl
theorem dX12_init_807 : decode cX12_init 807 = .ok (.bipush 101, 2) := z_o16 (z_wat (q := 800) (j := 7) zwX12_init_800 rfl) (z_wat (q := 800) (j := 8) zwX12_init_800 rfl) rfl
theorem dX12_init_809 : decode cX12_init 809 = .ok (.iastore, 1) := z_o79 (z_wat (q := 800) (j := 9) zwX12_init_800 rfl)
theorem dX12_init_810 : decode cX12_init 810 = .ok (.dup, 1) := z_o89 (z_wat (q := 800) (j := 10) zwX12_init_800 rfl)
theorem dX12_init_811 : decode cX12_init 811 = .ok (.bipush 108, 2) := z_o16 (z_wat (q := 800) (j := 11) zwX12_init_800 rfl) (z_wat (q := 800) (j := 12) zwX12_init_800 rfl) rfl
theorem dX12_init_813 : decode cX12_init 813 = .ok (.bipush 114, 2) := z_o16 (z_wat (q := 800) (j := 13) zwX12_init_800 rfl) (z_wat (q := 800) (j := 14) zwX12_init_800 rfl) rfl
theorem dX12_init_815 : decode cX12_init 815 = .ok (.iastore, 1) := z_o79 (z_wat (q := 800) (j := 15) zwX12_init_800 rfl)
theorem dX12_init_816 : decode cX12_init 816 = .ok (.dup, 1) := z_o89 (z_wat (q := 800) (j := 16) zwX12_init_800 rfl)
theorem dX12_init_817 : decode cX12_init 817 = .ok (.bipush 109, 2) := z_o16 (z_wat (q := 800) (j := 17) zwX12_init_800 rfl) (z_wat (q := 800) (j := 18) zwX12_init_800 rfl) rfl
theorem dX12_init_819 : decode cX12_init 819 = .ok (.bipush 32, 2) := z_o16 (z_wat (q := 800) (j := 19) zwX12_init_800 rfl) (z_wat (q := 800) (j := 20) zwX12_init_800 rfl) rfl
theorem dX12_init_821 : decode cX12_init 821 = .ok (.iastore, 1) := z_o79 (z_wat (q := 800) (j := 21) zwX12_init_800 rfl)
theorem dX12_init_822 : decode cX12_init 822 = .ok (.dup, 1) := z_o89 (z_wat (q := 800) (j := 22) zwX12_init_800 rfl)
theorem dX12_init_823 : decode cX12_init 823 = .ok (.bipush 110, 2) := z_o16 (z_wat (q := 800) (j := 23) zwX12_init_800 rfl) (z_wat (q := 800) (j := 24) zwX12_init_800 rfl) rfl
theorem dX12_init_825 : decode cX12_init 825 = .ok (.bipush 102, 2) := z_o16 (z_wat (q := 800) (j := 25) zwX12_init_800 rfl) (z_wat (q := 800) (j := 26) zwX12_init_800 rfl) rfl
theorem dX12_init_827 : decode cX12_init 827 = .ok (.iastore, 1) := z_o79 (z_wat (q := 800) (j := 27) zwX12_init_800 rfl)
theorem dX12_init_828 : decode cX12_init 828 = .ok (.dup, 1) := z_o89 (z_wat (q := 800) (j := 28) zwX12_init_800 rfl)
theorem dX12_init_829 : decode cX12_init 829 = .ok (.bipush 111, 2) := z_o16 (z_wat (q := 800) (j := 29) zwX12_init_800 rfl) (z_wat (q := 800) (j := 30) zwX12_init_800 rfl) rfl
theorem dX12_init_831 : decode cX12_init 831 = .ok (.bipush 111, 2) := z_o16 (z_wat (q := 800) (j := 31) zwX12_init_800 rfl) (z_wat (q := 800) (j := 32) zwX12_init_800 rfl) rfl
theorem zwX12_init_832 : ((cX12_init.data.toList.drop 832).take 34).map UInt8.toNat = [111, 79, 89, 16, 112, 16, 111, 79, 89, 16, 113, 16, 100, 79, 89, 16, 114, 16, 32, 79, 181, 0, 72, 42, 2, 181, 0, 75, 42, 16, 48, 188, 10, 181] := by decide +kernel
theorem dX12_init_833 : decode cX12_init 833 = .ok (.iastore, 1) := z_o79 (z_wat (q := 832) (j := 1) zwX12_init_832 rfl)
theorem dX12_init_834 : decode cX12_init 834 = .ok (.dup, 1) := z_o89 (z_wat (q := 832) (j := 2) zwX12_init_832 rfl)
theorem dX12_init_835 : decode cX12_init 835 = .ok (.bipush 112, 2) := z_o16 (z_wat (q := 832) (j := 3) zwX12_init_832 rfl) (z_wat (q := 832) (j := 4) zwX12_init_832 rfl) rfl
theorem dX12_init_837 : decode cX12_init 837 = .ok (.bipush 111, 2) := z_o16 (z_wat (q := 832) (j := 5) zwX12_init_832 rfl) (z_wat (q := 832) (j := 6) zwX12_init_832 rfl) rfl
theorem dX12_init_839 : decode cX12_init 839 = .ok (.iastore, 1) := z_o79 (z_wat (q := 832) (j := 7) zwX12_init_832 rfl)
theorem dX12_init_840 : decode cX12_init 840 = .ok (.dup, 1) := z_o89 (z_wat (q := 832) (j := 8) zwX12_init_832 rfl)
theorem dX12_init_841 : decode cX12_init 841 = .ok (.bipush 113, 2) := z_o16 (z_wat (q := 832) (j := 9) zwX12_init_832 rfl) (z_wat (q := 832) (j := 10) zwX12_init_832 rfl) rfl
theorem dX12_init_843 : decode cX12_init 843 = .ok (.bipush 100, 2) := z_o16 (z_wat (q := 832) (j := 11) zwX12_init_832 rfl) (z_wat (q := 832) (j := 12) zwX12_init_832 rfl) rfl
theorem dX12_init_845 : decode cX12_init 845 = .ok (.iastore, 1) := z_o79 (z_wat (q := 832) (j := 13) zwX12_init_832 rfl)
theorem dX12_init_846 : decode cX12_init 846 = .ok (.dup, 1) := z_o89 (z_wat (q := 832) (j := 14) zwX12_init_832 rfl)
theorem dX12_init_847 : decode cX12_init 847 = .ok (.bipush 114, 2) := z_o16 (z_wat (q := 832) (j := 15) zwX12_init_832 rfl) (z_wat (q := 832) (j := 16) zwX12_init_832 rfl) rfl
theorem dX12_init_849 : decode cX12_init 849 = .ok (.bipush 32, 2) := z_o16 (z_wat (q := 832) (j := 17) zwX12_init_832 rfl) (z_wat (q := 832) (j := 18) zwX12_init_832 rfl) rfl
theorem dX12_init_851 : decode cX12_init 851 = .ok (.iastore, 1) := z_o79 (z_wat (q := 832) (j := 19) zwX12_init_832 rfl)
theorem dX12_init_852 : decode cX12_init 852 = .ok (.putfield 72, 3) := z_o181 (z_wat (q := 832) (j := 20) zwX12_init_832 rfl) (z_wat (q := 832) (j := 21) zwX12_init_832 rfl) (z_wat (q := 832) (j := 22) zwX12_init_832 rfl) rfl
theorem dX12_init_855 : decode cX12_init 855 = .ok (.aload_n 0, 1) := z_o42 (z_wat (q := 832) (j := 23) zwX12_init_832 rfl)
theorem dX12_init_856 : decode cX12_init 856 = .ok (.iconst (-1), 1) := z_o2 (z_wat (q := 832) (j := 24) zwX12_init_832 rfl)
theorem dX12_init_857 : decode cX12_init 857 = .ok (.putfield 75, 3) := z_o181 (z_wat (q := 832) (j := 25) zwX12_init_832 rfl) (z_wat (q := 832) (j := 26) zwX12_init_832 rfl) (z_wat (q := 832) (j := 27) zwX12_init_832 rfl) rfl
theorem dX12_init_860 : decode cX12_init 860 = .ok (.aload_n 0, 1) := z_o42 (z_wat (q := 832) (j := 28) zwX12_init_832 rfl)
theorem dX12_init_861 : decode cX12_init 861 = .ok (.bipush 48, 2) := z_o16 (z_wat (q := 832) (j := 29) zwX12_init_832 rfl) (z_wat (q := 832) (j := 30) zwX12_init_832 rfl) rfl
theorem dX12_init_863 : decode cX12_init 863 = .ok (.newarray .int, 2) := z_o188_10 (z_wat (q := 832) (j := 31) zwX12_init_832 rfl) (z_wat (q := 832) (j := 32) zwX12_init_832 rfl)
theorem zwX12_init_864 : ((cX12_init.data.toList.drop 864).take 34).map UInt8.toNat = [10, 181, 0, 78, 42, 17, 0, 144, 188, 10, 181, 0, 81, 42, 7, 188, 10, 181, 0, 84, 42, 7, 188, 10, 181, 0, 87, 42, 17, 0, 200, 188, 10, 181] := by decide +kernel
theorem dX12_init_865 : decode cX12_init 865 = .ok (.putfield 78, 3) := z_o181 (z_wat (q := 864) (j := 1) zwX12_init_864 rfl) (z_wat (q := 864) (j := 2) zwX12_init_864 rfl) (z_wat (q := 864) (j := 3) zwX12_init_864 rfl) rfl
theorem dX12_init_868 : decode cX12_init 868 = .ok (.aload_n 0, 1) := z_o42 (z_wat (q := 864) (j := 4) zwX12_init_864 rfl)
theorem dX12_init_869 : decode cX12_init 869 = .ok (.sipush 144, 3) := z_o17 (z_wat (q := 864) (j := 5) zwX12_init_864 rfl) (z_wat (q := 864) (j := 6) zwX12_init_864 rfl) (z_wat (q := 864) (j := 7) zwX12_init_864 rfl) rfl
theorem dX12_init_872 : decode cX12_init 872 = .ok (.newarray .int, 2) := z_o188_10 (z_wat (q := 864) (j := 8) zwX12_init_864 rfl) (z_wat (q := 864) (j := 9) zwX12_init_864 rfl)
theorem dX12_init_874 : decode cX12_init 874 = .ok (.putfield 81, 3) := z_o181 (z_wat (q := 864) (j := 10) zwX12_init_864 rfl) (z_wat (q := 864) (j := 11) zwX12_init_864 rfl) (z_wat (q := 864) (j := 12) zwX12_init_864 rfl) rfl
theorem dX12_init_877 : decode cX12_init 877 = .ok (.aload_n 0, 1) := z_o42 (z_wat (q := 864) (j := 13) zwX12_init_864 rfl)
theorem dX12_init_878 : decode cX12_init 878 = .ok (.iconst 4, 1) := z_o7 (z_wat (q := 864) (j := 14) zwX12_init_864 rfl)
theorem dX12_init_879 : decode cX12_init 879 = .ok (.newarray .int, 2) := z_o188_10 (z_wat (q := 864) (j := 15) zwX12_init_864 rfl) (z_wat (q := 864) (j := 16) zwX12_init_864 rfl)
theorem dX12_init_881 : decode cX12_init 881 = .ok (.putfield 84, 3) := z_o181 (z_wat (q := 864) (j := 17) zwX12_init_864 rfl) (z_wat (q := 864) (j := 18) zwX12_init_864 rfl) (z_wat (q := 864) (j := 19) zwX12_init_864 rfl) rfl
theorem dX12_init_884 : decode cX12_init 884 = .ok (.aload_n 0, 1) := z_o42 (z_wat (q := 864) (j := 20) zwX12_init_864 rfl)
theorem dX12_init_885 : decode cX12_init 885 = .ok (.iconst 4, 1) := z_o7 (z_wat (q := 864) (j := 21) zwX12_init_864 rfl)
theorem dX12_init_886 : decode cX12_init 886 = .ok (.newarray .int, 2) := z_o188_10 (z_wat (q := 864) (j := 22) zwX12_init_864 rfl) (z_wat (q := 864) (j := 23) zwX12_init_864 rfl)
theorem dX12_init_888 : decode cX12_init 888 = .ok (.putfield 87, 3) := z_o181 (z_wat (q := 864) (j := 24) zwX12_init_864 rfl) (z_wat (q := 864) (j := 25) zwX12_init_864 rfl) (z_wat (q := 864) (j := 26) zwX12_init_864 rfl) rfl
theorem dX12_init_891 : decode cX12_init 891 = .ok (.aload_n 0, 1) := z_o42 (z_wat (q := 864) (j := 27) zwX12_init_864 rfl)
theorem dX12_init_892 : decode cX12_init 892 = .ok (.sipush 200, 3) := z_o17 (z_wat (q := 864) (j := 28) zwX12_init_864 rfl) (z_wat (q := 864) (j := 29) zwX12_init_864 rfl) (z_wat (q := 864) (j := 30) zwX12_init_864 rfl) rfl
theorem dX12_init_895 : decode cX12_init 895 = .ok (.newarray .int, 2) := z_o188_10 (z_wat (q := 864) (j := 31) zwX12_init_864 rfl) (z_wat (q := 864) (j := 32) zwX12_init_864 rfl)
theorem zwX12_init_896 : ((cX12_init.data.toList.drop 896).take 34).map UInt8.toNat = [10, 181, 0, 90, 42, 17, 2, 88, 188, 10, 181, 0, 93, 42, 17, 0, 200, 188, 10, 181, 0, 96, 42, 16, 48, 188, 10, 181, 0, 99, 42, 16, 6, 188] := by decide +kernel
theorem dX12_init_897 : decode cX12_init 897 = .ok (.putfield 90, 3) := z_o181 (z_wat (q := 896) (j := 1) zwX12_init_896 rfl) (z_wat (q := 896) (j := 2) zwX12_init_896 rfl) (z_wat (q := 896) (j := 3) zwX12_init_896 rfl) rfl
theorem dX12_init_900 : decode cX12_init 900 = .ok (.aload_n 0, 1) := z_o42 (z_wat (q := 896) (j := 4) zwX12_init_896 rfl)
theorem dX12_init_901 : decode cX12_init 901 = .ok (.sipush 600, 3) := z_o17 (z_wat (q := 896) (j := 5) zwX12_init_896 rfl) (z_wat (q := 896) (j := 6) zwX12_init_896 rfl) (z_wat (q := 896) (j := 7) zwX12_init_896 rfl) rfl
theorem dX12_init_904 : decode cX12_init 904 = .ok (.newarray .int, 2) := z_o188_10 (z_wat (q := 896) (j := 8) zwX12_init_896 rfl) (z_wat (q := 896) (j := 9) zwX12_init_896 rfl)
theorem dX12_init_906 : decode cX12_init 906 = .ok (.putfield 93, 3) := z_o181 (z_wat (q := 896) (j := 10) zwX12_init_896 rfl) (z_wat (q := 896) (j := 11) zwX12_init_896 rfl) (z_wat (q := 896) (j := 12) zwX12_init_896 rfl) rfl
theorem dX12_init_909 : decode cX12_init 909 = .ok (.aload_n 0, 1) := z_o42 (z_wat (q := 896) (j := 13) zwX12_init_896 rfl)
theorem dX12_init_910 : decode cX12_init 910 = .ok (.sipush 200, 3) := z_o17 (z_wat (q := 896) (j := 14) zwX12_init_896 rfl) (z_wat (q := 896) (j := 15) zwX12_init_896 rfl) (z_wat (q := 896) (j := 16) zwX12_init_896 rfl) rfl
theorem dX12_init_913 : decode cX12_init 913 = .ok (.newarray .int, 2) := z_o188_10 (z_wat (q := 896) (j := 17) zwX12_init_896 rfl) (z_wat (q := 896) (j := 18) zwX12_init_896 rfl)
theorem dX12_init_915 : decode cX12_init 915 = .ok (.putfield 96, 3) := z_o181 (z_wat (q := 896) (j := 19) zwX12_init_896 rfl) (z_wat (q := 896) (j := 20) zwX12_init_896 rfl) (z_wat (q := 896) (j := 21) zwX12_init_896 rfl) rfl
theorem dX12_init_918 : decode cX12_init 918 = .ok (.aload_n 0, 1) := z_o42 (z_wat (q := 896) (j := 22) zwX12_init_896 rfl)
theorem dX12_init_919 : decode cX12_init 919 = .ok (.bipush 48, 2) := z_o16 (z_wat (q := 896) (j := 23) zwX12_init_896 rfl) (z_wat (q := 896) (j := 24) zwX12_init_896 rfl) rfl
theorem dX12_init_921 : decode cX12_init 921 = .ok (.newarray .int, 2) := z_o188_10 (z_wat (q := 896) (j := 25) zwX12_init_896 rfl) (z_wat (q := 896) (j := 26) zwX12_init_896 rfl)
theorem dX12_init_923 : decode cX12_init 923 = .ok (.putfield 99, 3) := z_o181 (z_wat (q := 896) (j := 27) zwX12_init_896 rfl) (z_wat (q := 896) (j := 28) zwX12_init_896 rfl) (z_wat (q := 896) (j := 29) zwX12_init_896 rfl) rfl
theorem dX12_init_926 : decode cX12_init 926 = .ok (.aload_n 0, 1) := z_o42 (z_wat (q := 896) (j := 30) zwX12_init_896 rfl)
theorem dX12_init_927 : decode cX12_init 927 = .ok (.bipush 6, 2) := z_o16 (z_wat (q := 896) (j := 31) zwX12_init_896 rfl) (z_wat (q := 896) (j := 32) zwX12_init_896 rfl) rfl
theorem zwX12_init_928 : ((cX12_init.data.toList.drop 928).take 34).map UInt8.toNat = [6, 188, 10, 181, 0, 102, 42, 16, 12, 188, 10, 181, 0, 105, 42, 16, 12, 188, 10, 181, 0, 108, 42, 17, 0, 192, 188, 10, 181, 0, 111, 42, 17, 0] := by decide +kernel
theorem dX12_init_929 : decode cX12_init 929 = .ok (.newarray .int, 2) := z_o188_10 (z_wat (q := 928) (j := 1) zwX12_init_928 rfl) (z_wat (q := 928) (j := 2) zwX12_init_928 rfl)
theorem dX12_init_931 : decode cX12_init 931 = .ok (.putfield 102, 3) := z_o181 (z_wat (q := 928) (j := 3) zwX12_init_928 rfl) (z_wat (q := 928) (j := 4) zwX12_init_928 rfl) (z_wat (q := 928) (j := 5) zwX12_init_928 rfl) rfl
theorem dX12_init_934 : decode cX12_init 934 = .ok (.aload_n 0, 1) := z_o42 (z_wat (q := 928) (j := 6) zwX12_init_928 rfl)
theorem dX12_init_935 : decode cX12_init 935 = .ok (.bipush 12, 2) := z_o16 (z_wat (q := 928) (j := 7) zwX12_init_928 rfl) (z_wat (q := 928) (j := 8) zwX12_init_928 rfl) rfl
theorem dX12_init_937 : decode cX12_init 937 = .ok (.newarray .int, 2) := z_o188_10 (z_wat (q := 928) (j := 9) zwX12_init_928 rfl) (z_wat (q := 928) (j := 10) zwX12_init_928 rfl)
theorem dX12_init_939 : decode cX12_init 939 = .ok (.putfield 105, 3) := z_o181 (z_wat (q := 928) (j := 11) zwX12_init_928 rfl) (z_wat (q := 928) (j := 12) zwX12_init_928 rfl) (z_wat (q := 928) (j := 13) zwX12_init_928 rfl) rfl
theorem dX12_init_942 : decode cX12_init 942 = .ok (.aload_n 0, 1) := z_o42 (z_wat (q := 928) (j := 14) zwX12_init_928 rfl)
theorem dX12_init_943 : decode cX12_init 943 = .ok (.bipush 12, 2) := z_o16 (z_wat (q := 928) (j := 15) zwX12_init_928 rfl) (z_wat (q := 928) (j := 16) zwX12_init_928 rfl) rfl
theorem dX12_init_945 : decode cX12_init 945 = .ok (.newarray .int, 2) := z_o188_10 (z_wat (q := 928) (j := 17) zwX12_init_928 rfl) (z_wat (q := 928) (j := 18) zwX12_init_928 rfl)
theorem dX12_init_947 : decode cX12_init 947 = .ok (.putfield 108, 3) := z_o181 (z_wat (q := 928) (j := 19) zwX12_init_928 rfl) (z_wat (q := 928) (j := 20) zwX12_init_928 rfl) (z_wat (q := 928) (j := 21) zwX12_init_928 rfl) rfl
theorem dX12_init_950 : decode cX12_init 950 = .ok (.aload_n 0, 1) := z_o42 (z_wat (q := 928) (j := 22) zwX12_init_928 rfl)
theorem dX12_init_951 : decode cX12_init 951 = .ok (.sipush 192, 3) := z_o17 (z_wat (q := 928) (j := 23) zwX12_init_928 rfl) (z_wat (q := 928) (j := 24) zwX12_init_928 rfl) (z_wat (q := 928) (j := 25) zwX12_init_928 rfl) rfl
theorem dX12_init_954 : decode cX12_init 954 = .ok (.newarray .int, 2) := z_o188_10 (z_wat (q := 928) (j := 26) zwX12_init_928 rfl) (z_wat (q := 928) (j := 27) zwX12_init_928 rfl)
theorem dX12_init_956 : decode cX12_init 956 = .ok (.putfield 111, 3) := z_o181 (z_wat (q := 928) (j := 28) zwX12_init_928 rfl) (z_wat (q := 928) (j := 29) zwX12_init_928 rfl) (z_wat (q := 928) (j := 30) zwX12_init_928 rfl) rfl
theorem dX12_init_959 : decode cX12_init 959 = .ok (.aload_n 0, 1) := z_o42 (z_wat (q := 928) (j := 31) zwX12_init_928 rfl)
theorem zwX12_init_960 : ((cX12_init.data.toList.drop 960).take 34).map UInt8.toNat = [17, 0, 192, 188, 10, 181, 0, 114, 42, 17, 0, 192, 188, 10, 181, 0, 117, 42, 17, 0, 192, 188, 10, 181, 0, 120, 42, 17, 0, 192, 188, 4, 181, 0] := by decide +kernel
theorem dX12_init_960 : decode cX12_init 960 = .ok (.sipush 192, 3) := z_o17 (z_wat (q := 960) (j := 0) zwX12_init_960 rfl) (z_wat (q := 960) (j := 1) zwX12_init_960 rfl) (z_wat (q := 960) (j := 2) zwX12_init_960 rfl) rfl
theorem dX12_init_963 : decode cX12_init 963 = .ok (.newarray .int, 2) := z_o188_10 (z_wat (q := 960) (j := 3) zwX12_init_960 rfl) (z_wat (q := 960) (j := 4) zwX12_init_960 rfl)
theorem dX12_init_965 : decode cX12_init 965 = .ok (.putfield 114, 3) := z_o181 (z_wat (q := 960) (j := 5) zwX12_init_960 rfl) (z_wat (q := 960) (j := 6) zwX12_init_960 rfl) (z_wat (q := 960) (j := 7) zwX12_init_960 rfl) rfl
theorem dX12_init_968 : decode cX12_init 968 = .ok (.aload_n 0, 1) := z_o42 (z_wat (q := 960) (j := 8) zwX12_init_960 rfl)
theorem dX12_init_969 : decode cX12_init 969 = .ok (.sipush 192, 3) := z_o17 (z_wat (q := 960) (j := 9) zwX12_init_960 rfl) (z_wat (q := 960) (j := 10) zwX12_init_960 rfl) (z_wat (q := 960) (j := 11) zwX12_init_960 rfl) rfl
theorem dX12_init_972 : decode cX12_init 972 = .ok (.newarray .int, 2) := z_o188_10 (z_wat (q := 960) (j := 12) zwX12_init_960 rfl) (z_wat (q := 960) (j := 13) zwX12_init_960 rfl)
theorem dX12_init_974 : decode cX12_init 974 = .ok (.putfield 117, 3) := z_o181 (z_wat (q := 960) (j := 14) zwX12_init_960 rfl) (z_wat (q := 960) (j := 15) zwX12_init_960 rfl) (z_wat (q := 960) (j := 16) zwX12_init_960 rfl) rfl
theorem dX12_init_977 : decode cX12_init 977 = .ok (.aload_n 0, 1) := z_o42 (z_wat (q := 960) (j := 17) zwX12_init_960 rfl)
theorem dX12_init_978 : decode cX12_init 978 = .ok (.sipush 192, 3) := z_o17 (z_wat (q := 960) (j := 18) zwX12_init_960 rfl) (z_wat (q := 960) (j := 19) zwX12_init_960 rfl) (z_wat (q := 960) (j := 20) zwX12_init_960 rfl) rfl
theorem dX12_init_981 : decode cX12_init 981 = .ok (.newarray .int, 2) := z_o188_10 (z_wat (q := 960) (j := 21) zwX12_init_960 rfl) (z_wat (q := 960) (j := 22) zwX12_init_960 rfl)
theorem dX12_init_983 : decode cX12_init 983 = .ok (.putfield 120, 3) := z_o181 (z_wat (q := 960) (j := 23) zwX12_init_960 rfl) (z_wat (q := 960) (j := 24) zwX12_init_960 rfl) (z_wat (q := 960) (j := 25) zwX12_init_960 rfl) rfl
theorem dX12_init_986 : decode cX12_init 986 = .ok (.aload_n 0, 1) := z_o42 (z_wat (q := 960) (j := 26) zwX12_init_960 rfl)
theorem dX12_init_987 : decode cX12_init 987 = .ok (.sipush 192, 3) := z_o17 (z_wat (q := 960) (j := 27) zwX12_init_960 rfl) (z_wat (q := 960) (j := 28) zwX12_init_960 rfl) (z_wat (q := 960) (j := 29) zwX12_init_960 rfl) rfl
theorem dX12_init_990 : decode cX12_init 990 = .ok (.newarray .boolean, 2) := z_o188_4 (z_wat (q := 960) (j := 30) zwX12_init_960 rfl) (z_wat (q := 960) (j := 31) zwX12_init_960 rfl)
theorem zwX12_init_992 : ((cX12_init.data.toList.drop 992).take 34).map UInt8.toNat = [181, 0, 123, 42, 17, 0, 192, 188, 10, 181, 0, 126, 42, 16, 120, 188, 10, 181, 0, 129, 42, 16, 120, 188, 10, 181, 0, 132, 42, 16, 120, 188, 10, 181] := by decide +kernel
theorem dX12_init_992 : decode cX12_init 992 = .ok (.putfield 123, 3) := z_o181 (z_wat (q := 992) (j := 0) zwX12_init_992 rfl) (z_wat (q := 992) (j := 1) zwX12_init_992 rfl) (z_wat (q := 992) (j := 2) zwX12_init_992 rfl) rfl
theorem dX12_init_995 : decode cX12_init 995 = .ok (.aload_n 0, 1) := z_o42 (z_wat (q := 992) (j := 3) zwX12_init_992 rfl)
theorem dX12_init_996 : decode cX12_init 996 = .ok (.sipush 192, 3) := z_o17 (z_wat (q := 992) (j := 4) zwX12_init_992 rfl) (z_wat (q := 992) (j := 5) zwX12_init_992 rfl) (z_wat (q := 992) (j := 6) zwX12_init_992 rfl) rfl
theorem dX12_init_999 : decode cX12_init 999 = .ok (.newarray .int, 2) := z_o188_10 (z_wat (q := 992) (j := 7) zwX12_init_992 rfl) (z_wat (q := 992) (j := 8) zwX12_init_992 rfl)
theorem dX12_init_1001 : decode cX12_init 1001 = .ok (.putfield 126, 3) := z_o181 (z_wat (q := 992) (j := 9) zwX12_init_992 rfl) (z_wat (q := 992) (j := 10) zwX12_init_992 rfl) (z_wat (q := 992) (j := 11) zwX12_init_992 rfl) rfl
theorem dX12_init_1004 : decode cX12_init 1004 = .ok (.aload_n 0, 1) := z_o42 (z_wat (q := 992) (j := 12) zwX12_init_992 rfl)
theorem dX12_init_1005 : decode cX12_init 1005 = .ok (.bipush 120, 2) := z_o16 (z_wat (q := 992) (j := 13) zwX12_init_992 rfl) (z_wat (q := 992) (j := 14) zwX12_init_992 rfl) rfl
theorem dX12_init_1007 : decode cX12_init 1007 = .ok (.newarray .int, 2) := z_o188_10 (z_wat (q := 992) (j := 15) zwX12_init_992 rfl) (z_wat (q := 992) (j := 16) zwX12_init_992 rfl)
theorem dX12_init_1009 : decode cX12_init 1009 = .ok (.putfield 129, 3) := z_o181 (z_wat (q := 992) (j := 17) zwX12_init_992 rfl) (z_wat (q := 992) (j := 18) zwX12_init_992 rfl) (z_wat (q := 992) (j := 19) zwX12_init_992 rfl) rfl
theorem dX12_init_1012 : decode cX12_init 1012 = .ok (.aload_n 0, 1) := z_o42 (z_wat (q := 992) (j := 20) zwX12_init_992 rfl)
theorem dX12_init_1013 : decode cX12_init 1013 = .ok (.bipush 120, 2) := z_o16 (z_wat (q := 992) (j := 21) zwX12_init_992 rfl) (z_wat (q := 992) (j := 22) zwX12_init_992 rfl) rfl
theorem dX12_init_1015 : decode cX12_init 1015 = .ok (.newarray .int, 2) := z_o188_10 (z_wat (q := 992) (j := 23) zwX12_init_992 rfl) (z_wat (q := 992) (j := 24) zwX12_init_992 rfl)
theorem dX12_init_1017 : decode cX12_init 1017 = .ok (.putfield 132, 3) := z_o181 (z_wat (q := 992) (j := 25) zwX12_init_992 rfl) (z_wat (q := 992) (j := 26) zwX12_init_992 rfl) (z_wat (q := 992) (j := 27) zwX12_init_992 rfl) rfl
theorem dX12_init_1020 : decode cX12_init 1020 = .ok (.aload_n 0, 1) := z_o42 (z_wat (q := 992) (j := 28) zwX12_init_992 rfl)
theorem dX12_init_1021 : decode cX12_init 1021 = .ok (.bipush 120, 2) := z_o16 (z_wat (q := 992) (j := 29) zwX12_init_992 rfl) (z_wat (q := 992) (j := 30) zwX12_init_992 rfl) rfl
theorem dX12_init_1023 : decode cX12_init 1023 = .ok (.newarray .int, 2) := z_o188_10 (z_wat (q := 992) (j := 31) zwX12_init_992 rfl) (z_wat (q := 992) (j := 32) zwX12_init_992 rfl)
theorem zwX12_init_1024 : ((cX12_init.data.toList.drop 1024).take 34).map UInt8.toNat = [10, 181, 0, 135, 42, 16, 8, 188, 4, 181, 0, 138, 42, 16, 96, 188, 11, 181, 0, 141, 3, 60, 27, 16, 24, 162, 0, 17, 42, 180, 0, 69, 27, 16] := by decide +kernel
theorem dX12_init_1025 : decode cX12_init 1025 = .ok (.putfield 135, 3) := z_o181 (z_wat (q := 1024) (j := 1) zwX12_init_1024 rfl) (z_wat (q := 1024) (j := 2) zwX12_init_1024 rfl) (z_wat (q := 1024) (j := 3) zwX12_init_1024 rfl) rfl
theorem dX12_init_1028 : decode cX12_init 1028 = .ok (.aload_n 0, 1) := z_o42 (z_wat (q := 1024) (j := 4) zwX12_init_1024 rfl)
theorem dX12_init_1029 : decode cX12_init 1029 = .ok (.bipush 8, 2) := z_o16 (z_wat (q := 1024) (j := 5) zwX12_init_1024 rfl) (z_wat (q := 1024) (j := 6) zwX12_init_1024 rfl) rfl
theorem dX12_init_1031 : decode cX12_init 1031 = .ok (.newarray .boolean, 2) := z_o188_4 (z_wat (q := 1024) (j := 7) zwX12_init_1024 rfl) (z_wat (q := 1024) (j := 8) zwX12_init_1024 rfl)
theorem dX12_init_1033 : decode cX12_init 1033 = .ok (.putfield 138, 3) := z_o181 (z_wat (q := 1024) (j := 9) zwX12_init_1024 rfl) (z_wat (q := 1024) (j := 10) zwX12_init_1024 rfl) (z_wat (q := 1024) (j := 11) zwX12_init_1024 rfl) rfl
theorem dX12_init_1036 : decode cX12_init 1036 = .ok (.aload_n 0, 1) := z_o42 (z_wat (q := 1024) (j := 12) zwX12_init_1024 rfl)
theorem dX12_init_1037 : decode cX12_init 1037 = .ok (.bipush 96, 2) := z_o16 (z_wat (q := 1024) (j := 13) zwX12_init_1024 rfl) (z_wat (q := 1024) (j := 14) zwX12_init_1024 rfl) rfl
theorem dX12_init_1039 : decode cX12_init 1039 = .ok (.newarray .long, 2) := z_o188_11 (z_wat (q := 1024) (j := 15) zwX12_init_1024 rfl) (z_wat (q := 1024) (j := 16) zwX12_init_1024 rfl)
theorem dX12_init_1041 : decode cX12_init 1041 = .ok (.putfield 141, 3) := z_o181 (z_wat (q := 1024) (j := 17) zwX12_init_1024 rfl) (z_wat (q := 1024) (j := 18) zwX12_init_1024 rfl) (z_wat (q := 1024) (j := 19) zwX12_init_1024 rfl) rfl
theorem dX12_init_1044 : decode cX12_init 1044 = .ok (.iconst 0, 1) := z_o3 (z_wat (q := 1024) (j := 20) zwX12_init_1024 rfl)
theorem dX12_init_1045 : decode cX12_init 1045 = .ok (.istore_n 1, 1) := z_o60 (z_wat (q := 1024) (j := 21) zwX12_init_1024 rfl)
theorem dX12_init_1046 : decode cX12_init 1046 = .ok (.iload_n 1, 1) := z_o27 (z_wat (q := 1024) (j := 22) zwX12_init_1024 rfl)
theorem dX12_init_1047 : decode cX12_init 1047 = .ok (.bipush 24, 2) := z_o16 (z_wat (q := 1024) (j := 23) zwX12_init_1024 rfl) (z_wat (q := 1024) (j := 24) zwX12_init_1024 rfl) rfl
theorem dX12_init_1049 : decode cX12_init 1049 = .ok (.if_icmp .ge 17, 3) := z_o162 (z_wat (q := 1024) (j := 25) zwX12_init_1024 rfl) (z_wat (q := 1024) (j := 26) zwX12_init_1024 rfl) (z_wat (q := 1024) (j := 27) zwX12_init_1024 rfl) rfl
theorem dX12_init_1052 : decode cX12_init 1052 = .ok (.aload_n 0, 1) := z_o42 (z_wat (q := 1024) (j := 28) zwX12_init_1024 rfl)
theorem dX12_init_1053 : decode cX12_init 1053 = .ok (.getfield 69, 3) := z_o180 (z_wat (q := 1024) (j := 29) zwX12_init_1024 rfl) (z_wat (q := 1024) (j := 30) zwX12_init_1024 rfl) (z_wat (q := 1024) (j := 31) zwX12_init_1024 rfl) rfl
theorem zwX12_init_1056 : ((cX12_init.data.toList.drop 1056).take 34).map UInt8.toNat = [27, 16, 16, 79, 132, 1, 1, 167, 255, 239, 3, 60, 27, 6, 162, 0, 61, 3, 61, 28, 7, 162, 0, 48, 3, 62, 29, 7, 162, 0, 35, 42, 180, 0] := by decide +kernel
theorem dX12_init_1056 : decode cX12_init 1056 = .ok (.iload_n 1, 1) := z_o27 (z_wat (q := 1056) (j := 0) zwX12_init_1056 rfl)
theorem dX12_init_1057 : decode cX12_init 1057 = .ok (.bipush 16, 2) := z_o16 (z_wat (q := 1056) (j := 1) zwX12_init_1056 rfl) (z_wat (q := 1056) (j := 2) zwX12_init_1056 rfl) rfl
theorem dX12_init_1059 : decode cX12_init 1059 = .ok (.iastore, 1) := z_o79 (z_wat (q := 1056) (j := 3) zwX12_init_1056 rfl)
theorem dX12_init_1060 : decode cX12_init 1060 = .ok (.iinc 1 1, 3) := z_o132 (z_wat (q := 1056) (j := 4) zwX12_init_1056 rfl) (z_wat (q := 1056) (j := 5) zwX12_init_1056 rfl) (z_wat (q := 1056) (j := 6) zwX12_init_1056 rfl) rfl
theorem dX12_init_1063 : decode cX12_init 1063 = .ok (.goto (-17), 3) := z_o167 (z_wat (q := 1056) (j := 7) zwX12_init_1056 rfl) (z_wat (q := 1056) (j := 8) zwX12_init_1056 rfl) (z_wat (q := 1056) (j := 9) zwX12_init_1056 rfl) rfl
theorem dX12_init_1066 : decode cX12_init 1066 = .ok (.iconst 0, 1) := z_o3 (z_wat (q := 1056) (j := 10) zwX12_init_1056 rfl)
theorem dX12_init_1067 : decode cX12_init 1067 = .ok (.istore_n 1, 1) := z_o60 (z_wat (q := 1056) (j := 11) zwX12_init_1056 rfl)
theorem dX12_init_1068 : decode cX12_init 1068 = .ok (.iload_n 1, 1) := z_o27 (z_wat (q := 1056) (j := 12) zwX12_init_1056 rfl)
theorem dX12_init_1069 : decode cX12_init 1069 = .ok (.iconst 3, 1) := z_o6 (z_wat (q := 1056) (j := 13) zwX12_init_1056 rfl)
theorem dX12_init_1070 : decode cX12_init 1070 = .ok (.if_icmp .ge 61, 3) := z_o162 (z_wat (q := 1056) (j := 14) zwX12_init_1056 rfl) (z_wat (q := 1056) (j := 15) zwX12_init_1056 rfl) (z_wat (q := 1056) (j := 16) zwX12_init_1056 rfl) rfl
theorem dX12_init_1073 : decode cX12_init 1073 = .ok (.iconst 0, 1) := z_o3 (z_wat (q := 1056) (j := 17) zwX12_init_1056 rfl)
theorem dX12_init_1074 : decode cX12_init 1074 = .ok (.istore_n 2, 1) := z_o61 (z_wat (q := 1056) (j := 18) zwX12_init_1056 rfl)
theorem dX12_init_1075 : decode cX12_init 1075 = .ok (.iload_n 2, 1) := z_o28 (z_wat (q := 1056) (j := 19) zwX12_init_1056 rfl)
theorem dX12_init_1076 : decode cX12_init 1076 = .ok (.iconst 4, 1) := z_o7 (z_wat (q := 1056) (j := 20) zwX12_init_1056 rfl)
theorem dX12_init_1077 : decode cX12_init 1077 = .ok (.if_icmp .ge 48, 3) := z_o162 (z_wat (q := 1056) (j := 21) zwX12_init_1056 rfl) (z_wat (q := 1056) (j := 22) zwX12_init_1056 rfl) (z_wat (q := 1056) (j := 23) zwX12_init_1056 rfl) rfl
theorem dX12_init_1080 : decode cX12_init 1080 = .ok (.iconst 0, 1) := z_o3 (z_wat (q := 1056) (j := 24) zwX12_init_1056 rfl)
theorem dX12_init_1081 : decode cX12_init 1081 = .ok (.istore_n 3, 1) := z_o62 (z_wat (q := 1056) (j := 25) zwX12_init_1056 rfl)
theorem dX12_init_1082 : decode cX12_init 1082 = .ok (.iload_n 3, 1) := z_o29 (z_wat (q := 1056) (j := 26) zwX12_init_1056 rfl)
theorem dX12_init_1083 : decode cX12_init 1083 = .ok (.iconst 4, 1) := z_o7 (z_wat (q := 1056) (j := 27) zwX12_init_1056 rfl)
theorem dX12_init_1084 : decode cX12_init 1084 = .ok (.if_icmp .ge 35, 3) := z_o162 (z_wat (q := 1056) (j := 28) zwX12_init_1056 rfl) (z_wat (q := 1056) (j := 29) zwX12_init_1056 rfl) (z_wat (q := 1056) (j := 30) zwX12_init_1056 rfl) rfl
theorem dX12_init_1087 : decode cX12_init 1087 = .ok (.aload_n 0, 1) := z_o42 (z_wat (q := 1056) (j := 31) zwX12_init_1056 rfl)
theorem zwX12_init_1088 : ((cX12_init.data.toList.drop 1088).take 34).map UInt8.toNat = [180, 0, 78, 16, 16, 27, 104, 7, 28, 104, 96, 29, 96, 28, 29, 160, 0, 8, 16, 16, 167, 0, 4, 3, 79, 132, 3, 1, 167, 255, 222, 132, 2, 1] := by decide +kernel
theorem dX12_init_1088 : decode cX12_init 1088 = .ok (.getfield 78, 3) := z_o180 (z_wat (q := 1088) (j := 0) zwX12_init_1088 rfl) (z_wat (q := 1088) (j := 1) zwX12_init_1088 rfl) (z_wat (q := 1088) (j := 2) zwX12_init_1088 rfl) rfl
theorem dX12_init_1091 : decode cX12_init 1091 = .ok (.bipush 16, 2) := z_o16 (z_wat (q := 1088) (j := 3) zwX12_init_1088 rfl) (z_wat (q := 1088) (j := 4) zwX12_init_1088 rfl) rfl
theorem dX12_init_1093 : decode cX12_init 1093 = .ok (.iload_n 1, 1) := z_o27 (z_wat (q := 1088) (j := 5) zwX12_init_1088 rfl)
theorem dX12_init_1094 : decode cX12_init 1094 = .ok (.imul, 1) := z_o104 (z_wat (q := 1088) (j := 6) zwX12_init_1088 rfl)
theorem dX12_init_1095 : decode cX12_init 1095 = .ok (.iconst 4, 1) := z_o7 (z_wat (q := 1088) (j := 7) zwX12_init_1088 rfl)
theorem dX12_init_1096 : decode cX12_init 1096 = .ok (.iload_n 2, 1) := z_o28 (z_wat (q := 1088) (j := 8) zwX12_init_1088 rfl)
theorem dX12_init_1097 : decode cX12_init 1097 = .ok (.imul, 1) := z_o104 (z_wat (q := 1088) (j := 9) zwX12_init_1088 rfl)
theorem dX12_init_1098 : decode cX12_init 1098 = .ok (.iadd, 1) := z_o96 (z_wat (q := 1088) (j := 10) zwX12_init_1088 rfl)
theorem dX12_init_1099 : decode cX12_init 1099 = .ok (.iload_n 3, 1) := z_o29 (z_wat (q := 1088) (j := 11) zwX12_init_1088 rfl)
theorem dX12_init_1100 : decode cX12_init 1100 = .ok (.iadd, 1) := z_o96 (z_wat (q := 1088) (j := 12) zwX12_init_1088 rfl)
theorem dX12_init_1101 : decode cX12_init 1101 = .ok (.iload_n 2, 1) := z_o28 (z_wat (q := 1088) (j := 13) zwX12_init_1088 rfl)
theorem dX12_init_1102 : decode cX12_init 1102 = .ok (.iload_n 3, 1) := z_o29 (z_wat (q := 1088) (j := 14) zwX12_init_1088 rfl)
theorem dX12_init_1103 : decode cX12_init 1103 = .ok (.if_icmp .ne 8, 3) := z_o160 (z_wat (q := 1088) (j := 15) zwX12_init_1088 rfl) (z_wat (q := 1088) (j := 16) zwX12_init_1088 rfl) (z_wat (q := 1088) (j := 17) zwX12_init_1088 rfl) rfl
theorem dX12_init_1106 : decode cX12_init 1106 = .ok (.bipush 16, 2) := z_o16 (z_wat (q := 1088) (j := 18) zwX12_init_1088 rfl) (z_wat (q := 1088) (j := 19) zwX12_init_1088 rfl) rfl
theorem dX12_init_1108 : decode cX12_init 1108 = .ok (.goto 4, 3) := z_o167 (z_wat (q := 1088) (j := 20) zwX12_init_1088 rfl) (z_wat (q := 1088) (j := 21) zwX12_init_1088 rfl) (z_wat (q := 1088) (j := 22) zwX12_init_1088 rfl) rfl
theorem dX12_init_1111 : decode cX12_init 1111 = .ok (.iconst 0, 1) := z_o3 (z_wat (q := 1088) (j := 23) zwX12_init_1088 rfl)
theorem dX12_init_1112 : decode cX12_init 1112 = .ok (.iastore, 1) := z_o79 (z_wat (q := 1088) (j := 24) zwX12_init_1088 rfl)
theorem dX12_init_1113 : decode cX12_init 1113 = .ok (.iinc 3 1, 3) := z_o132 (z_wat (q := 1088) (j := 25) zwX12_init_1088 rfl) (z_wat (q := 1088) (j := 26) zwX12_init_1088 rfl) (z_wat (q := 1088) (j := 27) zwX12_init_1088 rfl) rfl
theorem dX12_init_1116 : decode cX12_init 1116 = .ok (.goto (-34), 3) := z_o167 (z_wat (q := 1088) (j := 28) zwX12_init_1088 rfl) (z_wat (q := 1088) (j := 29) zwX12_init_1088 rfl) (z_wat (q := 1088) (j := 30) zwX12_init_1088 rfl) rfl
theorem dX12_init_1119 : decode cX12_init 1119 = .ok (.iinc 2 1, 3) := z_o132 (z_wat (q := 1088) (j := 31) zwX12_init_1088 rfl) (z_wat (q := 1088) (j := 32) zwX12_init_1088 rfl) (z_wat (q := 1088) (j := 33) zwX12_init_1088 rfl) rfl
theorem zwX12_init_1120 : ((cX12_init.data.toList.drop 1120).take 12).map UInt8.toNat = [2, 1, 167, 255, 209, 132, 1, 1, 167, 255, 196, 177] := by decide +kernel
theorem dX12_init_1122 : decode cX12_init 1122 = .ok (.goto (-47), 3) := z_o167 (z_wat (q := 1120) (j := 2) zwX12_init_1120 rfl) (z_wat (q := 1120) (j := 3) zwX12_init_1120 rfl) (z_wat (q := 1120) (j := 4) zwX12_init_1120 rfl) rfl
theorem dX12_init_1125 : decode cX12_init 1125 = .ok (.iinc 1 1, 3) := z_o132 (z_wat (q := 1120) (j := 5) zwX12_init_1120 rfl) (z_wat (q := 1120) (j := 6) zwX12_init_1120 rfl) (z_wat (q := 1120) (j := 7) zwX12_init_1120 rfl) rfl
theorem dX12_init_1128 : decode cX12_init 1128 = .ok (.goto (-60), 3) := z_o167 (z_wat (q := 1120) (j := 8) zwX12_init_1120 rfl) (z_wat (q := 1120) (j := 9) zwX12_init_1120 rfl) (z_wat (q := 1120) (j := 10) zwX12_init_1120 rfl) rfl
theorem dX12_init_1131 : decode cX12_init 1131 = .ok (.return_, 1) := z_o177 (z_wat (q := 1120) (j := 11) zwX12_init_1120 rfl)
theorem zwX1_init_0 : ((cX1_init.data.toList.drop 0).take 34).map UInt8.toNat = [42, 183, 0, 3, 42, 3, 181, 0, 9, 42, 3, 181, 0, 15, 42, 3, 181, 0, 18, 42, 3, 181, 0, 21, 42, 43, 181, 0, 24, 42, 44, 181, 0, 28] := by decide +kernel
theorem dX1_init_0 : decode cX1_init 0 = .ok (.aload_n 0, 1) := z_o42 (z_wat (q := 0) (j := 0) zwX1_init_0 rfl)
theorem dX1_init_1 : decode cX1_init 1 = .ok (.invokespecial 3, 3) := z_o183 (z_wat (q := 0) (j := 1) zwX1_init_0 rfl) (z_wat (q := 0) (j := 2) zwX1_init_0 rfl) (z_wat (q := 0) (j := 3) zwX1_init_0 rfl) rfl
theorem dX1_init_4 : decode cX1_init 4 = .ok (.aload_n 0, 1) := z_o42 (z_wat (q := 0) (j := 4) zwX1_init_0 rfl)
theorem dX1_init_5 : decode cX1_init 5 = .ok (.iconst 0, 1) := z_o3 (z_wat (q := 0) (j := 5) zwX1_init_0 rfl)
theorem dX1_init_6 : decode cX1_init 6 = .ok (.putfield 9, 3) := z_o181 (z_wat (q := 0) (j := 6) zwX1_init_0 rfl) (z_wat (q := 0) (j := 7) zwX1_init_0 rfl) (z_wat (q := 0) (j := 8) zwX1_init_0 rfl) rfl
theorem dX1_init_9 : decode cX1_init 9 = .ok (.aload_n 0, 1) := z_o42 (z_wat (q := 0) (j := 9) zwX1_init_0 rfl)
theorem dX1_init_10 : decode cX1_init 10 = .ok (.iconst 0, 1) := z_o3 (z_wat (q := 0) (j := 10) zwX1_init_0 rfl)
theorem dX1_init_11 : decode cX1_init 11 = .ok (.putfield 15, 3) := z_o181 (z_wat (q := 0) (j := 11) zwX1_init_0 rfl) (z_wat (q := 0) (j := 12) zwX1_init_0 rfl) (z_wat (q := 0) (j := 13) zwX1_init_0 rfl) rfl
theorem dX1_init_14 : decode cX1_init 14 = .ok (.aload_n 0, 1) := z_o42 (z_wat (q := 0) (j := 14) zwX1_init_0 rfl)
theorem dX1_init_15 : decode cX1_init 15 = .ok (.iconst 0, 1) := z_o3 (z_wat (q := 0) (j := 15) zwX1_init_0 rfl)
theorem dX1_init_16 : decode cX1_init 16 = .ok (.putfield 18, 3) := z_o181 (z_wat (q := 0) (j := 16) zwX1_init_0 rfl) (z_wat (q := 0) (j := 17) zwX1_init_0 rfl) (z_wat (q := 0) (j := 18) zwX1_init_0 rfl) rfl
theorem dX1_init_19 : decode cX1_init 19 = .ok (.aload_n 0, 1) := z_o42 (z_wat (q := 0) (j := 19) zwX1_init_0 rfl)
theorem dX1_init_20 : decode cX1_init 20 = .ok (.iconst 0, 1) := z_o3 (z_wat (q := 0) (j := 20) zwX1_init_0 rfl)
theorem dX1_init_21 : decode cX1_init 21 = .ok (.putfield 21, 3) := z_o181 (z_wat (q := 0) (j := 21) zwX1_init_0 rfl) (z_wat (q := 0) (j := 22) zwX1_init_0 rfl) (z_wat (q := 0) (j := 23) zwX1_init_0 rfl) rfl
theorem dX1_init_24 : decode cX1_init 24 = .ok (.aload_n 0, 1) := z_o42 (z_wat (q := 0) (j := 24) zwX1_init_0 rfl)
theorem dX1_init_25 : decode cX1_init 25 = .ok (.aload_n 1, 1) := z_o43 (z_wat (q := 0) (j := 25) zwX1_init_0 rfl)
theorem dX1_init_26 : decode cX1_init 26 = .ok (.putfield 24, 3) := z_o181 (z_wat (q := 0) (j := 26) zwX1_init_0 rfl) (z_wat (q := 0) (j := 27) zwX1_init_0 rfl) (z_wat (q := 0) (j := 28) zwX1_init_0 rfl) rfl
theorem dX1_init_29 : decode cX1_init 29 = .ok (.aload_n 0, 1) := z_o42 (z_wat (q := 0) (j := 29) zwX1_init_0 rfl)
theorem dX1_init_30 : decode cX1_init 30 = .ok (.aload_n 2, 1) := z_o44 (z_wat (q := 0) (j := 30) zwX1_init_0 rfl)
theorem dX1_init_31 : decode cX1_init 31 = .ok (.putfield 28, 3) := z_o181 (z_wat (q := 0) (j := 31) zwX1_init_0 rfl) (z_wat (q := 0) (j := 32) zwX1_init_0 rfl) (z_wat (q := 0) (j := 33) zwX1_init_0 rfl) rfl
theorem zwX1_init_32 : ((cX1_init.data.toList.drop 32).take 3).map UInt8.toNat = [0, 28, 177] := by decide +kernel
theorem dX1_init_34 : decode cX1_init 34 = .ok (.return_, 1) := z_o177 (z_wat (q := 32) (j := 2) zwX1_init_32 rfl)
theorem zwX2_init_0 : ((cX2_init.data.toList.drop 0).take 34).map UInt8.toNat = [42, 183, 0, 3, 42, 16, 6, 181, 0, 9, 42, 16, 6, 181, 0, 15, 42, 16, 10, 188, 10, 181, 0, 18, 42, 16, 10, 188, 10, 181, 0, 22, 42, 16] := by decide +kernel
theorem dX2_init_0 : decode cX2_init 0 = .ok (.aload_n 0, 1) := z_o42 (z_wat (q := 0) (j := 0) zwX2_init_0 rfl)
theorem dX2_init_1 : decode cX2_init 1 = .ok (.invokespecial 3, 3) := z_o183 (z_wat (q := 0) (j := 1) zwX2_init_0 rfl) (z_wat (q := 0) (j := 2) zwX2_init_0 rfl) (z_wat (q := 0) (j := 3) zwX2_init_0 rfl) rfl
theorem dX2_init_4 : decode cX2_init 4 = .ok (.aload_n 0, 1) := z_o42 (z_wat (q := 0) (j := 4) zwX2_init_0 rfl)
theorem dX2_init_5 : decode cX2_init 5 = .ok (.bipush 6, 2) := z_o16 (z_wat (q := 0) (j := 5) zwX2_init_0 rfl) (z_wat (q := 0) (j := 6) zwX2_init_0 rfl) rfl
theorem dX2_init_7 : decode cX2_init 7 = .ok (.putfield 9, 3) := z_o181 (z_wat (q := 0) (j := 7) zwX2_init_0 rfl) (z_wat (q := 0) (j := 8) zwX2_init_0 rfl) (z_wat (q := 0) (j := 9) zwX2_init_0 rfl) rfl
theorem dX2_init_10 : decode cX2_init 10 = .ok (.aload_n 0, 1) := z_o42 (z_wat (q := 0) (j := 10) zwX2_init_0 rfl)
theorem dX2_init_11 : decode cX2_init 11 = .ok (.bipush 6, 2) := z_o16 (z_wat (q := 0) (j := 11) zwX2_init_0 rfl) (z_wat (q := 0) (j := 12) zwX2_init_0 rfl) rfl
theorem dX2_init_13 : decode cX2_init 13 = .ok (.putfield 15, 3) := z_o181 (z_wat (q := 0) (j := 13) zwX2_init_0 rfl) (z_wat (q := 0) (j := 14) zwX2_init_0 rfl) (z_wat (q := 0) (j := 15) zwX2_init_0 rfl) rfl
theorem dX2_init_16 : decode cX2_init 16 = .ok (.aload_n 0, 1) := z_o42 (z_wat (q := 0) (j := 16) zwX2_init_0 rfl)
theorem dX2_init_17 : decode cX2_init 17 = .ok (.bipush 10, 2) := z_o16 (z_wat (q := 0) (j := 17) zwX2_init_0 rfl) (z_wat (q := 0) (j := 18) zwX2_init_0 rfl) rfl
theorem dX2_init_19 : decode cX2_init 19 = .ok (.newarray .int, 2) := z_o188_10 (z_wat (q := 0) (j := 19) zwX2_init_0 rfl) (z_wat (q := 0) (j := 20) zwX2_init_0 rfl)
theorem dX2_init_21 : decode cX2_init 21 = .ok (.putfield 18, 3) := z_o181 (z_wat (q := 0) (j := 21) zwX2_init_0 rfl) (z_wat (q := 0) (j := 22) zwX2_init_0 rfl) (z_wat (q := 0) (j := 23) zwX2_init_0 rfl) rfl
theorem dX2_init_24 : decode cX2_init 24 = .ok (.aload_n 0, 1) := z_o42 (z_wat (q := 0) (j := 24) zwX2_init_0 rfl)
theorem dX2_init_25 : decode cX2_init 25 = .ok (.bipush 10, 2) := z_o16 (z_wat (q := 0) (j := 25) zwX2_init_0 rfl) (z_wat (q := 0) (j := 26) zwX2_init_0 rfl) rfl
theorem dX2_init_27 : decode cX2_init 27 = .ok (.newarray .int, 2) := z_o188_10 (z_wat (q := 0) (j := 27) zwX2_init_0 rfl) (z_wat (q := 0) (j := 28) zwX2_init_0 rfl)
theorem dX2_init_29 : decode cX2_init 29 = .ok (.putfield 22, 3) := z_o181 (z_wat (q := 0) (j := 29) zwX2_init_0 rfl) (z_wat (q := 0) (j := 30) zwX2_init_0 rfl) (z_wat (q := 0) (j := 31) zwX2_init_0 rfl) rfl
theorem zwX2_init_32 : ((cX2_init.data.toList.drop 32).take 34).map UInt8.toNat = [42, 16, 10, 188, 10, 181, 0, 25, 42, 16, 10, 188, 10, 181, 0, 28, 42, 16, 120, 188, 10, 181, 0, 31, 42, 3, 181, 0, 34, 42, 3, 181, 0, 37] := by decide +kernel
theorem dX2_init_32 : decode cX2_init 32 = .ok (.aload_n 0, 1) := z_o42 (z_wat (q := 32) (j := 0) zwX2_init_32 rfl)
theorem dX2_init_33 : decode cX2_init 33 = .ok (.bipush 10, 2) := z_o16 (z_wat (q := 32) (j := 1) zwX2_init_32 rfl) (z_wat (q := 32) (j := 2) zwX2_init_32 rfl) rfl
theorem dX2_init_35 : decode cX2_init 35 = .ok (.newarray .int, 2) := z_o188_10 (z_wat (q := 32) (j := 3) zwX2_init_32 rfl) (z_wat (q := 32) (j := 4) zwX2_init_32 rfl)
theorem dX2_init_37 : decode cX2_init 37 = .ok (.putfield 25, 3) := z_o181 (z_wat (q := 32) (j := 5) zwX2_init_32 rfl) (z_wat (q := 32) (j := 6) zwX2_init_32 rfl) (z_wat (q := 32) (j := 7) zwX2_init_32 rfl) rfl
theorem dX2_init_40 : decode cX2_init 40 = .ok (.aload_n 0, 1) := z_o42 (z_wat (q := 32) (j := 8) zwX2_init_32 rfl)
theorem dX2_init_41 : decode cX2_init 41 = .ok (.bipush 10, 2) := z_o16 (z_wat (q := 32) (j := 9) zwX2_init_32 rfl) (z_wat (q := 32) (j := 10) zwX2_init_32 rfl) rfl
theorem dX2_init_43 : decode cX2_init 43 = .ok (.newarray .int, 2) := z_o188_10 (z_wat (q := 32) (j := 11) zwX2_init_32 rfl) (z_wat (q := 32) (j := 12) zwX2_init_32 rfl)
theorem dX2_init_45 : decode cX2_init 45 = .ok (.putfield 28, 3) := z_o181 (z_wat (q := 32) (j := 13) zwX2_init_32 rfl) (z_wat (q := 32) (j := 14) zwX2_init_32 rfl) (z_wat (q := 32) (j := 15) zwX2_init_32 rfl) rfl
theorem dX2_init_48 : decode cX2_init 48 = .ok (.aload_n 0, 1) := z_o42 (z_wat (q := 32) (j := 16) zwX2_init_32 rfl)
theorem dX2_init_49 : decode cX2_init 49 = .ok (.bipush 120, 2) := z_o16 (z_wat (q := 32) (j := 17) zwX2_init_32 rfl) (z_wat (q := 32) (j := 18) zwX2_init_32 rfl) rfl
theorem dX2_init_51 : decode cX2_init 51 = .ok (.newarray .int, 2) := z_o188_10 (z_wat (q := 32) (j := 19) zwX2_init_32 rfl) (z_wat (q := 32) (j := 20) zwX2_init_32 rfl)
theorem dX2_init_53 : decode cX2_init 53 = .ok (.putfield 31, 3) := z_o181 (z_wat (q := 32) (j := 21) zwX2_init_32 rfl) (z_wat (q := 32) (j := 22) zwX2_init_32 rfl) (z_wat (q := 32) (j := 23) zwX2_init_32 rfl) rfl
theorem dX2_init_56 : decode cX2_init 56 = .ok (.aload_n 0, 1) := z_o42 (z_wat (q := 32) (j := 24) zwX2_init_32 rfl)
theorem dX2_init_57 : decode cX2_init 57 = .ok (.iconst 0, 1) := z_o3 (z_wat (q := 32) (j := 25) zwX2_init_32 rfl)
theorem dX2_init_58 : decode cX2_init 58 = .ok (.putfield 34, 3) := z_o181 (z_wat (q := 32) (j := 26) zwX2_init_32 rfl) (z_wat (q := 32) (j := 27) zwX2_init_32 rfl) (z_wat (q := 32) (j := 28) zwX2_init_32 rfl) rfl
theorem dX2_init_61 : decode cX2_init 61 = .ok (.aload_n 0, 1) := z_o42 (z_wat (q := 32) (j := 29) zwX2_init_32 rfl)
theorem dX2_init_62 : decode cX2_init 62 = .ok (.iconst 0, 1) := z_o3 (z_wat (q := 32) (j := 30) zwX2_init_32 rfl)
theorem dX2_init_63 : decode cX2_init 63 = .ok (.putfield 37, 3) := z_o181 (z_wat (q := 32) (j := 31) zwX2_init_32 rfl) (z_wat (q := 32) (j := 32) zwX2_init_32 rfl) (z_wat (q := 32) (j := 33) zwX2_init_32 rfl) rfl
theorem zwX2_init_64 : ((cX2_init.data.toList.drop 64).take 13).map UInt8.toNat = [0, 37, 42, 3, 181, 0, 40, 42, 3, 181, 0, 43, 177] := by decide +kernel
theorem dX2_init_66 : decode cX2_init 66 = .ok (.aload_n 0, 1) := z_o42 (z_wat (q := 64) (j := 2) zwX2_init_64 rfl)
theorem dX2_init_67 : decode cX2_init 67 = .ok (.iconst 0, 1) := z_o3 (z_wat (q := 64) (j := 3) zwX2_init_64 rfl)
theorem dX2_init_68 : decode cX2_init 68 = .ok (.putfield 40, 3) := z_o181 (z_wat (q := 64) (j := 4) zwX2_init_64 rfl) (z_wat (q := 64) (j := 5) zwX2_init_64 rfl) (z_wat (q := 64) (j := 6) zwX2_init_64 rfl) rfl
theorem dX2_init_71 : decode cX2_init 71 = .ok (.aload_n 0, 1) := z_o42 (z_wat (q := 64) (j := 7) zwX2_init_64 rfl)
theorem dX2_init_72 : decode cX2_init 72 = .ok (.iconst 0, 1) := z_o3 (z_wat (q := 64) (j := 8) zwX2_init_64 rfl)
theorem dX2_init_73 : decode cX2_init 73 = .ok (.putfield 43, 3) := z_o181 (z_wat (q := 64) (j := 9) zwX2_init_64 rfl) (z_wat (q := 64) (j := 10) zwX2_init_64 rfl) (z_wat (q := 64) (j := 11) zwX2_init_64 rfl) rfl
theorem dX2_init_76 : decode cX2_init 76 = .ok (.return_, 1) := z_o177 (z_wat (q := 64) (j := 12) zwX2_init_64 rfl)
theorem zwX3_init_0 : ((cX3_init.data.toList.drop 0).take 34).map UInt8.toNat = [42, 183, 0, 3, 42, 16, 20, 188, 11, 181, 0, 11, 42, 16, 20, 188, 4, 181, 0, 15, 42, 16, 96, 188, 11, 181, 0, 21, 42, 2, 181, 0, 24, 42] := by decide +kernel
theorem dX3_init_0 : decode cX3_init 0 = .ok (.aload_n 0, 1) := z_o42 (z_wat (q := 0) (j := 0) zwX3_init_0 rfl)
theorem dX3_init_1 : decode cX3_init 1 = .ok (.invokespecial 3, 3) := z_o183 (z_wat (q := 0) (j := 1) zwX3_init_0 rfl) (z_wat (q := 0) (j := 2) zwX3_init_0 rfl) (z_wat (q := 0) (j := 3) zwX3_init_0 rfl) rfl
theorem dX3_init_4 : decode cX3_init 4 = .ok (.aload_n 0, 1) := z_o42 (z_wat (q := 0) (j := 4) zwX3_init_0 rfl)
theorem dX3_init_5 : decode cX3_init 5 = .ok (.bipush 20, 2) := z_o16 (z_wat (q := 0) (j := 5) zwX3_init_0 rfl) (z_wat (q := 0) (j := 6) zwX3_init_0 rfl) rfl
theorem dX3_init_7 : decode cX3_init 7 = .ok (.newarray .long, 2) := z_o188_11 (z_wat (q := 0) (j := 7) zwX3_init_0 rfl) (z_wat (q := 0) (j := 8) zwX3_init_0 rfl)
theorem dX3_init_9 : decode cX3_init 9 = .ok (.putfield 11, 3) := z_o181 (z_wat (q := 0) (j := 9) zwX3_init_0 rfl) (z_wat (q := 0) (j := 10) zwX3_init_0 rfl) (z_wat (q := 0) (j := 11) zwX3_init_0 rfl) rfl
theorem dX3_init_12 : decode cX3_init 12 = .ok (.aload_n 0, 1) := z_o42 (z_wat (q := 0) (j := 12) zwX3_init_0 rfl)
theorem dX3_init_13 : decode cX3_init 13 = .ok (.bipush 20, 2) := z_o16 (z_wat (q := 0) (j := 13) zwX3_init_0 rfl) (z_wat (q := 0) (j := 14) zwX3_init_0 rfl) rfl
theorem dX3_init_15 : decode cX3_init 15 = .ok (.newarray .boolean, 2) := z_o188_4 (z_wat (q := 0) (j := 15) zwX3_init_0 rfl) (z_wat (q := 0) (j := 16) zwX3_init_0 rfl)
theorem dX3_init_17 : decode cX3_init 17 = .ok (.putfield 15, 3) := z_o181 (z_wat (q := 0) (j := 17) zwX3_init_0 rfl) (z_wat (q := 0) (j := 18) zwX3_init_0 rfl) (z_wat (q := 0) (j := 19) zwX3_init_0 rfl) rfl
theorem dX3_init_20 : decode cX3_init 20 = .ok (.aload_n 0, 1) := z_o42 (z_wat (q := 0) (j := 20) zwX3_init_0 rfl)
theorem dX3_init_21 : decode cX3_init 21 = .ok (.bipush 96, 2) := z_o16 (z_wat (q := 0) (j := 21) zwX3_init_0 rfl) (z_wat (q := 0) (j := 22) zwX3_init_0 rfl) rfl
theorem dX3_init_23 : decode cX3_init 23 = .ok (.newarray .long, 2) := z_o188_11 (z_wat (q := 0) (j := 23) zwX3_init_0 rfl) (z_wat (q := 0) (j := 24) zwX3_init_0 rfl)
theorem dX3_init_25 : decode cX3_init 25 = .ok (.putfield 21, 3) := z_o181 (z_wat (q := 0) (j := 25) zwX3_init_0 rfl) (z_wat (q := 0) (j := 26) zwX3_init_0 rfl) (z_wat (q := 0) (j := 27) zwX3_init_0 rfl) rfl
theorem dX3_init_28 : decode cX3_init 28 = .ok (.aload_n 0, 1) := z_o42 (z_wat (q := 0) (j := 28) zwX3_init_0 rfl)
theorem dX3_init_29 : decode cX3_init 29 = .ok (.iconst (-1), 1) := z_o2 (z_wat (q := 0) (j := 29) zwX3_init_0 rfl)
theorem dX3_init_30 : decode cX3_init 30 = .ok (.putfield 24, 3) := z_o181 (z_wat (q := 0) (j := 30) zwX3_init_0 rfl) (z_wat (q := 0) (j := 31) zwX3_init_0 rfl) (z_wat (q := 0) (j := 32) zwX3_init_0 rfl) rfl
theorem zwX3_init_32 : ((cX3_init.data.toList.drop 32).take 34).map UInt8.toNat = [24, 42, 2, 181, 0, 28, 42, 43, 181, 0, 31, 42, 44, 181, 0, 35, 42, 45, 181, 0, 39, 42, 25, 4, 181, 0, 43, 42, 25, 5, 181, 0, 47, 177] := by decide +kernel
theorem dX3_init_33 : decode cX3_init 33 = .ok (.aload_n 0, 1) := z_o42 (z_wat (q := 32) (j := 1) zwX3_init_32 rfl)
theorem dX3_init_34 : decode cX3_init 34 = .ok (.iconst (-1), 1) := z_o2 (z_wat (q := 32) (j := 2) zwX3_init_32 rfl)
theorem dX3_init_35 : decode cX3_init 35 = .ok (.putfield 28, 3) := z_o181 (z_wat (q := 32) (j := 3) zwX3_init_32 rfl) (z_wat (q := 32) (j := 4) zwX3_init_32 rfl) (z_wat (q := 32) (j := 5) zwX3_init_32 rfl) rfl
theorem dX3_init_38 : decode cX3_init 38 = .ok (.aload_n 0, 1) := z_o42 (z_wat (q := 32) (j := 6) zwX3_init_32 rfl)
theorem dX3_init_39 : decode cX3_init 39 = .ok (.aload_n 1, 1) := z_o43 (z_wat (q := 32) (j := 7) zwX3_init_32 rfl)
theorem dX3_init_40 : decode cX3_init 40 = .ok (.putfield 31, 3) := z_o181 (z_wat (q := 32) (j := 8) zwX3_init_32 rfl) (z_wat (q := 32) (j := 9) zwX3_init_32 rfl) (z_wat (q := 32) (j := 10) zwX3_init_32 rfl) rfl
theorem dX3_init_43 : decode cX3_init 43 = .ok (.aload_n 0, 1) := z_o42 (z_wat (q := 32) (j := 11) zwX3_init_32 rfl)
theorem dX3_init_44 : decode cX3_init 44 = .ok (.aload_n 2, 1) := z_o44 (z_wat (q := 32) (j := 12) zwX3_init_32 rfl)
theorem dX3_init_45 : decode cX3_init 45 = .ok (.putfield 35, 3) := z_o181 (z_wat (q := 32) (j := 13) zwX3_init_32 rfl) (z_wat (q := 32) (j := 14) zwX3_init_32 rfl) (z_wat (q := 32) (j := 15) zwX3_init_32 rfl) rfl
theorem dX3_init_48 : decode cX3_init 48 = .ok (.aload_n 0, 1) := z_o42 (z_wat (q := 32) (j := 16) zwX3_init_32 rfl)
theorem dX3_init_49 : decode cX3_init 49 = .ok (.aload_n 3, 1) := z_o45 (z_wat (q := 32) (j := 17) zwX3_init_32 rfl)
theorem dX3_init_50 : decode cX3_init 50 = .ok (.putfield 39, 3) := z_o181 (z_wat (q := 32) (j := 18) zwX3_init_32 rfl) (z_wat (q := 32) (j := 19) zwX3_init_32 rfl) (z_wat (q := 32) (j := 20) zwX3_init_32 rfl) rfl
theorem dX3_init_53 : decode cX3_init 53 = .ok (.aload_n 0, 1) := z_o42 (z_wat (q := 32) (j := 21) zwX3_init_32 rfl)
theorem dX3_init_54 : decode cX3_init 54 = .ok (.aload 4, 2) := z_o25 (z_wat (q := 32) (j := 22) zwX3_init_32 rfl) (z_wat (q := 32) (j := 23) zwX3_init_32 rfl)
theorem dX3_init_56 : decode cX3_init 56 = .ok (.putfield 43, 3) := z_o181 (z_wat (q := 32) (j := 24) zwX3_init_32 rfl) (z_wat (q := 32) (j := 25) zwX3_init_32 rfl) (z_wat (q := 32) (j := 26) zwX3_init_32 rfl) rfl
theorem dX3_init_59 : decode cX3_init 59 = .ok (.aload_n 0, 1) := z_o42 (z_wat (q := 32) (j := 27) zwX3_init_32 rfl)
theorem dX3_init_60 : decode cX3_init 60 = .ok (.aload 5, 2) := z_o25 (z_wat (q := 32) (j := 28) zwX3_init_32 rfl) (z_wat (q := 32) (j := 29) zwX3_init_32 rfl)
theorem dX3_init_62 : decode cX3_init 62 = .ok (.putfield 47, 3) := z_o181 (z_wat (q := 32) (j := 30) zwX3_init_32 rfl) (z_wat (q := 32) (j := 31) zwX3_init_32 rfl) (z_wat (q := 32) (j := 32) zwX3_init_32 rfl) rfl
theorem zwX3_init_64 : ((cX3_init.data.toList.drop 64).take 2).map UInt8.toNat = [47, 177] := by decide +kernel
theorem dX3_init_65 : decode cX3_init 65 = .ok (.return_, 1) := z_o177 (z_wat (q := 64) (j := 1) zwX3_init_64 rfl)
theorem zwX4_init_0 : ((cX4_init.data.toList.drop 0).take 34).map UInt8.toNat = [42, 183, 0, 3, 42, 2, 181, 0, 9, 42, 2, 181, 0, 15, 42, 16, 80, 188, 4, 181, 0, 18, 42, 16, 12, 188, 10, 181, 0, 22, 42, 16, 12, 188] := by decide +kernel
theorem dX4_init_0 : decode cX4_init 0 = .ok (.aload_n 0, 1) := z_o42 (z_wat (q := 0) (j := 0) zwX4_init_0 rfl)
theorem dX4_init_1 : decode cX4_init 1 = .ok (.invokespecial 3, 3) := z_o183 (z_wat (q := 0) (j := 1) zwX4_init_0 rfl) (z_wat (q := 0) (j := 2) zwX4_init_0 rfl) (z_wat (q := 0) (j := 3) zwX4_init_0 rfl) rfl
theorem dX4_init_4 : decode cX4_init 4 = .ok (.aload_n 0, 1) := z_o42 (z_wat (q := 0) (j := 4) zwX4_init_0 rfl)
theorem dX4_init_5 : decode cX4_init 5 = .ok (.iconst (-1), 1) := z_o2 (z_wat (q := 0) (j := 5) zwX4_init_0 rfl)
theorem dX4_init_6 : decode cX4_init 6 = .ok (.putfield 9, 3) := z_o181 (z_wat (q := 0) (j := 6) zwX4_init_0 rfl) (z_wat (q := 0) (j := 7) zwX4_init_0 rfl) (z_wat (q := 0) (j := 8) zwX4_init_0 rfl) rfl
theorem dX4_init_9 : decode cX4_init 9 = .ok (.aload_n 0, 1) := z_o42 (z_wat (q := 0) (j := 9) zwX4_init_0 rfl)
theorem dX4_init_10 : decode cX4_init 10 = .ok (.iconst (-1), 1) := z_o2 (z_wat (q := 0) (j := 10) zwX4_init_0 rfl)
theorem dX4_init_11 : decode cX4_init 11 = .ok (.putfield 15, 3) := z_o181 (z_wat (q := 0) (j := 11) zwX4_init_0 rfl) (z_wat (q := 0) (j := 12) zwX4_init_0 rfl) (z_wat (q := 0) (j := 13) zwX4_init_0 rfl) rfl
theorem dX4_init_14 : decode cX4_init 14 = .ok (.aload_n 0, 1) := z_o42 (z_wat (q := 0) (j := 14) zwX4_init_0 rfl)
theorem dX4_init_15 : decode cX4_init 15 = .ok (.bipush 80, 2) := z_o16 (z_wat (q := 0) (j := 15) zwX4_init_0 rfl) (z_wat (q := 0) (j := 16) zwX4_init_0 rfl) rfl
theorem dX4_init_17 : decode cX4_init 17 = .ok (.newarray .boolean, 2) := z_o188_4 (z_wat (q := 0) (j := 17) zwX4_init_0 rfl) (z_wat (q := 0) (j := 18) zwX4_init_0 rfl)
theorem dX4_init_19 : decode cX4_init 19 = .ok (.putfield 18, 3) := z_o181 (z_wat (q := 0) (j := 19) zwX4_init_0 rfl) (z_wat (q := 0) (j := 20) zwX4_init_0 rfl) (z_wat (q := 0) (j := 21) zwX4_init_0 rfl) rfl
theorem dX4_init_22 : decode cX4_init 22 = .ok (.aload_n 0, 1) := z_o42 (z_wat (q := 0) (j := 22) zwX4_init_0 rfl)
theorem dX4_init_23 : decode cX4_init 23 = .ok (.bipush 12, 2) := z_o16 (z_wat (q := 0) (j := 23) zwX4_init_0 rfl) (z_wat (q := 0) (j := 24) zwX4_init_0 rfl) rfl
theorem dX4_init_25 : decode cX4_init 25 = .ok (.newarray .int, 2) := z_o188_10 (z_wat (q := 0) (j := 25) zwX4_init_0 rfl) (z_wat (q := 0) (j := 26) zwX4_init_0 rfl)
theorem dX4_init_27 : decode cX4_init 27 = .ok (.putfield 22, 3) := z_o181 (z_wat (q := 0) (j := 27) zwX4_init_0 rfl) (z_wat (q := 0) (j := 28) zwX4_init_0 rfl) (z_wat (q := 0) (j := 29) zwX4_init_0 rfl) rfl
theorem dX4_init_30 : decode cX4_init 30 = .ok (.aload_n 0, 1) := z_o42 (z_wat (q := 0) (j := 30) zwX4_init_0 rfl)
theorem dX4_init_31 : decode cX4_init 31 = .ok (.bipush 12, 2) := z_o16 (z_wat (q := 0) (j := 31) zwX4_init_0 rfl) (z_wat (q := 0) (j := 32) zwX4_init_0 rfl) rfl
theorem zwX4_init_32 : ((cX4_init.data.toList.drop 32).take 34).map UInt8.toNat = [12, 188, 10, 181, 0, 26, 42, 16, 12, 188, 10, 181, 0, 29, 42, 16, 12, 188, 10, 181, 0, 32, 42, 16, 12, 188, 10, 181, 0, 35, 42, 3, 181, 0] := by decide +kernel
theorem dX4_init_33 : decode cX4_init 33 = .ok (.newarray .int, 2) := z_o188_10 (z_wat (q := 32) (j := 1) zwX4_init_32 rfl) (z_wat (q := 32) (j := 2) zwX4_init_32 rfl)
theorem dX4_init_35 : decode cX4_init 35 = .ok (.putfield 26, 3) := z_o181 (z_wat (q := 32) (j := 3) zwX4_init_32 rfl) (z_wat (q := 32) (j := 4) zwX4_init_32 rfl) (z_wat (q := 32) (j := 5) zwX4_init_32 rfl) rfl
theorem dX4_init_38 : decode cX4_init 38 = .ok (.aload_n 0, 1) := z_o42 (z_wat (q := 32) (j := 6) zwX4_init_32 rfl)
theorem dX4_init_39 : decode cX4_init 39 = .ok (.bipush 12, 2) := z_o16 (z_wat (q := 32) (j := 7) zwX4_init_32 rfl) (z_wat (q := 32) (j := 8) zwX4_init_32 rfl) rfl
theorem dX4_init_41 : decode cX4_init 41 = .ok (.newarray .int, 2) := z_o188_10 (z_wat (q := 32) (j := 9) zwX4_init_32 rfl) (z_wat (q := 32) (j := 10) zwX4_init_32 rfl)
theorem dX4_init_43 : decode cX4_init 43 = .ok (.putfield 29, 3) := z_o181 (z_wat (q := 32) (j := 11) zwX4_init_32 rfl) (z_wat (q := 32) (j := 12) zwX4_init_32 rfl) (z_wat (q := 32) (j := 13) zwX4_init_32 rfl) rfl
theorem dX4_init_46 : decode cX4_init 46 = .ok (.aload_n 0, 1) := z_o42 (z_wat (q := 32) (j := 14) zwX4_init_32 rfl)
theorem dX4_init_47 : decode cX4_init 47 = .ok (.bipush 12, 2) := z_o16 (z_wat (q := 32) (j := 15) zwX4_init_32 rfl) (z_wat (q := 32) (j := 16) zwX4_init_32 rfl) rfl
theorem dX4_init_49 : decode cX4_init 49 = .ok (.newarray .int, 2) := z_o188_10 (z_wat (q := 32) (j := 17) zwX4_init_32 rfl) (z_wat (q := 32) (j := 18) zwX4_init_32 rfl)
theorem dX4_init_51 : decode cX4_init 51 = .ok (.putfield 32, 3) := z_o181 (z_wat (q := 32) (j := 19) zwX4_init_32 rfl) (z_wat (q := 32) (j := 20) zwX4_init_32 rfl) (z_wat (q := 32) (j := 21) zwX4_init_32 rfl) rfl
theorem dX4_init_54 : decode cX4_init 54 = .ok (.aload_n 0, 1) := z_o42 (z_wat (q := 32) (j := 22) zwX4_init_32 rfl)
theorem dX4_init_55 : decode cX4_init 55 = .ok (.bipush 12, 2) := z_o16 (z_wat (q := 32) (j := 23) zwX4_init_32 rfl) (z_wat (q := 32) (j := 24) zwX4_init_32 rfl) rfl
theorem dX4_init_57 : decode cX4_init 57 = .ok (.newarray .int, 2) := z_o188_10 (z_wat (q := 32) (j := 25) zwX4_init_32 rfl) (z_wat (q := 32) (j := 26) zwX4_init_32 rfl)
theorem dX4_init_59 : decode cX4_init 59 = .ok (.putfield 35, 3) := z_o181 (z_wat (q := 32) (j := 27) zwX4_init_32 rfl) (z_wat (q := 32) (j := 28) zwX4_init_32 rfl) (z_wat (q := 32) (j := 29) zwX4_init_32 rfl) rfl
theorem dX4_init_62 : decode cX4_init 62 = .ok (.aload_n 0, 1) := z_o42 (z_wat (q := 32) (j := 30) zwX4_init_32 rfl)
theorem dX4_init_63 : decode cX4_init 63 = .ok (.iconst 0, 1) := z_o3 (z_wat (q := 32) (j := 31) zwX4_init_32 rfl)
theorem zwX4_init_64 : ((cX4_init.data.toList.drop 64).take 9).map UInt8.toNat = [181, 0, 38, 42, 43, 181, 0, 41, 177] := by decide +kernel
theorem dX4_init_64 : decode cX4_init 64 = .ok (.putfield 38, 3) := z_o181 (z_wat (q := 64) (j := 0) zwX4_init_64 rfl) (z_wat (q := 64) (j := 1) zwX4_init_64 rfl) (z_wat (q := 64) (j := 2) zwX4_init_64 rfl) rfl
theorem dX4_init_67 : decode cX4_init 67 = .ok (.aload_n 0, 1) := z_o42 (z_wat (q := 64) (j := 3) zwX4_init_64 rfl)
theorem dX4_init_68 : decode cX4_init 68 = .ok (.aload_n 1, 1) := z_o43 (z_wat (q := 64) (j := 4) zwX4_init_64 rfl)
theorem dX4_init_69 : decode cX4_init 69 = .ok (.putfield 41, 3) := z_o181 (z_wat (q := 64) (j := 5) zwX4_init_64 rfl) (z_wat (q := 64) (j := 6) zwX4_init_64 rfl) (z_wat (q := 64) (j := 7) zwX4_init_64 rfl) rfl
theorem dX4_init_72 : decode cX4_init 72 = .ok (.return_, 1) := z_o177 (z_wat (q := 64) (j := 8) zwX4_init_64 rfl)
theorem zwX5_init_0 : ((cX5_init.data.toList.drop 0).take 34).map UInt8.toNat = [42, 183, 0, 5, 42, 16, 6, 188, 10, 181, 0, 11, 42, 16, 6, 188, 10, 181, 0, 15, 42, 17, 45, 0, 188, 10, 181, 0, 18, 42, 17, 0, 144, 188] := by decide +kernel
theorem dX5_init_0 : decode cX5_init 0 = .ok (.aload_n 0, 1) := z_o42 (z_wat (q := 0) (j := 0) zwX5_init_0 rfl)
theorem dX5_init_1 : decode cX5_init 1 = .ok (.invokespecial 5, 3) := z_o183 (z_wat (q := 0) (j := 1) zwX5_init_0 rfl) (z_wat (q := 0) (j := 2) zwX5_init_0 rfl) (z_wat (q := 0) (j := 3) zwX5_init_0 rfl) rfl
theorem dX5_init_4 : decode cX5_init 4 = .ok (.aload_n 0, 1) := z_o42 (z_wat (q := 0) (j := 4) zwX5_init_0 rfl)
theorem dX5_init_5 : decode cX5_init 5 = .ok (.bipush 6, 2) := z_o16 (z_wat (q := 0) (j := 5) zwX5_init_0 rfl) (z_wat (q := 0) (j := 6) zwX5_init_0 rfl) rfl
theorem dX5_init_7 : decode cX5_init 7 = .ok (.newarray .int, 2) := z_o188_10 (z_wat (q := 0) (j := 7) zwX5_init_0 rfl) (z_wat (q := 0) (j := 8) zwX5_init_0 rfl)
theorem dX5_init_9 : decode cX5_init 9 = .ok (.putfield 11, 3) := z_o181 (z_wat (q := 0) (j := 9) zwX5_init_0 rfl) (z_wat (q := 0) (j := 10) zwX5_init_0 rfl) (z_wat (q := 0) (j := 11) zwX5_init_0 rfl) rfl
theorem dX5_init_12 : decode cX5_init 12 = .ok (.aload_n 0, 1) := z_o42 (z_wat (q := 0) (j := 12) zwX5_init_0 rfl)
theorem dX5_init_13 : decode cX5_init 13 = .ok (.bipush 6, 2) := z_o16 (z_wat (q := 0) (j := 13) zwX5_init_0 rfl) (z_wat (q := 0) (j := 14) zwX5_init_0 rfl) rfl
theorem dX5_init_15 : decode cX5_init 15 = .ok (.newarray .int, 2) := z_o188_10 (z_wat (q := 0) (j := 15) zwX5_init_0 rfl) (z_wat (q := 0) (j := 16) zwX5_init_0 rfl)
theorem dX5_init_17 : decode cX5_init 17 = .ok (.putfield 15, 3) := z_o181 (z_wat (q := 0) (j := 17) zwX5_init_0 rfl) (z_wat (q := 0) (j := 18) zwX5_init_0 rfl) (z_wat (q := 0) (j := 19) zwX5_init_0 rfl) rfl
theorem dX5_init_20 : decode cX5_init 20 = .ok (.aload_n 0, 1) := z_o42 (z_wat (q := 0) (j := 20) zwX5_init_0 rfl)
theorem dX5_init_21 : decode cX5_init 21 = .ok (.sipush 11520, 3) := z_o17 (z_wat (q := 0) (j := 21) zwX5_init_0 rfl) (z_wat (q := 0) (j := 22) zwX5_init_0 rfl) (z_wat (q := 0) (j := 23) zwX5_init_0 rfl) rfl
theorem dX5_init_24 : decode cX5_init 24 = .ok (.newarray .int, 2) := z_o188_10 (z_wat (q := 0) (j := 24) zwX5_init_0 rfl) (z_wat (q := 0) (j := 25) zwX5_init_0 rfl)
theorem dX5_init_26 : decode cX5_init 26 = .ok (.putfield 18, 3) := z_o181 (z_wat (q := 0) (j := 26) zwX5_init_0 rfl) (z_wat (q := 0) (j := 27) zwX5_init_0 rfl) (z_wat (q := 0) (j := 28) zwX5_init_0 rfl) rfl
theorem dX5_init_29 : decode cX5_init 29 = .ok (.aload_n 0, 1) := z_o42 (z_wat (q := 0) (j := 29) zwX5_init_0 rfl)
theorem dX5_init_30 : decode cX5_init 30 = .ok (.sipush 144, 3) := z_o17 (z_wat (q := 0) (j := 30) zwX5_init_0 rfl) (z_wat (q := 0) (j := 31) zwX5_init_0 rfl) (z_wat (q := 0) (j := 32) zwX5_init_0 rfl) rfl
theorem zwX5_init_32 : ((cX5_init.data.toList.drop 32).take 34).map UInt8.toNat = [144, 188, 11, 181, 0, 21, 42, 16, 24, 188, 10, 181, 0, 25, 42, 16, 6, 188, 11, 181, 0, 28, 42, 16, 6, 188, 11, 181, 0, 31, 42, 9, 181, 0] := by decide +kernel
theorem dX5_init_33 : decode cX5_init 33 = .ok (.newarray .long, 2) := z_o188_11 (z_wat (q := 32) (j := 1) zwX5_init_32 rfl) (z_wat (q := 32) (j := 2) zwX5_init_32 rfl)
theorem dX5_init_35 : decode cX5_init 35 = .ok (.putfield 21, 3) := z_o181 (z_wat (q := 32) (j := 3) zwX5_init_32 rfl) (z_wat (q := 32) (j := 4) zwX5_init_32 rfl) (z_wat (q := 32) (j := 5) zwX5_init_32 rfl) rfl
theorem dX5_init_38 : decode cX5_init 38 = .ok (.aload_n 0, 1) := z_o42 (z_wat (q := 32) (j := 6) zwX5_init_32 rfl)
theorem dX5_init_39 : decode cX5_init 39 = .ok (.bipush 24, 2) := z_o16 (z_wat (q := 32) (j := 7) zwX5_init_32 rfl) (z_wat (q := 32) (j := 8) zwX5_init_32 rfl) rfl
theorem dX5_init_41 : decode cX5_init 41 = .ok (.newarray .int, 2) := z_o188_10 (z_wat (q := 32) (j := 9) zwX5_init_32 rfl) (z_wat (q := 32) (j := 10) zwX5_init_32 rfl)
theorem dX5_init_43 : decode cX5_init 43 = .ok (.putfield 25, 3) := z_o181 (z_wat (q := 32) (j := 11) zwX5_init_32 rfl) (z_wat (q := 32) (j := 12) zwX5_init_32 rfl) (z_wat (q := 32) (j := 13) zwX5_init_32 rfl) rfl
theorem dX5_init_46 : decode cX5_init 46 = .ok (.aload_n 0, 1) := z_o42 (z_wat (q := 32) (j := 14) zwX5_init_32 rfl)
theorem dX5_init_47 : decode cX5_init 47 = .ok (.bipush 6, 2) := z_o16 (z_wat (q := 32) (j := 15) zwX5_init_32 rfl) (z_wat (q := 32) (j := 16) zwX5_init_32 rfl) rfl
theorem dX5_init_49 : decode cX5_init 49 = .ok (.newarray .long, 2) := z_o188_11 (z_wat (q := 32) (j := 17) zwX5_init_32 rfl) (z_wat (q := 32) (j := 18) zwX5_init_32 rfl)
theorem dX5_init_51 : decode cX5_init 51 = .ok (.putfield 28, 3) := z_o181 (z_wat (q := 32) (j := 19) zwX5_init_32 rfl) (z_wat (q := 32) (j := 20) zwX5_init_32 rfl) (z_wat (q := 32) (j := 21) zwX5_init_32 rfl) rfl
theorem dX5_init_54 : decode cX5_init 54 = .ok (.aload_n 0, 1) := z_o42 (z_wat (q := 32) (j := 22) zwX5_init_32 rfl)
theorem dX5_init_55 : decode cX5_init 55 = .ok (.bipush 6, 2) := z_o16 (z_wat (q := 32) (j := 23) zwX5_init_32 rfl) (z_wat (q := 32) (j := 24) zwX5_init_32 rfl) rfl
theorem dX5_init_57 : decode cX5_init 57 = .ok (.newarray .long, 2) := z_o188_11 (z_wat (q := 32) (j := 25) zwX5_init_32 rfl) (z_wat (q := 32) (j := 26) zwX5_init_32 rfl)
theorem dX5_init_59 : decode cX5_init 59 = .ok (.putfield 31, 3) := z_o181 (z_wat (q := 32) (j := 27) zwX5_init_32 rfl) (z_wat (q := 32) (j := 28) zwX5_init_32 rfl) (z_wat (q := 32) (j := 29) zwX5_init_32 rfl) rfl
theorem dX5_init_62 : decode cX5_init 62 = .ok (.aload_n 0, 1) := z_o42 (z_wat (q := 32) (j := 30) zwX5_init_32 rfl)
theorem dX5_init_63 : decode cX5_init 63 = .ok (.lconst 0, 1) := z_o9 (z_wat (q := 32) (j := 31) zwX5_init_32 rfl)
theorem zwX5_init_64 : ((cX5_init.data.toList.drop 64).take 14).map UInt8.toNat = [181, 0, 34, 42, 9, 181, 0, 38, 42, 3, 181, 0, 41, 177] := by decide +kernel
theorem dX5_init_64 : decode cX5_init 64 = .ok (.putfield 34, 3) := z_o181 (z_wat (q := 64) (j := 0) zwX5_init_64 rfl) (z_wat (q := 64) (j := 1) zwX5_init_64 rfl) (z_wat (q := 64) (j := 2) zwX5_init_64 rfl) rfl
theorem dX5_init_67 : decode cX5_init 67 = .ok (.aload_n 0, 1) := z_o42 (z_wat (q := 64) (j := 3) zwX5_init_64 rfl)
theorem dX5_init_68 : decode cX5_init 68 = .ok (.lconst 0, 1) := z_o9 (z_wat (q := 64) (j := 4) zwX5_init_64 rfl)
theorem dX5_init_69 : decode cX5_init 69 = .ok (.putfield 38, 3) := z_o181 (z_wat (q := 64) (j := 5) zwX5_init_64 rfl) (z_wat (q := 64) (j := 6) zwX5_init_64 rfl) (z_wat (q := 64) (j := 7) zwX5_init_64 rfl) rfl
theorem dX5_init_72 : decode cX5_init 72 = .ok (.aload_n 0, 1) := z_o42 (z_wat (q := 64) (j := 8) zwX5_init_64 rfl)
theorem dX5_init_73 : decode cX5_init 73 = .ok (.iconst 0, 1) := z_o3 (z_wat (q := 64) (j := 9) zwX5_init_64 rfl)
theorem dX5_init_74 : decode cX5_init 74 = .ok (.putfield 41, 3) := z_o181 (z_wat (q := 64) (j := 10) zwX5_init_64 rfl) (z_wat (q := 64) (j := 11) zwX5_init_64 rfl) (z_wat (q := 64) (j := 12) zwX5_init_64 rfl) rfl
theorem dX5_init_77 : decode cX5_init 77 = .ok (.return_, 1) := z_o177 (z_wat (q := 64) (j := 13) zwX5_init_64 rfl)
theorem zwX6_init_0 : ((cX6_init.data.toList.drop 0).take 34).map UInt8.toNat = [42, 183, 0, 3, 42, 16, 48, 188, 10, 181, 0, 11, 42, 17, 0, 144, 188, 10, 181, 0, 15, 42, 7, 188, 10, 181, 0, 18, 42, 7, 188, 10, 181, 0] := by decide +kernel
theorem dX6_init_0 : decode cX6_init 0 = .ok (.aload_n 0, 1) := z_o42 (z_wat (q := 0) (j := 0) zwX6_init_0 rfl)
theorem dX6_init_1 : decode cX6_init 1 = .ok (.invokespecial 3, 3) := z_o183 (z_wat (q := 0) (j := 1) zwX6_init_0 rfl) (z_wat (q := 0) (j := 2) zwX6_init_0 rfl) (z_wat (q := 0) (j := 3) zwX6_init_0 rfl) rfl
theorem dX6_init_4 : decode cX6_init 4 = .ok (.aload_n 0, 1) := z_o42 (z_wat (q := 0) (j := 4) zwX6_init_0 rfl)
theorem dX6_init_5 : decode cX6_init 5 = .ok (.bipush 48, 2) := z_o16 (z_wat (q := 0) (j := 5) zwX6_init_0 rfl) (z_wat (q := 0) (j := 6) zwX6_init_0 rfl) rfl
theorem dX6_init_7 : decode cX6_init 7 = .ok (.newarray .int, 2) := z_o188_10 (z_wat (q := 0) (j := 7) zwX6_init_0 rfl) (z_wat (q := 0) (j := 8) zwX6_init_0 rfl)
theorem dX6_init_9 : decode cX6_init 9 = .ok (.putfield 11, 3) := z_o181 (z_wat (q := 0) (j := 9) zwX6_init_0 rfl) (z_wat (q := 0) (j := 10) zwX6_init_0 rfl) (z_wat (q := 0) (j := 11) zwX6_init_0 rfl) rfl
theorem dX6_init_12 : decode cX6_init 12 = .ok (.aload_n 0, 1) := z_o42 (z_wat (q := 0) (j := 12) zwX6_init_0 rfl)
theorem dX6_init_13 : decode cX6_init 13 = .ok (.sipush 144, 3) := z_o17 (z_wat (q := 0) (j := 13) zwX6_init_0 rfl) (z_wat (q := 0) (j := 14) zwX6_init_0 rfl) (z_wat (q := 0) (j := 15) zwX6_init_0 rfl) rfl
theorem dX6_init_16 : decode cX6_init 16 = .ok (.newarray .int, 2) := z_o188_10 (z_wat (q := 0) (j := 16) zwX6_init_0 rfl) (z_wat (q := 0) (j := 17) zwX6_init_0 rfl)
theorem dX6_init_18 : decode cX6_init 18 = .ok (.putfield 15, 3) := z_o181 (z_wat (q := 0) (j := 18) zwX6_init_0 rfl) (z_wat (q := 0) (j := 19) zwX6_init_0 rfl) (z_wat (q := 0) (j := 20) zwX6_init_0 rfl) rfl
theorem dX6_init_21 : decode cX6_init 21 = .ok (.aload_n 0, 1) := z_o42 (z_wat (q := 0) (j := 21) zwX6_init_0 rfl)
theorem dX6_init_22 : decode cX6_init 22 = .ok (.iconst 4, 1) := z_o7 (z_wat (q := 0) (j := 22) zwX6_init_0 rfl)
theorem dX6_init_23 : decode cX6_init 23 = .ok (.newarray .int, 2) := z_o188_10 (z_wat (q := 0) (j := 23) zwX6_init_0 rfl) (z_wat (q := 0) (j := 24) zwX6_init_0 rfl)
theorem dX6_init_25 : decode cX6_init 25 = .ok (.putfield 18, 3) := z_o181 (z_wat (q := 0) (j := 25) zwX6_init_0 rfl) (z_wat (q := 0) (j := 26) zwX6_init_0 rfl) (z_wat (q := 0) (j := 27) zwX6_init_0 rfl) rfl
theorem dX6_init_28 : decode cX6_init 28 = .ok (.aload_n 0, 1) := z_o42 (z_wat (q := 0) (j := 28) zwX6_init_0 rfl)
theorem dX6_init_29 : decode cX6_init 29 = .ok (.iconst 4, 1) := z_o7 (z_wat (q := 0) (j := 29) zwX6_init_0 rfl)
theorem dX6_init_30 : decode cX6_init 30 = .ok (.newarray .int, 2) := z_o188_10 (z_wat (q := 0) (j := 30) zwX6_init_0 rfl) (z_wat (q := 0) (j := 31) zwX6_init_0 rfl)
theorem zwX6_init_32 : ((cX6_init.data.toList.drop 32).take 34).map UInt8.toNat = [181, 0, 21, 42, 7, 188, 10, 181, 0, 24, 42, 7, 188, 10, 181, 0, 27, 42, 2, 181, 0, 30, 3, 60, 27, 6, 162, 0, 38, 3, 61, 28, 7, 162] := by decide +kernel
theorem dX6_init_32 : decode cX6_init 32 = .ok (.putfield 21, 3) := z_o181 (z_wat (q := 32) (j := 0) zwX6_init_32 rfl) (z_wat (q := 32) (j := 1) zwX6_init_32 rfl) (z_wat (q := 32) (j := 2) zwX6_init_32 rfl) rfl
theorem dX6_init_35 : decode cX6_init 35 = .ok (.aload_n 0, 1) := z_o42 (z_wat (q := 32) (j := 3) zwX6_init_32 rfl)
theorem dX6_init_36 : decode cX6_init 36 = .ok (.iconst 4, 1) := z_o7 (z_wat (q := 32) (j := 4) zwX6_init_32 rfl)
theorem dX6_init_37 : decode cX6_init 37 = .ok (.newarray .int, 2) := z_o188_10 (z_wat (q := 32) (j := 5) zwX6_init_32 rfl) (z_wat (q := 32) (j := 6) zwX6_init_32 rfl)
theorem dX6_init_39 : decode cX6_init 39 = .ok (.putfield 24, 3) := z_o181 (z_wat (q := 32) (j := 7) zwX6_init_32 rfl) (z_wat (q := 32) (j := 8) zwX6_init_32 rfl) (z_wat (q := 32) (j := 9) zwX6_init_32 rfl) rfl
theorem dX6_init_42 : decode cX6_init 42 = .ok (.aload_n 0, 1) := z_o42 (z_wat (q := 32) (j := 10) zwX6_init_32 rfl)
theorem dX6_init_43 : decode cX6_init 43 = .ok (.iconst 4, 1) := z_o7 (z_wat (q := 32) (j := 11) zwX6_init_32 rfl)
theorem dX6_init_44 : decode cX6_init 44 = .ok (.newarray .int, 2) := z_o188_10 (z_wat (q := 32) (j := 12) zwX6_init_32 rfl) (z_wat (q := 32) (j := 13) zwX6_init_32 rfl)
theorem dX6_init_46 : decode cX6_init 46 = .ok (.putfield 27, 3) := z_o181 (z_wat (q := 32) (j := 14) zwX6_init_32 rfl) (z_wat (q := 32) (j := 15) zwX6_init_32 rfl) (z_wat (q := 32) (j := 16) zwX6_init_32 rfl) rfl
theorem dX6_init_49 : decode cX6_init 49 = .ok (.aload_n 0, 1) := z_o42 (z_wat (q := 32) (j := 17) zwX6_init_32 rfl)
theorem dX6_init_50 : decode cX6_init 50 = .ok (.iconst (-1), 1) := z_o2 (z_wat (q := 32) (j := 18) zwX6_init_32 rfl)
theorem dX6_init_51 : decode cX6_init 51 = .ok (.putfield 30, 3) := z_o181 (z_wat (q := 32) (j := 19) zwX6_init_32 rfl) (z_wat (q := 32) (j := 20) zwX6_init_32 rfl) (z_wat (q := 32) (j := 21) zwX6_init_32 rfl) rfl
theorem dX6_init_54 : decode cX6_init 54 = .ok (.iconst 0, 1) := z_o3 (z_wat (q := 32) (j := 22) zwX6_init_32 rfl)
theorem dX6_init_55 : decode cX6_init 55 = .ok (.istore_n 1, 1) := z_o60 (z_wat (q := 32) (j := 23) zwX6_init_32 rfl)
theorem dX6_init_56 : decode cX6_init 56 = .ok (.iload_n 1, 1) := z_o27 (z_wat (q := 32) (j := 24) zwX6_init_32 rfl)
theorem dX6_init_57 : decode cX6_init 57 = .ok (.iconst 3, 1) := z_o6 (z_wat (q := 32) (j := 25) zwX6_init_32 rfl)
theorem dX6_init_58 : decode cX6_init 58 = .ok (.if_icmp .ge 38, 3) := z_o162 (z_wat (q := 32) (j := 26) zwX6_init_32 rfl) (z_wat (q := 32) (j := 27) zwX6_init_32 rfl) (z_wat (q := 32) (j := 28) zwX6_init_32 rfl) rfl
theorem dX6_init_61 : decode cX6_init 61 = .ok (.iconst 0, 1) := z_o3 (z_wat (q := 32) (j := 29) zwX6_init_32 rfl)
theorem dX6_init_62 : decode cX6_init 62 = .ok (.istore_n 2, 1) := z_o61 (z_wat (q := 32) (j := 30) zwX6_init_32 rfl)
theorem dX6_init_63 : decode cX6_init 63 = .ok (.iload_n 2, 1) := z_o28 (z_wat (q := 32) (j := 31) zwX6_init_32 rfl)
theorem zwX6_init_64 : ((cX6_init.data.toList.drop 64).take 33).map UInt8.toNat = [7, 162, 0, 25, 42, 180, 0, 11, 27, 7, 104, 28, 96, 7, 104, 28, 96, 16, 16, 79, 132, 2, 1, 167, 255, 232, 132, 1, 1, 167, 255, 219, 177] := by decide +kernel
theorem dX6_init_64 : decode cX6_init 64 = .ok (.iconst 4, 1) := z_o7 (z_wat (q := 64) (j := 0) zwX6_init_64 rfl)
theorem dX6_init_65 : decode cX6_init 65 = .ok (.if_icmp .ge 25, 3) := z_o162 (z_wat (q := 64) (j := 1) zwX6_init_64 rfl) (z_wat (q := 64) (j := 2) zwX6_init_64 rfl) (z_wat (q := 64) (j := 3) zwX6_init_64 rfl) rfl
theorem dX6_init_68 : decode cX6_init 68 = .ok (.aload_n 0, 1) := z_o42 (z_wat (q := 64) (j := 4) zwX6_init_64 rfl)
theorem dX6_init_69 : decode cX6_init 69 = .ok (.getfield 11, 3) := z_o180 (z_wat (q := 64) (j := 5) zwX6_init_64 rfl) (z_wat (q := 64) (j := 6) zwX6_init_64 rfl) (z_wat (q := 64) (j := 7) zwX6_init_64 rfl) rfl
theorem dX6_init_72 : decode cX6_init 72 = .ok (.iload_n 1, 1) := z_o27 (z_wat (q := 64) (j := 8) zwX6_init_64 rfl)
theorem dX6_init_73 : decode cX6_init 73 = .ok (.iconst 4, 1) := z_o7 (z_wat (q := 64) (j := 9) zwX6_init_64 rfl)
theorem dX6_init_74 : decode cX6_init 74 = .ok (.imul, 1) := z_o104 (z_wat (q := 64) (j := 10) zwX6_init_64 rfl)
theorem dX6_init_75 : decode cX6_init 75 = .ok (.iload_n 2, 1) := z_o28 (z_wat (q := 64) (j := 11) zwX6_init_64 rfl)
theorem dX6_init_76 : decode cX6_init 76 = .ok (.iadd, 1) := z_o96 (z_wat (q := 64) (j := 12) zwX6_init_64 rfl)
theorem dX6_init_77 : decode cX6_init 77 = .ok (.iconst 4, 1) := z_o7 (z_wat (q := 64) (j := 13) zwX6_init_64 rfl)
theorem dX6_init_78 : decode cX6_init 78 = .ok (.imul, 1) := z_o104 (z_wat (q := 64) (j := 14) zwX6_init_64 rfl)
theorem dX6_init_79 : decode cX6_init 79 = .ok (.iload_n 2, 1) := z_o28 (z_wat (q := 64) (j := 15) zwX6_init_64 rfl)
theorem dX6_init_80 : decode cX6_init 80 = .ok (.iadd, 1) := z_o96 (z_wat (q := 64) (j := 16) zwX6_init_64 rfl)
theorem dX6_init_81 : decode cX6_init 81 = .ok (.bipush 16, 2) := z_o16 (z_wat (q := 64) (j := 17) zwX6_init_64 rfl) (z_wat (q := 64) (j := 18) zwX6_init_64 rfl) rfl
theorem dX6_init_83 : decode cX6_init 83 = .ok (.iastore, 1) := z_o79 (z_wat (q := 64) (j := 19) zwX6_init_64 rfl)
theorem dX6_init_84 : decode cX6_init 84 = .ok (.iinc 2 1, 3) := z_o132 (z_wat (q := 64) (j := 20) zwX6_init_64 rfl) (z_wat (q := 64) (j := 21) zwX6_init_64 rfl) (z_wat (q := 64) (j := 22) zwX6_init_64 rfl) rfl
theorem dX6_init_87 : decode cX6_init 87 = .ok (.goto (-24), 3) := z_o167 (z_wat (q := 64) (j := 23) zwX6_init_64 rfl) (z_wat (q := 64) (j := 24) zwX6_init_64 rfl) (z_wat (q := 64) (j := 25) zwX6_init_64 rfl) rfl
theorem dX6_init_90 : decode cX6_init 90 = .ok (.iinc 1 1, 3) := z_o132 (z_wat (q := 64) (j := 26) zwX6_init_64 rfl) (z_wat (q := 64) (j := 27) zwX6_init_64 rfl) (z_wat (q := 64) (j := 28) zwX6_init_64 rfl) rfl
theorem dX6_init_93 : decode cX6_init 93 = .ok (.goto (-37), 3) := z_o167 (z_wat (q := 64) (j := 29) zwX6_init_64 rfl) (z_wat (q := 64) (j := 30) zwX6_init_64 rfl) (z_wat (q := 64) (j := 31) zwX6_init_64 rfl) rfl
theorem zwX6_init_96 : ((cX6_init.data.toList.drop 96).take 1).map UInt8.toNat = [177] := by decide +kernel
theorem dX6_init_96 : decode cX6_init 96 = .ok (.return_, 1) := z_o177 (z_wat (q := 96) (j := 0) zwX6_init_96 rfl)
theorem zwX7_init_0 : ((cX7_init.data.toList.drop 0).take 34).map UInt8.toNat = [42, 183, 0, 1, 42, 16, 96, 188, 10, 181, 0, 9, 42, 16, 96, 188, 10, 181, 0, 13, 42, 16, 7, 188, 10, 181, 0, 16, 42, 3, 181, 0, 19, 42] := by decide +kernel
theorem dX7_init_0 : decode cX7_init 0 = .ok (.aload_n 0, 1) := z_o42 (z_wat (q := 0) (j := 0) zwX7_init_0 rfl)
theorem dX7_init_1 : decode cX7_init 1 = .ok (.invokespecial 1, 3) := z_o183 (z_wat (q := 0) (j := 1) zwX7_init_0 rfl) (z_wat (q := 0) (j := 2) zwX7_init_0 rfl) (z_wat (q := 0) (j := 3) zwX7_init_0 rfl) rfl
theorem dX7_init_4 : decode cX7_init 4 = .ok (.aload_n 0, 1) := z_o42 (z_wat (q := 0) (j := 4) zwX7_init_0 rfl)
theorem dX7_init_5 : decode cX7_init 5 = .ok (.bipush 96, 2) := z_o16 (z_wat (q := 0) (j := 5) zwX7_init_0 rfl) (z_wat (q := 0) (j := 6) zwX7_init_0 rfl) rfl
theorem dX7_init_7 : decode cX7_init 7 = .ok (.newarray .int, 2) := z_o188_10 (z_wat (q := 0) (j := 7) zwX7_init_0 rfl) (z_wat (q := 0) (j := 8) zwX7_init_0 rfl)
theorem dX7_init_9 : decode cX7_init 9 = .ok (.putfield 9, 3) := z_o181 (z_wat (q := 0) (j := 9) zwX7_init_0 rfl) (z_wat (q := 0) (j := 10) zwX7_init_0 rfl) (z_wat (q := 0) (j := 11) zwX7_init_0 rfl) rfl
theorem dX7_init_12 : decode cX7_init 12 = .ok (.aload_n 0, 1) := z_o42 (z_wat (q := 0) (j := 12) zwX7_init_0 rfl)
theorem dX7_init_13 : decode cX7_init 13 = .ok (.bipush 96, 2) := z_o16 (z_wat (q := 0) (j := 13) zwX7_init_0 rfl) (z_wat (q := 0) (j := 14) zwX7_init_0 rfl) rfl
theorem dX7_init_15 : decode cX7_init 15 = .ok (.newarray .int, 2) := z_o188_10 (z_wat (q := 0) (j := 15) zwX7_init_0 rfl) (z_wat (q := 0) (j := 16) zwX7_init_0 rfl)
theorem dX7_init_17 : decode cX7_init 17 = .ok (.putfield 13, 3) := z_o181 (z_wat (q := 0) (j := 17) zwX7_init_0 rfl) (z_wat (q := 0) (j := 18) zwX7_init_0 rfl) (z_wat (q := 0) (j := 19) zwX7_init_0 rfl) rfl
theorem dX7_init_20 : decode cX7_init 20 = .ok (.aload_n 0, 1) := z_o42 (z_wat (q := 0) (j := 20) zwX7_init_0 rfl)
theorem dX7_init_21 : decode cX7_init 21 = .ok (.bipush 7, 2) := z_o16 (z_wat (q := 0) (j := 21) zwX7_init_0 rfl) (z_wat (q := 0) (j := 22) zwX7_init_0 rfl) rfl
theorem dX7_init_23 : decode cX7_init 23 = .ok (.newarray .int, 2) := z_o188_10 (z_wat (q := 0) (j := 23) zwX7_init_0 rfl) (z_wat (q := 0) (j := 24) zwX7_init_0 rfl)
theorem dX7_init_25 : decode cX7_init 25 = .ok (.putfield 16, 3) := z_o181 (z_wat (q := 0) (j := 25) zwX7_init_0 rfl) (z_wat (q := 0) (j := 26) zwX7_init_0 rfl) (z_wat (q := 0) (j := 27) zwX7_init_0 rfl) rfl
theorem dX7_init_28 : decode cX7_init 28 = .ok (.aload_n 0, 1) := z_o42 (z_wat (q := 0) (j := 28) zwX7_init_0 rfl)
theorem dX7_init_29 : decode cX7_init 29 = .ok (.iconst 0, 1) := z_o3 (z_wat (q := 0) (j := 29) zwX7_init_0 rfl)
theorem dX7_init_30 : decode cX7_init 30 = .ok (.putfield 19, 3) := z_o181 (z_wat (q := 0) (j := 30) zwX7_init_0 rfl) (z_wat (q := 0) (j := 31) zwX7_init_0 rfl) (z_wat (q := 0) (j := 32) zwX7_init_0 rfl) rfl
theorem zwX7_init_32 : ((cX7_init.data.toList.drop 32).take 12).map UInt8.toNat = [19, 42, 3, 181, 0, 23, 42, 3, 181, 0, 26, 177] := by decide +kernel
theorem dX7_init_33 : decode cX7_init 33 = .ok (.aload_n 0, 1) := z_o42 (z_wat (q := 32) (j := 1) zwX7_init_32 rfl)
theorem dX7_init_34 : decode cX7_init 34 = .ok (.iconst 0, 1) := z_o3 (z_wat (q := 32) (j := 2) zwX7_init_32 rfl)
theorem dX7_init_35 : decode cX7_init 35 = .ok (.putfield 23, 3) := z_o181 (z_wat (q := 32) (j := 3) zwX7_init_32 rfl) (z_wat (q := 32) (j := 4) zwX7_init_32 rfl) (z_wat (q := 32) (j := 5) zwX7_init_32 rfl) rfl
theorem dX7_init_38 : decode cX7_init 38 = .ok (.aload_n 0, 1) := z_o42 (z_wat (q := 32) (j := 6) zwX7_init_32 rfl)
theorem dX7_init_39 : decode cX7_init 39 = .ok (.iconst 0, 1) := z_o3 (z_wat (q := 32) (j := 7) zwX7_init_32 rfl)
theorem dX7_init_40 : decode cX7_init 40 = .ok (.putfield 26, 3) := z_o181 (z_wat (q := 32) (j := 8) zwX7_init_32 rfl) (z_wat (q := 32) (j := 9) zwX7_init_32 rfl) (z_wat (q := 32) (j := 10) zwX7_init_32 rfl) rfl
theorem dX7_init_43 : decode cX7_init 43 = .ok (.return_, 1) := z_o177 (z_wat (q := 32) (j := 11) zwX7_init_32 rfl)
theorem zwX8_init_0 : ((cX8_init.data.toList.drop 0).take 34).map UInt8.toNat = [42, 183, 0, 3, 42, 16, 6, 188, 10, 181, 0, 11, 42, 16, 6, 188, 10, 181, 0, 17, 42, 16, 104, 188, 10, 181, 0, 20, 42, 3, 181, 0, 23, 42] := by decide +kernel
theorem dX8_init_0 : decode cX8_init 0 = .ok (.aload_n 0, 1) := z_o42 (z_wat (q := 0) (j := 0) zwX8_init_0 rfl)
theorem dX8_init_1 : decode cX8_init 1 = .ok (.invokespecial 3, 3) := z_o183 (z_wat (q := 0) (j := 1) zwX8_init_0 rfl) (z_wat (q := 0) (j := 2) zwX8_init_0 rfl) (z_wat (q := 0) (j := 3) zwX8_init_0 rfl) rfl
theorem dX8_init_4 : decode cX8_init 4 = .ok (.aload_n 0, 1) := z_o42 (z_wat (q := 0) (j := 4) zwX8_init_0 rfl)
theorem dX8_init_5 : decode cX8_init 5 = .ok (.bipush 6, 2) := z_o16 (z_wat (q := 0) (j := 5) zwX8_init_0 rfl) (z_wat (q := 0) (j := 6) zwX8_init_0 rfl) rfl
theorem dX8_init_7 : decode cX8_init 7 = .ok (.newarray .int, 2) := z_o188_10 (z_wat (q := 0) (j := 7) zwX8_init_0 rfl) (z_wat (q := 0) (j := 8) zwX8_init_0 rfl)
theorem dX8_init_9 : decode cX8_init 9 = .ok (.putfield 11, 3) := z_o181 (z_wat (q := 0) (j := 9) zwX8_init_0 rfl) (z_wat (q := 0) (j := 10) zwX8_init_0 rfl) (z_wat (q := 0) (j := 11) zwX8_init_0 rfl) rfl
theorem dX8_init_12 : decode cX8_init 12 = .ok (.aload_n 0, 1) := z_o42 (z_wat (q := 0) (j := 12) zwX8_init_0 rfl)
theorem dX8_init_13 : decode cX8_init 13 = .ok (.bipush 6, 2) := z_o16 (z_wat (q := 0) (j := 13) zwX8_init_0 rfl) (z_wat (q := 0) (j := 14) zwX8_init_0 rfl) rfl
theorem dX8_init_15 : decode cX8_init 15 = .ok (.newarray .int, 2) := z_o188_10 (z_wat (q := 0) (j := 15) zwX8_init_0 rfl) (z_wat (q := 0) (j := 16) zwX8_init_0 rfl)
theorem dX8_init_17 : decode cX8_init 17 = .ok (.putfield 17, 3) := z_o181 (z_wat (q := 0) (j := 17) zwX8_init_0 rfl) (z_wat (q := 0) (j := 18) zwX8_init_0 rfl) (z_wat (q := 0) (j := 19) zwX8_init_0 rfl) rfl
theorem dX8_init_20 : decode cX8_init 20 = .ok (.aload_n 0, 1) := z_o42 (z_wat (q := 0) (j := 20) zwX8_init_0 rfl)
theorem dX8_init_21 : decode cX8_init 21 = .ok (.bipush 104, 2) := z_o16 (z_wat (q := 0) (j := 21) zwX8_init_0 rfl) (z_wat (q := 0) (j := 22) zwX8_init_0 rfl) rfl
theorem dX8_init_23 : decode cX8_init 23 = .ok (.newarray .int, 2) := z_o188_10 (z_wat (q := 0) (j := 23) zwX8_init_0 rfl) (z_wat (q := 0) (j := 24) zwX8_init_0 rfl)
theorem dX8_init_25 : decode cX8_init 25 = .ok (.putfield 20, 3) := z_o181 (z_wat (q := 0) (j := 25) zwX8_init_0 rfl) (z_wat (q := 0) (j := 26) zwX8_init_0 rfl) (z_wat (q := 0) (j := 27) zwX8_init_0 rfl) rfl
theorem dX8_init_28 : decode cX8_init 28 = .ok (.aload_n 0, 1) := z_o42 (z_wat (q := 0) (j := 28) zwX8_init_0 rfl)
theorem dX8_init_29 : decode cX8_init 29 = .ok (.iconst 0, 1) := z_o3 (z_wat (q := 0) (j := 29) zwX8_init_0 rfl)
theorem dX8_init_30 : decode cX8_init 30 = .ok (.putfield 23, 3) := z_o181 (z_wat (q := 0) (j := 30) zwX8_init_0 rfl) (z_wat (q := 0) (j := 31) zwX8_init_0 rfl) (z_wat (q := 0) (j := 32) zwX8_init_0 rfl) rfl
theorem zwX8_init_32 : ((cX8_init.data.toList.drop 32).take 34).map UInt8.toNat = [23, 42, 3, 181, 0, 27, 42, 4, 181, 0, 30, 42, 187, 0, 9, 89, 183, 0, 34, 181, 0, 35, 42, 187, 0, 9, 89, 183, 0, 34, 181, 0, 39, 42] := by decide +kernel
theorem dX8_init_33 : decode cX8_init 33 = .ok (.aload_n 0, 1) := z_o42 (z_wat (q := 32) (j := 1) zwX8_init_32 rfl)
theorem dX8_init_34 : decode cX8_init 34 = .ok (.iconst 0, 1) := z_o3 (z_wat (q := 32) (j := 2) zwX8_init_32 rfl)
theorem dX8_init_35 : decode cX8_init 35 = .ok (.putfield 27, 3) := z_o181 (z_wat (q := 32) (j := 3) zwX8_init_32 rfl) (z_wat (q := 32) (j := 4) zwX8_init_32 rfl) (z_wat (q := 32) (j := 5) zwX8_init_32 rfl) rfl
theorem dX8_init_38 : decode cX8_init 38 = .ok (.aload_n 0, 1) := z_o42 (z_wat (q := 32) (j := 6) zwX8_init_32 rfl)
theorem dX8_init_39 : decode cX8_init 39 = .ok (.iconst 1, 1) := z_o4 (z_wat (q := 32) (j := 7) zwX8_init_32 rfl)
theorem dX8_init_40 : decode cX8_init 40 = .ok (.putfield 30, 3) := z_o181 (z_wat (q := 32) (j := 8) zwX8_init_32 rfl) (z_wat (q := 32) (j := 9) zwX8_init_32 rfl) (z_wat (q := 32) (j := 10) zwX8_init_32 rfl) rfl
theorem dX8_init_43 : decode cX8_init 43 = .ok (.aload_n 0, 1) := z_o42 (z_wat (q := 32) (j := 11) zwX8_init_32 rfl)
theorem dX8_init_44 : decode cX8_init 44 = .ok (.new 9, 3) := z_o187 (z_wat (q := 32) (j := 12) zwX8_init_32 rfl) (z_wat (q := 32) (j := 13) zwX8_init_32 rfl) (z_wat (q := 32) (j := 14) zwX8_init_32 rfl) rfl
theorem dX8_init_47 : decode cX8_init 47 = .ok (.dup, 1) := z_o89 (z_wat (q := 32) (j := 15) zwX8_init_32 rfl)
theorem dX8_init_48 : decode cX8_init 48 = .ok (.invokespecial 34, 3) := z_o183 (z_wat (q := 32) (j := 16) zwX8_init_32 rfl) (z_wat (q := 32) (j := 17) zwX8_init_32 rfl) (z_wat (q := 32) (j := 18) zwX8_init_32 rfl) rfl
theorem dX8_init_51 : decode cX8_init 51 = .ok (.putfield 35, 3) := z_o181 (z_wat (q := 32) (j := 19) zwX8_init_32 rfl) (z_wat (q := 32) (j := 20) zwX8_init_32 rfl) (z_wat (q := 32) (j := 21) zwX8_init_32 rfl) rfl
theorem dX8_init_54 : decode cX8_init 54 = .ok (.aload_n 0, 1) := z_o42 (z_wat (q := 32) (j := 22) zwX8_init_32 rfl)
theorem dX8_init_55 : decode cX8_init 55 = .ok (.new 9, 3) := z_o187 (z_wat (q := 32) (j := 23) zwX8_init_32 rfl) (z_wat (q := 32) (j := 24) zwX8_init_32 rfl) (z_wat (q := 32) (j := 25) zwX8_init_32 rfl) rfl
theorem dX8_init_58 : decode cX8_init 58 = .ok (.dup, 1) := z_o89 (z_wat (q := 32) (j := 26) zwX8_init_32 rfl)
theorem dX8_init_59 : decode cX8_init 59 = .ok (.invokespecial 34, 3) := z_o183 (z_wat (q := 32) (j := 27) zwX8_init_32 rfl) (z_wat (q := 32) (j := 28) zwX8_init_32 rfl) (z_wat (q := 32) (j := 29) zwX8_init_32 rfl) rfl
theorem dX8_init_62 : decode cX8_init 62 = .ok (.putfield 39, 3) := z_o181 (z_wat (q := 32) (j := 30) zwX8_init_32 rfl) (z_wat (q := 32) (j := 31) zwX8_init_32 rfl) (z_wat (q := 32) (j := 32) zwX8_init_32 rfl) rfl
theorem zwX8_init_64 : ((cX8_init.data.toList.drop 64).take 7).map UInt8.toNat = [39, 42, 43, 181, 0, 42, 177] := by decide +kernel
theorem dX8_init_65 : decode cX8_init 65 = .ok (.aload_n 0, 1) := z_o42 (z_wat (q := 64) (j := 1) zwX8_init_64 rfl)
theorem dX8_init_66 : decode cX8_init 66 = .ok (.aload_n 1, 1) := z_o43 (z_wat (q := 64) (j := 2) zwX8_init_64 rfl)
theorem dX8_init_67 : decode cX8_init 67 = .ok (.putfield 42, 3) := z_o181 (z_wat (q := 64) (j := 3) zwX8_init_64 rfl) (z_wat (q := 64) (j := 4) zwX8_init_64 rfl) (z_wat (q := 64) (j := 5) zwX8_init_64 rfl) rfl
theorem dX8_init_70 : decode cX8_init 70 = .ok (.return_, 1) := z_o177 (z_wat (q := 64) (j := 6) zwX8_init_64 rfl)
theorem zwX9_init_0 : ((cX9_init.data.toList.drop 0).take 34).map UInt8.toNat = [42, 183, 0, 3, 42, 17, 0, 200, 188, 10, 181, 0, 11, 42, 17, 2, 88, 188, 10, 181, 0, 15, 42, 16, 100, 188, 10, 181, 0, 18, 42, 3, 181, 0] := by decide +kernel
theorem dX9_init_0 : decode cX9_init 0 = .ok (.aload_n 0, 1) := z_o42 (z_wat (q := 0) (j := 0) zwX9_init_0 rfl)
theorem dX9_init_1 : decode cX9_init 1 = .ok (.invokespecial 3, 3) := z_o183 (z_wat (q := 0) (j := 1) zwX9_init_0 rfl) (z_wat (q := 0) (j := 2) zwX9_init_0 rfl) (z_wat (q := 0) (j := 3) zwX9_init_0 rfl) rfl
theorem dX9_init_4 : decode cX9_init 4 = .ok (.aload_n 0, 1) := z_o42 (z_wat (q := 0) (j := 4) zwX9_init_0 rfl)
theorem dX9_init_5 : decode cX9_init 5 = .ok (.sipush 200, 3) := z_o17 (z_wat (q := 0) (j := 5) zwX9_init_0 rfl) (z_wat (q := 0) (j := 6) zwX9_init_0 rfl) (z_wat (q := 0) (j := 7) zwX9_init_0 rfl) rfl
theorem dX9_init_8 : decode cX9_init 8 = .ok (.newarray .int, 2) := z_o188_10 (z_wat (q := 0) (j := 8) zwX9_init_0 rfl) (z_wat (q := 0) (j := 9) zwX9_init_0 rfl)
theorem dX9_init_10 : decode cX9_init 10 = .ok (.putfield 11, 3) := z_o181 (z_wat (q := 0) (j := 10) zwX9_init_0 rfl) (z_wat (q := 0) (j := 11) zwX9_init_0 rfl) (z_wat (q := 0) (j := 12) zwX9_init_0 rfl) rfl
theorem dX9_init_13 : decode cX9_init 13 = .ok (.aload_n 0, 1) := z_o42 (z_wat (q := 0) (j := 13) zwX9_init_0 rfl)
theorem dX9_init_14 : decode cX9_init 14 = .ok (.sipush 600, 3) := z_o17 (z_wat (q := 0) (j := 14) zwX9_init_0 rfl) (z_wat (q := 0) (j := 15) zwX9_init_0 rfl) (z_wat (q := 0) (j := 16) zwX9_init_0 rfl) rfl
theorem dX9_init_17 : decode cX9_init 17 = .ok (.newarray .int, 2) := z_o188_10 (z_wat (q := 0) (j := 17) zwX9_init_0 rfl) (z_wat (q := 0) (j := 18) zwX9_init_0 rfl)
theorem dX9_init_19 : decode cX9_init 19 = .ok (.putfield 15, 3) := z_o181 (z_wat (q := 0) (j := 19) zwX9_init_0 rfl) (z_wat (q := 0) (j := 20) zwX9_init_0 rfl) (z_wat (q := 0) (j := 21) zwX9_init_0 rfl) rfl
theorem dX9_init_22 : decode cX9_init 22 = .ok (.aload_n 0, 1) := z_o42 (z_wat (q := 0) (j := 22) zwX9_init_0 rfl)
theorem dX9_init_23 : decode cX9_init 23 = .ok (.bipush 100, 2) := z_o16 (z_wat (q := 0) (j := 23) zwX9_init_0 rfl) (z_wat (q := 0) (j := 24) zwX9_init_0 rfl) rfl
theorem dX9_init_25 : decode cX9_init 25 = .ok (.newarray .int, 2) := z_o188_10 (z_wat (q := 0) (j := 25) zwX9_init_0 rfl) (z_wat (q := 0) (j := 26) zwX9_init_0 rfl)
theorem dX9_init_27 : decode cX9_init 27 = .ok (.putfield 18, 3) := z_o181 (z_wat (q := 0) (j := 27) zwX9_init_0 rfl) (z_wat (q := 0) (j := 28) zwX9_init_0 rfl) (z_wat (q := 0) (j := 29) zwX9_init_0 rfl) rfl
theorem dX9_init_30 : decode cX9_init 30 = .ok (.aload_n 0, 1) := z_o42 (z_wat (q := 0) (j := 30) zwX9_init_0 rfl)
theorem dX9_init_31 : decode cX9_init 31 = .ok (.iconst 0, 1) := z_o3 (z_wat (q := 0) (j := 31) zwX9_init_0 rfl)
theorem zwX9_init_32 : ((cX9_init.data.toList.drop 32).take 4).map UInt8.toNat = [181, 0, 21, 177] := by decide +kernel
theorem dX9_init_32 : decode cX9_init 32 = .ok (.putfield 21, 3) := z_o181 (z_wat (q := 32) (j := 0) zwX9_init_32 rfl) (z_wat (q := 32) (j := 1) zwX9_init_32 rfl) (z_wat (q := 32) (j := 2) zwX9_init_32 rfl) rfl
theorem dX9_init_35 : decode cX9_init 35 = .ok (.return_, 1) := z_o177 (z_wat (q := 32) (j := 3) zwX9_init_32 rfl)
