theorem zwX12_bind_0 : ((cX12_bind.data.toList.drop 0).take 34).map UInt8.toNat = [42, 180, 1, 70, 158, 0, 83, 42, 180, 0, 129, 42, 180, 1, 70, 4, 100, 46, 184, 1, 73, 27, 161, 0, 65, 42, 89, 180, 1, 70, 4, 100, 181, 1] := by decide +kernel
theorem dX12_bind_0 : decode cX12_bind 0 = .ok (.aload_n 0, 1) := z_o42 (z_wat (q := 0) (j := 0) zwX12_bind_0 rfl)
theorem dX12_bind_1 : decode cX12_bind 1 = .ok (.getfield 326, 3) := z_o180 (z_wat (q := 0) (j := 1) zwX12_bind_0 rfl) (z_wat (q := 0) (j := 2) zwX12_bind_0 rfl) (z_wat (q := 0) (j := 3) zwX12_bind_0 rfl) rfl
theorem dX12_bind_4 : decode cX12_bind 4 = .ok (.ifCond .le 83, 3) := z_o158 (z_wat (q := 0) (j := 4) zwX12_bind_0 rfl) (z_wat (q := 0) (j := 5) zwX12_bind_0 rfl) (z_wat (q := 0) (j := 6) zwX12_bind_0 rfl) rfl
theorem dX12_bind_7 : decode cX12_bind 7 = .ok (.aload_n 0, 1) := z_o42 (z_wat (q := 0) (j := 7) zwX12_bind_0 rfl)
theorem dX12_bind_8 : decode cX12_bind 8 = .ok (.getfield 129, 3) := z_o180 (z_wat (q := 0) (j := 8) zwX12_bind_0 rfl) (z_wat (q := 0) (j := 9) zwX12_bind_0 rfl) (z_wat (q := 0) (j := 10) zwX12_bind_0 rfl) rfl
theorem dX12_bind_11 : decode cX12_bind 11 = .ok (.aload_n 0, 1) := z_o42 (z_wat (q := 0) (j := 11) zwX12_bind_0 rfl)
theorem dX12_bind_12 : decode cX12_bind 12 = .ok (.getfield 326, 3) := z_o180 (z_wat (q := 0) (j := 12) zwX12_bind_0 rfl) (z_wat (q := 0) (j := 13) zwX12_bind_0 rfl) (z_wat (q := 0) (j := 14) zwX12_bind_0 rfl) rfl
theorem dX12_bind_15 : decode cX12_bind 15 = .ok (.iconst 1, 1) := z_o4 (z_wat (q := 0) (j := 15) zwX12_bind_0 rfl)
theorem dX12_bind_16 : decode cX12_bind 16 = .ok (.isub, 1) := z_o100 (z_wat (q := 0) (j := 16) zwX12_bind_0 rfl)
theorem dX12_bind_17 : decode cX12_bind 17 = .ok (.iaload, 1) := z_o46 (z_wat (q := 0) (j := 17) zwX12_bind_0 rfl)
theorem dX12_bind_18 : decode cX12_bind 18 = .ok (.invokestatic 329, 3) := z_o184 (z_wat (q := 0) (j := 18) zwX12_bind_0 rfl) (z_wat (q := 0) (j := 19) zwX12_bind_0 rfl) (z_wat (q := 0) (j := 20) zwX12_bind_0 rfl) rfl
theorem dX12_bind_21 : decode cX12_bind 21 = .ok (.iload_n 1, 1) := z_o27 (z_wat (q := 0) (j := 21) zwX12_bind_0 rfl)
theorem dX12_bind_22 : decode cX12_bind 22 = .ok (.if_icmp .lt 65, 3) := z_o161 (z_wat (q := 0) (j := 22) zwX12_bind_0 rfl) (z_wat (q := 0) (j := 23) zwX12_bind_0 rfl) (z_wat (q := 0) (j := 24) zwX12_bind_0 rfl) rfl
theorem dX12_bind_25 : decode cX12_bind 25 = .ok (.aload_n 0, 1) := z_o42 (z_wat (q := 0) (j := 25) zwX12_bind_0 rfl)
theorem dX12_bind_26 : decode cX12_bind 26 = .ok (.dup, 1) := z_o89 (z_wat (q := 0) (j := 26) zwX12_bind_0 rfl)
theorem dX12_bind_27 : decode cX12_bind 27 = .ok (.getfield 326, 3) := z_o180 (z_wat (q := 0) (j := 27) zwX12_bind_0 rfl) (z_wat (q := 0) (j := 28) zwX12_bind_0 rfl) (z_wat (q := 0) (j := 29) zwX12_bind_0 rfl) rfl
theorem dX12_bind_30 : decode cX12_bind 30 = .ok (.iconst 1, 1) := z_o4 (z_wat (q := 0) (j := 30) zwX12_bind_0 rfl)
theorem dX12_bind_31 : decode cX12_bind 31 = .ok (.isub, 1) := z_o100 (z_wat (q := 0) (j := 31) zwX12_bind_0 rfl)
theorem zwX12_bind_32 : ((cX12_bind.data.toList.drop 32).take 34).map UInt8.toNat = [181, 1, 70, 42, 180, 0, 132, 42, 180, 1, 70, 46, 61, 42, 180, 0, 129, 42, 180, 1, 70, 46, 16, 11, 159, 0, 13, 42, 180, 0, 117, 28, 42, 182] := by decide +kernel
theorem dX12_bind_32 : decode cX12_bind 32 = .ok (.putfield 326, 3) := z_o181 (z_wat (q := 32) (j := 0) zwX12_bind_32 rfl) (z_wat (q := 32) (j := 1) zwX12_bind_32 rfl) (z_wat (q := 32) (j := 2) zwX12_bind_32 rfl) rfl
theorem dX12_bind_35 : decode cX12_bind 35 = .ok (.aload_n 0, 1) := z_o42 (z_wat (q := 32) (j := 3) zwX12_bind_32 rfl)
theorem dX12_bind_36 : decode cX12_bind 36 = .ok (.getfield 132, 3) := z_o180 (z_wat (q := 32) (j := 4) zwX12_bind_32 rfl) (z_wat (q := 32) (j := 5) zwX12_bind_32 rfl) (z_wat (q := 32) (j := 6) zwX12_bind_32 rfl) rfl
theorem dX12_bind_39 : decode cX12_bind 39 = .ok (.aload_n 0, 1) := z_o42 (z_wat (q := 32) (j := 7) zwX12_bind_32 rfl)
theorem dX12_bind_40 : decode cX12_bind 40 = .ok (.getfield 326, 3) := z_o180 (z_wat (q := 32) (j := 8) zwX12_bind_32 rfl) (z_wat (q := 32) (j := 9) zwX12_bind_32 rfl) (z_wat (q := 32) (j := 10) zwX12_bind_32 rfl) rfl
theorem dX12_bind_43 : decode cX12_bind 43 = .ok (.iaload, 1) := z_o46 (z_wat (q := 32) (j := 11) zwX12_bind_32 rfl)
theorem dX12_bind_44 : decode cX12_bind 44 = .ok (.istore_n 2, 1) := z_o61 (z_wat (q := 32) (j := 12) zwX12_bind_32 rfl)
theorem dX12_bind_45 : decode cX12_bind 45 = .ok (.aload_n 0, 1) := z_o42 (z_wat (q := 32) (j := 13) zwX12_bind_32 rfl)
theorem dX12_bind_46 : decode cX12_bind 46 = .ok (.getfield 129, 3) := z_o180 (z_wat (q := 32) (j := 14) zwX12_bind_32 rfl) (z_wat (q := 32) (j := 15) zwX12_bind_32 rfl) (z_wat (q := 32) (j := 16) zwX12_bind_32 rfl) rfl
theorem dX12_bind_49 : decode cX12_bind 49 = .ok (.aload_n 0, 1) := z_o42 (z_wat (q := 32) (j := 17) zwX12_bind_32 rfl)
theorem dX12_bind_50 : decode cX12_bind 50 = .ok (.getfield 326, 3) := z_o180 (z_wat (q := 32) (j := 18) zwX12_bind_32 rfl) (z_wat (q := 32) (j := 19) zwX12_bind_32 rfl) (z_wat (q := 32) (j := 20) zwX12_bind_32 rfl) rfl
theorem dX12_bind_53 : decode cX12_bind 53 = .ok (.iaload, 1) := z_o46 (z_wat (q := 32) (j := 21) zwX12_bind_32 rfl)
theorem dX12_bind_54 : decode cX12_bind 54 = .ok (.bipush 11, 2) := z_o16 (z_wat (q := 32) (j := 22) zwX12_bind_32 rfl) (z_wat (q := 32) (j := 23) zwX12_bind_32 rfl) rfl
theorem dX12_bind_56 : decode cX12_bind 56 = .ok (.if_icmp .eq 13, 3) := z_o159 (z_wat (q := 32) (j := 24) zwX12_bind_32 rfl) (z_wat (q := 32) (j := 25) zwX12_bind_32 rfl) (z_wat (q := 32) (j := 26) zwX12_bind_32 rfl) rfl
theorem dX12_bind_59 : decode cX12_bind 59 = .ok (.aload_n 0, 1) := z_o42 (z_wat (q := 32) (j := 27) zwX12_bind_32 rfl)
theorem dX12_bind_60 : decode cX12_bind 60 = .ok (.getfield 117, 3) := z_o180 (z_wat (q := 32) (j := 28) zwX12_bind_32 rfl) (z_wat (q := 32) (j := 29) zwX12_bind_32 rfl) (z_wat (q := 32) (j := 30) zwX12_bind_32 rfl) rfl
theorem dX12_bind_63 : decode cX12_bind 63 = .ok (.iload_n 2, 1) := z_o28 (z_wat (q := 32) (j := 31) zwX12_bind_32 rfl)
theorem zwX12_bind_64 : ((cX12_bind.data.toList.drop 64).take 24).map UInt8.toNat = [42, 182, 1, 76, 79, 42, 180, 0, 114, 28, 42, 182, 1, 76, 79, 42, 28, 182, 1, 80, 167, 255, 172, 177] := by decide +kernel
theorem dX12_bind_64 : decode cX12_bind 64 = .ok (.aload_n 0, 1) := z_o42 (z_wat (q := 64) (j := 0) zwX12_bind_64 rfl)
theorem dX12_bind_65 : decode cX12_bind 65 = .ok (.invokevirtual 332, 3) := z_o182 (z_wat (q := 64) (j := 1) zwX12_bind_64 rfl) (z_wat (q := 64) (j := 2) zwX12_bind_64 rfl) (z_wat (q := 64) (j := 3) zwX12_bind_64 rfl) rfl
theorem dX12_bind_68 : decode cX12_bind 68 = .ok (.iastore, 1) := z_o79 (z_wat (q := 64) (j := 4) zwX12_bind_64 rfl)
theorem dX12_bind_69 : decode cX12_bind 69 = .ok (.aload_n 0, 1) := z_o42 (z_wat (q := 64) (j := 5) zwX12_bind_64 rfl)
theorem dX12_bind_70 : decode cX12_bind 70 = .ok (.getfield 114, 3) := z_o180 (z_wat (q := 64) (j := 6) zwX12_bind_64 rfl) (z_wat (q := 64) (j := 7) zwX12_bind_64 rfl) (z_wat (q := 64) (j := 8) zwX12_bind_64 rfl) rfl
theorem dX12_bind_73 : decode cX12_bind 73 = .ok (.iload_n 2, 1) := z_o28 (z_wat (q := 64) (j := 9) zwX12_bind_64 rfl)
theorem dX12_bind_74 : decode cX12_bind 74 = .ok (.aload_n 0, 1) := z_o42 (z_wat (q := 64) (j := 10) zwX12_bind_64 rfl)
theorem dX12_bind_75 : decode cX12_bind 75 = .ok (.invokevirtual 332, 3) := z_o182 (z_wat (q := 64) (j := 11) zwX12_bind_64 rfl) (z_wat (q := 64) (j := 12) zwX12_bind_64 rfl) (z_wat (q := 64) (j := 13) zwX12_bind_64 rfl) rfl
theorem dX12_bind_78 : decode cX12_bind 78 = .ok (.iastore, 1) := z_o79 (z_wat (q := 64) (j := 14) zwX12_bind_64 rfl)
theorem dX12_bind_79 : decode cX12_bind 79 = .ok (.aload_n 0, 1) := z_o42 (z_wat (q := 64) (j := 15) zwX12_bind_64 rfl)
theorem dX12_bind_80 : decode cX12_bind 80 = .ok (.iload_n 2, 1) := z_o28 (z_wat (q := 64) (j := 16) zwX12_bind_64 rfl)
theorem dX12_bind_81 : decode cX12_bind 81 = .ok (.invokevirtual 336, 3) := z_o182 (z_wat (q := 64) (j := 17) zwX12_bind_64 rfl) (z_wat (q := 64) (j := 18) zwX12_bind_64 rfl) (z_wat (q := 64) (j := 19) zwX12_bind_64 rfl) rfl
theorem dX12_bind_84 : decode cX12_bind 84 = .ok (.goto (-84), 3) := z_o167 (z_wat (q := 64) (j := 20) zwX12_bind_64 rfl) (z_wat (q := 64) (j := 21) zwX12_bind_64 rfl) (z_wat (q := 64) (j := 22) zwX12_bind_64 rfl) rfl
theorem dX12_bind_87 : decode cX12_bind 87 = .ok (.return_, 1) := z_o177 (z_wat (q := 64) (j := 23) zwX12_bind_64 rfl)
theorem zwX12_closes_0 : ((cX12_closes.data.toList.drop 0).take 34).map UInt8.toNat = [42, 180, 1, 86, 154, 0, 9, 42, 4, 182, 0, 240, 172, 42, 4, 182, 1, 107, 42, 89, 180, 1, 70, 4, 100, 181, 1, 70, 42, 89, 180, 1, 86, 4] := by decide +kernel
theorem dX12_closes_0 : decode cX12_closes 0 = .ok (.aload_n 0, 1) := z_o42 (z_wat (q := 0) (j := 0) zwX12_closes_0 rfl)
theorem dX12_closes_1 : decode cX12_closes 1 = .ok (.getfield 342, 3) := z_o180 (z_wat (q := 0) (j := 1) zwX12_closes_0 rfl) (z_wat (q := 0) (j := 2) zwX12_closes_0 rfl) (z_wat (q := 0) (j := 3) zwX12_closes_0 rfl) rfl
theorem dX12_closes_4 : decode cX12_closes 4 = .ok (.ifCond .ne 9, 3) := z_o154 (z_wat (q := 0) (j := 4) zwX12_closes_0 rfl) (z_wat (q := 0) (j := 5) zwX12_closes_0 rfl) (z_wat (q := 0) (j := 6) zwX12_closes_0 rfl) rfl
theorem dX12_closes_7 : decode cX12_closes 7 = .ok (.aload_n 0, 1) := z_o42 (z_wat (q := 0) (j := 7) zwX12_closes_0 rfl)
theorem dX12_closes_8 : decode cX12_closes 8 = .ok (.iconst 1, 1) := z_o4 (z_wat (q := 0) (j := 8) zwX12_closes_0 rfl)
theorem dX12_closes_9 : decode cX12_closes 9 = .ok (.invokevirtual 240, 3) := z_o182 (z_wat (q := 0) (j := 9) zwX12_closes_0 rfl) (z_wat (q := 0) (j := 10) zwX12_closes_0 rfl) (z_wat (q := 0) (j := 11) zwX12_closes_0 rfl) rfl
theorem dX12_closes_12 : decode cX12_closes 12 = .ok (.ireturn, 1) := z_o172 (z_wat (q := 0) (j := 12) zwX12_closes_0 rfl)
theorem dX12_closes_13 : decode cX12_closes 13 = .ok (.aload_n 0, 1) := z_o42 (z_wat (q := 0) (j := 13) zwX12_closes_0 rfl)
theorem dX12_closes_14 : decode cX12_closes 14 = .ok (.iconst 1, 1) := z_o4 (z_wat (q := 0) (j := 14) zwX12_closes_0 rfl)
theorem dX12_closes_15 : decode cX12_closes 15 = .ok (.invokevirtual 363, 3) := z_o182 (z_wat (q := 0) (j := 15) zwX12_closes_0 rfl) (z_wat (q := 0) (j := 16) zwX12_closes_0 rfl) (z_wat (q := 0) (j := 17) zwX12_closes_0 rfl) rfl
theorem dX12_closes_18 : decode cX12_closes 18 = .ok (.aload_n 0, 1) := z_o42 (z_wat (q := 0) (j := 18) zwX12_closes_0 rfl)
theorem dX12_closes_19 : decode cX12_closes 19 = .ok (.dup, 1) := z_o89 (z_wat (q := 0) (j := 19) zwX12_closes_0 rfl)
theorem dX12_closes_20 : decode cX12_closes 20 = .ok (.getfield 326, 3) := z_o180 (z_wat (q := 0) (j := 20) zwX12_closes_0 rfl) (z_wat (q := 0) (j := 21) zwX12_closes_0 rfl) (z_wat (q := 0) (j := 22) zwX12_closes_0 rfl) rfl
theorem dX12_closes_23 : decode cX12_closes 23 = .ok (.iconst 1, 1) := z_o4 (z_wat (q := 0) (j := 23) zwX12_closes_0 rfl)
theorem dX12_closes_24 : decode cX12_closes 24 = .ok (.isub, 1) := z_o100 (z_wat (q := 0) (j := 24) zwX12_closes_0 rfl)
theorem dX12_closes_25 : decode cX12_closes 25 = .ok (.putfield 326, 3) := z_o181 (z_wat (q := 0) (j := 25) zwX12_closes_0 rfl) (z_wat (q := 0) (j := 26) zwX12_closes_0 rfl) (z_wat (q := 0) (j := 27) zwX12_closes_0 rfl) rfl
theorem dX12_closes_28 : decode cX12_closes 28 = .ok (.aload_n 0, 1) := z_o42 (z_wat (q := 0) (j := 28) zwX12_closes_0 rfl)
theorem dX12_closes_29 : decode cX12_closes 29 = .ok (.dup, 1) := z_o89 (z_wat (q := 0) (j := 29) zwX12_closes_0 rfl)
theorem dX12_closes_30 : decode cX12_closes 30 = .ok (.getfield 342, 3) := z_o180 (z_wat (q := 0) (j := 30) zwX12_closes_0 rfl) (z_wat (q := 0) (j := 31) zwX12_closes_0 rfl) (z_wat (q := 0) (j := 32) zwX12_closes_0 rfl) rfl
theorem zwX12_closes_32 : ((cX12_closes.data.toList.drop 32).take 26).map UInt8.toNat = [86, 4, 100, 181, 1, 86, 42, 42, 180, 0, 138, 42, 180, 1, 86, 51, 181, 1, 89, 42, 3, 182, 0, 236, 4, 172] := by decide +kernel
theorem dX12_closes_33 : decode cX12_closes 33 = .ok (.iconst 1, 1) := z_o4 (z_wat (q := 32) (j := 1) zwX12_closes_32 rfl)
theorem dX12_closes_34 : decode cX12_closes 34 = .ok (.isub, 1) := z_o100 (z_wat (q := 32) (j := 2) zwX12_closes_32 rfl)
theorem dX12_closes_35 : decode cX12_closes 35 = .ok (.putfield 342, 3) := z_o181 (z_wat (q := 32) (j := 3) zwX12_closes_32 rfl) (z_wat (q := 32) (j := 4) zwX12_closes_32 rfl) (z_wat (q := 32) (j := 5) zwX12_closes_32 rfl) rfl
theorem dX12_closes_38 : decode cX12_closes 38 = .ok (.aload_n 0, 1) := z_o42 (z_wat (q := 32) (j := 6) zwX12_closes_32 rfl)
theorem dX12_closes_39 : decode cX12_closes 39 = .ok (.aload_n 0, 1) := z_o42 (z_wat (q := 32) (j := 7) zwX12_closes_32 rfl)
theorem dX12_closes_40 : decode cX12_closes 40 = .ok (.getfield 138, 3) := z_o180 (z_wat (q := 32) (j := 8) zwX12_closes_32 rfl) (z_wat (q := 32) (j := 9) zwX12_closes_32 rfl) (z_wat (q := 32) (j := 10) zwX12_closes_32 rfl) rfl
theorem dX12_closes_43 : decode cX12_closes 43 = .ok (.aload_n 0, 1) := z_o42 (z_wat (q := 32) (j := 11) zwX12_closes_32 rfl)
theorem dX12_closes_44 : decode cX12_closes 44 = .ok (.getfield 342, 3) := z_o180 (z_wat (q := 32) (j := 12) zwX12_closes_32 rfl) (z_wat (q := 32) (j := 13) zwX12_closes_32 rfl) (z_wat (q := 32) (j := 14) zwX12_closes_32 rfl) rfl
theorem dX12_closes_47 : decode cX12_closes 47 = .ok (.baload, 1) := z_o51 (z_wat (q := 32) (j := 15) zwX12_closes_32 rfl)
theorem dX12_closes_48 : decode cX12_closes 48 = .ok (.putfield 345, 3) := z_o181 (z_wat (q := 32) (j := 16) zwX12_closes_32 rfl) (z_wat (q := 32) (j := 17) zwX12_closes_32 rfl) (z_wat (q := 32) (j := 18) zwX12_closes_32 rfl) rfl
theorem dX12_closes_51 : decode cX12_closes 51 = .ok (.aload_n 0, 1) := z_o42 (z_wat (q := 32) (j := 19) zwX12_closes_32 rfl)
theorem dX12_closes_52 : decode cX12_closes 52 = .ok (.iconst 0, 1) := z_o3 (z_wat (q := 32) (j := 20) zwX12_closes_32 rfl)
theorem dX12_closes_53 : decode cX12_closes 53 = .ok (.invokevirtual 236, 3) := z_o182 (z_wat (q := 32) (j := 21) zwX12_closes_32 rfl) (z_wat (q := 32) (j := 22) zwX12_closes_32 rfl) (z_wat (q := 32) (j := 23) zwX12_closes_32 rfl) rfl
theorem dX12_closes_56 : decode cX12_closes 56 = .ok (.iconst 1, 1) := z_o4 (z_wat (q := 32) (j := 24) zwX12_closes_32 rfl)
theorem dX12_closes_57 : decode cX12_closes 57 = .ok (.ireturn, 1) := z_o172 (z_wat (q := 32) (j := 25) zwX12_closes_32 rfl)
theorem zwX12_done_0 : ((cX12_done.data.toList.drop 0).take 34).map UInt8.toNat = [42, 180, 0, 126, 16, 96, 42, 180, 1, 64, 96, 27, 79, 42, 89, 180, 1, 64, 4, 96, 181, 1, 64, 42, 180, 0, 135, 42, 180, 1, 67, 27, 79, 42] := by decide +kernel
theorem dX12_done_0 : decode cX12_done 0 = .ok (.aload_n 0, 1) := z_o42 (z_wat (q := 0) (j := 0) zwX12_done_0 rfl)
theorem dX12_done_1 : decode cX12_done 1 = .ok (.getfield 126, 3) := z_o180 (z_wat (q := 0) (j := 1) zwX12_done_0 rfl) (z_wat (q := 0) (j := 2) zwX12_done_0 rfl) (z_wat (q := 0) (j := 3) zwX12_done_0 rfl) rfl
theorem dX12_done_4 : decode cX12_done 4 = .ok (.bipush 96, 2) := z_o16 (z_wat (q := 0) (j := 4) zwX12_done_0 rfl) (z_wat (q := 0) (j := 5) zwX12_done_0 rfl) rfl
theorem dX12_done_6 : decode cX12_done 6 = .ok (.aload_n 0, 1) := z_o42 (z_wat (q := 0) (j := 6) zwX12_done_0 rfl)
theorem dX12_done_7 : decode cX12_done 7 = .ok (.getfield 320, 3) := z_o180 (z_wat (q := 0) (j := 7) zwX12_done_0 rfl) (z_wat (q := 0) (j := 8) zwX12_done_0 rfl) (z_wat (q := 0) (j := 9) zwX12_done_0 rfl) rfl
theorem dX12_done_10 : decode cX12_done 10 = .ok (.iadd, 1) := z_o96 (z_wat (q := 0) (j := 10) zwX12_done_0 rfl)
theorem dX12_done_11 : decode cX12_done 11 = .ok (.iload_n 1, 1) := z_o27 (z_wat (q := 0) (j := 11) zwX12_done_0 rfl)
theorem dX12_done_12 : decode cX12_done 12 = .ok (.iastore, 1) := z_o79 (z_wat (q := 0) (j := 12) zwX12_done_0 rfl)
theorem dX12_done_13 : decode cX12_done 13 = .ok (.aload_n 0, 1) := z_o42 (z_wat (q := 0) (j := 13) zwX12_done_0 rfl)
theorem dX12_done_14 : decode cX12_done 14 = .ok (.dup, 1) := z_o89 (z_wat (q := 0) (j := 14) zwX12_done_0 rfl)
theorem dX12_done_15 : decode cX12_done 15 = .ok (.getfield 320, 3) := z_o180 (z_wat (q := 0) (j := 15) zwX12_done_0 rfl) (z_wat (q := 0) (j := 16) zwX12_done_0 rfl) (z_wat (q := 0) (j := 17) zwX12_done_0 rfl) rfl
theorem dX12_done_18 : decode cX12_done 18 = .ok (.iconst 1, 1) := z_o4 (z_wat (q := 0) (j := 18) zwX12_done_0 rfl)
theorem dX12_done_19 : decode cX12_done 19 = .ok (.iadd, 1) := z_o96 (z_wat (q := 0) (j := 19) zwX12_done_0 rfl)
theorem dX12_done_20 : decode cX12_done 20 = .ok (.putfield 320, 3) := z_o181 (z_wat (q := 0) (j := 20) zwX12_done_0 rfl) (z_wat (q := 0) (j := 21) zwX12_done_0 rfl) (z_wat (q := 0) (j := 22) zwX12_done_0 rfl) rfl
theorem dX12_done_23 : decode cX12_done 23 = .ok (.aload_n 0, 1) := z_o42 (z_wat (q := 0) (j := 23) zwX12_done_0 rfl)
theorem dX12_done_24 : decode cX12_done 24 = .ok (.getfield 135, 3) := z_o180 (z_wat (q := 0) (j := 24) zwX12_done_0 rfl) (z_wat (q := 0) (j := 25) zwX12_done_0 rfl) (z_wat (q := 0) (j := 26) zwX12_done_0 rfl) rfl
theorem dX12_done_27 : decode cX12_done 27 = .ok (.aload_n 0, 1) := z_o42 (z_wat (q := 0) (j := 27) zwX12_done_0 rfl)
theorem dX12_done_28 : decode cX12_done 28 = .ok (.getfield 323, 3) := z_o180 (z_wat (q := 0) (j := 28) zwX12_done_0 rfl) (z_wat (q := 0) (j := 29) zwX12_done_0 rfl) (z_wat (q := 0) (j := 30) zwX12_done_0 rfl) rfl
theorem dX12_done_31 : decode cX12_done 31 = .ok (.iload_n 1, 1) := z_o27 (z_wat (q := 0) (j := 31) zwX12_done_0 rfl)
theorem zwX12_done_32 : ((cX12_done.data.toList.drop 32).take 12).map UInt8.toNat = [79, 42, 89, 180, 1, 67, 4, 96, 181, 1, 67, 177] := by decide +kernel
theorem dX12_done_32 : decode cX12_done 32 = .ok (.iastore, 1) := z_o79 (z_wat (q := 32) (j := 0) zwX12_done_32 rfl)
theorem dX12_done_33 : decode cX12_done 33 = .ok (.aload_n 0, 1) := z_o42 (z_wat (q := 32) (j := 1) zwX12_done_32 rfl)
theorem dX12_done_34 : decode cX12_done 34 = .ok (.dup, 1) := z_o89 (z_wat (q := 32) (j := 2) zwX12_done_32 rfl)
theorem dX12_done_35 : decode cX12_done 35 = .ok (.getfield 323, 3) := z_o180 (z_wat (q := 32) (j := 3) zwX12_done_32 rfl) (z_wat (q := 32) (j := 4) zwX12_done_32 rfl) (z_wat (q := 32) (j := 5) zwX12_done_32 rfl) rfl
theorem dX12_done_38 : decode cX12_done 38 = .ok (.iconst 1, 1) := z_o4 (z_wat (q := 32) (j := 6) zwX12_done_32 rfl)
theorem dX12_done_39 : decode cX12_done 39 = .ok (.iadd, 1) := z_o96 (z_wat (q := 32) (j := 7) zwX12_done_32 rfl)
theorem dX12_done_40 : decode cX12_done 40 = .ok (.putfield 323, 3) := z_o181 (z_wat (q := 32) (j := 8) zwX12_done_32 rfl) (z_wat (q := 32) (j := 9) zwX12_done_32 rfl) (z_wat (q := 32) (j := 10) zwX12_done_32 rfl) rfl
theorem dX12_done_43 : decode cX12_done 43 = .ok (.return_, 1) := z_o177 (z_wat (q := 32) (j := 11) zwX12_done_32 rfl)
theorem zwX12_drop_0 : ((cX12_drop.data.toList.drop 0).take 20).map UInt8.toNat = [42, 89, 180, 1, 67, 4, 100, 181, 1, 67, 42, 180, 0, 135, 42, 180, 1, 67, 46, 172] := by decide +kernel
theorem dX12_drop_0 : decode cX12_drop 0 = .ok (.aload_n 0, 1) := z_o42 (z_wat (q := 0) (j := 0) zwX12_drop_0 rfl)
theorem dX12_drop_1 : decode cX12_drop 1 = .ok (.dup, 1) := z_o89 (z_wat (q := 0) (j := 1) zwX12_drop_0 rfl)
theorem dX12_drop_2 : decode cX12_drop 2 = .ok (.getfield 323, 3) := z_o180 (z_wat (q := 0) (j := 2) zwX12_drop_0 rfl) (z_wat (q := 0) (j := 3) zwX12_drop_0 rfl) (z_wat (q := 0) (j := 4) zwX12_drop_0 rfl) rfl
theorem dX12_drop_5 : decode cX12_drop 5 = .ok (.iconst 1, 1) := z_o4 (z_wat (q := 0) (j := 5) zwX12_drop_0 rfl)
theorem dX12_drop_6 : decode cX12_drop 6 = .ok (.isub, 1) := z_o100 (z_wat (q := 0) (j := 6) zwX12_drop_0 rfl)
theorem dX12_drop_7 : decode cX12_drop 7 = .ok (.putfield 323, 3) := z_o181 (z_wat (q := 0) (j := 7) zwX12_drop_0 rfl) (z_wat (q := 0) (j := 8) zwX12_drop_0 rfl) (z_wat (q := 0) (j := 9) zwX12_drop_0 rfl) rfl
theorem dX12_drop_10 : decode cX12_drop 10 = .ok (.aload_n 0, 1) := z_o42 (z_wat (q := 0) (j := 10) zwX12_drop_0 rfl)
theorem dX12_drop_11 : decode cX12_drop 11 = .ok (.getfield 135, 3) := z_o180 (z_wat (q := 0) (j := 11) zwX12_drop_0 rfl) (z_wat (q := 0) (j := 12) zwX12_drop_0 rfl) (z_wat (q := 0) (j := 13) zwX12_drop_0 rfl) rfl
theorem dX12_drop_14 : decode cX12_drop 14 = .ok (.aload_n 0, 1) := z_o42 (z_wat (q := 0) (j := 14) zwX12_drop_0 rfl)
theorem dX12_drop_15 : decode cX12_drop 15 = .ok (.getfield 323, 3) := z_o180 (z_wat (q := 0) (j := 15) zwX12_drop_0 rfl) (z_wat (q := 0) (j := 16) zwX12_drop_0 rfl) (z_wat (q := 0) (j := 17) zwX12_drop_0 rfl) rfl
theorem dX12_drop_18 : decode cX12_drop 18 = .ok (.iaload, 1) := z_o46 (z_wat (q := 0) (j := 18) zwX12_drop_0 rfl)
theorem dX12_drop_19 : decode cX12_drop 19 = .ok (.ireturn, 1) := z_o172 (z_wat (q := 0) (j := 19) zwX12_drop_0 rfl)
theorem zwX12_grown_0 : ((cX12_grown.data.toList.drop 0).take 34).map UInt8.toNat = [42, 180, 1, 61, 16, 96, 160, 0, 11, 42, 5, 182, 0, 240, 62, 2, 172, 16, 96, 42, 180, 1, 61, 96, 62, 42, 89, 180, 1, 61, 4, 96, 181, 1] := by decide +kernel
theorem dX12_grown_0 : decode cX12_grown 0 = .ok (.aload_n 0, 1) := z_o42 (z_wat (q := 0) (j := 0) zwX12_grown_0 rfl)
theorem dX12_grown_1 : decode cX12_grown 1 = .ok (.getfield 317, 3) := z_o180 (z_wat (q := 0) (j := 1) zwX12_grown_0 rfl) (z_wat (q := 0) (j := 2) zwX12_grown_0 rfl) (z_wat (q := 0) (j := 3) zwX12_grown_0 rfl) rfl
theorem dX12_grown_4 : decode cX12_grown 4 = .ok (.bipush 96, 2) := z_o16 (z_wat (q := 0) (j := 4) zwX12_grown_0 rfl) (z_wat (q := 0) (j := 5) zwX12_grown_0 rfl) rfl
theorem dX12_grown_6 : decode cX12_grown 6 = .ok (.if_icmp .ne 11, 3) := z_o160 (z_wat (q := 0) (j := 6) zwX12_grown_0 rfl) (z_wat (q := 0) (j := 7) zwX12_grown_0 rfl) (z_wat (q := 0) (j := 8) zwX12_grown_0 rfl) rfl
theorem dX12_grown_9 : decode cX12_grown 9 = .ok (.aload_n 0, 1) := z_o42 (z_wat (q := 0) (j := 9) zwX12_grown_0 rfl)
theorem dX12_grown_10 : decode cX12_grown 10 = .ok (.iconst 2, 1) := z_o5 (z_wat (q := 0) (j := 10) zwX12_grown_0 rfl)
theorem dX12_grown_11 : decode cX12_grown 11 = .ok (.invokevirtual 240, 3) := z_o182 (z_wat (q := 0) (j := 11) zwX12_grown_0 rfl) (z_wat (q := 0) (j := 12) zwX12_grown_0 rfl) (z_wat (q := 0) (j := 13) zwX12_grown_0 rfl) rfl
theorem dX12_grown_14 : decode cX12_grown 14 = .ok (.istore_n 3, 1) := z_o62 (z_wat (q := 0) (j := 14) zwX12_grown_0 rfl)
theorem dX12_grown_15 : decode cX12_grown 15 = .ok (.iconst (-1), 1) := z_o2 (z_wat (q := 0) (j := 15) zwX12_grown_0 rfl)
theorem dX12_grown_16 : decode cX12_grown 16 = .ok (.ireturn, 1) := z_o172 (z_wat (q := 0) (j := 16) zwX12_grown_0 rfl)
theorem dX12_grown_17 : decode cX12_grown 17 = .ok (.bipush 96, 2) := z_o16 (z_wat (q := 0) (j := 17) zwX12_grown_0 rfl) (z_wat (q := 0) (j := 18) zwX12_grown_0 rfl) rfl
theorem dX12_grown_19 : decode cX12_grown 19 = .ok (.aload_n 0, 1) := z_o42 (z_wat (q := 0) (j := 19) zwX12_grown_0 rfl)
theorem dX12_grown_20 : decode cX12_grown 20 = .ok (.getfield 317, 3) := z_o180 (z_wat (q := 0) (j := 20) zwX12_grown_0 rfl) (z_wat (q := 0) (j := 21) zwX12_grown_0 rfl) (z_wat (q := 0) (j := 22) zwX12_grown_0 rfl) rfl
theorem dX12_grown_23 : decode cX12_grown 23 = .ok (.iadd, 1) := z_o96 (z_wat (q := 0) (j := 23) zwX12_grown_0 rfl)
theorem dX12_grown_24 : decode cX12_grown 24 = .ok (.istore_n 3, 1) := z_o62 (z_wat (q := 0) (j := 24) zwX12_grown_0 rfl)
theorem dX12_grown_25 : decode cX12_grown 25 = .ok (.aload_n 0, 1) := z_o42 (z_wat (q := 0) (j := 25) zwX12_grown_0 rfl)
theorem dX12_grown_26 : decode cX12_grown 26 = .ok (.dup, 1) := z_o89 (z_wat (q := 0) (j := 26) zwX12_grown_0 rfl)
theorem dX12_grown_27 : decode cX12_grown 27 = .ok (.getfield 317, 3) := z_o180 (z_wat (q := 0) (j := 27) zwX12_grown_0 rfl) (z_wat (q := 0) (j := 28) zwX12_grown_0 rfl) (z_wat (q := 0) (j := 29) zwX12_grown_0 rfl) rfl
theorem dX12_grown_30 : decode cX12_grown 30 = .ok (.iconst 1, 1) := z_o4 (z_wat (q := 0) (j := 30) zwX12_grown_0 rfl)
theorem dX12_grown_31 : decode cX12_grown 31 = .ok (.iadd, 1) := z_o96 (z_wat (q := 0) (j := 31) zwX12_grown_0 rfl)
theorem zwX12_grown_32 : ((cX12_grown.data.toList.drop 32).take 34).map UInt8.toNat = [181, 1, 61, 42, 180, 0, 111, 29, 27, 79, 42, 180, 0, 114, 29, 2, 79, 42, 180, 0, 117, 29, 2, 79, 42, 180, 0, 120, 29, 28, 79, 42, 180, 0] := by decide +kernel
theorem dX12_grown_32 : decode cX12_grown 32 = .ok (.putfield 317, 3) := z_o181 (z_wat (q := 32) (j := 0) zwX12_grown_32 rfl) (z_wat (q := 32) (j := 1) zwX12_grown_32 rfl) (z_wat (q := 32) (j := 2) zwX12_grown_32 rfl) rfl
theorem dX12_grown_35 : decode cX12_grown 35 = .ok (.aload_n 0, 1) := z_o42 (z_wat (q := 32) (j := 3) zwX12_grown_32 rfl)
theorem dX12_grown_36 : decode cX12_grown 36 = .ok (.getfield 111, 3) := z_o180 (z_wat (q := 32) (j := 4) zwX12_grown_32 rfl) (z_wat (q := 32) (j := 5) zwX12_grown_32 rfl) (z_wat (q := 32) (j := 6) zwX12_grown_32 rfl) rfl
theorem dX12_grown_39 : decode cX12_grown 39 = .ok (.iload_n 3, 1) := z_o29 (z_wat (q := 32) (j := 7) zwX12_grown_32 rfl)
theorem dX12_grown_40 : decode cX12_grown 40 = .ok (.iload_n 1, 1) := z_o27 (z_wat (q := 32) (j := 8) zwX12_grown_32 rfl)
theorem dX12_grown_41 : decode cX12_grown 41 = .ok (.iastore, 1) := z_o79 (z_wat (q := 32) (j := 9) zwX12_grown_32 rfl)
theorem dX12_grown_42 : decode cX12_grown 42 = .ok (.aload_n 0, 1) := z_o42 (z_wat (q := 32) (j := 10) zwX12_grown_32 rfl)
theorem dX12_grown_43 : decode cX12_grown 43 = .ok (.getfield 114, 3) := z_o180 (z_wat (q := 32) (j := 11) zwX12_grown_32 rfl) (z_wat (q := 32) (j := 12) zwX12_grown_32 rfl) (z_wat (q := 32) (j := 13) zwX12_grown_32 rfl) rfl
theorem dX12_grown_46 : decode cX12_grown 46 = .ok (.iload_n 3, 1) := z_o29 (z_wat (q := 32) (j := 14) zwX12_grown_32 rfl)
theorem dX12_grown_47 : decode cX12_grown 47 = .ok (.iconst (-1), 1) := z_o2 (z_wat (q := 32) (j := 15) zwX12_grown_32 rfl)
theorem dX12_grown_48 : decode cX12_grown 48 = .ok (.iastore, 1) := z_o79 (z_wat (q := 32) (j := 16) zwX12_grown_32 rfl)
theorem dX12_grown_49 : decode cX12_grown 49 = .ok (.aload_n 0, 1) := z_o42 (z_wat (q := 32) (j := 17) zwX12_grown_32 rfl)
theorem dX12_grown_50 : decode cX12_grown 50 = .ok (.getfield 117, 3) := z_o180 (z_wat (q := 32) (j := 18) zwX12_grown_32 rfl) (z_wat (q := 32) (j := 19) zwX12_grown_32 rfl) (z_wat (q := 32) (j := 20) zwX12_grown_32 rfl) rfl
theorem dX12_grown_53 : decode cX12_grown 53 = .ok (.iload_n 3, 1) := z_o29 (z_wat (q := 32) (j := 21) zwX12_grown_32 rfl)
theorem dX12_grown_54 : decode cX12_grown 54 = .ok (.iconst (-1), 1) := z_o2 (z_wat (q := 32) (j := 22) zwX12_grown_32 rfl)
theorem dX12_grown_55 : decode cX12_grown 55 = .ok (.iastore, 1) := z_o79 (z_wat (q := 32) (j := 23) zwX12_grown_32 rfl)
theorem dX12_grown_56 : decode cX12_grown 56 = .ok (.aload_n 0, 1) := z_o42 (z_wat (q := 32) (j := 24) zwX12_grown_32 rfl)
theorem dX12_grown_57 : decode cX12_grown 57 = .ok (.getfield 120, 3) := z_o180 (z_wat (q := 32) (j := 25) zwX12_grown_32 rfl) (z_wat (q := 32) (j := 26) zwX12_grown_32 rfl) (z_wat (q := 32) (j := 27) zwX12_grown_32 rfl) rfl
theorem dX12_grown_60 : decode cX12_grown 60 = .ok (.iload_n 3, 1) := z_o29 (z_wat (q := 32) (j := 28) zwX12_grown_32 rfl)
theorem dX12_grown_61 : decode cX12_grown 61 = .ok (.iload_n 2, 1) := z_o28 (z_wat (q := 32) (j := 29) zwX12_grown_32 rfl)
theorem dX12_grown_62 : decode cX12_grown 62 = .ok (.iastore, 1) := z_o79 (z_wat (q := 32) (j := 30) zwX12_grown_32 rfl)
theorem dX12_grown_63 : decode cX12_grown 63 = .ok (.aload_n 0, 1) := z_o42 (z_wat (q := 32) (j := 31) zwX12_grown_32 rfl)
theorem zwX12_grown_64 : ((cX12_grown.data.toList.drop 64).take 8).map UInt8.toNat = [180, 0, 123, 29, 3, 84, 29, 172] := by decide +kernel
theorem dX12_grown_64 : decode cX12_grown 64 = .ok (.getfield 123, 3) := z_o180 (z_wat (q := 64) (j := 0) zwX12_grown_64 rfl) (z_wat (q := 64) (j := 1) zwX12_grown_64 rfl) (z_wat (q := 64) (j := 2) zwX12_grown_64 rfl) rfl
theorem dX12_grown_67 : decode cX12_grown 67 = .ok (.iload_n 3, 1) := z_o29 (z_wat (q := 64) (j := 3) zwX12_grown_64 rfl)
theorem dX12_grown_68 : decode cX12_grown 68 = .ok (.iconst 0, 1) := z_o3 (z_wat (q := 64) (j := 4) zwX12_grown_64 rfl)
theorem dX12_grown_69 : decode cX12_grown 69 = .ok (.bastore, 1) := z_o84 (z_wat (q := 64) (j := 5) zwX12_grown_64 rfl)
theorem dX12_grown_70 : decode cX12_grown 70 = .ok (.iload_n 3, 1) := z_o29 (z_wat (q := 64) (j := 6) zwX12_grown_64 rfl)
theorem dX12_grown_71 : decode cX12_grown 71 = .ok (.ireturn, 1) := z_o172 (z_wat (q := 64) (j := 7) zwX12_grown_64 rfl)
theorem zwX12_joins_0 : ((cX12_joins.data.toList.drop 0).take 34).map UInt8.toNat = [27, 16, 7, 162, 0, 7, 4, 167, 0, 4, 3, 61, 28, 153, 0, 16, 42, 180, 1, 89, 153, 0, 9, 42, 4, 182, 0, 240, 172, 42, 27, 3, 182, 1] := by decide +kernel
theorem dX12_joins_0 : decode cX12_joins 0 = .ok (.iload_n 1, 1) := z_o27 (z_wat (q := 0) (j := 0) zwX12_joins_0 rfl)
theorem dX12_joins_1 : decode cX12_joins 1 = .ok (.bipush 7, 2) := z_o16 (z_wat (q := 0) (j := 1) zwX12_joins_0 rfl) (z_wat (q := 0) (j := 2) zwX12_joins_0 rfl) rfl
theorem dX12_joins_3 : decode cX12_joins 3 = .ok (.if_icmp .ge 7, 3) := z_o162 (z_wat (q := 0) (j := 3) zwX12_joins_0 rfl) (z_wat (q := 0) (j := 4) zwX12_joins_0 rfl) (z_wat (q := 0) (j := 5) zwX12_joins_0 rfl) rfl
theorem dX12_joins_6 : decode cX12_joins 6 = .ok (.iconst 1, 1) := z_o4 (z_wat (q := 0) (j := 6) zwX12_joins_0 rfl)
theorem dX12_joins_7 : decode cX12_joins 7 = .ok (.goto 4, 3) := z_o167 (z_wat (q := 0) (j := 7) zwX12_joins_0 rfl) (z_wat (q := 0) (j := 8) zwX12_joins_0 rfl) (z_wat (q := 0) (j := 9) zwX12_joins_0 rfl) rfl
theorem dX12_joins_10 : decode cX12_joins 10 = .ok (.iconst 0, 1) := z_o3 (z_wat (q := 0) (j := 10) zwX12_joins_0 rfl)
theorem dX12_joins_11 : decode cX12_joins 11 = .ok (.istore_n 2, 1) := z_o61 (z_wat (q := 0) (j := 11) zwX12_joins_0 rfl)
theorem dX12_joins_12 : decode cX12_joins 12 = .ok (.iload_n 2, 1) := z_o28 (z_wat (q := 0) (j := 12) zwX12_joins_0 rfl)
theorem dX12_joins_13 : decode cX12_joins 13 = .ok (.ifCond .eq 16, 3) := z_o153 (z_wat (q := 0) (j := 13) zwX12_joins_0 rfl) (z_wat (q := 0) (j := 14) zwX12_joins_0 rfl) (z_wat (q := 0) (j := 15) zwX12_joins_0 rfl) rfl
theorem dX12_joins_16 : decode cX12_joins 16 = .ok (.aload_n 0, 1) := z_o42 (z_wat (q := 0) (j := 16) zwX12_joins_0 rfl)
theorem dX12_joins_17 : decode cX12_joins 17 = .ok (.getfield 345, 3) := z_o180 (z_wat (q := 0) (j := 17) zwX12_joins_0 rfl) (z_wat (q := 0) (j := 18) zwX12_joins_0 rfl) (z_wat (q := 0) (j := 19) zwX12_joins_0 rfl) rfl
theorem dX12_joins_20 : decode cX12_joins 20 = .ok (.ifCond .eq 9, 3) := z_o153 (z_wat (q := 0) (j := 20) zwX12_joins_0 rfl) (z_wat (q := 0) (j := 21) zwX12_joins_0 rfl) (z_wat (q := 0) (j := 22) zwX12_joins_0 rfl) rfl
theorem dX12_joins_23 : decode cX12_joins 23 = .ok (.aload_n 0, 1) := z_o42 (z_wat (q := 0) (j := 23) zwX12_joins_0 rfl)
theorem dX12_joins_24 : decode cX12_joins 24 = .ok (.iconst 1, 1) := z_o4 (z_wat (q := 0) (j := 24) zwX12_joins_0 rfl)
theorem dX12_joins_25 : decode cX12_joins 25 = .ok (.invokevirtual 240, 3) := z_o182 (z_wat (q := 0) (j := 25) zwX12_joins_0 rfl) (z_wat (q := 0) (j := 26) zwX12_joins_0 rfl) (z_wat (q := 0) (j := 27) zwX12_joins_0 rfl) rfl
theorem dX12_joins_28 : decode cX12_joins 28 = .ok (.ireturn, 1) := z_o172 (z_wat (q := 0) (j := 28) zwX12_joins_0 rfl)
theorem dX12_joins_29 : decode cX12_joins 29 = .ok (.aload_n 0, 1) := z_o42 (z_wat (q := 0) (j := 29) zwX12_joins_0 rfl)
theorem dX12_joins_30 : decode cX12_joins 30 = .ok (.iload_n 1, 1) := z_o27 (z_wat (q := 0) (j := 30) zwX12_joins_0 rfl)
theorem dX12_joins_31 : decode cX12_joins 31 = .ok (.iconst 0, 1) := z_o3 (z_wat (q := 0) (j := 31) zwX12_joins_0 rfl)
theorem zwX12_joins_32 : ((cX12_joins.data.toList.drop 32).take 34).map UInt8.toNat = [182, 1, 83, 62, 29, 156, 0, 5, 3, 172, 42, 27, 184, 1, 73, 182, 1, 107, 42, 27, 29, 182, 1, 93, 42, 28, 154, 0, 16, 27, 16, 11, 162, 0] := by decide +kernel
theorem dX12_joins_32 : decode cX12_joins 32 = .ok (.invokevirtual 339, 3) := z_o182 (z_wat (q := 32) (j := 0) zwX12_joins_32 rfl) (z_wat (q := 32) (j := 1) zwX12_joins_32 rfl) (z_wat (q := 32) (j := 2) zwX12_joins_32 rfl) rfl
theorem dX12_joins_35 : decode cX12_joins 35 = .ok (.istore_n 3, 1) := z_o62 (z_wat (q := 32) (j := 3) zwX12_joins_32 rfl)
theorem dX12_joins_36 : decode cX12_joins 36 = .ok (.iload_n 3, 1) := z_o29 (z_wat (q := 32) (j := 4) zwX12_joins_32 rfl)
theorem dX12_joins_37 : decode cX12_joins 37 = .ok (.ifCond .ge 5, 3) := z_o156 (z_wat (q := 32) (j := 5) zwX12_joins_32 rfl) (z_wat (q := 32) (j := 6) zwX12_joins_32 rfl) (z_wat (q := 32) (j := 7) zwX12_joins_32 rfl) rfl
theorem dX12_joins_40 : decode cX12_joins 40 = .ok (.iconst 0, 1) := z_o3 (z_wat (q := 32) (j := 8) zwX12_joins_32 rfl)
theorem dX12_joins_41 : decode cX12_joins 41 = .ok (.ireturn, 1) := z_o172 (z_wat (q := 32) (j := 9) zwX12_joins_32 rfl)
theorem dX12_joins_42 : decode cX12_joins 42 = .ok (.aload_n 0, 1) := z_o42 (z_wat (q := 32) (j := 10) zwX12_joins_32 rfl)
theorem dX12_joins_43 : decode cX12_joins 43 = .ok (.iload_n 1, 1) := z_o27 (z_wat (q := 32) (j := 11) zwX12_joins_32 rfl)
theorem dX12_joins_44 : decode cX12_joins 44 = .ok (.invokestatic 329, 3) := z_o184 (z_wat (q := 32) (j := 12) zwX12_joins_32 rfl) (z_wat (q := 32) (j := 13) zwX12_joins_32 rfl) (z_wat (q := 32) (j := 14) zwX12_joins_32 rfl) rfl
theorem dX12_joins_47 : decode cX12_joins 47 = .ok (.invokevirtual 363, 3) := z_o182 (z_wat (q := 32) (j := 15) zwX12_joins_32 rfl) (z_wat (q := 32) (j := 16) zwX12_joins_32 rfl) (z_wat (q := 32) (j := 17) zwX12_joins_32 rfl) rfl
theorem dX12_joins_50 : decode cX12_joins 50 = .ok (.aload_n 0, 1) := z_o42 (z_wat (q := 32) (j := 18) zwX12_joins_32 rfl)
theorem dX12_joins_51 : decode cX12_joins 51 = .ok (.iload_n 1, 1) := z_o27 (z_wat (q := 32) (j := 19) zwX12_joins_32 rfl)
theorem dX12_joins_52 : decode cX12_joins 52 = .ok (.iload_n 3, 1) := z_o29 (z_wat (q := 32) (j := 20) zwX12_joins_32 rfl)
theorem dX12_joins_53 : decode cX12_joins 53 = .ok (.invokevirtual 349, 3) := z_o182 (z_wat (q := 32) (j := 21) zwX12_joins_32 rfl) (z_wat (q := 32) (j := 22) zwX12_joins_32 rfl) (z_wat (q := 32) (j := 23) zwX12_joins_32 rfl) rfl
theorem dX12_joins_56 : decode cX12_joins 56 = .ok (.aload_n 0, 1) := z_o42 (z_wat (q := 32) (j := 24) zwX12_joins_32 rfl)
theorem dX12_joins_57 : decode cX12_joins 57 = .ok (.iload_n 2, 1) := z_o28 (z_wat (q := 32) (j := 25) zwX12_joins_32 rfl)
theorem dX12_joins_58 : decode cX12_joins 58 = .ok (.ifCond .ne 16, 3) := z_o154 (z_wat (q := 32) (j := 26) zwX12_joins_32 rfl) (z_wat (q := 32) (j := 27) zwX12_joins_32 rfl) (z_wat (q := 32) (j := 28) zwX12_joins_32 rfl) rfl
theorem dX12_joins_61 : decode cX12_joins 61 = .ok (.iload_n 1, 1) := z_o27 (z_wat (q := 32) (j := 29) zwX12_joins_32 rfl)
theorem dX12_joins_62 : decode cX12_joins 62 = .ok (.bipush 11, 2) := z_o16 (z_wat (q := 32) (j := 30) zwX12_joins_32 rfl) (z_wat (q := 32) (j := 31) zwX12_joins_32 rfl) rfl
theorem zwX12_joins_64 : ((cX12_joins.data.toList.drop 64).take 34).map UInt8.toNat = [162, 0, 14, 42, 180, 1, 89, 153, 0, 7, 4, 167, 0, 4, 3, 181, 1, 89, 42, 27, 16, 11, 164, 0, 7, 4, 167, 0, 4, 3, 181, 1, 97, 42] := by decide +kernel
theorem dX12_joins_64 : decode cX12_joins 64 = .ok (.if_icmp .ge 14, 3) := z_o162 (z_wat (q := 64) (j := 0) zwX12_joins_64 rfl) (z_wat (q := 64) (j := 1) zwX12_joins_64 rfl) (z_wat (q := 64) (j := 2) zwX12_joins_64 rfl) rfl
theorem dX12_joins_67 : decode cX12_joins 67 = .ok (.aload_n 0, 1) := z_o42 (z_wat (q := 64) (j := 3) zwX12_joins_64 rfl)
theorem dX12_joins_68 : decode cX12_joins 68 = .ok (.getfield 345, 3) := z_o180 (z_wat (q := 64) (j := 4) zwX12_joins_64 rfl) (z_wat (q := 64) (j := 5) zwX12_joins_64 rfl) (z_wat (q := 64) (j := 6) zwX12_joins_64 rfl) rfl
theorem dX12_joins_71 : decode cX12_joins 71 = .ok (.ifCond .eq 7, 3) := z_o153 (z_wat (q := 64) (j := 7) zwX12_joins_64 rfl) (z_wat (q := 64) (j := 8) zwX12_joins_64 rfl) (z_wat (q := 64) (j := 9) zwX12_joins_64 rfl) rfl
theorem dX12_joins_74 : decode cX12_joins 74 = .ok (.iconst 1, 1) := z_o4 (z_wat (q := 64) (j := 10) zwX12_joins_64 rfl)
theorem dX12_joins_75 : decode cX12_joins 75 = .ok (.goto 4, 3) := z_o167 (z_wat (q := 64) (j := 11) zwX12_joins_64 rfl) (z_wat (q := 64) (j := 12) zwX12_joins_64 rfl) (z_wat (q := 64) (j := 13) zwX12_joins_64 rfl) rfl
theorem dX12_joins_78 : decode cX12_joins 78 = .ok (.iconst 0, 1) := z_o3 (z_wat (q := 64) (j := 14) zwX12_joins_64 rfl)
theorem dX12_joins_79 : decode cX12_joins 79 = .ok (.putfield 345, 3) := z_o181 (z_wat (q := 64) (j := 15) zwX12_joins_64 rfl) (z_wat (q := 64) (j := 16) zwX12_joins_64 rfl) (z_wat (q := 64) (j := 17) zwX12_joins_64 rfl) rfl
theorem dX12_joins_82 : decode cX12_joins 82 = .ok (.aload_n 0, 1) := z_o42 (z_wat (q := 64) (j := 18) zwX12_joins_64 rfl)
theorem dX12_joins_83 : decode cX12_joins 83 = .ok (.iload_n 1, 1) := z_o27 (z_wat (q := 64) (j := 19) zwX12_joins_64 rfl)
theorem dX12_joins_84 : decode cX12_joins 84 = .ok (.bipush 11, 2) := z_o16 (z_wat (q := 64) (j := 20) zwX12_joins_64 rfl) (z_wat (q := 64) (j := 21) zwX12_joins_64 rfl) rfl
theorem dX12_joins_86 : decode cX12_joins 86 = .ok (.if_icmp .le 7, 3) := z_o164 (z_wat (q := 64) (j := 22) zwX12_joins_64 rfl) (z_wat (q := 64) (j := 23) zwX12_joins_64 rfl) (z_wat (q := 64) (j := 24) zwX12_joins_64 rfl) rfl
theorem dX12_joins_89 : decode cX12_joins 89 = .ok (.iconst 1, 1) := z_o4 (z_wat (q := 64) (j := 25) zwX12_joins_64 rfl)
theorem dX12_joins_90 : decode cX12_joins 90 = .ok (.goto 4, 3) := z_o167 (z_wat (q := 64) (j := 26) zwX12_joins_64 rfl) (z_wat (q := 64) (j := 27) zwX12_joins_64 rfl) (z_wat (q := 64) (j := 28) zwX12_joins_64 rfl) rfl
theorem dX12_joins_93 : decode cX12_joins 93 = .ok (.iconst 0, 1) := z_o3 (z_wat (q := 64) (j := 29) zwX12_joins_64 rfl)
theorem dX12_joins_94 : decode cX12_joins 94 = .ok (.putfield 353, 3) := z_o181 (z_wat (q := 64) (j := 30) zwX12_joins_64 rfl) (z_wat (q := 64) (j := 31) zwX12_joins_64 rfl) (z_wat (q := 64) (j := 32) zwX12_joins_64 rfl) rfl
theorem zwX12_joins_96 : ((cX12_joins.data.toList.drop 96).take 13).map UInt8.toNat = [97, 42, 4, 181, 1, 100, 42, 3, 182, 0, 236, 4, 172] := by decide +kernel
theorem dX12_joins_97 : decode cX12_joins 97 = .ok (.aload_n 0, 1) := z_o42 (z_wat (q := 96) (j := 1) zwX12_joins_96 rfl)
theorem dX12_joins_98 : decode cX12_joins 98 = .ok (.iconst 1, 1) := z_o4 (z_wat (q := 96) (j := 2) zwX12_joins_96 rfl)
theorem dX12_joins_99 : decode cX12_joins 99 = .ok (.putfield 356, 3) := z_o181 (z_wat (q := 96) (j := 3) zwX12_joins_96 rfl) (z_wat (q := 96) (j := 4) zwX12_joins_96 rfl) (z_wat (q := 96) (j := 5) zwX12_joins_96 rfl) rfl
theorem dX12_joins_102 : decode cX12_joins 102 = .ok (.aload_n 0, 1) := z_o42 (z_wat (q := 96) (j := 6) zwX12_joins_96 rfl)
theorem dX12_joins_103 : decode cX12_joins 103 = .ok (.iconst 0, 1) := z_o3 (z_wat (q := 96) (j := 7) zwX12_joins_96 rfl)
theorem dX12_joins_104 : decode cX12_joins 104 = .ok (.invokevirtual 236, 3) := z_o182 (z_wat (q := 96) (j := 8) zwX12_joins_96 rfl) (z_wat (q := 96) (j := 9) zwX12_joins_96 rfl) (z_wat (q := 96) (j := 10) zwX12_joins_96 rfl) rfl
theorem dX12_joins_107 : decode cX12_joins 107 = .ok (.iconst 1, 1) := z_o4 (z_wat (q := 96) (j := 11) zwX12_joins_96 rfl)
theorem dX12_joins_108 : decode cX12_joins 108 = .ok (.ireturn, 1) := z_o172 (z_wat (q := 96) (j := 12) zwX12_joins_96 rfl)
theorem zwX12_nameRead_0 : ((cX12_nameRead.data.toList.drop 0).take 34).map UInt8.toNat = [42, 180, 0, 221, 4, 160, 0, 12, 42, 180, 0, 214, 16, 11, 162, 0, 9, 42, 4, 182, 0, 240, 172, 42, 16, 15, 42, 180, 0, 214, 16, 11, 100, 182] := by decide +kernel
theorem dX12_nameRead_0 : decode cX12_nameRead 0 = .ok (.aload_n 0, 1) := z_o42 (z_wat (q := 0) (j := 0) zwX12_nameRead_0 rfl)
theorem dX12_nameRead_1 : decode cX12_nameRead 1 = .ok (.getfield 221, 3) := z_o180 (z_wat (q := 0) (j := 1) zwX12_nameRead_0 rfl) (z_wat (q := 0) (j := 2) zwX12_nameRead_0 rfl) (z_wat (q := 0) (j := 3) zwX12_nameRead_0 rfl) rfl
theorem dX12_nameRead_4 : decode cX12_nameRead 4 = .ok (.iconst 1, 1) := z_o4 (z_wat (q := 0) (j := 4) zwX12_nameRead_0 rfl)
theorem dX12_nameRead_5 : decode cX12_nameRead 5 = .ok (.if_icmp .ne 12, 3) := z_o160 (z_wat (q := 0) (j := 5) zwX12_nameRead_0 rfl) (z_wat (q := 0) (j := 6) zwX12_nameRead_0 rfl) (z_wat (q := 0) (j := 7) zwX12_nameRead_0 rfl) rfl
theorem dX12_nameRead_8 : decode cX12_nameRead 8 = .ok (.aload_n 0, 1) := z_o42 (z_wat (q := 0) (j := 8) zwX12_nameRead_0 rfl)
theorem dX12_nameRead_9 : decode cX12_nameRead 9 = .ok (.getfield 214, 3) := z_o180 (z_wat (q := 0) (j := 9) zwX12_nameRead_0 rfl) (z_wat (q := 0) (j := 10) zwX12_nameRead_0 rfl) (z_wat (q := 0) (j := 11) zwX12_nameRead_0 rfl) rfl
theorem dX12_nameRead_12 : decode cX12_nameRead 12 = .ok (.bipush 11, 2) := z_o16 (z_wat (q := 0) (j := 12) zwX12_nameRead_0 rfl) (z_wat (q := 0) (j := 13) zwX12_nameRead_0 rfl) rfl
theorem dX12_nameRead_14 : decode cX12_nameRead 14 = .ok (.if_icmp .ge 9, 3) := z_o162 (z_wat (q := 0) (j := 14) zwX12_nameRead_0 rfl) (z_wat (q := 0) (j := 15) zwX12_nameRead_0 rfl) (z_wat (q := 0) (j := 16) zwX12_nameRead_0 rfl) rfl
theorem dX12_nameRead_17 : decode cX12_nameRead 17 = .ok (.aload_n 0, 1) := z_o42 (z_wat (q := 0) (j := 17) zwX12_nameRead_0 rfl)
theorem dX12_nameRead_18 : decode cX12_nameRead 18 = .ok (.iconst 1, 1) := z_o4 (z_wat (q := 0) (j := 18) zwX12_nameRead_0 rfl)
theorem dX12_nameRead_19 : decode cX12_nameRead 19 = .ok (.invokevirtual 240, 3) := z_o182 (z_wat (q := 0) (j := 19) zwX12_nameRead_0 rfl) (z_wat (q := 0) (j := 20) zwX12_nameRead_0 rfl) (z_wat (q := 0) (j := 21) zwX12_nameRead_0 rfl) rfl
theorem dX12_nameRead_22 : decode cX12_nameRead 22 = .ok (.ireturn, 1) := z_o172 (z_wat (q := 0) (j := 22) zwX12_nameRead_0 rfl)
theorem dX12_nameRead_23 : decode cX12_nameRead 23 = .ok (.aload_n 0, 1) := z_o42 (z_wat (q := 0) (j := 23) zwX12_nameRead_0 rfl)
theorem dX12_nameRead_24 : decode cX12_nameRead 24 = .ok (.bipush 15, 2) := z_o16 (z_wat (q := 0) (j := 24) zwX12_nameRead_0 rfl) (z_wat (q := 0) (j := 25) zwX12_nameRead_0 rfl) rfl
theorem dX12_nameRead_26 : decode cX12_nameRead 26 = .ok (.aload_n 0, 1) := z_o42 (z_wat (q := 0) (j := 26) zwX12_nameRead_0 rfl)
theorem dX12_nameRead_27 : decode cX12_nameRead 27 = .ok (.getfield 214, 3) := z_o180 (z_wat (q := 0) (j := 27) zwX12_nameRead_0 rfl) (z_wat (q := 0) (j := 28) zwX12_nameRead_0 rfl) (z_wat (q := 0) (j := 29) zwX12_nameRead_0 rfl) rfl
theorem dX12_nameRead_30 : decode cX12_nameRead 30 = .ok (.bipush 11, 2) := z_o16 (z_wat (q := 0) (j := 30) zwX12_nameRead_0 rfl) (z_wat (q := 0) (j := 31) zwX12_nameRead_0 rfl) rfl
theorem zwX12_nameRead_32 : ((cX12_nameRead.data.toList.drop 32).take 30).map UInt8.toNat = [100, 182, 1, 83, 61, 28, 156, 0, 5, 3, 172, 42, 180, 0, 123, 28, 27, 84, 42, 3, 182, 0, 236, 42, 28, 182, 1, 80, 4, 172] := by decide +kernel
theorem dX12_nameRead_32 : decode cX12_nameRead 32 = .ok (.isub, 1) := z_o100 (z_wat (q := 32) (j := 0) zwX12_nameRead_32 rfl)
theorem dX12_nameRead_33 : decode cX12_nameRead 33 = .ok (.invokevirtual 339, 3) := z_o182 (z_wat (q := 32) (j := 1) zwX12_nameRead_32 rfl) (z_wat (q := 32) (j := 2) zwX12_nameRead_32 rfl) (z_wat (q := 32) (j := 3) zwX12_nameRead_32 rfl) rfl
theorem dX12_nameRead_36 : decode cX12_nameRead 36 = .ok (.istore_n 2, 1) := z_o61 (z_wat (q := 32) (j := 4) zwX12_nameRead_32 rfl)
theorem dX12_nameRead_37 : decode cX12_nameRead 37 = .ok (.iload_n 2, 1) := z_o28 (z_wat (q := 32) (j := 5) zwX12_nameRead_32 rfl)
theorem dX12_nameRead_38 : decode cX12_nameRead 38 = .ok (.ifCond .ge 5, 3) := z_o156 (z_wat (q := 32) (j := 6) zwX12_nameRead_32 rfl) (z_wat (q := 32) (j := 7) zwX12_nameRead_32 rfl) (z_wat (q := 32) (j := 8) zwX12_nameRead_32 rfl) rfl
theorem dX12_nameRead_41 : decode cX12_nameRead 41 = .ok (.iconst 0, 1) := z_o3 (z_wat (q := 32) (j := 9) zwX12_nameRead_32 rfl)
theorem dX12_nameRead_42 : decode cX12_nameRead 42 = .ok (.ireturn, 1) := z_o172 (z_wat (q := 32) (j := 10) zwX12_nameRead_32 rfl)
theorem dX12_nameRead_43 : decode cX12_nameRead 43 = .ok (.aload_n 0, 1) := z_o42 (z_wat (q := 32) (j := 11) zwX12_nameRead_32 rfl)
theorem dX12_nameRead_44 : decode cX12_nameRead 44 = .ok (.getfield 123, 3) := z_o180 (z_wat (q := 32) (j := 12) zwX12_nameRead_32 rfl) (z_wat (q := 32) (j := 13) zwX12_nameRead_32 rfl) (z_wat (q := 32) (j := 14) zwX12_nameRead_32 rfl) rfl
theorem dX12_nameRead_47 : decode cX12_nameRead 47 = .ok (.iload_n 2, 1) := z_o28 (z_wat (q := 32) (j := 15) zwX12_nameRead_32 rfl)
theorem dX12_nameRead_48 : decode cX12_nameRead 48 = .ok (.iload_n 1, 1) := z_o27 (z_wat (q := 32) (j := 16) zwX12_nameRead_32 rfl)
theorem dX12_nameRead_49 : decode cX12_nameRead 49 = .ok (.bastore, 1) := z_o84 (z_wat (q := 32) (j := 17) zwX12_nameRead_32 rfl)
theorem dX12_nameRead_50 : decode cX12_nameRead 50 = .ok (.aload_n 0, 1) := z_o42 (z_wat (q := 32) (j := 18) zwX12_nameRead_32 rfl)
theorem dX12_nameRead_51 : decode cX12_nameRead 51 = .ok (.iconst 0, 1) := z_o3 (z_wat (q := 32) (j := 19) zwX12_nameRead_32 rfl)
theorem dX12_nameRead_52 : decode cX12_nameRead 52 = .ok (.invokevirtual 236, 3) := z_o182 (z_wat (q := 32) (j := 20) zwX12_nameRead_32 rfl) (z_wat (q := 32) (j := 21) zwX12_nameRead_32 rfl) (z_wat (q := 32) (j := 22) zwX12_nameRead_32 rfl) rfl
theorem dX12_nameRead_55 : decode cX12_nameRead 55 = .ok (.aload_n 0, 1) := z_o42 (z_wat (q := 32) (j := 23) zwX12_nameRead_32 rfl)
theorem dX12_nameRead_56 : decode cX12_nameRead 56 = .ok (.iload_n 2, 1) := z_o28 (z_wat (q := 32) (j := 24) zwX12_nameRead_32 rfl)
theorem dX12_nameRead_57 : decode cX12_nameRead 57 = .ok (.invokevirtual 336, 3) := z_o182 (z_wat (q := 32) (j := 25) zwX12_nameRead_32 rfl) (z_wat (q := 32) (j := 26) zwX12_nameRead_32 rfl) (z_wat (q := 32) (j := 27) zwX12_nameRead_32 rfl) rfl
theorem dX12_nameRead_60 : decode cX12_nameRead 60 = .ok (.iconst 1, 1) := z_o4 (z_wat (q := 32) (j := 28) zwX12_nameRead_32 rfl)
theorem dX12_nameRead_61 : decode cX12_nameRead 61 = .ok (.ireturn, 1) := z_o172 (z_wat (q := 32) (j := 29) zwX12_nameRead_32 rfl)
theorem zwX12_signNow_0 : ((cX12_signNow.data.toList.drop 0).take 34).map UInt8.toNat = [42, 180, 0, 221, 4, 160, 0, 33, 42, 180, 0, 214, 16, 8, 160, 0, 8, 16, 12, 167, 0, 18, 42, 180, 0, 214, 16, 7, 160, 0, 8, 16, 13, 167] := by decide +kernel
theorem dX12_signNow_0 : decode cX12_signNow 0 = .ok (.aload_n 0, 1) := z_o42 (z_wat (q := 0) (j := 0) zwX12_signNow_0 rfl)
theorem dX12_signNow_1 : decode cX12_signNow 1 = .ok (.getfield 221, 3) := z_o180 (z_wat (q := 0) (j := 1) zwX12_signNow_0 rfl) (z_wat (q := 0) (j := 2) zwX12_signNow_0 rfl) (z_wat (q := 0) (j := 3) zwX12_signNow_0 rfl) rfl
theorem dX12_signNow_4 : decode cX12_signNow 4 = .ok (.iconst 1, 1) := z_o4 (z_wat (q := 0) (j := 4) zwX12_signNow_0 rfl)
theorem dX12_signNow_5 : decode cX12_signNow 5 = .ok (.if_icmp .ne 33, 3) := z_o160 (z_wat (q := 0) (j := 5) zwX12_signNow_0 rfl) (z_wat (q := 0) (j := 6) zwX12_signNow_0 rfl) (z_wat (q := 0) (j := 7) zwX12_signNow_0 rfl) rfl
theorem dX12_signNow_8 : decode cX12_signNow 8 = .ok (.aload_n 0, 1) := z_o42 (z_wat (q := 0) (j := 8) zwX12_signNow_0 rfl)
theorem dX12_signNow_9 : decode cX12_signNow 9 = .ok (.getfield 214, 3) := z_o180 (z_wat (q := 0) (j := 9) zwX12_signNow_0 rfl) (z_wat (q := 0) (j := 10) zwX12_signNow_0 rfl) (z_wat (q := 0) (j := 11) zwX12_signNow_0 rfl) rfl
theorem dX12_signNow_12 : decode cX12_signNow 12 = .ok (.bipush 8, 2) := z_o16 (z_wat (q := 0) (j := 12) zwX12_signNow_0 rfl) (z_wat (q := 0) (j := 13) zwX12_signNow_0 rfl) rfl
theorem dX12_signNow_14 : decode cX12_signNow 14 = .ok (.if_icmp .ne 8, 3) := z_o160 (z_wat (q := 0) (j := 14) zwX12_signNow_0 rfl) (z_wat (q := 0) (j := 15) zwX12_signNow_0 rfl) (z_wat (q := 0) (j := 16) zwX12_signNow_0 rfl) rfl
theorem dX12_signNow_17 : decode cX12_signNow 17 = .ok (.bipush 12, 2) := z_o16 (z_wat (q := 0) (j := 17) zwX12_signNow_0 rfl) (z_wat (q := 0) (j := 18) zwX12_signNow_0 rfl) rfl
theorem dX12_signNow_19 : decode cX12_signNow 19 = .ok (.goto 18, 3) := z_o167 (z_wat (q := 0) (j := 19) zwX12_signNow_0 rfl) (z_wat (q := 0) (j := 20) zwX12_signNow_0 rfl) (z_wat (q := 0) (j := 21) zwX12_signNow_0 rfl) rfl
theorem dX12_signNow_22 : decode cX12_signNow 22 = .ok (.aload_n 0, 1) := z_o42 (z_wat (q := 0) (j := 22) zwX12_signNow_0 rfl)
theorem dX12_signNow_23 : decode cX12_signNow 23 = .ok (.getfield 214, 3) := z_o180 (z_wat (q := 0) (j := 23) zwX12_signNow_0 rfl) (z_wat (q := 0) (j := 24) zwX12_signNow_0 rfl) (z_wat (q := 0) (j := 25) zwX12_signNow_0 rfl) rfl
theorem dX12_signNow_26 : decode cX12_signNow 26 = .ok (.bipush 7, 2) := z_o16 (z_wat (q := 0) (j := 26) zwX12_signNow_0 rfl) (z_wat (q := 0) (j := 27) zwX12_signNow_0 rfl) rfl
theorem dX12_signNow_28 : decode cX12_signNow 28 = .ok (.if_icmp .ne 8, 3) := z_o160 (z_wat (q := 0) (j := 28) zwX12_signNow_0 rfl) (z_wat (q := 0) (j := 29) zwX12_signNow_0 rfl) (z_wat (q := 0) (j := 30) zwX12_signNow_0 rfl) rfl
theorem dX12_signNow_31 : decode cX12_signNow 31 = .ok (.bipush 13, 2) := z_o16 (z_wat (q := 0) (j := 31) zwX12_signNow_0 rfl) (z_wat (q := 0) (j := 32) zwX12_signNow_0 rfl) rfl
theorem zwX12_signNow_32 : ((cX12_signNow.data.toList.drop 32).take 34).map UInt8.toNat = [13, 167, 0, 4, 2, 172, 42, 180, 0, 221, 7, 159, 0, 5, 2, 172, 42, 180, 0, 214, 16, 7, 162, 0, 10, 42, 180, 0, 214, 167, 0, 60, 42, 180] := by decide +kernel
theorem dX12_signNow_33 : decode cX12_signNow 33 = .ok (.goto 4, 3) := z_o167 (z_wat (q := 32) (j := 1) zwX12_signNow_32 rfl) (z_wat (q := 32) (j := 2) zwX12_signNow_32 rfl) (z_wat (q := 32) (j := 3) zwX12_signNow_32 rfl) rfl
theorem dX12_signNow_36 : decode cX12_signNow 36 = .ok (.iconst (-1), 1) := z_o2 (z_wat (q := 32) (j := 4) zwX12_signNow_32 rfl)
theorem dX12_signNow_37 : decode cX12_signNow 37 = .ok (.ireturn, 1) := z_o172 (z_wat (q := 32) (j := 5) zwX12_signNow_32 rfl)
theorem dX12_signNow_38 : decode cX12_signNow 38 = .ok (.aload_n 0, 1) := z_o42 (z_wat (q := 32) (j := 6) zwX12_signNow_32 rfl)
theorem dX12_signNow_39 : decode cX12_signNow 39 = .ok (.getfield 221, 3) := z_o180 (z_wat (q := 32) (j := 7) zwX12_signNow_32 rfl) (z_wat (q := 32) (j := 8) zwX12_signNow_32 rfl) (z_wat (q := 32) (j := 9) zwX12_signNow_32 rfl) rfl
theorem dX12_signNow_42 : decode cX12_signNow 42 = .ok (.iconst 4, 1) := z_o7 (z_wat (q := 32) (j := 10) zwX12_signNow_32 rfl)
theorem dX12_signNow_43 : decode cX12_signNow 43 = .ok (.if_icmp .eq 5, 3) := z_o159 (z_wat (q := 32) (j := 11) zwX12_signNow_32 rfl) (z_wat (q := 32) (j := 12) zwX12_signNow_32 rfl) (z_wat (q := 32) (j := 13) zwX12_signNow_32 rfl) rfl
theorem dX12_signNow_46 : decode cX12_signNow 46 = .ok (.iconst (-1), 1) := z_o2 (z_wat (q := 32) (j := 14) zwX12_signNow_32 rfl)
theorem dX12_signNow_47 : decode cX12_signNow 47 = .ok (.ireturn, 1) := z_o172 (z_wat (q := 32) (j := 15) zwX12_signNow_32 rfl)
theorem dX12_signNow_48 : decode cX12_signNow 48 = .ok (.aload_n 0, 1) := z_o42 (z_wat (q := 32) (j := 16) zwX12_signNow_32 rfl)
theorem dX12_signNow_49 : decode cX12_signNow 49 = .ok (.getfield 214, 3) := z_o180 (z_wat (q := 32) (j := 17) zwX12_signNow_32 rfl) (z_wat (q := 32) (j := 18) zwX12_signNow_32 rfl) (z_wat (q := 32) (j := 19) zwX12_signNow_32 rfl) rfl
theorem dX12_signNow_52 : decode cX12_signNow 52 = .ok (.bipush 7, 2) := z_o16 (z_wat (q := 32) (j := 20) zwX12_signNow_32 rfl) (z_wat (q := 32) (j := 21) zwX12_signNow_32 rfl) rfl
theorem dX12_signNow_54 : decode cX12_signNow 54 = .ok (.if_icmp .ge 10, 3) := z_o162 (z_wat (q := 32) (j := 22) zwX12_signNow_32 rfl) (z_wat (q := 32) (j := 23) zwX12_signNow_32 rfl) (z_wat (q := 32) (j := 24) zwX12_signNow_32 rfl) rfl
theorem dX12_signNow_57 : decode cX12_signNow 57 = .ok (.aload_n 0, 1) := z_o42 (z_wat (q := 32) (j := 25) zwX12_signNow_32 rfl)
theorem dX12_signNow_58 : decode cX12_signNow 58 = .ok (.getfield 214, 3) := z_o180 (z_wat (q := 32) (j := 26) zwX12_signNow_32 rfl) (z_wat (q := 32) (j := 27) zwX12_signNow_32 rfl) (z_wat (q := 32) (j := 28) zwX12_signNow_32 rfl) rfl
theorem dX12_signNow_61 : decode cX12_signNow 61 = .ok (.goto 60, 3) := z_o167 (z_wat (q := 32) (j := 29) zwX12_signNow_32 rfl) (z_wat (q := 32) (j := 30) zwX12_signNow_32 rfl) (z_wat (q := 32) (j := 31) zwX12_signNow_32 rfl) rfl
theorem zwX12_signNow_64 : ((cX12_signNow.data.toList.drop 64).take 34).map UInt8.toNat = [42, 180, 0, 214, 16, 43, 160, 0, 8, 16, 7, 167, 0, 46, 42, 180, 0, 214, 16, 45, 160, 0, 8, 16, 8, 167, 0, 32, 42, 180, 0, 214, 16, 42] := by decide +kernel
theorem dX12_signNow_64 : decode cX12_signNow 64 = .ok (.aload_n 0, 1) := z_o42 (z_wat (q := 64) (j := 0) zwX12_signNow_64 rfl)
theorem dX12_signNow_65 : decode cX12_signNow 65 = .ok (.getfield 214, 3) := z_o180 (z_wat (q := 64) (j := 1) zwX12_signNow_64 rfl) (z_wat (q := 64) (j := 2) zwX12_signNow_64 rfl) (z_wat (q := 64) (j := 3) zwX12_signNow_64 rfl) rfl
theorem dX12_signNow_68 : decode cX12_signNow 68 = .ok (.bipush 43, 2) := z_o16 (z_wat (q := 64) (j := 4) zwX12_signNow_64 rfl) (z_wat (q := 64) (j := 5) zwX12_signNow_64 rfl) rfl
theorem dX12_signNow_70 : decode cX12_signNow 70 = .ok (.if_icmp .ne 8, 3) := z_o160 (z_wat (q := 64) (j := 6) zwX12_signNow_64 rfl) (z_wat (q := 64) (j := 7) zwX12_signNow_64 rfl) (z_wat (q := 64) (j := 8) zwX12_signNow_64 rfl) rfl
theorem dX12_signNow_73 : decode cX12_signNow 73 = .ok (.bipush 7, 2) := z_o16 (z_wat (q := 64) (j := 9) zwX12_signNow_64 rfl) (z_wat (q := 64) (j := 10) zwX12_signNow_64 rfl) rfl
theorem dX12_signNow_75 : decode cX12_signNow 75 = .ok (.goto 46, 3) := z_o167 (z_wat (q := 64) (j := 11) zwX12_signNow_64 rfl) (z_wat (q := 64) (j := 12) zwX12_signNow_64 rfl) (z_wat (q := 64) (j := 13) zwX12_signNow_64 rfl) rfl
theorem dX12_signNow_78 : decode cX12_signNow 78 = .ok (.aload_n 0, 1) := z_o42 (z_wat (q := 64) (j := 14) zwX12_signNow_64 rfl)
theorem dX12_signNow_79 : decode cX12_signNow 79 = .ok (.getfield 214, 3) := z_o180 (z_wat (q := 64) (j := 15) zwX12_signNow_64 rfl) (z_wat (q := 64) (j := 16) zwX12_signNow_64 rfl) (z_wat (q := 64) (j := 17) zwX12_signNow_64 rfl) rfl
theorem dX12_signNow_82 : decode cX12_signNow 82 = .ok (.bipush 45, 2) := z_o16 (z_wat (q := 64) (j := 18) zwX12_signNow_64 rfl) (z_wat (q := 64) (j := 19) zwX12_signNow_64 rfl) rfl
theorem dX12_signNow_84 : decode cX12_signNow 84 = .ok (.if_icmp .ne 8, 3) := z_o160 (z_wat (q := 64) (j := 20) zwX12_signNow_64 rfl) (z_wat (q := 64) (j := 21) zwX12_signNow_64 rfl) (z_wat (q := 64) (j := 22) zwX12_signNow_64 rfl) rfl
theorem dX12_signNow_87 : decode cX12_signNow 87 = .ok (.bipush 8, 2) := z_o16 (z_wat (q := 64) (j := 23) zwX12_signNow_64 rfl) (z_wat (q := 64) (j := 24) zwX12_signNow_64 rfl) rfl
theorem dX12_signNow_89 : decode cX12_signNow 89 = .ok (.goto 32, 3) := z_o167 (z_wat (q := 64) (j := 25) zwX12_signNow_64 rfl) (z_wat (q := 64) (j := 26) zwX12_signNow_64 rfl) (z_wat (q := 64) (j := 27) zwX12_signNow_64 rfl) rfl
theorem dX12_signNow_92 : decode cX12_signNow 92 = .ok (.aload_n 0, 1) := z_o42 (z_wat (q := 64) (j := 28) zwX12_signNow_64 rfl)
theorem dX12_signNow_93 : decode cX12_signNow 93 = .ok (.getfield 214, 3) := z_o180 (z_wat (q := 64) (j := 29) zwX12_signNow_64 rfl) (z_wat (q := 64) (j := 30) zwX12_signNow_64 rfl) (z_wat (q := 64) (j := 31) zwX12_signNow_64 rfl) rfl
theorem zwX12_signNow_96 : ((cX12_signNow.data.toList.drop 96).take 26).map UInt8.toNat = [16, 42, 160, 0, 8, 16, 9, 167, 0, 18, 42, 180, 0, 214, 16, 47, 160, 0, 8, 16, 10, 167, 0, 4, 2, 172] := by decide +kernel
theorem dX12_signNow_96 : decode cX12_signNow 96 = .ok (.bipush 42, 2) := z_o16 (z_wat (q := 96) (j := 0) zwX12_signNow_96 rfl) (z_wat (q := 96) (j := 1) zwX12_signNow_96 rfl) rfl
theorem dX12_signNow_98 : decode cX12_signNow 98 = .ok (.if_icmp .ne 8, 3) := z_o160 (z_wat (q := 96) (j := 2) zwX12_signNow_96 rfl) (z_wat (q := 96) (j := 3) zwX12_signNow_96 rfl) (z_wat (q := 96) (j := 4) zwX12_signNow_96 rfl) rfl
theorem dX12_signNow_101 : decode cX12_signNow 101 = .ok (.bipush 9, 2) := z_o16 (z_wat (q := 96) (j := 5) zwX12_signNow_96 rfl) (z_wat (q := 96) (j := 6) zwX12_signNow_96 rfl) rfl
theorem dX12_signNow_103 : decode cX12_signNow 103 = .ok (.goto 18, 3) := z_o167 (z_wat (q := 96) (j := 7) zwX12_signNow_96 rfl) (z_wat (q := 96) (j := 8) zwX12_signNow_96 rfl) (z_wat (q := 96) (j := 9) zwX12_signNow_96 rfl) rfl
theorem dX12_signNow_106 : decode cX12_signNow 106 = .ok (.aload_n 0, 1) := z_o42 (z_wat (q := 96) (j := 10) zwX12_signNow_96 rfl)
theorem dX12_signNow_107 : decode cX12_signNow 107 = .ok (.getfield 214, 3) := z_o180 (z_wat (q := 96) (j := 11) zwX12_signNow_96 rfl) (z_wat (q := 96) (j := 12) zwX12_signNow_96 rfl) (z_wat (q := 96) (j := 13) zwX12_signNow_96 rfl) rfl
theorem dX12_signNow_110 : decode cX12_signNow 110 = .ok (.bipush 47, 2) := z_o16 (z_wat (q := 96) (j := 14) zwX12_signNow_96 rfl) (z_wat (q := 96) (j := 15) zwX12_signNow_96 rfl) rfl
theorem dX12_signNow_112 : decode cX12_signNow 112 = .ok (.if_icmp .ne 8, 3) := z_o160 (z_wat (q := 96) (j := 16) zwX12_signNow_96 rfl) (z_wat (q := 96) (j := 17) zwX12_signNow_96 rfl) (z_wat (q := 96) (j := 18) zwX12_signNow_96 rfl) rfl
theorem dX12_signNow_115 : decode cX12_signNow 115 = .ok (.bipush 10, 2) := z_o16 (z_wat (q := 96) (j := 19) zwX12_signNow_96 rfl) (z_wat (q := 96) (j := 20) zwX12_signNow_96 rfl) rfl
theorem dX12_signNow_117 : decode cX12_signNow 117 = .ok (.goto 4, 3) := z_o167 (z_wat (q := 96) (j := 21) zwX12_signNow_96 rfl) (z_wat (q := 96) (j := 22) zwX12_signNow_96 rfl) (z_wat (q := 96) (j := 23) zwX12_signNow_96 rfl) rfl
theorem dX12_signNow_120 : decode cX12_signNow 120 = .ok (.iconst (-1), 1) := z_o2 (z_wat (q := 96) (j := 24) zwX12_signNow_96 rfl)
theorem dX12_signNow_121 : decode cX12_signNow 121 = .ok (.ireturn, 1) := z_o172 (z_wat (q := 96) (j := 25) zwX12_signNow_96 rfl)
theorem zwX12_valueRead_0 : ((cX12_valueRead.data.toList.drop 0).take 34).map UInt8.toNat = [42, 16, 40, 182, 0, 243, 153, 0, 65, 42, 180, 1, 86, 16, 8, 160, 0, 9, 42, 5, 182, 0, 240, 172, 42, 180, 0, 138, 42, 180, 1, 86, 42, 180] := by decide +kernel
theorem dX12_valueRead_0 : decode cX12_valueRead 0 = .ok (.aload_n 0, 1) := z_o42 (z_wat (q := 0) (j := 0) zwX12_valueRead_0 rfl)
theorem dX12_valueRead_1 : decode cX12_valueRead 1 = .ok (.bipush 40, 2) := z_o16 (z_wat (q := 0) (j := 1) zwX12_valueRead_0 rfl) (z_wat (q := 0) (j := 2) zwX12_valueRead_0 rfl) rfl
theorem dX12_valueRead_3 : decode cX12_valueRead 3 = .ok (.invokevirtual 243, 3) := z_o182 (z_wat (q := 0) (j := 3) zwX12_valueRead_0 rfl) (z_wat (q := 0) (j := 4) zwX12_valueRead_0 rfl) (z_wat (q := 0) (j := 5) zwX12_valueRead_0 rfl) rfl
theorem dX12_valueRead_6 : decode cX12_valueRead 6 = .ok (.ifCond .eq 65, 3) := z_o153 (z_wat (q := 0) (j := 6) zwX12_valueRead_0 rfl) (z_wat (q := 0) (j := 7) zwX12_valueRead_0 rfl) (z_wat (q := 0) (j := 8) zwX12_valueRead_0 rfl) rfl
theorem dX12_valueRead_9 : decode cX12_valueRead 9 = .ok (.aload_n 0, 1) := z_o42 (z_wat (q := 0) (j := 9) zwX12_valueRead_0 rfl)
theorem dX12_valueRead_10 : decode cX12_valueRead 10 = .ok (.getfield 342, 3) := z_o180 (z_wat (q := 0) (j := 10) zwX12_valueRead_0 rfl) (z_wat (q := 0) (j := 11) zwX12_valueRead_0 rfl) (z_wat (q := 0) (j := 12) zwX12_valueRead_0 rfl) rfl
theorem dX12_valueRead_13 : decode cX12_valueRead 13 = .ok (.bipush 8, 2) := z_o16 (z_wat (q := 0) (j := 13) zwX12_valueRead_0 rfl) (z_wat (q := 0) (j := 14) zwX12_valueRead_0 rfl) rfl
theorem dX12_valueRead_15 : decode cX12_valueRead 15 = .ok (.if_icmp .ne 9, 3) := z_o160 (z_wat (q := 0) (j := 15) zwX12_valueRead_0 rfl) (z_wat (q := 0) (j := 16) zwX12_valueRead_0 rfl) (z_wat (q := 0) (j := 17) zwX12_valueRead_0 rfl) rfl
theorem dX12_valueRead_18 : decode cX12_valueRead 18 = .ok (.aload_n 0, 1) := z_o42 (z_wat (q := 0) (j := 18) zwX12_valueRead_0 rfl)
theorem dX12_valueRead_19 : decode cX12_valueRead 19 = .ok (.iconst 2, 1) := z_o5 (z_wat (q := 0) (j := 19) zwX12_valueRead_0 rfl)
theorem dX12_valueRead_20 : decode cX12_valueRead 20 = .ok (.invokevirtual 240, 3) := z_o182 (z_wat (q := 0) (j := 20) zwX12_valueRead_0 rfl) (z_wat (q := 0) (j := 21) zwX12_valueRead_0 rfl) (z_wat (q := 0) (j := 22) zwX12_valueRead_0 rfl) rfl
theorem dX12_valueRead_23 : decode cX12_valueRead 23 = .ok (.ireturn, 1) := z_o172 (z_wat (q := 0) (j := 23) zwX12_valueRead_0 rfl)
theorem dX12_valueRead_24 : decode cX12_valueRead 24 = .ok (.aload_n 0, 1) := z_o42 (z_wat (q := 0) (j := 24) zwX12_valueRead_0 rfl)
theorem dX12_valueRead_25 : decode cX12_valueRead 25 = .ok (.getfield 138, 3) := z_o180 (z_wat (q := 0) (j := 25) zwX12_valueRead_0 rfl) (z_wat (q := 0) (j := 26) zwX12_valueRead_0 rfl) (z_wat (q := 0) (j := 27) zwX12_valueRead_0 rfl) rfl
theorem dX12_valueRead_28 : decode cX12_valueRead 28 = .ok (.aload_n 0, 1) := z_o42 (z_wat (q := 0) (j := 28) zwX12_valueRead_0 rfl)
theorem dX12_valueRead_29 : decode cX12_valueRead 29 = .ok (.getfield 342, 3) := z_o180 (z_wat (q := 0) (j := 29) zwX12_valueRead_0 rfl) (z_wat (q := 0) (j := 30) zwX12_valueRead_0 rfl) (z_wat (q := 0) (j := 31) zwX12_valueRead_0 rfl) rfl
theorem zwX12_valueRead_32 : ((cX12_valueRead.data.toList.drop 32).take 34).map UInt8.toNat = [42, 180, 1, 89, 84, 42, 89, 180, 1, 86, 4, 96, 181, 1, 86, 42, 16, 100, 2, 182, 1, 93, 42, 3, 181, 1, 89, 42, 4, 181, 1, 97, 42, 3] := by decide +kernel
theorem dX12_valueRead_32 : decode cX12_valueRead 32 = .ok (.aload_n 0, 1) := z_o42 (z_wat (q := 32) (j := 0) zwX12_valueRead_32 rfl)
theorem dX12_valueRead_33 : decode cX12_valueRead 33 = .ok (.getfield 345, 3) := z_o180 (z_wat (q := 32) (j := 1) zwX12_valueRead_32 rfl) (z_wat (q := 32) (j := 2) zwX12_valueRead_32 rfl) (z_wat (q := 32) (j := 3) zwX12_valueRead_32 rfl) rfl
theorem dX12_valueRead_36 : decode cX12_valueRead 36 = .ok (.bastore, 1) := z_o84 (z_wat (q := 32) (j := 4) zwX12_valueRead_32 rfl)
theorem dX12_valueRead_37 : decode cX12_valueRead 37 = .ok (.aload_n 0, 1) := z_o42 (z_wat (q := 32) (j := 5) zwX12_valueRead_32 rfl)
theorem dX12_valueRead_38 : decode cX12_valueRead 38 = .ok (.dup, 1) := z_o89 (z_wat (q := 32) (j := 6) zwX12_valueRead_32 rfl)
theorem dX12_valueRead_39 : decode cX12_valueRead 39 = .ok (.getfield 342, 3) := z_o180 (z_wat (q := 32) (j := 7) zwX12_valueRead_32 rfl) (z_wat (q := 32) (j := 8) zwX12_valueRead_32 rfl) (z_wat (q := 32) (j := 9) zwX12_valueRead_32 rfl) rfl
theorem dX12_valueRead_42 : decode cX12_valueRead 42 = .ok (.iconst 1, 1) := z_o4 (z_wat (q := 32) (j := 10) zwX12_valueRead_32 rfl)
theorem dX12_valueRead_43 : decode cX12_valueRead 43 = .ok (.iadd, 1) := z_o96 (z_wat (q := 32) (j := 11) zwX12_valueRead_32 rfl)
theorem dX12_valueRead_44 : decode cX12_valueRead 44 = .ok (.putfield 342, 3) := z_o181 (z_wat (q := 32) (j := 12) zwX12_valueRead_32 rfl) (z_wat (q := 32) (j := 13) zwX12_valueRead_32 rfl) (z_wat (q := 32) (j := 14) zwX12_valueRead_32 rfl) rfl
theorem dX12_valueRead_47 : decode cX12_valueRead 47 = .ok (.aload_n 0, 1) := z_o42 (z_wat (q := 32) (j := 15) zwX12_valueRead_32 rfl)
theorem dX12_valueRead_48 : decode cX12_valueRead 48 = .ok (.bipush 100, 2) := z_o16 (z_wat (q := 32) (j := 16) zwX12_valueRead_32 rfl) (z_wat (q := 32) (j := 17) zwX12_valueRead_32 rfl) rfl
theorem dX12_valueRead_50 : decode cX12_valueRead 50 = .ok (.iconst (-1), 1) := z_o2 (z_wat (q := 32) (j := 18) zwX12_valueRead_32 rfl)
theorem dX12_valueRead_51 : decode cX12_valueRead 51 = .ok (.invokevirtual 349, 3) := z_o182 (z_wat (q := 32) (j := 19) zwX12_valueRead_32 rfl) (z_wat (q := 32) (j := 20) zwX12_valueRead_32 rfl) (z_wat (q := 32) (j := 21) zwX12_valueRead_32 rfl) rfl
theorem dX12_valueRead_54 : decode cX12_valueRead 54 = .ok (.aload_n 0, 1) := z_o42 (z_wat (q := 32) (j := 22) zwX12_valueRead_32 rfl)
theorem dX12_valueRead_55 : decode cX12_valueRead 55 = .ok (.iconst 0, 1) := z_o3 (z_wat (q := 32) (j := 23) zwX12_valueRead_32 rfl)
theorem dX12_valueRead_56 : decode cX12_valueRead 56 = .ok (.putfield 345, 3) := z_o181 (z_wat (q := 32) (j := 24) zwX12_valueRead_32 rfl) (z_wat (q := 32) (j := 25) zwX12_valueRead_32 rfl) (z_wat (q := 32) (j := 26) zwX12_valueRead_32 rfl) rfl
theorem dX12_valueRead_59 : decode cX12_valueRead 59 = .ok (.aload_n 0, 1) := z_o42 (z_wat (q := 32) (j := 27) zwX12_valueRead_32 rfl)
theorem dX12_valueRead_60 : decode cX12_valueRead 60 = .ok (.iconst 1, 1) := z_o4 (z_wat (q := 32) (j := 28) zwX12_valueRead_32 rfl)
theorem dX12_valueRead_61 : decode cX12_valueRead 61 = .ok (.putfield 353, 3) := z_o181 (z_wat (q := 32) (j := 29) zwX12_valueRead_32 rfl) (z_wat (q := 32) (j := 30) zwX12_valueRead_32 rfl) (z_wat (q := 32) (j := 31) zwX12_valueRead_32 rfl) rfl
theorem zwX12_valueRead_64 : ((cX12_valueRead.data.toList.drop 64).take 34).map UInt8.toNat = [42, 3, 182, 0, 236, 4, 172, 42, 180, 0, 221, 4, 160, 0, 47, 42, 180, 0, 214, 16, 9, 160, 0, 38, 42, 180, 1, 97, 153, 0, 31, 42, 16, 11] := by decide +kernel
theorem dX12_valueRead_64 : decode cX12_valueRead 64 = .ok (.aload_n 0, 1) := z_o42 (z_wat (q := 64) (j := 0) zwX12_valueRead_64 rfl)
theorem dX12_valueRead_65 : decode cX12_valueRead 65 = .ok (.iconst 0, 1) := z_o3 (z_wat (q := 64) (j := 1) zwX12_valueRead_64 rfl)
theorem dX12_valueRead_66 : decode cX12_valueRead 66 = .ok (.invokevirtual 236, 3) := z_o182 (z_wat (q := 64) (j := 2) zwX12_valueRead_64 rfl) (z_wat (q := 64) (j := 3) zwX12_valueRead_64 rfl) (z_wat (q := 64) (j := 4) zwX12_valueRead_64 rfl) rfl
theorem dX12_valueRead_69 : decode cX12_valueRead 69 = .ok (.iconst 1, 1) := z_o4 (z_wat (q := 64) (j := 5) zwX12_valueRead_64 rfl)
theorem dX12_valueRead_70 : decode cX12_valueRead 70 = .ok (.ireturn, 1) := z_o172 (z_wat (q := 64) (j := 6) zwX12_valueRead_64 rfl)
theorem dX12_valueRead_71 : decode cX12_valueRead 71 = .ok (.aload_n 0, 1) := z_o42 (z_wat (q := 64) (j := 7) zwX12_valueRead_64 rfl)
theorem dX12_valueRead_72 : decode cX12_valueRead 72 = .ok (.getfield 221, 3) := z_o180 (z_wat (q := 64) (j := 8) zwX12_valueRead_64 rfl) (z_wat (q := 64) (j := 9) zwX12_valueRead_64 rfl) (z_wat (q := 64) (j := 10) zwX12_valueRead_64 rfl) rfl
theorem dX12_valueRead_75 : decode cX12_valueRead 75 = .ok (.iconst 1, 1) := z_o4 (z_wat (q := 64) (j := 11) zwX12_valueRead_64 rfl)
theorem dX12_valueRead_76 : decode cX12_valueRead 76 = .ok (.if_icmp .ne 47, 3) := z_o160 (z_wat (q := 64) (j := 12) zwX12_valueRead_64 rfl) (z_wat (q := 64) (j := 13) zwX12_valueRead_64 rfl) (z_wat (q := 64) (j := 14) zwX12_valueRead_64 rfl) rfl
theorem dX12_valueRead_79 : decode cX12_valueRead 79 = .ok (.aload_n 0, 1) := z_o42 (z_wat (q := 64) (j := 15) zwX12_valueRead_64 rfl)
theorem dX12_valueRead_80 : decode cX12_valueRead 80 = .ok (.getfield 214, 3) := z_o180 (z_wat (q := 64) (j := 16) zwX12_valueRead_64 rfl) (z_wat (q := 64) (j := 17) zwX12_valueRead_64 rfl) (z_wat (q := 64) (j := 18) zwX12_valueRead_64 rfl) rfl
theorem dX12_valueRead_83 : decode cX12_valueRead 83 = .ok (.bipush 9, 2) := z_o16 (z_wat (q := 64) (j := 19) zwX12_valueRead_64 rfl) (z_wat (q := 64) (j := 20) zwX12_valueRead_64 rfl) rfl
theorem dX12_valueRead_85 : decode cX12_valueRead 85 = .ok (.if_icmp .ne 38, 3) := z_o160 (z_wat (q := 64) (j := 21) zwX12_valueRead_64 rfl) (z_wat (q := 64) (j := 22) zwX12_valueRead_64 rfl) (z_wat (q := 64) (j := 23) zwX12_valueRead_64 rfl) rfl
theorem dX12_valueRead_88 : decode cX12_valueRead 88 = .ok (.aload_n 0, 1) := z_o42 (z_wat (q := 64) (j := 24) zwX12_valueRead_64 rfl)
theorem dX12_valueRead_89 : decode cX12_valueRead 89 = .ok (.getfield 353, 3) := z_o180 (z_wat (q := 64) (j := 25) zwX12_valueRead_64 rfl) (z_wat (q := 64) (j := 26) zwX12_valueRead_64 rfl) (z_wat (q := 64) (j := 27) zwX12_valueRead_64 rfl) rfl
theorem dX12_valueRead_92 : decode cX12_valueRead 92 = .ok (.ifCond .eq 31, 3) := z_o153 (z_wat (q := 64) (j := 28) zwX12_valueRead_64 rfl) (z_wat (q := 64) (j := 29) zwX12_valueRead_64 rfl) (z_wat (q := 64) (j := 30) zwX12_valueRead_64 rfl) rfl
theorem dX12_valueRead_95 : decode cX12_valueRead 95 = .ok (.aload_n 0, 1) := z_o42 (z_wat (q := 64) (j := 31) zwX12_valueRead_64 rfl)
theorem zwX12_valueRead_96 : ((cX12_valueRead.data.toList.drop 96).take 34).map UInt8.toNat = [16, 11, 3, 182, 1, 83, 60, 27, 156, 0, 5, 3, 172, 42, 16, 11, 27, 182, 1, 93, 42, 3, 182, 0, 236, 4, 172, 42, 3, 181, 1, 100, 42, 180] := by decide +kernel
theorem dX12_valueRead_96 : decode cX12_valueRead 96 = .ok (.bipush 11, 2) := z_o16 (z_wat (q := 96) (j := 0) zwX12_valueRead_96 rfl) (z_wat (q := 96) (j := 1) zwX12_valueRead_96 rfl) rfl
theorem dX12_valueRead_98 : decode cX12_valueRead 98 = .ok (.iconst 0, 1) := z_o3 (z_wat (q := 96) (j := 2) zwX12_valueRead_96 rfl)
theorem dX12_valueRead_99 : decode cX12_valueRead 99 = .ok (.invokevirtual 339, 3) := z_o182 (z_wat (q := 96) (j := 3) zwX12_valueRead_96 rfl) (z_wat (q := 96) (j := 4) zwX12_valueRead_96 rfl) (z_wat (q := 96) (j := 5) zwX12_valueRead_96 rfl) rfl
theorem dX12_valueRead_102 : decode cX12_valueRead 102 = .ok (.istore_n 1, 1) := z_o60 (z_wat (q := 96) (j := 6) zwX12_valueRead_96 rfl)
theorem dX12_valueRead_103 : decode cX12_valueRead 103 = .ok (.iload_n 1, 1) := z_o27 (z_wat (q := 96) (j := 7) zwX12_valueRead_96 rfl)
theorem dX12_valueRead_104 : decode cX12_valueRead 104 = .ok (.ifCond .ge 5, 3) := z_o156 (z_wat (q := 96) (j := 8) zwX12_valueRead_96 rfl) (z_wat (q := 96) (j := 9) zwX12_valueRead_96 rfl) (z_wat (q := 96) (j := 10) zwX12_valueRead_96 rfl) rfl
theorem dX12_valueRead_107 : decode cX12_valueRead 107 = .ok (.iconst 0, 1) := z_o3 (z_wat (q := 96) (j := 11) zwX12_valueRead_96 rfl)
theorem dX12_valueRead_108 : decode cX12_valueRead 108 = .ok (.ireturn, 1) := z_o172 (z_wat (q := 96) (j := 12) zwX12_valueRead_96 rfl)
theorem dX12_valueRead_109 : decode cX12_valueRead 109 = .ok (.aload_n 0, 1) := z_o42 (z_wat (q := 96) (j := 13) zwX12_valueRead_96 rfl)
theorem dX12_valueRead_110 : decode cX12_valueRead 110 = .ok (.bipush 11, 2) := z_o16 (z_wat (q := 96) (j := 14) zwX12_valueRead_96 rfl) (z_wat (q := 96) (j := 15) zwX12_valueRead_96 rfl) rfl
theorem dX12_valueRead_112 : decode cX12_valueRead 112 = .ok (.iload_n 1, 1) := z_o27 (z_wat (q := 96) (j := 16) zwX12_valueRead_96 rfl)
theorem dX12_valueRead_113 : decode cX12_valueRead 113 = .ok (.invokevirtual 349, 3) := z_o182 (z_wat (q := 96) (j := 17) zwX12_valueRead_96 rfl) (z_wat (q := 96) (j := 18) zwX12_valueRead_96 rfl) (z_wat (q := 96) (j := 19) zwX12_valueRead_96 rfl) rfl
theorem dX12_valueRead_116 : decode cX12_valueRead 116 = .ok (.aload_n 0, 1) := z_o42 (z_wat (q := 96) (j := 20) zwX12_valueRead_96 rfl)
theorem dX12_valueRead_117 : decode cX12_valueRead 117 = .ok (.iconst 0, 1) := z_o3 (z_wat (q := 96) (j := 21) zwX12_valueRead_96 rfl)
theorem dX12_valueRead_118 : decode cX12_valueRead 118 = .ok (.invokevirtual 236, 3) := z_o182 (z_wat (q := 96) (j := 22) zwX12_valueRead_96 rfl) (z_wat (q := 96) (j := 23) zwX12_valueRead_96 rfl) (z_wat (q := 96) (j := 24) zwX12_valueRead_96 rfl) rfl
theorem dX12_valueRead_121 : decode cX12_valueRead 121 = .ok (.iconst 1, 1) := z_o4 (z_wat (q := 96) (j := 25) zwX12_valueRead_96 rfl)
theorem dX12_valueRead_122 : decode cX12_valueRead 122 = .ok (.ireturn, 1) := z_o172 (z_wat (q := 96) (j := 26) zwX12_valueRead_96 rfl)
theorem dX12_valueRead_123 : decode cX12_valueRead 123 = .ok (.aload_n 0, 1) := z_o42 (z_wat (q := 96) (j := 27) zwX12_valueRead_96 rfl)
theorem dX12_valueRead_124 : decode cX12_valueRead 124 = .ok (.iconst 0, 1) := z_o3 (z_wat (q := 96) (j := 28) zwX12_valueRead_96 rfl)
theorem dX12_valueRead_125 : decode cX12_valueRead 125 = .ok (.putfield 356, 3) := z_o181 (z_wat (q := 96) (j := 29) zwX12_valueRead_96 rfl) (z_wat (q := 96) (j := 30) zwX12_valueRead_96 rfl) (z_wat (q := 96) (j := 31) zwX12_valueRead_96 rfl) rfl
theorem zwX12_valueRead_128 : ((cX12_valueRead.data.toList.drop 128).take 34).map UInt8.toNat = [42, 180, 0, 221, 6, 160, 0, 46, 42, 180, 0, 214, 18, 220, 164, 0, 9, 42, 5, 182, 0, 240, 172, 42, 3, 42, 180, 0, 214, 182, 1, 83, 60, 27] := by decide +kernel
theorem dX12_valueRead_128 : decode cX12_valueRead 128 = .ok (.aload_n 0, 1) := z_o42 (z_wat (q := 128) (j := 0) zwX12_valueRead_128 rfl)
theorem dX12_valueRead_129 : decode cX12_valueRead 129 = .ok (.getfield 221, 3) := z_o180 (z_wat (q := 128) (j := 1) zwX12_valueRead_128 rfl) (z_wat (q := 128) (j := 2) zwX12_valueRead_128 rfl) (z_wat (q := 128) (j := 3) zwX12_valueRead_128 rfl) rfl
theorem dX12_valueRead_132 : decode cX12_valueRead 132 = .ok (.iconst 3, 1) := z_o6 (z_wat (q := 128) (j := 4) zwX12_valueRead_128 rfl)
theorem dX12_valueRead_133 : decode cX12_valueRead 133 = .ok (.if_icmp .ne 46, 3) := z_o160 (z_wat (q := 128) (j := 5) zwX12_valueRead_128 rfl) (z_wat (q := 128) (j := 6) zwX12_valueRead_128 rfl) (z_wat (q := 128) (j := 7) zwX12_valueRead_128 rfl) rfl
theorem dX12_valueRead_136 : decode cX12_valueRead 136 = .ok (.aload_n 0, 1) := z_o42 (z_wat (q := 128) (j := 8) zwX12_valueRead_128 rfl)
theorem dX12_valueRead_137 : decode cX12_valueRead 137 = .ok (.getfield 214, 3) := z_o180 (z_wat (q := 128) (j := 9) zwX12_valueRead_128 rfl) (z_wat (q := 128) (j := 10) zwX12_valueRead_128 rfl) (z_wat (q := 128) (j := 11) zwX12_valueRead_128 rfl) rfl
theorem dX12_valueRead_140 : decode cX12_valueRead 140 = .ok (.ldc 220, 2) := z_o18 (z_wat (q := 128) (j := 12) zwX12_valueRead_128 rfl) (z_wat (q := 128) (j := 13) zwX12_valueRead_128 rfl)
theorem dX12_valueRead_142 : decode cX12_valueRead 142 = .ok (.if_icmp .le 9, 3) := z_o164 (z_wat (q := 128) (j := 14) zwX12_valueRead_128 rfl) (z_wat (q := 128) (j := 15) zwX12_valueRead_128 rfl) (z_wat (q := 128) (j := 16) zwX12_valueRead_128 rfl) rfl
theorem dX12_valueRead_145 : decode cX12_valueRead 145 = .ok (.aload_n 0, 1) := z_o42 (z_wat (q := 128) (j := 17) zwX12_valueRead_128 rfl)
theorem dX12_valueRead_146 : decode cX12_valueRead 146 = .ok (.iconst 2, 1) := z_o5 (z_wat (q := 128) (j := 18) zwX12_valueRead_128 rfl)
theorem dX12_valueRead_147 : decode cX12_valueRead 147 = .ok (.invokevirtual 240, 3) := z_o182 (z_wat (q := 128) (j := 19) zwX12_valueRead_128 rfl) (z_wat (q := 128) (j := 20) zwX12_valueRead_128 rfl) (z_wat (q := 128) (j := 21) zwX12_valueRead_128 rfl) rfl
theorem dX12_valueRead_150 : decode cX12_valueRead 150 = .ok (.ireturn, 1) := z_o172 (z_wat (q := 128) (j := 22) zwX12_valueRead_128 rfl)
theorem dX12_valueRead_151 : decode cX12_valueRead 151 = .ok (.aload_n 0, 1) := z_o42 (z_wat (q := 128) (j := 23) zwX12_valueRead_128 rfl)
theorem dX12_valueRead_152 : decode cX12_valueRead 152 = .ok (.iconst 0, 1) := z_o3 (z_wat (q := 128) (j := 24) zwX12_valueRead_128 rfl)
theorem dX12_valueRead_153 : decode cX12_valueRead 153 = .ok (.aload_n 0, 1) := z_o42 (z_wat (q := 128) (j := 25) zwX12_valueRead_128 rfl)
theorem dX12_valueRead_154 : decode cX12_valueRead 154 = .ok (.getfield 214, 3) := z_o180 (z_wat (q := 128) (j := 26) zwX12_valueRead_128 rfl) (z_wat (q := 128) (j := 27) zwX12_valueRead_128 rfl) (z_wat (q := 128) (j := 28) zwX12_valueRead_128 rfl) rfl
theorem dX12_valueRead_157 : decode cX12_valueRead 157 = .ok (.invokevirtual 339, 3) := z_o182 (z_wat (q := 128) (j := 29) zwX12_valueRead_128 rfl) (z_wat (q := 128) (j := 30) zwX12_valueRead_128 rfl) (z_wat (q := 128) (j := 31) zwX12_valueRead_128 rfl) rfl
theorem zwX12_valueRead_160 : ((cX12_valueRead.data.toList.drop 160).take 34).map UInt8.toNat = [60, 27, 156, 0, 5, 3, 172, 42, 3, 182, 0, 236, 42, 27, 182, 1, 80, 4, 172, 42, 180, 0, 221, 4, 160, 0, 58, 42, 180, 0, 214, 16, 10, 160] := by decide +kernel
theorem dX12_valueRead_160 : decode cX12_valueRead 160 = .ok (.istore_n 1, 1) := z_o60 (z_wat (q := 160) (j := 0) zwX12_valueRead_160 rfl)
theorem dX12_valueRead_161 : decode cX12_valueRead 161 = .ok (.iload_n 1, 1) := z_o27 (z_wat (q := 160) (j := 1) zwX12_valueRead_160 rfl)
theorem dX12_valueRead_162 : decode cX12_valueRead 162 = .ok (.ifCond .ge 5, 3) := z_o156 (z_wat (q := 160) (j := 2) zwX12_valueRead_160 rfl) (z_wat (q := 160) (j := 3) zwX12_valueRead_160 rfl) (z_wat (q := 160) (j := 4) zwX12_valueRead_160 rfl) rfl
theorem dX12_valueRead_165 : decode cX12_valueRead 165 = .ok (.iconst 0, 1) := z_o3 (z_wat (q := 160) (j := 5) zwX12_valueRead_160 rfl)
theorem dX12_valueRead_166 : decode cX12_valueRead 166 = .ok (.ireturn, 1) := z_o172 (z_wat (q := 160) (j := 6) zwX12_valueRead_160 rfl)
theorem dX12_valueRead_167 : decode cX12_valueRead 167 = .ok (.aload_n 0, 1) := z_o42 (z_wat (q := 160) (j := 7) zwX12_valueRead_160 rfl)
theorem dX12_valueRead_168 : decode cX12_valueRead 168 = .ok (.iconst 0, 1) := z_o3 (z_wat (q := 160) (j := 8) zwX12_valueRead_160 rfl)
theorem dX12_valueRead_169 : decode cX12_valueRead 169 = .ok (.invokevirtual 236, 3) := z_o182 (z_wat (q := 160) (j := 9) zwX12_valueRead_160 rfl) (z_wat (q := 160) (j := 10) zwX12_valueRead_160 rfl) (z_wat (q := 160) (j := 11) zwX12_valueRead_160 rfl) rfl
theorem dX12_valueRead_172 : decode cX12_valueRead 172 = .ok (.aload_n 0, 1) := z_o42 (z_wat (q := 160) (j := 12) zwX12_valueRead_160 rfl)
theorem dX12_valueRead_173 : decode cX12_valueRead 173 = .ok (.iload_n 1, 1) := z_o27 (z_wat (q := 160) (j := 13) zwX12_valueRead_160 rfl)
theorem dX12_valueRead_174 : decode cX12_valueRead 174 = .ok (.invokevirtual 336, 3) := z_o182 (z_wat (q := 160) (j := 14) zwX12_valueRead_160 rfl) (z_wat (q := 160) (j := 15) zwX12_valueRead_160 rfl) (z_wat (q := 160) (j := 16) zwX12_valueRead_160 rfl) rfl
theorem dX12_valueRead_177 : decode cX12_valueRead 177 = .ok (.iconst 1, 1) := z_o4 (z_wat (q := 160) (j := 17) zwX12_valueRead_160 rfl)
theorem dX12_valueRead_178 : decode cX12_valueRead 178 = .ok (.ireturn, 1) := z_o172 (z_wat (q := 160) (j := 18) zwX12_valueRead_160 rfl)
theorem dX12_valueRead_179 : decode cX12_valueRead 179 = .ok (.aload_n 0, 1) := z_o42 (z_wat (q := 160) (j := 19) zwX12_valueRead_160 rfl)
theorem dX12_valueRead_180 : decode cX12_valueRead 180 = .ok (.getfield 221, 3) := z_o180 (z_wat (q := 160) (j := 20) zwX12_valueRead_160 rfl) (z_wat (q := 160) (j := 21) zwX12_valueRead_160 rfl) (z_wat (q := 160) (j := 22) zwX12_valueRead_160 rfl) rfl
theorem dX12_valueRead_183 : decode cX12_valueRead 183 = .ok (.iconst 1, 1) := z_o4 (z_wat (q := 160) (j := 23) zwX12_valueRead_160 rfl)
theorem dX12_valueRead_184 : decode cX12_valueRead 184 = .ok (.if_icmp .ne 58, 3) := z_o160 (z_wat (q := 160) (j := 24) zwX12_valueRead_160 rfl) (z_wat (q := 160) (j := 25) zwX12_valueRead_160 rfl) (z_wat (q := 160) (j := 26) zwX12_valueRead_160 rfl) rfl
theorem dX12_valueRead_187 : decode cX12_valueRead 187 = .ok (.aload_n 0, 1) := z_o42 (z_wat (q := 160) (j := 27) zwX12_valueRead_160 rfl)
theorem dX12_valueRead_188 : decode cX12_valueRead 188 = .ok (.getfield 214, 3) := z_o180 (z_wat (q := 160) (j := 28) zwX12_valueRead_160 rfl) (z_wat (q := 160) (j := 29) zwX12_valueRead_160 rfl) (z_wat (q := 160) (j := 30) zwX12_valueRead_160 rfl) rfl
theorem dX12_valueRead_191 : decode cX12_valueRead 191 = .ok (.bipush 10, 2) := z_o16 (z_wat (q := 160) (j := 31) zwX12_valueRead_160 rfl) (z_wat (q := 160) (j := 32) zwX12_valueRead_160 rfl) rfl
theorem zwX12_valueRead_192 : ((cX12_valueRead.data.toList.drop 192).take 34).map UInt8.toNat = [10, 160, 0, 49, 42, 16, 14, 3, 182, 1, 83, 60, 27, 156, 0, 5, 3, 172, 42, 3, 182, 0, 236, 42, 4, 182, 1, 103, 154, 0, 5, 3, 172, 42] := by decide +kernel
theorem dX12_valueRead_193 : decode cX12_valueRead 193 = .ok (.if_icmp .ne 49, 3) := z_o160 (z_wat (q := 192) (j := 1) zwX12_valueRead_192 rfl) (z_wat (q := 192) (j := 2) zwX12_valueRead_192 rfl) (z_wat (q := 192) (j := 3) zwX12_valueRead_192 rfl) rfl
theorem dX12_valueRead_196 : decode cX12_valueRead 196 = .ok (.aload_n 0, 1) := z_o42 (z_wat (q := 192) (j := 4) zwX12_valueRead_192 rfl)
theorem dX12_valueRead_197 : decode cX12_valueRead 197 = .ok (.bipush 14, 2) := z_o16 (z_wat (q := 192) (j := 5) zwX12_valueRead_192 rfl) (z_wat (q := 192) (j := 6) zwX12_valueRead_192 rfl) rfl
theorem dX12_valueRead_199 : decode cX12_valueRead 199 = .ok (.iconst 0, 1) := z_o3 (z_wat (q := 192) (j := 7) zwX12_valueRead_192 rfl)
theorem dX12_valueRead_200 : decode cX12_valueRead 200 = .ok (.invokevirtual 339, 3) := z_o182 (z_wat (q := 192) (j := 8) zwX12_valueRead_192 rfl) (z_wat (q := 192) (j := 9) zwX12_valueRead_192 rfl) (z_wat (q := 192) (j := 10) zwX12_valueRead_192 rfl) rfl
theorem dX12_valueRead_203 : decode cX12_valueRead 203 = .ok (.istore_n 1, 1) := z_o60 (z_wat (q := 192) (j := 11) zwX12_valueRead_192 rfl)
theorem dX12_valueRead_204 : decode cX12_valueRead 204 = .ok (.iload_n 1, 1) := z_o27 (z_wat (q := 192) (j := 12) zwX12_valueRead_192 rfl)
theorem dX12_valueRead_205 : decode cX12_valueRead 205 = .ok (.ifCond .ge 5, 3) := z_o156 (z_wat (q := 192) (j := 13) zwX12_valueRead_192 rfl) (z_wat (q := 192) (j := 14) zwX12_valueRead_192 rfl) (z_wat (q := 192) (j := 15) zwX12_valueRead_192 rfl) rfl
theorem dX12_valueRead_208 : decode cX12_valueRead 208 = .ok (.iconst 0, 1) := z_o3 (z_wat (q := 192) (j := 16) zwX12_valueRead_192 rfl)
theorem dX12_valueRead_209 : decode cX12_valueRead 209 = .ok (.ireturn, 1) := z_o172 (z_wat (q := 192) (j := 17) zwX12_valueRead_192 rfl)
theorem dX12_valueRead_210 : decode cX12_valueRead 210 = .ok (.aload_n 0, 1) := z_o42 (z_wat (q := 192) (j := 18) zwX12_valueRead_192 rfl)
theorem dX12_valueRead_211 : decode cX12_valueRead 211 = .ok (.iconst 0, 1) := z_o3 (z_wat (q := 192) (j := 19) zwX12_valueRead_192 rfl)
theorem dX12_valueRead_212 : decode cX12_valueRead 212 = .ok (.invokevirtual 236, 3) := z_o182 (z_wat (q := 192) (j := 20) zwX12_valueRead_192 rfl) (z_wat (q := 192) (j := 21) zwX12_valueRead_192 rfl) (z_wat (q := 192) (j := 22) zwX12_valueRead_192 rfl) rfl
theorem dX12_valueRead_215 : decode cX12_valueRead 215 = .ok (.aload_n 0, 1) := z_o42 (z_wat (q := 192) (j := 23) zwX12_valueRead_192 rfl)
theorem dX12_valueRead_216 : decode cX12_valueRead 216 = .ok (.iconst 1, 1) := z_o4 (z_wat (q := 192) (j := 24) zwX12_valueRead_192 rfl)
theorem dX12_valueRead_217 : decode cX12_valueRead 217 = .ok (.invokevirtual 359, 3) := z_o182 (z_wat (q := 192) (j := 25) zwX12_valueRead_192 rfl) (z_wat (q := 192) (j := 26) zwX12_valueRead_192 rfl) (z_wat (q := 192) (j := 27) zwX12_valueRead_192 rfl) rfl
theorem dX12_valueRead_220 : decode cX12_valueRead 220 = .ok (.ifCond .ne 5, 3) := z_o154 (z_wat (q := 192) (j := 28) zwX12_valueRead_192 rfl) (z_wat (q := 192) (j := 29) zwX12_valueRead_192 rfl) (z_wat (q := 192) (j := 30) zwX12_valueRead_192 rfl) rfl
theorem dX12_valueRead_223 : decode cX12_valueRead 223 = .ok (.iconst 0, 1) := z_o3 (z_wat (q := 192) (j := 31) zwX12_valueRead_192 rfl)
theorem zwX12_valueRead_224 : ((cX12_valueRead.data.toList.drop 224).take 24).map UInt8.toNat = [172, 42, 180, 0, 114, 27, 42, 182, 1, 76, 79, 42, 27, 182, 1, 80, 4, 172, 42, 3, 182, 1, 103, 172] := by decide +kernel
theorem dX12_valueRead_224 : decode cX12_valueRead 224 = .ok (.ireturn, 1) := z_o172 (z_wat (q := 224) (j := 0) zwX12_valueRead_224 rfl)
theorem dX12_valueRead_225 : decode cX12_valueRead 225 = .ok (.aload_n 0, 1) := z_o42 (z_wat (q := 224) (j := 1) zwX12_valueRead_224 rfl)
theorem dX12_valueRead_226 : decode cX12_valueRead 226 = .ok (.getfield 114, 3) := z_o180 (z_wat (q := 224) (j := 2) zwX12_valueRead_224 rfl) (z_wat (q := 224) (j := 3) zwX12_valueRead_224 rfl) (z_wat (q := 224) (j := 4) zwX12_valueRead_224 rfl) rfl
theorem dX12_valueRead_229 : decode cX12_valueRead 229 = .ok (.iload_n 1, 1) := z_o27 (z_wat (q := 224) (j := 5) zwX12_valueRead_224 rfl)
theorem dX12_valueRead_230 : decode cX12_valueRead 230 = .ok (.aload_n 0, 1) := z_o42 (z_wat (q := 224) (j := 6) zwX12_valueRead_224 rfl)
theorem dX12_valueRead_231 : decode cX12_valueRead 231 = .ok (.invokevirtual 332, 3) := z_o182 (z_wat (q := 224) (j := 7) zwX12_valueRead_224 rfl) (z_wat (q := 224) (j := 8) zwX12_valueRead_224 rfl) (z_wat (q := 224) (j := 9) zwX12_valueRead_224 rfl) rfl
theorem dX12_valueRead_234 : decode cX12_valueRead 234 = .ok (.iastore, 1) := z_o79 (z_wat (q := 224) (j := 10) zwX12_valueRead_224 rfl)
theorem dX12_valueRead_235 : decode cX12_valueRead 235 = .ok (.aload_n 0, 1) := z_o42 (z_wat (q := 224) (j := 11) zwX12_valueRead_224 rfl)
theorem dX12_valueRead_236 : decode cX12_valueRead 236 = .ok (.iload_n 1, 1) := z_o27 (z_wat (q := 224) (j := 12) zwX12_valueRead_224 rfl)
theorem dX12_valueRead_237 : decode cX12_valueRead 237 = .ok (.invokevirtual 336, 3) := z_o182 (z_wat (q := 224) (j := 13) zwX12_valueRead_224 rfl) (z_wat (q := 224) (j := 14) zwX12_valueRead_224 rfl) (z_wat (q := 224) (j := 15) zwX12_valueRead_224 rfl) rfl
theorem dX12_valueRead_240 : decode cX12_valueRead 240 = .ok (.iconst 1, 1) := z_o4 (z_wat (q := 224) (j := 16) zwX12_valueRead_224 rfl)
theorem dX12_valueRead_241 : decode cX12_valueRead 241 = .ok (.ireturn, 1) := z_o172 (z_wat (q := 224) (j := 17) zwX12_valueRead_224 rfl)
theorem dX12_valueRead_242 : decode cX12_valueRead 242 = .ok (.aload_n 0, 1) := z_o42 (z_wat (q := 224) (j := 18) zwX12_valueRead_224 rfl)
theorem dX12_valueRead_243 : decode cX12_valueRead 243 = .ok (.iconst 0, 1) := z_o3 (z_wat (q := 224) (j := 19) zwX12_valueRead_224 rfl)
theorem dX12_valueRead_244 : decode cX12_valueRead 244 = .ok (.invokevirtual 359, 3) := z_o182 (z_wat (q := 224) (j := 20) zwX12_valueRead_224 rfl) (z_wat (q := 224) (j := 21) zwX12_valueRead_224 rfl) (z_wat (q := 224) (j := 22) zwX12_valueRead_224 rfl) rfl
theorem dX12_valueRead_247 : decode cX12_valueRead 247 = .ok (.ireturn, 1) := z_o172 (z_wat (q := 224) (j := 23) zwX12_valueRead_224 rfl)
theorem zwX12_waitFor_0 : ((cX12_waitFor.data.toList.drop 0).take 31).map UInt8.toNat = [42, 180, 0, 129, 42, 180, 1, 70, 27, 79, 42, 180, 0, 132, 42, 180, 1, 70, 28, 79, 42, 89, 180, 1, 70, 4, 96, 181, 1, 70, 177] := by decide +kernel
theorem dX12_waitFor_0 : decode cX12_waitFor 0 = .ok (.aload_n 0, 1) := z_o42 (z_wat (q := 0) (j := 0) zwX12_waitFor_0 rfl)
theorem dX12_waitFor_1 : decode cX12_waitFor 1 = .ok (.getfield 129, 3) := z_o180 (z_wat (q := 0) (j := 1) zwX12_waitFor_0 rfl) (z_wat (q := 0) (j := 2) zwX12_waitFor_0 rfl) (z_wat (q := 0) (j := 3) zwX12_waitFor_0 rfl) rfl
theorem dX12_waitFor_4 : decode cX12_waitFor 4 = .ok (.aload_n 0, 1) := z_o42 (z_wat (q := 0) (j := 4) zwX12_waitFor_0 rfl)
theorem dX12_waitFor_5 : decode cX12_waitFor 5 = .ok (.getfield 326, 3) := z_o180 (z_wat (q := 0) (j := 5) zwX12_waitFor_0 rfl) (z_wat (q := 0) (j := 6) zwX12_waitFor_0 rfl) (z_wat (q := 0) (j := 7) zwX12_waitFor_0 rfl) rfl
theorem dX12_waitFor_8 : decode cX12_waitFor 8 = .ok (.iload_n 1, 1) := z_o27 (z_wat (q := 0) (j := 8) zwX12_waitFor_0 rfl)
theorem dX12_waitFor_9 : decode cX12_waitFor 9 = .ok (.iastore, 1) := z_o79 (z_wat (q := 0) (j := 9) zwX12_waitFor_0 rfl)
theorem dX12_waitFor_10 : decode cX12_waitFor 10 = .ok (.aload_n 0, 1) := z_o42 (z_wat (q := 0) (j := 10) zwX12_waitFor_0 rfl)
theorem dX12_waitFor_11 : decode cX12_waitFor 11 = .ok (.getfield 132, 3) := z_o180 (z_wat (q := 0) (j := 11) zwX12_waitFor_0 rfl) (z_wat (q := 0) (j := 12) zwX12_waitFor_0 rfl) (z_wat (q := 0) (j := 13) zwX12_waitFor_0 rfl) rfl
theorem dX12_waitFor_14 : decode cX12_waitFor 14 = .ok (.aload_n 0, 1) := z_o42 (z_wat (q := 0) (j := 14) zwX12_waitFor_0 rfl)
theorem dX12_waitFor_15 : decode cX12_waitFor 15 = .ok (.getfield 326, 3) := z_o180 (z_wat (q := 0) (j := 15) zwX12_waitFor_0 rfl) (z_wat (q := 0) (j := 16) zwX12_waitFor_0 rfl) (z_wat (q := 0) (j := 17) zwX12_waitFor_0 rfl) rfl
theorem dX12_waitFor_18 : decode cX12_waitFor 18 = .ok (.iload_n 2, 1) := z_o28 (z_wat (q := 0) (j := 18) zwX12_waitFor_0 rfl)
theorem dX12_waitFor_19 : decode cX12_waitFor 19 = .ok (.iastore, 1) := z_o79 (z_wat (q := 0) (j := 19) zwX12_waitFor_0 rfl)
theorem dX12_waitFor_20 : decode cX12_waitFor 20 = .ok (.aload_n 0, 1) := z_o42 (z_wat (q := 0) (j := 20) zwX12_waitFor_0 rfl)
theorem dX12_waitFor_21 : decode cX12_waitFor 21 = .ok (.dup, 1) := z_o89 (z_wat (q := 0) (j := 21) zwX12_waitFor_0 rfl)
theorem dX12_waitFor_22 : decode cX12_waitFor 22 = .ok (.getfield 326, 3) := z_o180 (z_wat (q := 0) (j := 22) zwX12_waitFor_0 rfl) (z_wat (q := 0) (j := 23) zwX12_waitFor_0 rfl) (z_wat (q := 0) (j := 24) zwX12_waitFor_0 rfl) rfl
theorem dX12_waitFor_25 : decode cX12_waitFor 25 = .ok (.iconst 1, 1) := z_o4 (z_wat (q := 0) (j := 25) zwX12_waitFor_0 rfl)
theorem dX12_waitFor_26 : decode cX12_waitFor 26 = .ok (.iadd, 1) := z_o96 (z_wat (q := 0) (j := 26) zwX12_waitFor_0 rfl)
theorem dX12_waitFor_27 : decode cX12_waitFor 27 = .ok (.putfield 326, 3) := z_o181 (z_wat (q := 0) (j := 27) zwX12_waitFor_0 rfl) (z_wat (q := 0) (j := 28) zwX12_waitFor_0 rfl) (z_wat (q := 0) (j := 29) zwX12_waitFor_0 rfl) rfl
theorem dX12_waitFor_30 : decode cX12_waitFor 30 = .ok (.return_, 1) := z_o177 (z_wat (q := 0) (j := 30) zwX12_waitFor_0 rfl)
theorem zwX12_weight_0 : ((cX12_weight.data.toList.drop 0).take 34).map UInt8.toNat = [26, 16, 100, 160, 0, 7, 3, 167, 0, 55, 26, 16, 13, 160, 0, 7, 4, 167, 0, 45, 26, 16, 12, 160, 0, 7, 5, 167, 0, 35, 26, 16, 11, 160] := by decide +kernel
theorem dX12_weight_0 : decode cX12_weight 0 = .ok (.iload_n 0, 1) := z_o26 (z_wat (q := 0) (j := 0) zwX12_weight_0 rfl)
theorem dX12_weight_1 : decode cX12_weight 1 = .ok (.bipush 100, 2) := z_o16 (z_wat (q := 0) (j := 1) zwX12_weight_0 rfl) (z_wat (q := 0) (j := 2) zwX12_weight_0 rfl) rfl
theorem dX12_weight_3 : decode cX12_weight 3 = .ok (.if_icmp .ne 7, 3) := z_o160 (z_wat (q := 0) (j := 3) zwX12_weight_0 rfl) (z_wat (q := 0) (j := 4) zwX12_weight_0 rfl) (z_wat (q := 0) (j := 5) zwX12_weight_0 rfl) rfl
theorem dX12_weight_6 : decode cX12_weight 6 = .ok (.iconst 0, 1) := z_o3 (z_wat (q := 0) (j := 6) zwX12_weight_0 rfl)
theorem dX12_weight_7 : decode cX12_weight 7 = .ok (.goto 55, 3) := z_o167 (z_wat (q := 0) (j := 7) zwX12_weight_0 rfl) (z_wat (q := 0) (j := 8) zwX12_weight_0 rfl) (z_wat (q := 0) (j := 9) zwX12_weight_0 rfl) rfl
theorem dX12_weight_10 : decode cX12_weight 10 = .ok (.iload_n 0, 1) := z_o26 (z_wat (q := 0) (j := 10) zwX12_weight_0 rfl)
theorem dX12_weight_11 : decode cX12_weight 11 = .ok (.bipush 13, 2) := z_o16 (z_wat (q := 0) (j := 11) zwX12_weight_0 rfl) (z_wat (q := 0) (j := 12) zwX12_weight_0 rfl) rfl
theorem dX12_weight_13 : decode cX12_weight 13 = .ok (.if_icmp .ne 7, 3) := z_o160 (z_wat (q := 0) (j := 13) zwX12_weight_0 rfl) (z_wat (q := 0) (j := 14) zwX12_weight_0 rfl) (z_wat (q := 0) (j := 15) zwX12_weight_0 rfl) rfl
theorem dX12_weight_16 : decode cX12_weight 16 = .ok (.iconst 1, 1) := z_o4 (z_wat (q := 0) (j := 16) zwX12_weight_0 rfl)
theorem dX12_weight_17 : decode cX12_weight 17 = .ok (.goto 45, 3) := z_o167 (z_wat (q := 0) (j := 17) zwX12_weight_0 rfl) (z_wat (q := 0) (j := 18) zwX12_weight_0 rfl) (z_wat (q := 0) (j := 19) zwX12_weight_0 rfl) rfl
theorem dX12_weight_20 : decode cX12_weight 20 = .ok (.iload_n 0, 1) := z_o26 (z_wat (q := 0) (j := 20) zwX12_weight_0 rfl)
theorem dX12_weight_21 : decode cX12_weight 21 = .ok (.bipush 12, 2) := z_o16 (z_wat (q := 0) (j := 21) zwX12_weight_0 rfl) (z_wat (q := 0) (j := 22) zwX12_weight_0 rfl) rfl
theorem dX12_weight_23 : decode cX12_weight 23 = .ok (.if_icmp .ne 7, 3) := z_o160 (z_wat (q := 0) (j := 23) zwX12_weight_0 rfl) (z_wat (q := 0) (j := 24) zwX12_weight_0 rfl) (z_wat (q := 0) (j := 25) zwX12_weight_0 rfl) rfl
theorem dX12_weight_26 : decode cX12_weight 26 = .ok (.iconst 2, 1) := z_o5 (z_wat (q := 0) (j := 26) zwX12_weight_0 rfl)
theorem dX12_weight_27 : decode cX12_weight 27 = .ok (.goto 35, 3) := z_o167 (z_wat (q := 0) (j := 27) zwX12_weight_0 rfl) (z_wat (q := 0) (j := 28) zwX12_weight_0 rfl) (z_wat (q := 0) (j := 29) zwX12_weight_0 rfl) rfl
theorem dX12_weight_30 : decode cX12_weight 30 = .ok (.iload_n 0, 1) := z_o26 (z_wat (q := 0) (j := 30) zwX12_weight_0 rfl)
theorem dX12_weight_31 : decode cX12_weight 31 = .ok (.bipush 11, 2) := z_o16 (z_wat (q := 0) (j := 31) zwX12_weight_0 rfl) (z_wat (q := 0) (j := 32) zwX12_weight_0 rfl) rfl
theorem zwX12_weight_32 : ((cX12_weight.data.toList.drop 32).take 31).map UInt8.toNat = [11, 160, 0, 7, 6, 167, 0, 25, 26, 16, 7, 162, 0, 7, 7, 167, 0, 15, 26, 16, 9, 162, 0, 7, 8, 167, 0, 5, 16, 6, 172] := by decide +kernel
theorem dX12_weight_33 : decode cX12_weight 33 = .ok (.if_icmp .ne 7, 3) := z_o160 (z_wat (q := 32) (j := 1) zwX12_weight_32 rfl) (z_wat (q := 32) (j := 2) zwX12_weight_32 rfl) (z_wat (q := 32) (j := 3) zwX12_weight_32 rfl) rfl
theorem dX12_weight_36 : decode cX12_weight 36 = .ok (.iconst 3, 1) := z_o6 (z_wat (q := 32) (j := 4) zwX12_weight_32 rfl)
theorem dX12_weight_37 : decode cX12_weight 37 = .ok (.goto 25, 3) := z_o167 (z_wat (q := 32) (j := 5) zwX12_weight_32 rfl) (z_wat (q := 32) (j := 6) zwX12_weight_32 rfl) (z_wat (q := 32) (j := 7) zwX12_weight_32 rfl) rfl
theorem dX12_weight_40 : decode cX12_weight 40 = .ok (.iload_n 0, 1) := z_o26 (z_wat (q := 32) (j := 8) zwX12_weight_32 rfl)
theorem dX12_weight_41 : decode cX12_weight 41 = .ok (.bipush 7, 2) := z_o16 (z_wat (q := 32) (j := 9) zwX12_weight_32 rfl) (z_wat (q := 32) (j := 10) zwX12_weight_32 rfl) rfl
theorem dX12_weight_43 : decode cX12_weight 43 = .ok (.if_icmp .ge 7, 3) := z_o162 (z_wat (q := 32) (j := 11) zwX12_weight_32 rfl) (z_wat (q := 32) (j := 12) zwX12_weight_32 rfl) (z_wat (q := 32) (j := 13) zwX12_weight_32 rfl) rfl
theorem dX12_weight_46 : decode cX12_weight 46 = .ok (.iconst 4, 1) := z_o7 (z_wat (q := 32) (j := 14) zwX12_weight_32 rfl)
theorem dX12_weight_47 : decode cX12_weight 47 = .ok (.goto 15, 3) := z_o167 (z_wat (q := 32) (j := 15) zwX12_weight_32 rfl) (z_wat (q := 32) (j := 16) zwX12_weight_32 rfl) (z_wat (q := 32) (j := 17) zwX12_weight_32 rfl) rfl
theorem dX12_weight_50 : decode cX12_weight 50 = .ok (.iload_n 0, 1) := z_o26 (z_wat (q := 32) (j := 18) zwX12_weight_32 rfl)
theorem dX12_weight_51 : decode cX12_weight 51 = .ok (.bipush 9, 2) := z_o16 (z_wat (q := 32) (j := 19) zwX12_weight_32 rfl) (z_wat (q := 32) (j := 20) zwX12_weight_32 rfl) rfl
theorem dX12_weight_53 : decode cX12_weight 53 = .ok (.if_icmp .ge 7, 3) := z_o162 (z_wat (q := 32) (j := 21) zwX12_weight_32 rfl) (z_wat (q := 32) (j := 22) zwX12_weight_32 rfl) (z_wat (q := 32) (j := 23) zwX12_weight_32 rfl) rfl
theorem dX12_weight_56 : decode cX12_weight 56 = .ok (.iconst 5, 1) := z_o8 (z_wat (q := 32) (j := 24) zwX12_weight_32 rfl)
theorem dX12_weight_57 : decode cX12_weight 57 = .ok (.goto 5, 3) := z_o167 (z_wat (q := 32) (j := 25) zwX12_weight_32 rfl) (z_wat (q := 32) (j := 26) zwX12_weight_32 rfl) (z_wat (q := 32) (j := 27) zwX12_weight_32 rfl) rfl
theorem dX12_weight_60 : decode cX12_weight 60 = .ok (.bipush 6, 2) := z_o16 (z_wat (q := 32) (j := 28) zwX12_weight_32 rfl) (z_wat (q := 32) (j := 29) zwX12_weight_32 rfl) rfl
theorem dX12_weight_62 : decode cX12_weight 62 = .ok (.ireturn, 1) := z_o172 (z_wat (q := 32) (j := 30) zwX12_weight_32 rfl)
