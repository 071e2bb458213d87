theorem dL_count_12 : decode cL_count 12 = .ok (.astore_n 3, 1) := z_o78 (z_wat (q := 0) (j := 12) zwL_count_0 rfl)
theorem dL_count_13 : decode cL_count 13 = .ok (.iconst 1, 1) := z_o4 (z_wat (q := 0) (j := 13) zwL_count_0 rfl)
theorem dL_count_14 : decode cL_count 14 = .ok (.ireturn, 1) := z_o172 (z_wat (q := 0) (j := 14) zwL_count_0 rfl)
theorem dX11_count_132 : decode cX11_count 132 = .ok (.new 294, 3) := z_o187 (z_wat (q := 128) (j := 4) zwX11_count_128 rfl) (z_wat (q := 128) (j := 5) zwX11_count_128 rfl) (z_wat (q := 128) (j := 6) zwX11_count_128 rfl) rfl
theorem dX11_count_135 : decode cX11_count 135 = .ok (.dup, 1) := z_o89 (z_wat (q := 128) (j := 7) zwX11_count_128 rfl)
theorem dX11_count_136 : decode cX11_count 136 = .ok (.ldc_w 296, 3) := z_o19 (z_wat (q := 128) (j := 8) zwX11_count_128 rfl) (z_wat (q := 128) (j := 9) zwX11_count_128 rfl) (z_wat (q := 128) (j := 10) zwX11_count_128 rfl) rfl
theorem dX11_count_139 : decode cX11_count 139 = .ok (.invokespecial 298, 3) := z_o183 (z_wat (q := 128) (j := 11) zwX11_count_128 rfl) (z_wat (q := 128) (j := 12) zwX11_count_128 rfl) (z_wat (q := 128) (j := 13) zwX11_count_128 rfl) rfl
theorem dX11_count_142 : decode cX11_count 142 = .ok (.athrow, 1) := z_o191 (z_wat (q := 128) (j := 14) zwX11_count_128 rfl)
