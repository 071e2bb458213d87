theorem dL_count_12 : decode cL_count 12 = .ok (.astore_n 3, 1) := by decide +kernel
theorem dL_count_13 : decode cL_count 13 = .ok (.iconst 1, 1) := by decide +kernel
theorem dL_count_14 : decode cL_count 14 = .ok (.ireturn, 1) := by decide +kernel
theorem dX11_count_132 : decode cX11_count 132 = .ok (.new 294, 3) := by decide +kernel
theorem dX11_count_135 : decode cX11_count 135 = .ok (.dup, 1) := by decide +kernel
theorem dX11_count_136 : decode cX11_count 136 = .ok (.ldc_w 296, 3) := by decide +kernel
theorem dX11_count_139 : decode cX11_count 139 = .ok (.invokespecial 298, 3) := by decide +kernel
theorem dX11_count_142 : decode cX11_count 142 = .ok (.athrow, 1) := by decide +kernel
