set_option maxRecDepth 20000 in
theorem z_FIL_in : ∀ w ∈ z_FIL, w ∈ lw_tbl := by decide +kernel
set_option maxRecDepth 20000 in
theorem gw_law_c_L_count_out_134 : GoodIn lw_tbl (va_wsS RL 134 yL_count u_c_L_count_out) := goodIn_app (goodIn_r _ [1159, 1160, 94] (by decide +kernel) (by decide +kernel)) (goodIn_ca (goodIn_r _ [1161, 1162, 1163, 1164, 1165, 95, 1166, 1171, 117] (by decide +kernel) (by decide +kernel)) (goodIn_sub z_FIL_in z_FIL_good))
