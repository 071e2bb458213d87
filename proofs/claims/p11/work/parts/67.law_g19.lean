set_option maxRecDepth 20000 in
theorem z_FIL_in : ∀ w ∈ z_FIL, w ∈ lw_tbl := by decide +kernel
set_option maxRecDepth 20000 in
theorem gw_law_c_L_count_out_134 : GoodIn lw_tbl (va_wsS RL 134 yL_count u_c_L_count_out) := goodIn_app (z_gr3 lw_T_in _ [(5, 105), (5, 106), (1, 0)] rfl (by decide +kernel)) (goodIn_ca (z_gr3 lw_T_in _ [(5, 107), (5, 108), (5, 109), (5, 110), (5, 111), (1, 1), (5, 112), (5, 117), (1, 23)] rfl (by decide +kernel)) (goodIn_sub z_FIL_in z_FIL_good))
