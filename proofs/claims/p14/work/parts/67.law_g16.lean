set_option maxRecDepth 20000 in
set_option maxHeartbeats 4000000 in
theorem gw_law_s_X11_cause_125 : GoodIn lw_tbl (wsV RL 125 RX11 yX11_cause u_s_X11_cause) := z_gV (z_gr2 gs_all _ [(9, 58), (9, 59), (10, 0), (0, 2)] rfl) gl_s_X11_cause
set_option maxRecDepth 20000 in
set_option maxHeartbeats 4000000 in
theorem gw_law_s_X12_cause_129 : GoodIn lw_tbl (wsV RL 129 RX12 yX12_cause u_s_X12_cause) := z_gV (z_gr2 gs_all _ [(10, 1), (10, 2), (10, 3), (0, 0)] rfl) gl_s_X12_cause
set_option maxRecDepth 20000 in
set_option maxHeartbeats 4000000 in
theorem gw_law_s_X11_why_130 : GoodIn lw_tbl (wsV RL 130 RX11 yX11_why u_s_X11_why) := z_gV (z_gr2 gs_all _ [(10, 4), (10, 5), (10, 6), (0, 2)] rfl) gl_s_X11_why
set_option maxRecDepth 20000 in
set_option maxHeartbeats 4000000 in
theorem gw_law_s_X12_why_133 : GoodIn lw_tbl (wsV RL 133 RX12 yX12_why u_s_X12_why) := z_gV (z_gr2 gs_all _ [(10, 7), (10, 8), (10, 9), (0, 0)] rfl) gl_s_X12_why
set_option maxRecDepth 20000 in
set_option maxHeartbeats 4000000 in
theorem gw_law_s_X12_count_139 : GoodIn lw_tbl (wsV RL 139 RX12 yX12_count u_s_X12_count) := z_gV (z_gr2 gs_all _ [(10, 10), (10, 11), (10, 12), (0, 0)] rfl) gl_s_X12_count
set_option maxRecDepth 20000 in
set_option maxHeartbeats 4000000 in
theorem gw_law_s_L_count_in_134 : GoodIn lw_tbl (va_wsS RL 134 yL_count u_s_L_count_in) := z_gS (z_gr2 gs_all _ [(10, 13), (10, 14), (10, 15)] rfl) gl_s_L_count_in
