set_option maxRecDepth 20000 in
set_option maxHeartbeats 4000000 in
theorem gw_law_s_X11_cause_125 : GoodIn lw_tbl (wsV RL 125 RX11 yX11_cause u_s_X11_cause) := z_gV (z_gr2 gs_all _ [(10, 18), (10, 19), (10, 20), (0, 2)] rfl) gl_s_X11_cause
set_option maxRecDepth 20000 in
set_option maxHeartbeats 4000000 in
theorem gw_law_s_X12_cause_129 : GoodIn lw_tbl (wsV RL 129 RX12 yX12_cause u_s_X12_cause) := z_gV (z_gr2 gs_all _ [(10, 21), (10, 22), (10, 23), (0, 0)] rfl) gl_s_X12_cause
set_option maxRecDepth 20000 in
set_option maxHeartbeats 4000000 in
theorem gw_law_s_X11_why_130 : GoodIn lw_tbl (wsV RL 130 RX11 yX11_why u_s_X11_why) := z_gV (z_gr2 gs_all _ [(10, 24), (10, 25), (10, 26), (0, 2)] rfl) gl_s_X11_why
set_option maxRecDepth 20000 in
set_option maxHeartbeats 4000000 in
theorem gw_law_s_X12_why_133 : GoodIn lw_tbl (wsV RL 133 RX12 yX12_why u_s_X12_why) := z_gV (z_gr2 gs_all _ [(10, 27), (10, 28), (10, 29), (0, 0)] rfl) gl_s_X12_why
set_option maxRecDepth 20000 in
set_option maxHeartbeats 4000000 in
theorem gw_law_s_X12_count_139 : GoodIn lw_tbl (wsV RL 139 RX12 yX12_count u_s_X12_count) := z_gV (z_gr2 gs_all _ [(10, 30), (10, 31), (10, 32), (0, 0)] rfl) gl_s_X12_count
set_option maxRecDepth 20000 in
set_option maxHeartbeats 4000000 in
theorem gw_law_s_L_count_in_134 : GoodIn lw_tbl (va_wsS RL 134 yL_count u_s_L_count_in) := z_gS (z_gr2 gs_all _ [(10, 33), (10, 34), (10, 35)] rfl) gl_s_L_count_in
