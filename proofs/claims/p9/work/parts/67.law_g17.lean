set_option maxRecDepth 20000 in
set_option maxHeartbeats 4000000 in
theorem gw_law_s_X11_causeK_125 : GoodIn lw_tbl (wsV RL 125 RX11 yX11_cause u_s_X11_causeK) := z_gV (z_gr2 gs_all _ [(10, 36), (10, 37), (10, 38), (0, 2)] rfl) gl_s_X11_causeK
set_option maxRecDepth 20000 in
set_option maxHeartbeats 4000000 in
theorem gw_law_s_X12_cause_129 : GoodIn lw_tbl (wsV RL 129 RX12 yX12_cause u_s_X12_cause) := z_gV (z_gr2 gs_all _ [(10, 39), (10, 40), (10, 41), (0, 0)] rfl) gl_s_X12_cause
set_option maxRecDepth 20000 in
set_option maxHeartbeats 4000000 in
theorem gw_law_s_X11_whyK_130 : GoodIn lw_tbl (wsV RL 130 RX11 yX11_why u_s_X11_whyK) := z_gV (z_gr2 gs_all _ [(10, 42), (10, 43), (10, 44), (0, 2)] rfl) gl_s_X11_whyK
set_option maxRecDepth 20000 in
set_option maxHeartbeats 4000000 in
theorem gw_law_s_X12_why_133 : GoodIn lw_tbl (wsV RL 133 RX12 yX12_why u_s_X12_why) := z_gV (z_gr2 gs_all _ [(10, 45), (10, 46), (10, 47), (0, 0)] rfl) gl_s_X12_why
set_option maxRecDepth 20000 in
set_option maxHeartbeats 4000000 in
theorem gw_law_s_X12_count_139 : GoodIn lw_tbl (wsV RL 139 RX12 yX12_count u_s_X12_count) := z_gV (z_gr2 gs_all _ [(10, 48), (10, 49), (10, 50), (0, 0)] rfl) gl_s_X12_count
set_option maxRecDepth 20000 in
set_option maxHeartbeats 4000000 in
theorem gw_law_s_L_count_inK_134 : GoodIn lw_tbl (va_wsS RL 134 yL_count u_s_L_count_inK) := z_gS (z_gr2 gs_all _ [(10, 51), (10, 52), (10, 53)] rfl) gl_s_L_count_inK
