set_option maxRecDepth 20000 in
set_option maxHeartbeats 4000000 in
theorem gw_law_s_X11_causeE_125 : GoodIn lw_tbl (wsV RL 125 RX11 yX11_cause u_s_X11_causeE) := z_gV (z_gr2 gs_all _ [(11, 39), (11, 40), (11, 41), (0, 2)] rfl) gl_s_X11_causeE
set_option maxRecDepth 20000 in
set_option maxHeartbeats 4000000 in
theorem gw_law_s_X12_causeE_129 : GoodIn lw_tbl (wsV RL 129 RX12 yX12_cause u_s_X12_causeE) := z_gV (z_gr2 gs_all _ [(11, 42), (11, 43), (11, 44), (0, 0)] rfl) gl_s_X12_causeE
set_option maxRecDepth 20000 in
set_option maxHeartbeats 4000000 in
theorem gw_law_s_X11_whyE_130 : GoodIn lw_tbl (wsV RL 130 RX11 yX11_why u_s_X11_whyE) := z_gV (z_gr2 gs_all _ [(11, 45), (11, 46), (11, 47), (0, 2)] rfl) gl_s_X11_whyE
set_option maxRecDepth 20000 in
set_option maxHeartbeats 4000000 in
theorem gw_law_s_X12_whyE_133 : GoodIn lw_tbl (wsV RL 133 RX12 yX12_why u_s_X12_whyE) := z_gV (z_gr2 gs_all _ [(11, 48), (11, 49), (11, 50), (0, 0)] rfl) gl_s_X12_whyE
set_option maxRecDepth 20000 in
set_option maxHeartbeats 4000000 in
theorem gw_law_s_X12_count_139 : GoodIn lw_tbl (wsV RL 139 RX12 yX12_count u_s_X12_count) := z_gV (z_gr2 gs_all _ [(11, 51), (11, 52), (11, 53), (0, 0)] rfl) gl_s_X12_count
set_option maxRecDepth 20000 in
set_option maxHeartbeats 4000000 in
theorem gw_law_s_L_count_inK_134 : GoodIn lw_tbl (va_wsS RL 134 yL_count u_s_L_count_inK) := z_gS (z_gr2 gs_all _ [(11, 54), (11, 55), (11, 56)] rfl) gl_s_L_count_inK
