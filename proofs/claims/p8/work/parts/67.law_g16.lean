set_option maxRecDepth 20000 in
set_option maxHeartbeats 4000000 in
theorem gw_law_s_X11_stay_113 : GoodIn lw_tbl (wsV RL 113 RX11 yX11_stay u_s_X11_stay) := z_gV (z_gr2 gs_all _ [(10, 0), (10, 1), (10, 2), (0, 2)] rfl) gl_s_X11_stay
set_option maxRecDepth 20000 in
set_option maxHeartbeats 4000000 in
theorem gw_law_s_X12_stay_116 : GoodIn lw_tbl (wsV RL 116 RX12 yX12_stay u_s_X12_stay) := z_gV (z_gr2 gs_all _ [(10, 3), (10, 4), (10, 5), (0, 0)] rfl) gl_s_X12_stay
set_option maxRecDepth 20000 in
set_option maxHeartbeats 4000000 in
theorem gw_law_s_X11_measure_117 : GoodIn lw_tbl (wsV RL 117 RX11 yX11_measure u_s_X11_measure) := z_gV (z_gr2 gs_all _ [(10, 6), (10, 7), (10, 8), (0, 2)] rfl) gl_s_X11_measure
set_option maxRecDepth 20000 in
set_option maxHeartbeats 4000000 in
theorem gw_law_s_X12_measure_120 : GoodIn lw_tbl (wsV RL 120 RX12 yX12_measure u_s_X12_measure) := z_gV (z_gr2 gs_all _ [(10, 9), (10, 10), (10, 11), (0, 0)] rfl) gl_s_X12_measure
set_option maxRecDepth 20000 in
set_option maxHeartbeats 4000000 in
theorem gw_law_s_X11_middle_121 : GoodIn lw_tbl (wsV RL 121 RX11 yX11_middle u_s_X11_middle) := z_gV (z_gr2 gs_all _ [(10, 12), (10, 13), (10, 14), (0, 2)] rfl) gl_s_X11_middle
set_option maxRecDepth 20000 in
set_option maxHeartbeats 4000000 in
theorem gw_law_s_X12_middle_124 : GoodIn lw_tbl (wsV RL 124 RX12 yX12_middle u_s_X12_middle) := z_gV (z_gr2 gs_all _ [(10, 15), (10, 16), (10, 17), (0, 0)] rfl) gl_s_X12_middle
