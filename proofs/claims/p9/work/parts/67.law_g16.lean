set_option maxRecDepth 20000 in
set_option maxHeartbeats 4000000 in
theorem gw_law_s_X11_stayK_113 : GoodIn lw_tbl (wsV RL 113 RX11 yX11_stay u_s_X11_stayK) := z_gV (z_gr2 gs_all _ [(10, 18), (10, 19), (10, 20), (0, 2)] rfl) gl_s_X11_stayK
set_option maxRecDepth 20000 in
set_option maxHeartbeats 4000000 in
theorem gw_law_s_X12_stay_116 : GoodIn lw_tbl (wsV RL 116 RX12 yX12_stay u_s_X12_stay) := z_gV (z_gr2 gs_all _ [(10, 21), (10, 22), (10, 23), (0, 0)] rfl) gl_s_X12_stay
set_option maxRecDepth 20000 in
set_option maxHeartbeats 4000000 in
theorem gw_law_s_X11_measure_117 : GoodIn lw_tbl (wsV RL 117 RX11 yX11_measure u_s_X11_measure) := z_gV (z_gr2 gs_all _ [(10, 24), (10, 25), (10, 26), (0, 2)] rfl) gl_s_X11_measure
set_option maxRecDepth 20000 in
set_option maxHeartbeats 4000000 in
theorem gw_law_s_X12_measure_120 : GoodIn lw_tbl (wsV RL 120 RX12 yX12_measure u_s_X12_measure) := z_gV (z_gr2 gs_all _ [(10, 27), (10, 28), (10, 29), (0, 0)] rfl) gl_s_X12_measure
set_option maxRecDepth 20000 in
set_option maxHeartbeats 4000000 in
theorem gw_law_s_X11_middleK_121 : GoodIn lw_tbl (wsV RL 121 RX11 yX11_middle u_s_X11_middleK) := z_gV (z_gr2 gs_all _ [(10, 30), (10, 31), (10, 32), (0, 2)] rfl) gl_s_X11_middleK
set_option maxRecDepth 20000 in
set_option maxHeartbeats 4000000 in
theorem gw_law_s_X12_middle_124 : GoodIn lw_tbl (wsV RL 124 RX12 yX12_middle u_s_X12_middle) := z_gV (z_gr2 gs_all _ [(10, 33), (10, 34), (10, 35), (0, 0)] rfl) gl_s_X12_middle
