set_option maxRecDepth 20000 in
set_option maxHeartbeats 4000000 in
theorem gw_law_s_X11_stayK_113 : GoodIn lw_tbl (wsV RL 113 RX11 yX11_stay u_s_X11_stayK) := z_gV (z_gr2 gs_all _ [(11, 21), (11, 22), (11, 23), (0, 2)] rfl) gl_s_X11_stayK
set_option maxRecDepth 20000 in
set_option maxHeartbeats 4000000 in
theorem gw_law_s_X12_stay_116 : GoodIn lw_tbl (wsV RL 116 RX12 yX12_stay u_s_X12_stay) := z_gV (z_gr2 gs_all _ [(11, 24), (11, 25), (11, 26), (0, 0)] rfl) gl_s_X12_stay
set_option maxRecDepth 20000 in
set_option maxHeartbeats 4000000 in
theorem gw_law_s_X11_measureM_117 : GoodIn lw_tbl (wsV RL 117 RX11 yX11_measure u_s_X11_measureM) := z_gV (z_gr2 gs_all _ [(11, 27), (11, 28), (11, 29), (0, 2)] rfl) gl_s_X11_measureM
set_option maxRecDepth 20000 in
set_option maxHeartbeats 4000000 in
theorem gw_law_s_X12_measureW_120 : GoodIn lw_tbl (wsV RL 120 RX12 yX12_measure u_s_X12_measureW) := z_gV (z_gr2 gs_all _ [(11, 30), (11, 31), (11, 32), (0, 0)] rfl) gl_s_X12_measureW
set_option maxRecDepth 20000 in
set_option maxHeartbeats 4000000 in
theorem gw_law_s_X11_middleK_121 : GoodIn lw_tbl (wsV RL 121 RX11 yX11_middle u_s_X11_middleK) := z_gV (z_gr2 gs_all _ [(11, 33), (11, 34), (11, 35), (0, 2)] rfl) gl_s_X11_middleK
set_option maxRecDepth 20000 in
set_option maxHeartbeats 4000000 in
theorem gw_law_s_X12_middle_124 : GoodIn lw_tbl (wsV RL 124 RX12 yX12_middle u_s_X12_middle) := z_gV (z_gr2 gs_all _ [(11, 36), (11, 37), (11, 38), (0, 0)] rfl) gl_s_X12_middle
