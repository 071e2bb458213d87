set_option maxRecDepth 20000 in
set_option maxHeartbeats 4000000 in
theorem gw_law_s_X11_readsP_99 : GoodIn lw_tbl (wsV RL 99 RX11 yX11_reads u_s_X11_readsP) := z_gV (z_gr2 gs_all _ [(11, 3), (11, 4), (11, 5), (0, 2)] rfl) gl_s_X11_readsP
set_option maxRecDepth 20000 in
set_option maxHeartbeats 4000000 in
theorem gw_law_s_X12_readsP_103 : GoodIn lw_tbl (wsV RL 103 RX12 yX12_reads u_s_X12_readsP) := z_gV (z_gr2 gs_all _ [(11, 6), (11, 7), (11, 8), (0, 0)] rfl) gl_s_X12_readsP
set_option maxRecDepth 20000 in
set_option maxHeartbeats 4000000 in
theorem gw_law_s_X11_readingsR_104 : GoodIn lw_tbl (wsV RL 104 RX11 yX11_readings u_s_X11_readingsR) := z_gV (z_gr2 gs_all _ [(11, 9), (11, 10), (11, 11), (0, 2)] rfl) gl_s_X11_readingsR
set_option maxRecDepth 20000 in
set_option maxHeartbeats 4000000 in
theorem gw_law_s_X12_readingsR_108 : GoodIn lw_tbl (wsV RL 108 RX12 yX12_readings u_s_X12_readingsR) := z_gV (z_gr2 gs_all _ [(11, 12), (11, 13), (11, 14), (0, 0)] rfl) gl_s_X12_readingsR
set_option maxRecDepth 20000 in
set_option maxHeartbeats 4000000 in
theorem gw_law_s_X11_seasonK_109 : GoodIn lw_tbl (wsV RL 109 RX11 yX11_season u_s_X11_seasonK) := z_gV (z_gr2 gs_all _ [(11, 15), (11, 16), (11, 17), (0, 2)] rfl) gl_s_X11_seasonK
set_option maxRecDepth 20000 in
set_option maxHeartbeats 4000000 in
theorem gw_law_s_X12_season_112 : GoodIn lw_tbl (wsV RL 112 RX12 yX12_season u_s_X12_season) := z_gV (z_gr2 gs_all _ [(11, 18), (11, 19), (11, 20), (0, 0)] rfl) gl_s_X12_season
