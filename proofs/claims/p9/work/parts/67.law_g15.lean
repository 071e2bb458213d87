set_option maxRecDepth 20000 in
set_option maxHeartbeats 4000000 in
theorem gw_law_s_X11_reads_99 : GoodIn lw_tbl (wsV RL 99 RX11 yX11_reads u_s_X11_reads) := z_gV (z_gr2 gs_all _ [(10, 0), (10, 1), (10, 2), (0, 2)] rfl) gl_s_X11_reads
set_option maxRecDepth 20000 in
set_option maxHeartbeats 4000000 in
theorem gw_law_s_X12_reads_103 : GoodIn lw_tbl (wsV RL 103 RX12 yX12_reads u_s_X12_reads) := z_gV (z_gr2 gs_all _ [(10, 3), (10, 4), (10, 5), (0, 0)] rfl) gl_s_X12_reads
set_option maxRecDepth 20000 in
set_option maxHeartbeats 4000000 in
theorem gw_law_s_X11_readingsK_104 : GoodIn lw_tbl (wsV RL 104 RX11 yX11_readings u_s_X11_readingsK) := z_gV (z_gr2 gs_all _ [(10, 6), (10, 7), (10, 8), (0, 2)] rfl) gl_s_X11_readingsK
set_option maxRecDepth 20000 in
set_option maxHeartbeats 4000000 in
theorem gw_law_s_X12_readings_108 : GoodIn lw_tbl (wsV RL 108 RX12 yX12_readings u_s_X12_readings) := z_gV (z_gr2 gs_all _ [(10, 9), (10, 10), (10, 11), (0, 0)] rfl) gl_s_X12_readings
set_option maxRecDepth 20000 in
set_option maxHeartbeats 4000000 in
theorem gw_law_s_X11_seasonK_109 : GoodIn lw_tbl (wsV RL 109 RX11 yX11_season u_s_X11_seasonK) := z_gV (z_gr2 gs_all _ [(10, 12), (10, 13), (10, 14), (0, 2)] rfl) gl_s_X11_seasonK
set_option maxRecDepth 20000 in
set_option maxHeartbeats 4000000 in
theorem gw_law_s_X12_season_112 : GoodIn lw_tbl (wsV RL 112 RX12 yX12_season u_s_X12_season) := z_gV (z_gr2 gs_all _ [(10, 15), (10, 16), (10, 17), (0, 0)] rfl) gl_s_X12_season
