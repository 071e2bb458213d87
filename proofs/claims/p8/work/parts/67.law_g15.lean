set_option maxRecDepth 20000 in
set_option maxHeartbeats 4000000 in
theorem gw_law_s_X11_reads_99 : GoodIn lw_tbl (wsV RL 99 RX11 yX11_reads u_s_X11_reads) := z_gV (z_gr2 gs_all _ [(9, 42), (9, 43), (9, 44), (0, 2)] rfl) gl_s_X11_reads
set_option maxRecDepth 20000 in
set_option maxHeartbeats 4000000 in
theorem gw_law_s_X12_reads_103 : GoodIn lw_tbl (wsV RL 103 RX12 yX12_reads u_s_X12_reads) := z_gV (z_gr2 gs_all _ [(9, 45), (9, 46), (9, 47), (0, 0)] rfl) gl_s_X12_reads
set_option maxRecDepth 20000 in
set_option maxHeartbeats 4000000 in
theorem gw_law_s_X11_readings_104 : GoodIn lw_tbl (wsV RL 104 RX11 yX11_readings u_s_X11_readings) := z_gV (z_gr2 gs_all _ [(9, 48), (9, 49), (9, 50), (0, 2)] rfl) gl_s_X11_readings
set_option maxRecDepth 20000 in
set_option maxHeartbeats 4000000 in
theorem gw_law_s_X12_readings_108 : GoodIn lw_tbl (wsV RL 108 RX12 yX12_readings u_s_X12_readings) := z_gV (z_gr2 gs_all _ [(9, 51), (9, 52), (9, 53), (0, 0)] rfl) gl_s_X12_readings
set_option maxRecDepth 20000 in
set_option maxHeartbeats 4000000 in
theorem gw_law_s_X11_season_109 : GoodIn lw_tbl (wsV RL 109 RX11 yX11_season u_s_X11_season) := z_gV (z_gr2 gs_all _ [(9, 54), (9, 55), (9, 56), (0, 2)] rfl) gl_s_X11_season
set_option maxRecDepth 20000 in
set_option maxHeartbeats 4000000 in
theorem gw_law_s_X12_season_112 : GoodIn lw_tbl (wsV RL 112 RX12 yX12_season u_s_X12_season) := z_gV (z_gr2 gs_all _ [(9, 57), (9, 58), (9, 59), (0, 0)] rfl) gl_s_X12_season
