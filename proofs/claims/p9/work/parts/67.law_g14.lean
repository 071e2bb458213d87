set_option maxRecDepth 20000 in
set_option maxHeartbeats 4000000 in
theorem gw_law_s_X11_keptX_86 : GoodIn lw_tbl (wsV RL 86 RX11 yX11_kept u_s_X11_keptX) := z_gV (z_gr2 gs_all _ [(10, 45), (10, 46), (10, 47), (0, 2)] rfl) gl_s_X11_keptX
set_option maxRecDepth 20000 in
set_option maxHeartbeats 4000000 in
theorem gw_law_s_X12_keptX_89 : GoodIn lw_tbl (wsV RL 89 RX12 yX12_kept u_s_X12_keptX) := z_gV (z_gr2 gs_all _ [(10, 48), (10, 49), (10, 50), (0, 0)] rfl) gl_s_X12_keptX
set_option maxRecDepth 20000 in
set_option maxHeartbeats 4000000 in
theorem gw_law_s_X11_eatenK_90 : GoodIn lw_tbl (wsV RL 90 RX11 yX11_eaten u_s_X11_eatenK) := z_gV (z_gr2 gs_all _ [(10, 51), (10, 52), (10, 53), (0, 2)] rfl) gl_s_X11_eatenK
set_option maxRecDepth 20000 in
set_option maxHeartbeats 4000000 in
theorem gw_law_s_X12_eaten_94 : GoodIn lw_tbl (wsV RL 94 RX12 yX12_eaten u_s_X12_eaten) := z_gV (z_gr2 gs_all _ [(10, 54), (10, 55), (10, 56), (0, 0)] rfl) gl_s_X12_eaten
set_option maxRecDepth 20000 in
set_option maxHeartbeats 4000000 in
theorem gw_law_s_X11_daysK_95 : GoodIn lw_tbl (wsV RL 95 RX11 yX11_days u_s_X11_daysK) := z_gV (z_gr2 gs_all _ [(10, 57), (10, 58), (10, 59), (0, 2)] rfl) gl_s_X11_daysK
set_option maxRecDepth 20000 in
set_option maxHeartbeats 4000000 in
theorem gw_law_s_X12_days_98 : GoodIn lw_tbl (wsV RL 98 RX12 yX12_days u_s_X12_days) := z_gV (z_gr2 gs_all _ [(11, 0), (11, 1), (11, 2), (0, 0)] rfl) gl_s_X12_days
