set_option maxRecDepth 20000 in
set_option maxHeartbeats 4000000 in
theorem gw_law_s_X11_kept_86 : GoodIn lw_tbl (wsV RL 86 RX11 yX11_kept u_s_X11_kept) := z_gV (z_gr2 gs_all _ [(9, 42), (9, 43), (9, 44), (0, 2)] rfl) gl_s_X11_kept
set_option maxRecDepth 20000 in
set_option maxHeartbeats 4000000 in
theorem gw_law_s_X12_kept2_89 : GoodIn lw_tbl (wsV RL 89 RX12 yX12_kept u_s_X12_kept2) := z_gV (z_gr2 gs_all _ [(9, 45), (9, 46), (9, 47), (0, 0)] rfl) gl_s_X12_kept2
set_option maxRecDepth 20000 in
set_option maxHeartbeats 4000000 in
theorem gw_law_s_X11_eatenK_90 : GoodIn lw_tbl (wsV RL 90 RX11 yX11_eaten u_s_X11_eatenK) := z_gV (z_gr2 gs_all _ [(9, 48), (9, 49), (9, 50), (0, 2)] rfl) gl_s_X11_eatenK
set_option maxRecDepth 20000 in
set_option maxHeartbeats 4000000 in
theorem gw_law_s_X12_eaten_94 : GoodIn lw_tbl (wsV RL 94 RX12 yX12_eaten u_s_X12_eaten) := z_gV (z_gr2 gs_all _ [(9, 51), (9, 52), (9, 53), (0, 0)] rfl) gl_s_X12_eaten
set_option maxRecDepth 20000 in
set_option maxHeartbeats 4000000 in
theorem gw_law_s_X11_daysK_95 : GoodIn lw_tbl (wsV RL 95 RX11 yX11_days u_s_X11_daysK) := z_gV (z_gr2 gs_all _ [(9, 54), (9, 55), (9, 56), (0, 2)] rfl) gl_s_X11_daysK
set_option maxRecDepth 20000 in
set_option maxHeartbeats 4000000 in
theorem gw_law_s_X12_days_98 : GoodIn lw_tbl (wsV RL 98 RX12 yX12_days u_s_X12_days) := z_gV (z_gr2 gs_all _ [(9, 57), (9, 58), (9, 59), (0, 0)] rfl) gl_s_X12_days
