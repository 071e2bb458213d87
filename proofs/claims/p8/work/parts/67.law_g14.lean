set_option maxRecDepth 20000 in
set_option maxHeartbeats 4000000 in
theorem gw_law_s_X11_kept_86 : GoodIn lw_tbl (wsV RL 86 RX11 yX11_kept u_s_X11_kept) := z_gV (z_gr2 gs_all _ [(9, 24), (9, 25), (9, 26), (0, 2)] rfl) gl_s_X11_kept
set_option maxRecDepth 20000 in
set_option maxHeartbeats 4000000 in
theorem gw_law_s_X12_kept2_89 : GoodIn lw_tbl (wsV RL 89 RX12 yX12_kept u_s_X12_kept2) := z_gV (z_gr2 gs_all _ [(9, 27), (9, 28), (9, 29), (0, 0)] rfl) gl_s_X12_kept2
set_option maxRecDepth 20000 in
set_option maxHeartbeats 4000000 in
theorem gw_law_s_X11_eaten_90 : GoodIn lw_tbl (wsV RL 90 RX11 yX11_eaten u_s_X11_eaten) := z_gV (z_gr2 gs_all _ [(9, 30), (9, 31), (9, 32), (0, 2)] rfl) gl_s_X11_eaten
set_option maxRecDepth 20000 in
set_option maxHeartbeats 4000000 in
theorem gw_law_s_X12_eaten_94 : GoodIn lw_tbl (wsV RL 94 RX12 yX12_eaten u_s_X12_eaten) := z_gV (z_gr2 gs_all _ [(9, 33), (9, 34), (9, 35), (0, 0)] rfl) gl_s_X12_eaten
set_option maxRecDepth 20000 in
set_option maxHeartbeats 4000000 in
theorem gw_law_s_X11_days_95 : GoodIn lw_tbl (wsV RL 95 RX11 yX11_days u_s_X11_days) := z_gV (z_gr2 gs_all _ [(9, 36), (9, 37), (9, 38), (0, 2)] rfl) gl_s_X11_days
set_option maxRecDepth 20000 in
set_option maxHeartbeats 4000000 in
theorem gw_law_s_X12_days_98 : GoodIn lw_tbl (wsV RL 98 RX12 yX12_days u_s_X12_days) := z_gV (z_gr2 gs_all _ [(9, 39), (9, 40), (9, 41), (0, 0)] rfl) gl_s_X12_days
