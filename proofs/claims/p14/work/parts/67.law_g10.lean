set_option maxRecDepth 20000 in
set_option maxHeartbeats 4000000 in
theorem gw_law_s_X11_strike_47 : GoodIn lw_tbl (wsV RL 47 RX11 yX11_strike u_s_X11_strike) := z_gV (z_gr2 gs_all _ [(8, 10), (8, 11), (8, 12), (0, 2)] rfl) gl_s_X11_strike
set_option maxRecDepth 20000 in
set_option maxHeartbeats 4000000 in
theorem gw_law_s_X12_strike_50 : GoodIn lw_tbl (wsV RL 50 RX12 yX12_strike u_s_X12_strike) := z_gV (z_gr2 gs_all _ [(8, 13), (8, 14), (8, 15), (0, 0)] rfl) gl_s_X12_strike
set_option maxRecDepth 20000 in
set_option maxHeartbeats 4000000 in
theorem gw_law_s_X11_bed_51 : GoodIn lw_tbl (wsV RL 51 RX11 yX11_bed u_s_X11_bed) := z_gV (z_gr2 gs_all _ [(8, 16), (8, 17), (8, 18), (0, 2)] rfl) gl_s_X11_bed
set_option maxRecDepth 20000 in
set_option maxHeartbeats 4000000 in
theorem gw_law_s_X12_bed_55 : GoodIn lw_tbl (wsV RL 55 RX12 yX12_bed u_s_X12_bed) := z_gV (z_gr2 gs_all _ [(8, 19), (8, 20), (8, 21), (0, 0)] rfl) gl_s_X12_bed
set_option maxRecDepth 20000 in
set_option maxHeartbeats 4000000 in
theorem gw_law_s_X11_order_56 : GoodIn lw_tbl (wsV RL 56 RX11 yX11_order u_s_X11_order) := z_gV (z_gr2 gs_all _ [(8, 22), (8, 23), (8, 24), (0, 2)] rfl) gl_s_X11_order
set_option maxRecDepth 20000 in
set_option maxHeartbeats 4000000 in
theorem gw_law_s_X12_order_59 : GoodIn lw_tbl (wsV RL 59 RX12 yX12_order u_s_X12_order) := z_gV (z_gr2 gs_all _ [(8, 25), (8, 26), (8, 27), (0, 0)] rfl) gl_s_X12_order
