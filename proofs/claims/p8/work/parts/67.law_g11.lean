set_option maxRecDepth 20000 in
set_option maxHeartbeats 4000000 in
theorem gw_law_s_X11_strike3_47 : GoodIn lw_tbl (wsV RL 47 RX11 yX11_strike u_s_X11_strike3) := z_gV (z_gr2 gs_all _ [(8, 30), (8, 31), (8, 32), (0, 2)] rfl) gl_s_X11_strike3
set_option maxRecDepth 20000 in
set_option maxHeartbeats 4000000 in
theorem gw_law_s_X12_strike3_50 : GoodIn lw_tbl (wsV RL 50 RX12 yX12_strike u_s_X12_strike3) := z_gV (z_gr2 gs_all _ [(8, 33), (8, 34), (8, 35), (0, 0)] rfl) gl_s_X12_strike3
set_option maxRecDepth 20000 in
set_option maxHeartbeats 4000000 in
theorem gw_law_s_X11_bed_51 : GoodIn lw_tbl (wsV RL 51 RX11 yX11_bed u_s_X11_bed) := z_gV (z_gr2 gs_all _ [(8, 36), (8, 37), (8, 38), (0, 2)] rfl) gl_s_X11_bed
set_option maxRecDepth 20000 in
set_option maxHeartbeats 4000000 in
theorem gw_law_s_X12_bed_55 : GoodIn lw_tbl (wsV RL 55 RX12 yX12_bed u_s_X12_bed) := z_gV (z_gr2 gs_all _ [(8, 39), (8, 40), (8, 41), (0, 0)] rfl) gl_s_X12_bed
set_option maxRecDepth 20000 in
set_option maxHeartbeats 4000000 in
theorem gw_law_s_X11_order_56 : GoodIn lw_tbl (wsV RL 56 RX11 yX11_order u_s_X11_order) := z_gV (z_gr2 gs_all _ [(8, 42), (8, 43), (8, 44), (0, 2)] rfl) gl_s_X11_order
set_option maxRecDepth 20000 in
set_option maxHeartbeats 4000000 in
theorem gw_law_s_X12_order_59 : GoodIn lw_tbl (wsV RL 59 RX12 yX12_order u_s_X12_order) := z_gV (z_gr2 gs_all _ [(8, 45), (8, 46), (8, 47), (0, 0)] rfl) gl_s_X12_order
