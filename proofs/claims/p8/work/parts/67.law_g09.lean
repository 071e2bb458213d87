set_option maxRecDepth 20000 in
set_option maxHeartbeats 4000000 in
theorem gw_law_s_X11_feed3_19 : GoodIn lw_tbl (wsV RL 19 RX11 yX11_feed u_s_X11_feed3) := z_gV (z_gr2 gs_all _ [(7, 54), (7, 55), (7, 56), (0, 2)] rfl) gl_s_X11_feed3
set_option maxRecDepth 20000 in
set_option maxHeartbeats 4000000 in
theorem gw_law_s_X12_feed3_23 : GoodIn lw_tbl (wsV RL 23 RX12 yX12_feed u_s_X12_feed3) := z_gV (z_gr2 gs_all _ [(7, 57), (7, 58), (7, 59), (0, 0)] rfl) gl_s_X12_feed3
set_option maxRecDepth 20000 in
set_option maxHeartbeats 4000000 in
theorem gw_law_s_X11_rules3_24 : GoodIn lw_tbl (wsV RL 24 RX11 yX11_rules u_s_X11_rules3) := z_gV (z_gr2 gs_all _ [(8, 0), (8, 1), (8, 2), (0, 2)] rfl) gl_s_X11_rules3
set_option maxRecDepth 20000 in
set_option maxHeartbeats 4000000 in
theorem gw_law_s_X12_rules3_27 : GoodIn lw_tbl (wsV RL 27 RX12 yX12_rules u_s_X12_rules3) := z_gV (z_gr2 gs_all _ [(8, 3), (8, 4), (8, 5), (0, 0)] rfl) gl_s_X12_rules3
set_option maxRecDepth 20000 in
set_option maxHeartbeats 4000000 in
theorem gw_law_s_X11_finds3_28 : GoodIn lw_tbl (wsV RL 28 RX11 yX11_finds u_s_X11_finds3) := z_gV (z_gr2 gs_all _ [(8, 6), (8, 7), (8, 8), (0, 2)] rfl) gl_s_X11_finds3
set_option maxRecDepth 20000 in
set_option maxHeartbeats 4000000 in
theorem gw_law_s_X12_finds3_32 : GoodIn lw_tbl (wsV RL 32 RX12 yX12_finds u_s_X12_finds3) := z_gV (z_gr2 gs_all _ [(8, 9), (8, 10), (8, 11), (0, 0)] rfl) gl_s_X12_finds3
