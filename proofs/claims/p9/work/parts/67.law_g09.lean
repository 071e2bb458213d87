set_option maxRecDepth 20000 in
set_option maxHeartbeats 4000000 in
theorem gw_law_s_X11_feed3_19 : GoodIn lw_tbl (wsV RL 19 RX11 yX11_feed u_s_X11_feed3) := z_gV (z_gr2 gs_all _ [(8, 12), (8, 13), (8, 14), (0, 2)] rfl) gl_s_X11_feed3
set_option maxRecDepth 20000 in
set_option maxHeartbeats 4000000 in
theorem gw_law_s_X12_feed3_23 : GoodIn lw_tbl (wsV RL 23 RX12 yX12_feed u_s_X12_feed3) := z_gV (z_gr2 gs_all _ [(8, 15), (8, 16), (8, 17), (0, 0)] rfl) gl_s_X12_feed3
set_option maxRecDepth 20000 in
set_option maxHeartbeats 4000000 in
theorem gw_law_s_X11_rules3_24 : GoodIn lw_tbl (wsV RL 24 RX11 yX11_rules u_s_X11_rules3) := z_gV (z_gr2 gs_all _ [(8, 18), (8, 19), (8, 20), (0, 2)] rfl) gl_s_X11_rules3
set_option maxRecDepth 20000 in
set_option maxHeartbeats 4000000 in
theorem gw_law_s_X12_rules3_27 : GoodIn lw_tbl (wsV RL 27 RX12 yX12_rules u_s_X12_rules3) := z_gV (z_gr2 gs_all _ [(8, 21), (8, 22), (8, 23), (0, 0)] rfl) gl_s_X12_rules3
set_option maxRecDepth 20000 in
set_option maxHeartbeats 4000000 in
theorem gw_law_s_X11_findsK_28 : GoodIn lw_tbl (wsV RL 28 RX11 yX11_finds u_s_X11_findsK) := z_gV (z_gr2 gs_all _ [(8, 24), (8, 25), (8, 26), (0, 2)] rfl) gl_s_X11_findsK
set_option maxRecDepth 20000 in
set_option maxHeartbeats 4000000 in
theorem gw_law_s_X12_findsK_32 : GoodIn lw_tbl (wsV RL 32 RX12 yX12_finds u_s_X12_findsK) := z_gV (z_gr2 gs_all _ [(8, 27), (8, 28), (8, 29), (0, 0)] rfl) gl_s_X12_findsK
