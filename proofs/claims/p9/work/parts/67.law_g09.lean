set_option maxRecDepth 20000 in
set_option maxHeartbeats 4000000 in
theorem gw_law_s_X11_feed3_19 : GoodIn lw_tbl (wsV RL 19 RX11 yX11_feed u_s_X11_feed3) := z_gV (z_gr2 gs_all _ [(9, 15), (9, 16), (9, 17), (0, 2)] rfl) gl_s_X11_feed3
set_option maxRecDepth 20000 in
set_option maxHeartbeats 4000000 in
theorem gw_law_s_X12_feed3_23 : GoodIn lw_tbl (wsV RL 23 RX12 yX12_feed u_s_X12_feed3) := z_gV (z_gr2 gs_all _ [(9, 18), (9, 19), (9, 20), (0, 0)] rfl) gl_s_X12_feed3
set_option maxRecDepth 20000 in
set_option maxHeartbeats 4000000 in
theorem gw_law_s_X11_rulesO_24 : GoodIn lw_tbl (wsV RL 24 RX11 yX11_rules u_s_X11_rulesO) := z_gV (z_gr2 gs_all _ [(9, 21), (9, 22), (9, 23), (0, 2)] rfl) gl_s_X11_rulesO
set_option maxRecDepth 20000 in
set_option maxHeartbeats 4000000 in
theorem gw_law_s_X12_rulesN_27 : GoodIn lw_tbl (wsV RL 27 RX12 yX12_rules u_s_X12_rulesN) := z_gV (z_gr2 gs_all _ [(9, 24), (9, 25), (9, 26), (0, 0)] rfl) gl_s_X12_rulesN
set_option maxRecDepth 20000 in
set_option maxHeartbeats 4000000 in
theorem gw_law_s_X11_findsX_28 : GoodIn lw_tbl (wsV RL 28 RX11 yX11_finds u_s_X11_findsX) := z_gV (z_gr2 gs_all _ [(9, 27), (9, 28), (9, 29), (0, 2)] rfl) gl_s_X11_findsX
set_option maxRecDepth 20000 in
set_option maxHeartbeats 4000000 in
theorem gw_law_s_X12_findsX_32 : GoodIn lw_tbl (wsV RL 32 RX12 yX12_finds u_s_X12_findsX) := z_gV (z_gr2 gs_all _ [(9, 30), (9, 31), (9, 32), (0, 0)] rfl) gl_s_X12_findsX
