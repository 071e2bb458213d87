set_option maxRecDepth 20000 in
set_option maxHeartbeats 4000000 in
theorem gw_law_s_X11_feed_19 : GoodIn lw_tbl (wsV RL 19 RX11 yX11_feed u_s_X11_feed) := z_gV (z_gr2 gs_all _ [(7, 34), (7, 35), (7, 36), (0, 2)] rfl) gl_s_X11_feed
set_option maxRecDepth 20000 in
set_option maxHeartbeats 4000000 in
theorem gw_law_s_X12_feed_23 : GoodIn lw_tbl (wsV RL 23 RX12 yX12_feed u_s_X12_feed) := z_gV (z_gr2 gs_all _ [(7, 37), (7, 38), (7, 39), (0, 0)] rfl) gl_s_X12_feed
set_option maxRecDepth 20000 in
set_option maxHeartbeats 4000000 in
theorem gw_law_s_X11_rules_24 : GoodIn lw_tbl (wsV RL 24 RX11 yX11_rules u_s_X11_rules) := z_gV (z_gr2 gs_all _ [(7, 40), (7, 41), (7, 42), (0, 2)] rfl) gl_s_X11_rules
set_option maxRecDepth 20000 in
set_option maxHeartbeats 4000000 in
theorem gw_law_s_X12_rules_27 : GoodIn lw_tbl (wsV RL 27 RX12 yX12_rules u_s_X12_rules) := z_gV (z_gr2 gs_all _ [(7, 43), (7, 44), (7, 45), (0, 0)] rfl) gl_s_X12_rules
set_option maxRecDepth 20000 in
set_option maxHeartbeats 4000000 in
theorem gw_law_s_X11_finds_28 : GoodIn lw_tbl (wsV RL 28 RX11 yX11_finds u_s_X11_finds) := z_gV (z_gr2 gs_all _ [(7, 46), (7, 47), (7, 48), (0, 2)] rfl) gl_s_X11_finds
set_option maxRecDepth 20000 in
set_option maxHeartbeats 4000000 in
theorem gw_law_s_X12_finds_32 : GoodIn lw_tbl (wsV RL 32 RX12 yX12_finds u_s_X12_finds) := z_gV (z_gr2 gs_all _ [(7, 49), (7, 50), (7, 51), (0, 0)] rfl) gl_s_X12_finds
