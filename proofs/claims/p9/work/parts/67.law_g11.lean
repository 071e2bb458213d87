set_option maxRecDepth 20000 in
set_option maxHeartbeats 4000000 in
theorem gw_law_s_X11_strikeK_47 : GoodIn lw_tbl (wsV RL 47 RX11 yX11_strike u_s_X11_strikeK) := z_gV (z_gr2 gs_all _ [(8, 48), (8, 49), (8, 50), (0, 2)] rfl) gl_s_X11_strikeK
set_option maxRecDepth 20000 in
set_option maxHeartbeats 4000000 in
theorem gw_law_s_X12_strikeK_50 : GoodIn lw_tbl (wsV RL 50 RX12 yX12_strike u_s_X12_strikeK) := z_gV (z_gr2 gs_all _ [(8, 51), (8, 52), (8, 53), (0, 0)] rfl) gl_s_X12_strikeK
set_option maxRecDepth 20000 in
set_option maxHeartbeats 4000000 in
theorem gw_law_s_X11_bedK_51 : GoodIn lw_tbl (wsV RL 51 RX11 yX11_bed u_s_X11_bedK) := z_gV (z_gr2 gs_all _ [(8, 54), (8, 55), (8, 56), (0, 2)] rfl) gl_s_X11_bedK
set_option maxRecDepth 20000 in
set_option maxHeartbeats 4000000 in
theorem gw_law_s_X12_bedK_55 : GoodIn lw_tbl (wsV RL 55 RX12 yX12_bed u_s_X12_bedK) := z_gV (z_gr2 gs_all _ [(8, 57), (8, 58), (8, 59), (0, 0)] rfl) gl_s_X12_bedK
set_option maxRecDepth 20000 in
set_option maxHeartbeats 4000000 in
theorem gw_law_s_X11_orderK_56 : GoodIn lw_tbl (wsV RL 56 RX11 yX11_order u_s_X11_orderK) := z_gV (z_gr2 gs_all _ [(9, 0), (9, 1), (9, 2), (0, 2)] rfl) gl_s_X11_orderK
set_option maxRecDepth 20000 in
set_option maxHeartbeats 4000000 in
theorem gw_law_s_X12_orderK_59 : GoodIn lw_tbl (wsV RL 59 RX12 yX12_order u_s_X12_orderK) := z_gV (z_gr2 gs_all _ [(9, 3), (9, 4), (9, 5), (0, 0)] rfl) gl_s_X12_orderK
