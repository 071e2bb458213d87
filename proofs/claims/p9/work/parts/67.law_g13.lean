set_option maxRecDepth 20000 in
set_option maxHeartbeats 4000000 in
theorem gw_law_s_X11_thickT_73 : GoodIn lw_tbl (wsV RL 73 RX11 yX11_thick u_s_X11_thickT) := z_gV (z_gr2 gs_all _ [(10, 27), (10, 28), (10, 29), (0, 2)] rfl) gl_s_X11_thickT
set_option maxRecDepth 20000 in
set_option maxHeartbeats 4000000 in
theorem gw_law_s_X12_thickT_77 : GoodIn lw_tbl (wsV RL 77 RX12 yX12_thick u_s_X12_thickT) := z_gV (z_gr2 gs_all _ [(10, 30), (10, 31), (10, 32), (0, 0)] rfl) gl_s_X12_thickT
set_option maxRecDepth 20000 in
set_option maxHeartbeats 4000000 in
theorem gw_law_s_X11_holdsK_78 : GoodIn lw_tbl (wsV RL 78 RX11 yX11_holds u_s_X11_holdsK) := z_gV (z_gr2 gs_all _ [(10, 33), (10, 34), (10, 35), (0, 2)] rfl) gl_s_X11_holdsK
set_option maxRecDepth 20000 in
set_option maxHeartbeats 4000000 in
theorem gw_law_s_X12_holds_81 : GoodIn lw_tbl (wsV RL 81 RX12 yX12_holds u_s_X12_holds) := z_gV (z_gr2 gs_all _ [(10, 36), (10, 37), (10, 38), (0, 0)] rfl) gl_s_X12_holds
set_option maxRecDepth 20000 in
set_option maxHeartbeats 4000000 in
theorem gw_law_s_X11_kindX_82 : GoodIn lw_tbl (wsV RL 82 RX11 yX11_kind u_s_X11_kindX) := z_gV (z_gr2 gs_all _ [(10, 39), (10, 40), (10, 41), (0, 2)] rfl) gl_s_X11_kindX
set_option maxRecDepth 20000 in
set_option maxHeartbeats 4000000 in
theorem gw_law_s_X12_kindX_85 : GoodIn lw_tbl (wsV RL 85 RX12 yX12_kind u_s_X12_kindX) := z_gV (z_gr2 gs_all _ [(10, 42), (10, 43), (10, 44), (0, 0)] rfl) gl_s_X12_kindX
