set_option maxRecDepth 20000 in
set_option maxHeartbeats 4000000 in
theorem gw_law_s_X11_thickA_73 : GoodIn lw_tbl (wsV RL 73 RX11 yX11_thick u_s_X11_thickA) := z_gV (z_gr2 gs_all _ [(8, 46), (8, 47), (8, 48), (0, 2)] rfl) gl_s_X11_thickA
set_option maxRecDepth 20000 in
set_option maxHeartbeats 4000000 in
theorem gw_law_s_X12_thickA_77 : GoodIn lw_tbl (wsV RL 77 RX12 yX12_thick u_s_X12_thickA) := z_gV (z_gr2 gs_all _ [(8, 49), (8, 50), (8, 51), (0, 0)] rfl) gl_s_X12_thickA
set_option maxRecDepth 20000 in
set_option maxHeartbeats 4000000 in
theorem gw_law_s_X11_holds_78 : GoodIn lw_tbl (wsV RL 78 RX11 yX11_holds u_s_X11_holds) := z_gV (z_gr2 gs_all _ [(8, 52), (8, 53), (8, 54), (0, 2)] rfl) gl_s_X11_holds
set_option maxRecDepth 20000 in
set_option maxHeartbeats 4000000 in
theorem gw_law_s_X12_holds_81 : GoodIn lw_tbl (wsV RL 81 RX12 yX12_holds u_s_X12_holds) := z_gV (z_gr2 gs_all _ [(8, 55), (8, 56), (8, 57), (0, 0)] rfl) gl_s_X12_holds
set_option maxRecDepth 20000 in
set_option maxHeartbeats 4000000 in
theorem gw_law_s_X11_kind_82 : GoodIn lw_tbl (wsV RL 82 RX11 yX11_kind u_s_X11_kind) := z_gV (z_gr2 gs_all _ [(8, 58), (8, 59), (9, 0), (0, 2)] rfl) gl_s_X11_kind
set_option maxRecDepth 20000 in
set_option maxHeartbeats 4000000 in
theorem gw_law_s_X12_kind_85 : GoodIn lw_tbl (wsV RL 85 RX12 yX12_kind u_s_X12_kind) := z_gV (z_gr2 gs_all _ [(9, 1), (9, 2), (9, 3), (0, 0)] rfl) gl_s_X12_kind
