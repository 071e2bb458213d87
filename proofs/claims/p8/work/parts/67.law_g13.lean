set_option maxRecDepth 20000 in
set_option maxHeartbeats 4000000 in
theorem gw_law_s_X11_thick_73 : GoodIn lw_tbl (wsV RL 73 RX11 yX11_thick u_s_X11_thick) := z_gV (z_gr2 gs_all _ [(9, 6), (9, 7), (9, 8), (0, 2)] rfl) gl_s_X11_thick
set_option maxRecDepth 20000 in
set_option maxHeartbeats 4000000 in
theorem gw_law_s_X12_thick_77 : GoodIn lw_tbl (wsV RL 77 RX12 yX12_thick u_s_X12_thick) := z_gV (z_gr2 gs_all _ [(9, 9), (9, 10), (9, 11), (0, 0)] rfl) gl_s_X12_thick
set_option maxRecDepth 20000 in
set_option maxHeartbeats 4000000 in
theorem gw_law_s_X11_holds_78 : GoodIn lw_tbl (wsV RL 78 RX11 yX11_holds u_s_X11_holds) := z_gV (z_gr2 gs_all _ [(9, 12), (9, 13), (9, 14), (0, 2)] rfl) gl_s_X11_holds
set_option maxRecDepth 20000 in
set_option maxHeartbeats 4000000 in
theorem gw_law_s_X12_holds_81 : GoodIn lw_tbl (wsV RL 81 RX12 yX12_holds u_s_X12_holds) := z_gV (z_gr2 gs_all _ [(9, 15), (9, 16), (9, 17), (0, 0)] rfl) gl_s_X12_holds
set_option maxRecDepth 20000 in
set_option maxHeartbeats 4000000 in
theorem gw_law_s_X11_kindA_82 : GoodIn lw_tbl (wsV RL 82 RX11 yX11_kind u_s_X11_kindA) := z_gV (z_gr2 gs_all _ [(9, 18), (9, 19), (9, 20), (0, 2)] rfl) gl_s_X11_kindA
set_option maxRecDepth 20000 in
set_option maxHeartbeats 4000000 in
theorem gw_law_s_X12_kindA_85 : GoodIn lw_tbl (wsV RL 85 RX12 yX12_kind u_s_X12_kindA) := z_gV (z_gr2 gs_all _ [(9, 21), (9, 22), (9, 23), (0, 0)] rfl) gl_s_X12_kindA
