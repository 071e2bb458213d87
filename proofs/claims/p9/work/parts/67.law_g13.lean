set_option maxRecDepth 20000 in
set_option maxHeartbeats 4000000 in
theorem gw_law_s_X11_thick_73 : GoodIn lw_tbl (wsV RL 73 RX11 yX11_thick u_s_X11_thick) := z_gV (z_gr2 gs_all _ [(9, 24), (9, 25), (9, 26), (0, 2)] rfl) gl_s_X11_thick
set_option maxRecDepth 20000 in
set_option maxHeartbeats 4000000 in
theorem gw_law_s_X12_thick_77 : GoodIn lw_tbl (wsV RL 77 RX12 yX12_thick u_s_X12_thick) := z_gV (z_gr2 gs_all _ [(9, 27), (9, 28), (9, 29), (0, 0)] rfl) gl_s_X12_thick
set_option maxRecDepth 20000 in
set_option maxHeartbeats 4000000 in
theorem gw_law_s_X11_holdsK_78 : GoodIn lw_tbl (wsV RL 78 RX11 yX11_holds u_s_X11_holdsK) := z_gV (z_gr2 gs_all _ [(9, 30), (9, 31), (9, 32), (0, 2)] rfl) gl_s_X11_holdsK
set_option maxRecDepth 20000 in
set_option maxHeartbeats 4000000 in
theorem gw_law_s_X12_holds_81 : GoodIn lw_tbl (wsV RL 81 RX12 yX12_holds u_s_X12_holds) := z_gV (z_gr2 gs_all _ [(9, 33), (9, 34), (9, 35), (0, 0)] rfl) gl_s_X12_holds
set_option maxRecDepth 20000 in
set_option maxHeartbeats 4000000 in
theorem gw_law_s_X11_kindA_82 : GoodIn lw_tbl (wsV RL 82 RX11 yX11_kind u_s_X11_kindA) := z_gV (z_gr2 gs_all _ [(9, 36), (9, 37), (9, 38), (0, 2)] rfl) gl_s_X11_kindA
set_option maxRecDepth 20000 in
set_option maxHeartbeats 4000000 in
theorem gw_law_s_X12_kindA_85 : GoodIn lw_tbl (wsV RL 85 RX12 yX12_kind u_s_X12_kindA) := z_gV (z_gr2 gs_all _ [(9, 39), (9, 40), (9, 41), (0, 0)] rfl) gl_s_X12_kindA
