set_option maxRecDepth 20000 in
set_option maxHeartbeats 4000000 in
theorem gw_law_s_X11_quarrel_60 : GoodIn lw_tbl (wsV RL 60 RX11 yX11_quarrel u_s_X11_quarrel) := z_gV (z_gr2 gs_all _ [(8, 48), (8, 49), (8, 50), (0, 2)] rfl) gl_s_X11_quarrel
set_option maxRecDepth 20000 in
set_option maxHeartbeats 4000000 in
theorem gw_law_s_X12_quarrel_63 : GoodIn lw_tbl (wsV RL 63 RX12 yX12_quarrel u_s_X12_quarrel) := z_gV (z_gr2 gs_all _ [(8, 51), (8, 52), (8, 53), (0, 0)] rfl) gl_s_X12_quarrel
set_option maxRecDepth 20000 in
set_option maxHeartbeats 4000000 in
theorem gw_law_s_X11_heap_64 : GoodIn lw_tbl (wsV RL 64 RX11 yX11_heap u_s_X11_heap) := z_gV (z_gr2 gs_all _ [(8, 54), (8, 55), (8, 56), (0, 2)] rfl) gl_s_X11_heap
set_option maxRecDepth 20000 in
set_option maxHeartbeats 4000000 in
theorem gw_law_s_X12_heap_68 : GoodIn lw_tbl (wsV RL 68 RX12 yX12_heap u_s_X12_heap) := z_gV (z_gr2 gs_all _ [(8, 57), (8, 58), (8, 59), (0, 0)] rfl) gl_s_X12_heap
set_option maxRecDepth 20000 in
set_option maxHeartbeats 4000000 in
theorem gw_law_s_X11_column_69 : GoodIn lw_tbl (wsV RL 69 RX11 yX11_column u_s_X11_column) := z_gV (z_gr2 gs_all _ [(9, 0), (9, 1), (9, 2), (0, 2)] rfl) gl_s_X11_column
set_option maxRecDepth 20000 in
set_option maxHeartbeats 4000000 in
theorem gw_law_s_X12_column_72 : GoodIn lw_tbl (wsV RL 72 RX12 yX12_column u_s_X12_column) := z_gV (z_gr2 gs_all _ [(9, 3), (9, 4), (9, 5), (0, 0)] rfl) gl_s_X12_column
