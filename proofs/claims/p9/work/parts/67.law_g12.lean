set_option maxRecDepth 20000 in
set_option maxHeartbeats 4000000 in
theorem gw_law_s_X11_quarrelK_60 : GoodIn lw_tbl (wsV RL 60 RX11 yX11_quarrel u_s_X11_quarrelK) := z_gV (z_gr2 gs_all _ [(9, 6), (9, 7), (9, 8), (0, 2)] rfl) gl_s_X11_quarrelK
set_option maxRecDepth 20000 in
set_option maxHeartbeats 4000000 in
theorem gw_law_s_X12_quarrelK_63 : GoodIn lw_tbl (wsV RL 63 RX12 yX12_quarrel u_s_X12_quarrelK) := z_gV (z_gr2 gs_all _ [(9, 9), (9, 10), (9, 11), (0, 0)] rfl) gl_s_X12_quarrelK
set_option maxRecDepth 20000 in
set_option maxHeartbeats 4000000 in
theorem gw_law_s_X11_heap_64 : GoodIn lw_tbl (wsV RL 64 RX11 yX11_heap u_s_X11_heap) := z_gV (z_gr2 gs_all _ [(9, 12), (9, 13), (9, 14), (0, 2)] rfl) gl_s_X11_heap
set_option maxRecDepth 20000 in
set_option maxHeartbeats 4000000 in
theorem gw_law_s_X12_heap_68 : GoodIn lw_tbl (wsV RL 68 RX12 yX12_heap u_s_X12_heap) := z_gV (z_gr2 gs_all _ [(9, 15), (9, 16), (9, 17), (0, 0)] rfl) gl_s_X12_heap
set_option maxRecDepth 20000 in
set_option maxHeartbeats 4000000 in
theorem gw_law_s_X11_column_69 : GoodIn lw_tbl (wsV RL 69 RX11 yX11_column u_s_X11_column) := z_gV (z_gr2 gs_all _ [(9, 18), (9, 19), (9, 20), (0, 2)] rfl) gl_s_X11_column
set_option maxRecDepth 20000 in
set_option maxHeartbeats 4000000 in
theorem gw_law_s_X12_column_72 : GoodIn lw_tbl (wsV RL 72 RX12 yX12_column u_s_X12_column) := z_gV (z_gr2 gs_all _ [(9, 21), (9, 22), (9, 23), (0, 0)] rfl) gl_s_X12_column
