set_option maxRecDepth 20000 in
set_option maxHeartbeats 4000000 in
theorem gw_law_s_X11_quarrelK_60 : GoodIn lw_tbl (wsV RL 60 RX11 yX11_quarrel u_s_X11_quarrelK) := z_gV (z_gr2 gs_all _ [(10, 9), (10, 10), (10, 11), (0, 2)] rfl) gl_s_X11_quarrelK
set_option maxRecDepth 20000 in
set_option maxHeartbeats 4000000 in
theorem gw_law_s_X12_quarrelK_63 : GoodIn lw_tbl (wsV RL 63 RX12 yX12_quarrel u_s_X12_quarrelK) := z_gV (z_gr2 gs_all _ [(10, 12), (10, 13), (10, 14), (0, 0)] rfl) gl_s_X12_quarrelK
set_option maxRecDepth 20000 in
set_option maxHeartbeats 4000000 in
theorem gw_law_s_X11_heapG_64 : GoodIn lw_tbl (wsV RL 64 RX11 yX11_heap u_s_X11_heapG) := z_gV (z_gr2 gs_all _ [(10, 15), (10, 16), (10, 17), (0, 2)] rfl) gl_s_X11_heapG
set_option maxRecDepth 20000 in
set_option maxHeartbeats 4000000 in
theorem gw_law_s_X12_heapG_68 : GoodIn lw_tbl (wsV RL 68 RX12 yX12_heap u_s_X12_heapG) := z_gV (z_gr2 gs_all _ [(10, 18), (10, 19), (10, 20), (0, 0)] rfl) gl_s_X12_heapG
set_option maxRecDepth 20000 in
set_option maxHeartbeats 4000000 in
theorem gw_law_s_X11_columnT_69 : GoodIn lw_tbl (wsV RL 69 RX11 yX11_column u_s_X11_columnT) := z_gV (z_gr2 gs_all _ [(10, 21), (10, 22), (10, 23), (0, 2)] rfl) gl_s_X11_columnT
set_option maxRecDepth 20000 in
set_option maxHeartbeats 4000000 in
theorem gw_law_s_X12_columnT_72 : GoodIn lw_tbl (wsV RL 72 RX12 yX12_column u_s_X12_columnT) := z_gV (z_gr2 gs_all _ [(10, 24), (10, 25), (10, 26), (0, 0)] rfl) gl_s_X12_columnT
