set_option maxRecDepth 20000 in
set_option maxHeartbeats 4000000 in
theorem gw_law_s_X11_quarrel_60 : GoodIn lw_tbl (wsV RL 60 RX11 yX11_quarrel u_s_X11_quarrel) := z_gV (z_gr2 gs_all _ [(8, 26), (8, 27), (8, 28), (0, 2)] rfl) gl_s_X11_quarrel
set_option maxRecDepth 20000 in
set_option maxHeartbeats 4000000 in
theorem gw_law_s_X12_quarrel_63 : GoodIn lw_tbl (wsV RL 63 RX12 yX12_quarrel u_s_X12_quarrel) := z_gV (z_gr2 gs_all _ [(8, 29), (8, 30), (8, 31), (0, 0)] rfl) gl_s_X12_quarrel
set_option maxRecDepth 20000 in
set_option maxHeartbeats 4000000 in
theorem gw_law_s_X11_heapG_64 : GoodIn lw_tbl (wsV RL 64 RX11 yX11_heap u_s_X11_heapG) := z_gV (z_gr2 gs_all _ [(8, 32), (8, 33), (8, 34), (0, 2)] rfl) gl_s_X11_heapG
set_option maxRecDepth 20000 in
set_option maxHeartbeats 4000000 in
theorem gw_law_s_X12_heapG_68 : GoodIn lw_tbl (wsV RL 68 RX12 yX12_heap u_s_X12_heapG) := z_gV (z_gr2 gs_all _ [(8, 35), (8, 36), (8, 37), (0, 0)] rfl) gl_s_X12_heapG
set_option maxRecDepth 20000 in
set_option maxHeartbeats 4000000 in
theorem gw_law_s_X11_columnA_69 : GoodIn lw_tbl (wsV RL 69 RX11 yX11_column u_s_X11_columnA) := z_gV (z_gr2 gs_all _ [(8, 38), (8, 39), (8, 40), (0, 2)] rfl) gl_s_X11_columnA
set_option maxRecDepth 20000 in
set_option maxHeartbeats 4000000 in
theorem gw_law_s_X12_columnA_72 : GoodIn lw_tbl (wsV RL 72 RX12 yX12_column u_s_X12_columnA) := z_gV (z_gr2 gs_all _ [(8, 41), (8, 42), (8, 43), (0, 0)] rfl) gl_s_X12_columnA
