set_option maxRecDepth 20000 in
set_option maxHeartbeats 4000000 in
theorem gw_law_s_X11_quarrel_60 : GoodIn lw_tbl (wsV RL 60 RX11 yX11_quarrel u_s_X11_quarrel) := z_gV (z_gr2 gs_all _ [(8, 28), (8, 29), (8, 30), (0, 2)] rfl) gl_s_X11_quarrel
set_option maxRecDepth 20000 in
set_option maxHeartbeats 4000000 in
theorem gw_law_s_X12_quarrel_63 : GoodIn lw_tbl (wsV RL 63 RX12 yX12_quarrel u_s_X12_quarrel) := z_gV (z_gr2 gs_all _ [(8, 31), (8, 32), (8, 33), (0, 0)] rfl) gl_s_X12_quarrel
set_option maxRecDepth 20000 in
set_option maxHeartbeats 4000000 in
theorem gw_law_s_X11_heapG_64 : GoodIn lw_tbl (wsV RL 64 RX11 yX11_heap u_s_X11_heapG) := z_gV (z_gr2 gs_all _ [(8, 34), (8, 35), (8, 36), (0, 2)] rfl) gl_s_X11_heapG
set_option maxRecDepth 20000 in
set_option maxHeartbeats 4000000 in
theorem gw_law_s_X12_heapG_68 : GoodIn lw_tbl (wsV RL 68 RX12 yX12_heap u_s_X12_heapG) := z_gV (z_gr2 gs_all _ [(8, 37), (8, 38), (8, 39), (0, 0)] rfl) gl_s_X12_heapG
set_option maxRecDepth 20000 in
set_option maxHeartbeats 4000000 in
theorem gw_law_s_X11_columnA_69 : GoodIn lw_tbl (wsV RL 69 RX11 yX11_column u_s_X11_columnA) := z_gV (z_gr2 gs_all _ [(8, 40), (8, 41), (8, 42), (0, 2)] rfl) gl_s_X11_columnA
set_option maxRecDepth 20000 in
set_option maxHeartbeats 4000000 in
theorem gw_law_s_X12_columnA_72 : GoodIn lw_tbl (wsV RL 72 RX12 yX12_column u_s_X12_columnA) := z_gV (z_gr2 gs_all _ [(8, 43), (8, 44), (8, 45), (0, 0)] rfl) gl_s_X12_columnA
