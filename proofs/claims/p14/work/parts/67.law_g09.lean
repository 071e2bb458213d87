set_option maxRecDepth 20000 in
set_option maxHeartbeats 4000000 in
theorem gw_law_s_X11_fault_33 : GoodIn lw_tbl (wsV RL 33 RX11 yX11_fault u_s_X11_fault) := z_gV (z_gr2 gs_all _ [(7, 52), (7, 53), (7, 54), (0, 2)] rfl) gl_s_X11_fault
set_option maxRecDepth 20000 in
set_option maxHeartbeats 4000000 in
theorem gw_law_s_X12_fault_36 : GoodIn lw_tbl (wsV RL 36 RX12 yX12_fault u_s_X12_fault) := z_gV (z_gr2 gs_all _ [(7, 55), (7, 56), (7, 57), (0, 0)] rfl) gl_s_X12_fault
set_option maxRecDepth 20000 in
set_option maxHeartbeats 4000000 in
theorem gw_law_s_X11_layerA_37 : GoodIn lw_tbl (wsV RL 37 RX11 yX11_layer u_s_X11_layerA) := z_gV (z_gr2 gs_all _ [(7, 58), (7, 59), (8, 0), (0, 2)] rfl) gl_s_X11_layerA
set_option maxRecDepth 20000 in
set_option maxHeartbeats 4000000 in
theorem gw_law_s_X12_layerA_41 : GoodIn lw_tbl (wsV RL 41 RX12 yX12_layer u_s_X12_layerA) := z_gV (z_gr2 gs_all _ [(8, 1), (8, 2), (8, 3), (0, 0)] rfl) gl_s_X12_layerA
set_option maxRecDepth 20000 in
set_option maxHeartbeats 4000000 in
theorem gw_law_s_X11_note_42 : GoodIn lw_tbl (wsV RL 42 RX11 yX11_note u_s_X11_note) := z_gV (z_gr2 gs_all _ [(8, 4), (8, 5), (8, 6), (0, 2)] rfl) gl_s_X11_note
set_option maxRecDepth 20000 in
set_option maxHeartbeats 4000000 in
theorem gw_law_s_X12_note_46 : GoodIn lw_tbl (wsV RL 46 RX12 yX12_note u_s_X12_note) := z_gV (z_gr2 gs_all _ [(8, 7), (8, 8), (8, 9), (0, 0)] rfl) gl_s_X12_note
