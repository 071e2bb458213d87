set_option maxRecDepth 20000 in
set_option maxHeartbeats 4000000 in
theorem gw_law_s_X11_fault_33 : GoodIn lw_tbl (wsV RL 33 RX11 yX11_fault u_s_X11_fault) := z_gV (z_gr2 gs_all _ [(7, 50), (7, 51), (7, 52), (0, 2)] rfl) gl_s_X11_fault
set_option maxRecDepth 20000 in
set_option maxHeartbeats 4000000 in
theorem gw_law_s_X12_fault_36 : GoodIn lw_tbl (wsV RL 36 RX12 yX12_fault u_s_X12_fault) := z_gV (z_gr2 gs_all _ [(7, 53), (7, 54), (7, 55), (0, 0)] rfl) gl_s_X12_fault
set_option maxRecDepth 20000 in
set_option maxHeartbeats 4000000 in
theorem gw_law_s_X11_layer_37 : GoodIn lw_tbl (wsV RL 37 RX11 yX11_layer u_s_X11_layer) := z_gV (z_gr2 gs_all _ [(7, 56), (7, 57), (7, 58), (0, 2)] rfl) gl_s_X11_layer
set_option maxRecDepth 20000 in
set_option maxHeartbeats 4000000 in
theorem gw_law_s_X12_layer_41 : GoodIn lw_tbl (wsV RL 41 RX12 yX12_layer u_s_X12_layer) := z_gV (z_gr2 gs_all _ [(7, 59), (8, 0), (8, 1), (0, 0)] rfl) gl_s_X12_layer
set_option maxRecDepth 20000 in
set_option maxHeartbeats 4000000 in
theorem gw_law_s_X11_note_42 : GoodIn lw_tbl (wsV RL 42 RX11 yX11_note u_s_X11_note) := z_gV (z_gr2 gs_all _ [(8, 2), (8, 3), (8, 4), (0, 2)] rfl) gl_s_X11_note
set_option maxRecDepth 20000 in
set_option maxHeartbeats 4000000 in
theorem gw_law_s_X12_note_46 : GoodIn lw_tbl (wsV RL 46 RX12 yX12_note u_s_X12_note) := z_gV (z_gr2 gs_all _ [(8, 5), (8, 6), (8, 7), (0, 0)] rfl) gl_s_X12_note
