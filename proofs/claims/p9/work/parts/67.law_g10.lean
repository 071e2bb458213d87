set_option maxRecDepth 20000 in
set_option maxHeartbeats 4000000 in
theorem gw_law_s_X11_fault_33 : GoodIn lw_tbl (wsV RL 33 RX11 yX11_fault u_s_X11_fault) := z_gV (z_gr2 gs_all _ [(8, 30), (8, 31), (8, 32), (0, 2)] rfl) gl_s_X11_fault
set_option maxRecDepth 20000 in
set_option maxHeartbeats 4000000 in
theorem gw_law_s_X12_fault_36 : GoodIn lw_tbl (wsV RL 36 RX12 yX12_fault u_s_X12_fault) := z_gV (z_gr2 gs_all _ [(8, 33), (8, 34), (8, 35), (0, 0)] rfl) gl_s_X12_fault
set_option maxRecDepth 20000 in
set_option maxHeartbeats 4000000 in
theorem gw_law_s_X11_layerA_37 : GoodIn lw_tbl (wsV RL 37 RX11 yX11_layer u_s_X11_layerA) := z_gV (z_gr2 gs_all _ [(8, 36), (8, 37), (8, 38), (0, 2)] rfl) gl_s_X11_layerA
set_option maxRecDepth 20000 in
set_option maxHeartbeats 4000000 in
theorem gw_law_s_X12_layerA_41 : GoodIn lw_tbl (wsV RL 41 RX12 yX12_layer u_s_X12_layerA) := z_gV (z_gr2 gs_all _ [(8, 39), (8, 40), (8, 41), (0, 0)] rfl) gl_s_X12_layerA
set_option maxRecDepth 20000 in
set_option maxHeartbeats 4000000 in
theorem gw_law_s_X11_noteK_42 : GoodIn lw_tbl (wsV RL 42 RX11 yX11_note u_s_X11_noteK) := z_gV (z_gr2 gs_all _ [(8, 42), (8, 43), (8, 44), (0, 2)] rfl) gl_s_X11_noteK
set_option maxRecDepth 20000 in
set_option maxHeartbeats 4000000 in
theorem gw_law_s_X12_noteK_46 : GoodIn lw_tbl (wsV RL 46 RX12 yX12_note u_s_X12_noteK) := z_gV (z_gr2 gs_all _ [(8, 45), (8, 46), (8, 47), (0, 0)] rfl) gl_s_X12_noteK
