set_option maxRecDepth 20000 in
set_option maxHeartbeats 4000000 in
theorem gw_law_s_X11_fault_33 : GoodIn lw_tbl (wsV RL 33 RX11 yX11_fault u_s_X11_fault) := z_gV (z_gr2 gs_all _ [(9, 33), (9, 34), (9, 35), (0, 2)] rfl) gl_s_X11_fault
set_option maxRecDepth 20000 in
set_option maxHeartbeats 4000000 in
theorem gw_law_s_X12_fault_36 : GoodIn lw_tbl (wsV RL 36 RX12 yX12_fault u_s_X12_fault) := z_gV (z_gr2 gs_all _ [(9, 36), (9, 37), (9, 38), (0, 0)] rfl) gl_s_X12_fault
set_option maxRecDepth 20000 in
set_option maxHeartbeats 4000000 in
theorem gw_law_s_X11_layerA_37 : GoodIn lw_tbl (wsV RL 37 RX11 yX11_layer u_s_X11_layerA) := z_gV (z_gr2 gs_all _ [(9, 39), (9, 40), (9, 41), (0, 2)] rfl) gl_s_X11_layerA
set_option maxRecDepth 20000 in
set_option maxHeartbeats 4000000 in
theorem gw_law_s_X12_layerA_41 : GoodIn lw_tbl (wsV RL 41 RX12 yX12_layer u_s_X12_layerA) := z_gV (z_gr2 gs_all _ [(9, 42), (9, 43), (9, 44), (0, 0)] rfl) gl_s_X12_layerA
set_option maxRecDepth 20000 in
set_option maxHeartbeats 4000000 in
theorem gw_law_s_X11_noteK_42 : GoodIn lw_tbl (wsV RL 42 RX11 yX11_note u_s_X11_noteK) := z_gV (z_gr2 gs_all _ [(9, 45), (9, 46), (9, 47), (0, 2)] rfl) gl_s_X11_noteK
set_option maxRecDepth 20000 in
set_option maxHeartbeats 4000000 in
theorem gw_law_s_X12_noteK_46 : GoodIn lw_tbl (wsV RL 46 RX12 yX12_note u_s_X12_noteK) := z_gV (z_gr2 gs_all _ [(9, 48), (9, 49), (9, 50), (0, 0)] rfl) gl_s_X12_noteK
