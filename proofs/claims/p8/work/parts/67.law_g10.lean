set_option maxRecDepth 20000 in
set_option maxHeartbeats 4000000 in
theorem gw_law_s_X11_fault_33 : GoodIn lw_tbl (wsV RL 33 RX11 yX11_fault u_s_X11_fault) := z_gV (z_gr2 gs_all _ [(8, 12), (8, 13), (8, 14), (0, 2)] rfl) gl_s_X11_fault
set_option maxRecDepth 20000 in
set_option maxHeartbeats 4000000 in
theorem gw_law_s_X12_fault_36 : GoodIn lw_tbl (wsV RL 36 RX12 yX12_fault u_s_X12_fault) := z_gV (z_gr2 gs_all _ [(8, 15), (8, 16), (8, 17), (0, 0)] rfl) gl_s_X12_fault
set_option maxRecDepth 20000 in
set_option maxHeartbeats 4000000 in
theorem gw_law_s_X11_layerA_37 : GoodIn lw_tbl (wsV RL 37 RX11 yX11_layer u_s_X11_layerA) := z_gV (z_gr2 gs_all _ [(8, 18), (8, 19), (8, 20), (0, 2)] rfl) gl_s_X11_layerA
set_option maxRecDepth 20000 in
set_option maxHeartbeats 4000000 in
theorem gw_law_s_X12_layerA_41 : GoodIn lw_tbl (wsV RL 41 RX12 yX12_layer u_s_X12_layerA) := z_gV (z_gr2 gs_all _ [(8, 21), (8, 22), (8, 23), (0, 0)] rfl) gl_s_X12_layerA
set_option maxRecDepth 20000 in
set_option maxHeartbeats 4000000 in
theorem gw_law_s_X11_note3_42 : GoodIn lw_tbl (wsV RL 42 RX11 yX11_note u_s_X11_note3) := z_gV (z_gr2 gs_all _ [(8, 24), (8, 25), (8, 26), (0, 2)] rfl) gl_s_X11_note3
set_option maxRecDepth 20000 in
set_option maxHeartbeats 4000000 in
theorem gw_law_s_X12_note3_46 : GoodIn lw_tbl (wsV RL 46 RX12 yX12_note u_s_X12_note3) := z_gV (z_gr2 gs_all _ [(8, 27), (8, 28), (8, 29), (0, 0)] rfl) gl_s_X12_note3
