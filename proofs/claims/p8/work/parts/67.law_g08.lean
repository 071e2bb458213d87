set_option maxRecDepth 20000 in
set_option maxHeartbeats 4000000 in
theorem gl_s_X11_count : GoodIn lw_tbl u_s_X11_count := goodIn_ca (z_gr2 gs_all _ [(20, 20), (0, 36), (0, 5), (1, 24), (1, 2), (1, 3), (1, 4), (0, 4), (20, 21), (20, 22), (20, 23), (6, 45), (1, 12), (4, 31), (1, 13), (20, 24), (2, 18), (20, 25), (1, 37), (2, 39), (2, 40), (20, 26)] rfl) (goodIn_app ig_X11 (goodIn_app ig_X0 (goodIn_app ig_X2 (goodIn_app ig_X5 (goodIn_app ig_X9 (goodIn_app ig_X8 (goodIn_app ig_X7 (goodIn_app gl_s_X4_look (goodIn_app gl_s_X4_bedsInAll (goodIn_n))))))))))
set_option maxRecDepth 20000 in
set_option maxHeartbeats 4000000 in
theorem gl_s_L_count_in : GoodIn lw_tbl u_s_L_count_in := goodIn_ca (z_gr2 gs_all _ [(20, 27), (20, 28), (20, 29), (20, 30), (0, 2)] rfl) (goodIn_app gl_s_X11_count (goodIn_n))
