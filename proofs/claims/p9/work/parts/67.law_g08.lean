set_option maxRecDepth 20000 in
set_option maxHeartbeats 4000000 in
theorem gl_s_X12_aheadOf : GoodIn lw_tbl u_s_X12_aheadOf := goodIn_ca (z_gr2 gs_all _ [(20, 1), (0, 56), (1, 0), (1, 22)] rfl) (goodIn_app ig_X12 (goodIn_n))
set_option maxRecDepth 20000 in
set_option maxHeartbeats 4000000 in
theorem gl_s_X12_causeOf : GoodIn lw_tbl u_s_X12_causeOf := goodIn_ca (z_gr2 gs_all _ [(20, 2), (1, 13), (2, 35), (2, 38), (2, 34), (2, 36), (5, 16), (1, 23), (1, 43), (20, 3), (20, 4), (0, 0), (8, 7), (8, 8), (1, 44), (2, 37), (20, 5), (20, 6), (20, 7), (20, 8), (20, 9), (20, 10)] rfl) (goodIn_app ig_X12 (goodIn_app gl_s_X12_made (goodIn_app gl_s_X12_truth (goodIn_app gl_s_X12_nameValue (goodIn_app gl_s_X12_aheadOf (goodIn_n))))))
set_option maxRecDepth 20000 in
set_option maxHeartbeats 4000000 in
theorem gl_s_X12_cause : GoodIn lw_tbl u_s_X12_cause := goodIn_ca (z_gr2 gs_all _ [(20, 11), (0, 3), (1, 13), (2, 53), (0, 17), (0, 18), (0, 19), (0, 0), (0, 5), (0, 24), (0, 25), (0, 26), (0, 4), (8, 9), (8, 10), (8, 11)] rfl) (goodIn_app ig_X12 (goodIn_app gl_s_X12_isLayer (goodIn_app gl_s_X12_know (goodIn_app gl_s_X12_causeOf (goodIn_n)))))
set_option maxRecDepth 20000 in
set_option maxHeartbeats 4000000 in
theorem gl_s_X11_whyK : GoodIn lw_tbl u_s_X11_whyK := goodIn_ca (z_gr2 gs_all _ [(20, 12), (0, 7), (0, 14), (0, 15), (0, 16), (0, 8), (0, 38), (1, 31), (1, 6), (1, 7), (1, 8), (0, 6), (3, 29), (2, 4), (7, 58), (7, 59), (8, 0), (0, 59), (1, 41), (2, 44), (2, 45), (8, 1), (8, 2), (8, 3), (7, 57)] rfl) (goodIn_app ig_X11 (goodIn_app ig_X0 (goodIn_app ig_X4 (goodIn_app ig_X8 (goodIn_app ig_X7 (goodIn_app gl_s_X0_hasLayer (goodIn_app gl_s_X4_lookK (goodIn_app gl_s_X3_turnTo (goodIn_app gl_s_X3_worthOf (goodIn_n))))))))))
set_option maxRecDepth 20000 in
set_option maxHeartbeats 4000000 in
theorem gl_s_X12_why : GoodIn lw_tbl u_s_X12_why := goodIn_ca (z_gr2 gs_all _ [(20, 13), (0, 3), (0, 17), (0, 18), (0, 19), (0, 0), (0, 5), (0, 24), (0, 25), (0, 26), (2, 53), (0, 4), (8, 9), (8, 10), (8, 11), (1, 13)] rfl) (goodIn_app ig_X12 (goodIn_app gl_s_X12_isLayer (goodIn_app gl_s_X12_know (goodIn_app gl_s_X12_causeOf (goodIn_n)))))
set_option maxRecDepth 20000 in
set_option maxHeartbeats 4000000 in
theorem gl_s_X12_fails : GoodIn lw_tbl u_s_X12_fails := goodIn_ca (z_gr2 gs_all _ [(20, 14), (0, 3)] rfl) (goodIn_app ig_X12 (goodIn_n))
set_option maxRecDepth 20000 in
set_option maxHeartbeats 4000000 in
theorem gl_s_X12_count : GoodIn lw_tbl u_s_X12_count := goodIn_ca (z_gr2 gs_all _ [(20, 15), (0, 3), (20, 16), (20, 17), (20, 18), (0, 0), (0, 5), (0, 24), (0, 25), (0, 26), (1, 4), (0, 4), (1, 9), (1, 5), (2, 57), (2, 53), (6, 28)] rfl) (goodIn_app ig_X12 (goodIn_app gl_s_X12_fails (goodIn_app gl_s_X12_know (goodIn_n))))
set_option maxRecDepth 20000 in
set_option maxHeartbeats 4000000 in
theorem gl_s_X4_bedsInAll : GoodIn lw_tbl u_s_X4_bedsInAll := goodIn_ca (z_gr2 gs_all _ [(20, 19), (0, 20), (0, 51)] rfl) (goodIn_app ig_X4 (goodIn_n))
set_option maxRecDepth 20000 in
set_option maxHeartbeats 4000000 in
theorem gl_s_X11_countK : GoodIn lw_tbl u_s_X11_countK := goodIn_ca (z_gr2 gs_all _ [(20, 20), (0, 38), (0, 7), (1, 31), (1, 6), (1, 7), (1, 8), (0, 6), (20, 21), (20, 22), (20, 23), (6, 45), (1, 18), (4, 31), (1, 19), (20, 24), (2, 20), (20, 25), (1, 41), (2, 44), (2, 45), (20, 26)] rfl) (goodIn_app ig_X11 (goodIn_app ig_X0 (goodIn_app ig_X2 (goodIn_app ig_X5 (goodIn_app ig_X9 (goodIn_app ig_X8 (goodIn_app ig_X7 (goodIn_app gl_s_X4_lookK (goodIn_app gl_s_X4_bedsInAll (goodIn_n))))))))))
set_option maxRecDepth 20000 in
set_option maxHeartbeats 4000000 in
theorem gl_s_L_count_inK : GoodIn lw_tbl u_s_L_count_inK := goodIn_ca (z_gr2 gs_all _ [(20, 27), (20, 28), (20, 29), (20, 30), (0, 2)] rfl) (goodIn_app gl_s_X11_countK (goodIn_n))
