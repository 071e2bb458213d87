set_option maxRecDepth 20000 in
set_option maxHeartbeats 4000000 in
theorem gl_s_X3_valueOfE : GoodIn lw_tbl u_s_X3_valueOfE := goodIn_ca (z_gr2 gs_all _ [(19, 23), (3, 50), (19, 24), (4, 44), (4, 45), (0, 5), (3, 51), (19, 25), (4, 50), (4, 51), (0, 18), (19, 26), (19, 27), (19, 28), (1, 10), (5, 32), (19, 29), (8, 53), (8, 54), (1, 27), (5, 31), (19, 30), (8, 44), (8, 45), (0, 26), (19, 31), (7, 0), (7, 1), (5, 10), (19, 32), (7, 2), (7, 3), (5, 30), (19, 33), (7, 24), (7, 25), (0, 53), (19, 34), (19, 35)] rfl) (goodIn_app ig_X3 (goodIn_app ig_X2 (goodIn_app gl_s_X4_layersOfK (goodIn_app gl_s_X5_gatherX (goodIn_app gl_s_X3_ofShellsE (goodIn_app gl_s_X9_middleOfM (goodIn_app gl_s_X6_seasonsMetP (goodIn_app gl_s_bitCountK (goodIn_app gl_s_X4_rankOfK (goodIn_app gl_s_X2_weighH (goodIn_n)))))))))))
set_option maxRecDepth 20000 in
set_option maxHeartbeats 4000000 in
theorem gl_s_X3_partE : GoodIn lw_tbl u_s_X3_partE := goodIn_ca (z_gr2 gs_all _ [(19, 36), (3, 49), (2, 29), (3, 47), (5, 28), (19, 37), (19, 38), (19, 39), (1, 10), (5, 10), (3, 48)] rfl) (goodIn_app ig_X3 (goodIn_app gl_s_X3_valueOfE (goodIn_n)))
set_option maxRecDepth 20000 in
set_option maxHeartbeats 4000000 in
theorem gl_s_X3_worthOfE : GoodIn lw_tbl u_s_X3_worthOfE := goodIn_ca (z_gr2 gs_all _ [(19, 40), (19, 41), (2, 29), (5, 29), (19, 42), (19, 43), (19, 44), (1, 10), (19, 45), (19, 46), (19, 47), (19, 48)] rfl) (goodIn_app ig_X7 (goodIn_app ig_X3 (goodIn_app gl_s_X3_joinedE (goodIn_app gl_s_X3_partE (goodIn_n)))))
set_option maxRecDepth 20000 in
set_option maxHeartbeats 4000000 in
theorem gl_s_X11_causeE : GoodIn lw_tbl u_s_X11_causeE := goodIn_ca (z_gr2 gs_all _ [(19, 49), (9, 0), (2, 4), (3, 10), (3, 11), (0, 7), (0, 12), (0, 13), (0, 14), (0, 8), (0, 36), (1, 40), (1, 16), (1, 17), (1, 18), (0, 5), (3, 52), (2, 27), (9, 1), (9, 2), (9, 3), (1, 10), (9, 4), (9, 5), (9, 6)] rfl) (goodIn_app ig_X11 (goodIn_app ig_X8 (goodIn_app ig_X7 (goodIn_app ig_X0 (goodIn_app ig_X4 (goodIn_app gl_s_X0_hasLayerA (goodIn_app gl_s_X4_lookK (goodIn_app gl_s_X3_turnToE (goodIn_app gl_s_X3_worthOfE (goodIn_n))))))))))
set_option maxRecDepth 20000 in
set_option maxHeartbeats 4000000 in
theorem gl_s_X12_truthE : GoodIn lw_tbl u_s_X12_truthE := goodIn_ca (z_gr2 gs_all _ [(19, 50)] rfl) (goodIn_n)
set_option maxRecDepth 20000 in
set_option maxHeartbeats 4000000 in
theorem gl_s_X12_bigE : GoodIn lw_tbl u_s_X12_bigE := goodIn_ca (z_gr2 gs_all _ [(19, 51)] rfl) (goodIn_n)
set_option maxRecDepth 20000 in
set_option maxHeartbeats 4000000 in
theorem gl_s_X12_boundedE : GoodIn lw_tbl u_s_X12_boundedE := goodIn_ca (z_gr2 gs_all _ [(19, 52), (9, 7), (9, 8), (0, 0), (9, 9), (1, 22)] rfl) (goodIn_app gl_s_X12_bigE (goodIn_n))
set_option maxRecDepth 20000 in
set_option maxHeartbeats 4000000 in
theorem gl_s_X12_madeE : GoodIn lw_tbl u_s_X12_madeE := goodIn_ca (z_gr2 gs_all _ [(19, 53), (9, 10), (9, 11), (0, 0), (19, 54), (19, 55), (9, 7), (9, 8), (9, 9), (1, 22)] rfl) (goodIn_app gl_s_X12_truthE (goodIn_app gl_s_X12_boundedE (goodIn_app gl_s_X12_bigE (goodIn_n))))
set_option maxRecDepth 20000 in
set_option maxHeartbeats 4000000 in
theorem gl_s_X12_sumX : GoodIn lw_tbl u_s_X12_sumX := goodIn_ca (z_gr2 gs_all _ [(8, 0), (0, 6), (0, 44), (0, 27), (0, 3), (0, 28), (2, 5)] rfl) (goodIn_app ig_X12 (goodIn_n))
set_option maxRecDepth 20000 in
set_option maxHeartbeats 4000000 in
theorem gl_s_X12_hingesX : GoodIn lw_tbl u_s_X12_hingesX := goodIn_ca (z_gr2 gs_all _ [(8, 3), (3, 19), (3, 20), (3, 21), (0, 0), (2, 54)] rfl) (goodIn_app ig_X12 (goodIn_app gl_s_X12_sumX (goodIn_n)))
set_option maxRecDepth 20000 in
set_option maxHeartbeats 4000000 in
theorem gl_s_X12_rightedX : GoodIn lw_tbl u_s_X12_rightedX := goodIn_ca (z_gr2 gs_all _ [(8, 4), (8, 5), (3, 22), (3, 23), (3, 24), (0, 0), (8, 6), (2, 55)] rfl) (goodIn_app ig_X12 (goodIn_app gl_s_X12_hingesX (goodIn_n)))
set_option maxRecDepth 20000 in
set_option maxHeartbeats 4000000 in
theorem gl_s_X12_foodX : GoodIn lw_tbl u_s_X12_foodX := goodIn_ca (z_gr2 gs_all _ [(8, 7), (0, 50), (4, 52), (4, 53), (4, 54), (0, 0), (2, 53)] rfl) (goodIn_app ig_X12 (goodIn_app gl_s_X12_rightedX (goodIn_n)))
set_option maxRecDepth 20000 in
set_option maxHeartbeats 4000000 in
theorem gl_s_X12_middleOfM : GoodIn lw_tbl u_s_X12_middleOfM := goodIn_ca (z_gr2 gs_all _ [(8, 55), (2, 28), (3, 54), (0, 3), (2, 11), (2, 58)] rfl) (goodIn_app ig_X12 (goodIn_n))
set_option maxRecDepth 20000 in
set_option maxHeartbeats 4000000 in
theorem gl_s_X12_orNoneE : GoodIn lw_tbl u_s_X12_orNoneE := goodIn_ca (z_gr2 gs_all _ [(19, 56), (1, 22)] rfl) (goodIn_n)
set_option maxRecDepth 20000 in
set_option maxHeartbeats 4000000 in
theorem gl_s_X12_missOfP : GoodIn lw_tbl u_s_X12_missOfP := goodIn_ca (z_gr2 gs_all _ [(8, 37), (2, 10), (2, 56)] rfl) (goodIn_app ig_X12 (goodIn_n))
set_option maxRecDepth 20000 in
set_option maxHeartbeats 4000000 in
theorem gl_s_X12_putsP : GoodIn lw_tbl u_s_X12_putsP := goodIn_ca (z_gr2 gs_all _ [(8, 38), (3, 28), (3, 29), (3, 30), (0, 0), (3, 25), (5, 4), (8, 39), (8, 40), (8, 41), (1, 33)] rfl) (goodIn_app ig_X12 (goodIn_app gl_s_X12_gatherK (goodIn_app gl_s_X12_missOfP (goodIn_n))))
set_option maxRecDepth 20000 in
set_option maxHeartbeats 4000000 in
theorem gl_s_X12_staysP : GoodIn lw_tbl u_s_X12_staysP := goodIn_ca (z_gr2 gs_all _ [(8, 46), (5, 5), (5, 6), (5, 7), (0, 0), (1, 33)] rfl) (goodIn_app ig_X12 (goodIn_app gl_s_X12_putsP (goodIn_n)))
set_option maxRecDepth 20000 in
set_option maxHeartbeats 4000000 in
theorem gl_s_X12_lostX : GoodIn lw_tbl u_s_X12_lostX := goodIn_ca (z_gr2 gs_all _ [(8, 1), (0, 50), (8, 2), (3, 19), (3, 20), (3, 21), (0, 0)] rfl) (goodIn_app ig_X12 (goodIn_app gl_s_X12_sumX (goodIn_n)))
set_option maxRecDepth 20000 in
set_option maxHeartbeats 4000000 in
theorem gl_s_X12_farH : GoodIn lw_tbl u_s_X12_farH := goodIn_ca (z_gr2 gs_all _ [(7, 26), (2, 51), (2, 52)] rfl) (goodIn_app ig_X12 (goodIn_n))
set_option maxRecDepth 20000 in
set_option maxHeartbeats 4000000 in
theorem gl_s_X12_holdsWithoutH : GoodIn lw_tbl u_s_X12_holdsWithoutH := goodIn_ca (z_gr2 gs_all _ [(7, 27), (2, 7), (2, 6), (1, 3), (0, 49), (0, 3), (2, 8), (7, 28), (7, 29), (7, 30), (0, 0)] rfl) (goodIn_app ig_X12 (goodIn_app gl_s_X12_farH (goodIn_n)))
set_option maxRecDepth 20000 in
set_option maxHeartbeats 4000000 in
theorem gl_s_X12_leastX : GoodIn lw_tbl u_s_X12_leastX := goodIn_ca (z_gr2 gs_all _ [(8, 8), (3, 22), (3, 23), (3, 24), (0, 0)] rfl) (goodIn_app gl_s_X12_hingesX (goodIn_n))
set_option maxRecDepth 20000 in
set_option maxHeartbeats 4000000 in
theorem gl_s_X12_nameValueE : GoodIn lw_tbl u_s_X12_nameValueE := goodIn_ca (z_gr2 gs_all _ [(19, 57), (4, 55), (4, 56), (4, 57), (0, 0), (8, 56), (8, 57), (8, 58), (19, 58), (19, 59), (20, 0), (8, 47), (8, 48), (8, 49), (1, 22), (1, 2), (1, 32), (8, 9), (8, 10), (8, 11), (1, 3), (7, 31), (7, 32), (7, 33), (0, 50), (8, 12), (8, 13), (8, 14)] rfl) (goodIn_app ig_X12 (goodIn_app gl_s_X12_foodX (goodIn_app gl_s_X12_middleOfM (goodIn_app gl_s_X12_orNoneE (goodIn_app gl_s_X12_staysP (goodIn_app gl_s_X12_lostX (goodIn_app gl_s_X12_holdsWithoutH (goodIn_app gl_s_X12_leastX (goodIn_n)))))))))
set_option maxRecDepth 20000 in
set_option maxHeartbeats 4000000 in
theorem gl_s_X12_aheadOfE : GoodIn lw_tbl u_s_X12_aheadOfE := goodIn_ca (z_gr2 gs_all _ [(20, 1), (1, 2), (1, 11), (1, 32)] rfl) (goodIn_app ig_X12 (goodIn_n))
set_option maxRecDepth 20000 in
set_option maxHeartbeats 4000000 in
theorem gl_s_X12_causeOfE : GoodIn lw_tbl u_s_X12_causeOfE := goodIn_ca (z_gr2 gs_all _ [(20, 2), (1, 22), (3, 0), (3, 3), (2, 59), (3, 1), (5, 33), (1, 34), (2, 12), (20, 3), (20, 4), (0, 0), (9, 10), (9, 11), (2, 13), (3, 2), (20, 5), (20, 6), (20, 7), (20, 8), (20, 9), (20, 10)] rfl) (goodIn_app ig_X12 (goodIn_app gl_s_X12_madeE (goodIn_app gl_s_X12_truthE (goodIn_app gl_s_X12_nameValueE (goodIn_app gl_s_X12_aheadOfE (goodIn_n))))))
set_option maxRecDepth 20000 in
set_option maxHeartbeats 4000000 in
theorem gl_s_X12_causeE : GoodIn lw_tbl u_s_X12_causeE := goodIn_ca (z_gr2 gs_all _ [(20, 11), (0, 4), (1, 22), (3, 15), (0, 15), (0, 16), (0, 17), (0, 0), (0, 6), (0, 23), (0, 24), (0, 25), (0, 3), (9, 12), (9, 13), (9, 14)] rfl) (goodIn_app ig_X12 (goodIn_app gl_s_X12_isLayerA (goodIn_app gl_s_X12_knowK (goodIn_app gl_s_X12_causeOfE (goodIn_n)))))
set_option maxRecDepth 20000 in
set_option maxHeartbeats 4000000 in
theorem gl_s_X11_whyE : GoodIn lw_tbl u_s_X11_whyE := goodIn_ca (z_gr2 gs_all _ [(20, 12), (0, 7), (0, 12), (0, 13), (0, 14), (0, 8), (0, 36), (1, 40), (1, 16), (1, 17), (1, 18), (0, 5), (3, 52), (2, 27), (9, 1), (9, 2), (9, 3), (1, 10), (2, 4), (3, 10), (3, 11), (9, 4), (9, 5), (9, 6), (9, 0)] rfl) (goodIn_app ig_X11 (goodIn_app ig_X0 (goodIn_app ig_X4 (goodIn_app ig_X8 (goodIn_app ig_X7 (goodIn_app gl_s_X0_hasLayerA (goodIn_app gl_s_X4_lookK (goodIn_app gl_s_X3_turnToE (goodIn_app gl_s_X3_worthOfE (goodIn_n))))))))))
set_option maxRecDepth 20000 in
set_option maxHeartbeats 4000000 in
theorem gl_s_X12_whyE : GoodIn lw_tbl u_s_X12_whyE := goodIn_ca (z_gr2 gs_all _ [(20, 13), (0, 4), (0, 15), (0, 16), (0, 17), (0, 0), (0, 6), (0, 23), (0, 24), (0, 25), (3, 15), (0, 3), (9, 12), (9, 13), (9, 14), (1, 22)] rfl) (goodIn_app ig_X12 (goodIn_app gl_s_X12_isLayerA (goodIn_app gl_s_X12_knowK (goodIn_app gl_s_X12_causeOfE (goodIn_n)))))
set_option maxRecDepth 20000 in
set_option maxHeartbeats 4000000 in
theorem gl_s_X12_fails : GoodIn lw_tbl u_s_X12_fails := goodIn_ca (z_gr2 gs_all _ [(20, 14), (0, 4)] rfl) (goodIn_app ig_X12 (goodIn_n))
set_option maxRecDepth 20000 in
set_option maxHeartbeats 4000000 in
theorem gl_s_X12_count : GoodIn lw_tbl u_s_X12_count := goodIn_ca (z_gr2 gs_all _ [(20, 15), (0, 4), (20, 16), (20, 17), (20, 18), (0, 0), (0, 6), (0, 23), (0, 24), (0, 25), (0, 49), (0, 3), (1, 3), (0, 50), (2, 28), (3, 15), (6, 38)] rfl) (goodIn_app ig_X12 (goodIn_app gl_s_X12_fails (goodIn_app gl_s_X12_know (goodIn_n))))
set_option maxRecDepth 20000 in
set_option maxHeartbeats 4000000 in
theorem gl_s_X4_bedsInAll : GoodIn lw_tbl u_s_X4_bedsInAll := goodIn_ca (z_gr2 gs_all _ [(20, 19), (0, 20), (1, 5)] rfl) (goodIn_app ig_X4 (goodIn_n))
set_option maxRecDepth 20000 in
set_option maxHeartbeats 4000000 in
theorem gl_s_X11_countK : GoodIn lw_tbl u_s_X11_countK := goodIn_ca (z_gr2 gs_all _ [(20, 20), (0, 36), (0, 7), (1, 40), (1, 16), (1, 17), (1, 18), (0, 5), (20, 21), (20, 22), (20, 23), (6, 55), (1, 24), (4, 49), (1, 26), (20, 24), (2, 43), (20, 25), (2, 4), (3, 10), (3, 11), (20, 26)] rfl) (goodIn_app ig_X11 (goodIn_app ig_X0 (goodIn_app ig_X2 (goodIn_app ig_X5 (goodIn_app ig_X9 (goodIn_app ig_X8 (goodIn_app ig_X7 (goodIn_app gl_s_X4_lookK (goodIn_app gl_s_X4_bedsInAll (goodIn_n))))))))))
set_option maxRecDepth 20000 in
set_option maxHeartbeats 4000000 in
theorem gl_s_L_count_inK : GoodIn lw_tbl u_s_L_count_inK := goodIn_ca (z_gr2 gs_all _ [(20, 27), (20, 28), (20, 29), (20, 30), (0, 2)] rfl) (goodIn_app gl_s_X11_countK (goodIn_n))
