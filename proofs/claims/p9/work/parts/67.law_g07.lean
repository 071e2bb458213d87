set_option maxRecDepth 20000 in
set_option maxHeartbeats 4000000 in
theorem gl_s_X5_lasts : GoodIn lw_tbl u_s_X5_lasts := goodIn_ca (z_gr2 gs_all _ [(8, 15), (1, 57), (8, 16)] rfl) (goodIn_app ig_X5 (goodIn_n))
set_option maxRecDepth 20000 in
set_option maxHeartbeats 4000000 in
theorem gl_s_X11_daysK : GoodIn lw_tbl u_s_X11_daysK := goodIn_ca (z_gr2 gs_all _ [(18, 19), (0, 7), (0, 12), (0, 13), (0, 14), (0, 8), (7, 58), (18, 20), (1, 26), (0, 36), (1, 19), (1, 20), (1, 21), (0, 2), (7, 59), (4, 50), (4, 51), (0, 18), (18, 21), (8, 17), (8, 18)] rfl) (goodIn_app ig_X11 (goodIn_app gl_s_X0_hasLayer (goodIn_app gl_s_X11_bedNowK (goodIn_app gl_s_X5_gather (goodIn_app gl_s_X5_lasts (goodIn_n))))))
set_option maxRecDepth 20000 in
set_option maxHeartbeats 4000000 in
theorem gl_s_X12_days : GoodIn lw_tbl u_s_X12_days := goodIn_ca (z_gr2 gs_all _ [(18, 22), (0, 4), (0, 15), (0, 16), (0, 17), (0, 0), (3, 25), (4, 16), (0, 6), (0, 23), (0, 24), (0, 25), (0, 3), (4, 55), (4, 56), (4, 57), (18, 23)] rfl) (goodIn_app ig_X12 (goodIn_app gl_s_X12_isLayer (goodIn_app gl_s_X12_know (goodIn_app gl_s_X12_food (goodIn_n)))))
set_option maxRecDepth 20000 in
set_option maxHeartbeats 4000000 in
theorem gl_s_X6_hasA : GoodIn lw_tbl u_s_X6_hasA := goodIn_ca (z_gr2 gs_all _ [(8, 19)] rfl) (goodIn_n)
set_option maxRecDepth 20000 in
set_option maxHeartbeats 4000000 in
theorem gl_s_X6_areWithinA : GoodIn lw_tbl u_s_X6_areWithinA := goodIn_ca (z_gr2 gs_all _ [(18, 24)] rfl) (goodIn_n)
set_option maxRecDepth 20000 in
set_option maxHeartbeats 4000000 in
theorem gl_s_X6_setRowP : GoodIn lw_tbl u_s_X6_setRowP := goodIn_ca (z_gr2 gs_all _ [(18, 25), (2, 40)] rfl) (goodIn_app ig_X6 (goodIn_n))
set_option maxRecDepth 20000 in
set_option maxHeartbeats 4000000 in
theorem gl_s_X11_readsP : GoodIn lw_tbl u_s_X11_readsP := goodIn_ca (z_gr2 gs_all _ [(18, 26), (4, 58), (4, 59), (0, 26), (8, 20), (8, 21), (2, 3), (18, 27), (18, 28), (18, 29)] rfl) (goodIn_app ig_X11 (goodIn_app gl_s_X6_hasA (goodIn_app gl_s_X6_areWithinA (goodIn_app gl_s_X6_setRowP (goodIn_n)))))
set_option maxRecDepth 20000 in
set_option maxHeartbeats 4000000 in
theorem gl_s_X12_isReaderA : GoodIn lw_tbl u_s_X12_isReaderA := goodIn_ca (z_gr2 gs_all _ [(8, 22)] rfl) (goodIn_n)
set_option maxRecDepth 20000 in
set_option maxHeartbeats 4000000 in
theorem gl_s_X12_readsP : GoodIn lw_tbl u_s_X12_readsP := goodIn_ca (z_gr2 gs_all _ [(18, 30), (0, 4), (5, 0), (5, 1), (0, 0), (2, 56)] rfl) (goodIn_app ig_X12 (goodIn_app gl_s_X12_isReaderA (goodIn_n)))
set_option maxRecDepth 20000 in
set_option maxHeartbeats 4000000 in
theorem gl_s_X6_sumK : GoodIn lw_tbl u_s_X6_sumK := goodIn_ca (z_gr2 gs_all _ [(8, 23), (1, 58), (2, 41)] rfl) (goodIn_app ig_X6 (goodIn_n))
set_option maxRecDepth 20000 in
set_option maxHeartbeats 4000000 in
theorem gl_s_X6_tellK : GoodIn lw_tbl u_s_X6_tellK := goodIn_ca (z_gr2 gs_all _ [(18, 31), (2, 41)] rfl) (goodIn_app ig_X6 (goodIn_n))
set_option maxRecDepth 20000 in
set_option maxHeartbeats 4000000 in
theorem gl_s_X11_readingsR : GoodIn lw_tbl u_s_X11_readingsR := goodIn_ca (z_gr2 gs_all _ [(18, 32), (0, 7), (0, 12), (0, 13), (0, 14), (0, 8), (4, 58), (4, 59), (0, 26), (8, 20), (8, 21), (2, 3), (1, 19), (1, 20), (1, 21), (0, 2), (8, 24), (3, 26), (3, 27), (18, 33), (18, 34), (18, 35)] rfl) (goodIn_app ig_X11 (goodIn_app gl_s_X0_hasLayerA (goodIn_app gl_s_X6_hasA (goodIn_app gl_s_X6_areWithinA (goodIn_app gl_s_X11_bedNowK (goodIn_app gl_s_X6_sumK (goodIn_app gl_s_X6_tellK (goodIn_n))))))))
set_option maxRecDepth 20000 in
set_option maxHeartbeats 4000000 in
theorem gl_s_X12_isFewA : GoodIn lw_tbl u_s_X12_isFewA := goodIn_ca (z_gr2 gs_all _ [(18, 36)] rfl) (goodIn_n)
set_option maxRecDepth 20000 in
set_option maxHeartbeats 4000000 in
theorem gl_s_X12_gatherK : GoodIn lw_tbl u_s_X12_gatherK := goodIn_ca (z_gr2 gs_all _ [(8, 25), (0, 49), (0, 3), (2, 10), (2, 57)] rfl) (goodIn_app ig_X12 (goodIn_n))
set_option maxRecDepth 20000 in
set_option maxHeartbeats 4000000 in
theorem gl_s_X12_readingsR : GoodIn lw_tbl u_s_X12_readingsR := goodIn_ca (z_gr2 gs_all _ [(18, 37), (0, 4), (0, 15), (0, 16), (0, 17), (0, 0), (5, 0), (5, 1), (18, 38), (18, 39), (0, 6), (0, 23), (0, 24), (0, 25), (0, 3), (3, 28), (3, 29), (3, 30), (2, 57)] rfl) (goodIn_app ig_X12 (goodIn_app gl_s_X12_isLayerA (goodIn_app gl_s_X12_isReaderA (goodIn_app gl_s_X12_isFewA (goodIn_app gl_s_X12_knowK (goodIn_app gl_s_X12_gatherK (goodIn_n)))))))
set_option maxRecDepth 20000 in
set_option maxHeartbeats 4000000 in
theorem gl_s_X6_has : GoodIn lw_tbl u_s_X6_has := goodIn_ca (z_gr2 gs_all _ [(8, 19)] rfl) (goodIn_n)
set_option maxRecDepth 20000 in
set_option maxHeartbeats 4000000 in
theorem gl_s_X6_sum : GoodIn lw_tbl u_s_X6_sum := goodIn_ca (z_gr2 gs_all _ [(8, 23), (1, 58), (2, 41)] rfl) (goodIn_app ig_X6 (goodIn_n))
set_option maxRecDepth 20000 in
set_option maxHeartbeats 4000000 in
theorem gl_s_X6_missAt : GoodIn lw_tbl u_s_X6_missAt := goodIn_ca (z_gr2 gs_all _ [(8, 26), (1, 59), (2, 0)] rfl) (goodIn_app ig_X6 (goodIn_n))
set_option maxRecDepth 20000 in
set_option maxHeartbeats 4000000 in
theorem gl_s_X6_tryPair : GoodIn lw_tbl u_s_X6_tryPair := goodIn_ca (z_gr2 gs_all _ [(8, 27), (8, 28), (8, 29), (8, 30), (0, 26), (2, 2), (2, 1), (8, 31), (0, 56), (0, 22), (0, 57), (2, 40), (2, 0), (1, 59), (1, 58)] rfl) (goodIn_app ig_X6 (goodIn_app gl_s_X6_missAt (goodIn_n)))
set_option maxRecDepth 20000 in
set_option maxHeartbeats 4000000 in
theorem gl_s_X6_putRight : GoodIn lw_tbl u_s_X6_putRight := goodIn_ca (z_gr2 gs_all _ [(8, 32), (8, 33), (3, 26), (3, 27), (0, 26), (2, 2), (8, 34), (8, 35), (8, 36)] rfl) (goodIn_app ig_X6 (goodIn_app gl_s_X6_sum (goodIn_app gl_s_X6_tryPair (goodIn_n))))
set_option maxRecDepth 20000 in
set_option maxHeartbeats 4000000 in
theorem gl_s_X11_seasonK : GoodIn lw_tbl u_s_X11_seasonK := goodIn_ca (z_gr2 gs_all _ [(18, 40), (0, 7), (0, 12), (0, 13), (0, 14), (0, 8), (4, 58), (4, 59), (0, 26), (1, 19), (1, 20), (1, 21), (0, 2), (2, 3), (18, 41), (5, 2), (5, 3), (18, 42), (18, 43), (8, 24), (3, 26), (3, 27)] rfl) (goodIn_app ig_X11 (goodIn_app ig_X6 (goodIn_app gl_s_X0_hasLayer (goodIn_app gl_s_X6_has (goodIn_app gl_s_X11_bedNowK (goodIn_app gl_s_X6_putRight (goodIn_app gl_s_X6_sum (goodIn_n))))))))
set_option maxRecDepth 20000 in
set_option maxHeartbeats 4000000 in
theorem gl_s_X12_isReader : GoodIn lw_tbl u_s_X12_isReader := goodIn_ca (z_gr2 gs_all _ [(8, 22)] rfl) (goodIn_n)
set_option maxRecDepth 20000 in
set_option maxHeartbeats 4000000 in
theorem gl_s_X12_gather : GoodIn lw_tbl u_s_X12_gather := goodIn_ca (z_gr2 gs_all _ [(8, 25), (0, 49), (0, 3), (2, 10), (2, 57)] rfl) (goodIn_app ig_X12 (goodIn_n))
set_option maxRecDepth 20000 in
set_option maxHeartbeats 4000000 in
theorem gl_s_X12_missOf : GoodIn lw_tbl u_s_X12_missOf := goodIn_ca (z_gr2 gs_all _ [(8, 37), (2, 10), (2, 56)] rfl) (goodIn_app ig_X12 (goodIn_n))
set_option maxRecDepth 20000 in
set_option maxHeartbeats 4000000 in
theorem gl_s_X12_puts : GoodIn lw_tbl u_s_X12_puts := goodIn_ca (z_gr2 gs_all _ [(8, 38), (3, 28), (3, 29), (3, 30), (0, 0), (3, 25), (5, 4), (8, 39), (8, 40), (8, 41), (1, 33)] rfl) (goodIn_app ig_X12 (goodIn_app gl_s_X12_gather (goodIn_app gl_s_X12_missOf (goodIn_n))))
set_option maxRecDepth 20000 in
set_option maxHeartbeats 4000000 in
theorem gl_s_X12_season : GoodIn lw_tbl u_s_X12_season := goodIn_ca (z_gr2 gs_all _ [(18, 44), (0, 4), (0, 15), (0, 16), (0, 17), (0, 0), (5, 0), (5, 1), (0, 6), (0, 23), (0, 24), (0, 25), (0, 3), (5, 5), (5, 6), (5, 7), (1, 33), (5, 4), (3, 28), (3, 29), (3, 30)] rfl) (goodIn_app ig_X12 (goodIn_app gl_s_X12_isLayer (goodIn_app gl_s_X12_isReader (goodIn_app gl_s_X12_know (goodIn_app gl_s_X12_puts (goodIn_app gl_s_X12_gather (goodIn_n)))))))
set_option maxRecDepth 20000 in
set_option maxHeartbeats 4000000 in
theorem gl_s_X6_seasonsMet : GoodIn lw_tbl u_s_X6_seasonsMet := goodIn_ca (z_gr2 gs_all _ [(8, 42), (8, 43), (5, 2), (5, 3), (0, 26), (2, 1)] rfl) (goodIn_app ig_X6 (goodIn_app gl_s_X6_putRight (goodIn_n)))
set_option maxRecDepth 20000 in
set_option maxHeartbeats 4000000 in
theorem gl_s_X11_stayK : GoodIn lw_tbl u_s_X11_stayK := goodIn_ca (z_gr2 gs_all _ [(18, 45), (0, 7), (0, 12), (0, 13), (0, 14), (0, 8), (2, 3), (1, 19), (1, 20), (1, 21), (0, 2), (18, 46), (8, 44), (8, 45), (0, 26)] rfl) (goodIn_app ig_X11 (goodIn_app gl_s_X0_hasLayer (goodIn_app gl_s_X11_bedNowK (goodIn_app gl_s_X6_seasonsMet (goodIn_n)))))
set_option maxRecDepth 20000 in
set_option maxHeartbeats 4000000 in
theorem gl_s_X12_stays : GoodIn lw_tbl u_s_X12_stays := goodIn_ca (z_gr2 gs_all _ [(8, 46), (5, 5), (5, 6), (5, 7), (0, 0), (1, 33)] rfl) (goodIn_app ig_X12 (goodIn_app gl_s_X12_puts (goodIn_n)))
set_option maxRecDepth 20000 in
set_option maxHeartbeats 4000000 in
theorem gl_s_X12_stay : GoodIn lw_tbl u_s_X12_stay := goodIn_ca (z_gr2 gs_all _ [(18, 47), (0, 4), (0, 15), (0, 16), (0, 17), (0, 0), (0, 6), (0, 23), (0, 24), (0, 25), (0, 3), (8, 47), (8, 48), (8, 49)] rfl) (goodIn_app ig_X12 (goodIn_app gl_s_X12_isLayer (goodIn_app gl_s_X12_know (goodIn_app gl_s_X12_stays (goodIn_n)))))
set_option maxRecDepth 20000 in
set_option maxHeartbeats 4000000 in
theorem gl_s_X9_addM : GoodIn lw_tbl u_s_X9_addM := goodIn_ca (z_gr2 gs_all _ [(18, 48), (1, 29), (1, 28), (2, 42)] rfl) (goodIn_app ig_X9 (goodIn_n))
set_option maxRecDepth 20000 in
set_option maxHeartbeats 4000000 in
theorem gl_s_X11_measureM : GoodIn lw_tbl u_s_X11_measureM := goodIn_ca (z_gr2 gs_all _ [(18, 49), (0, 7), (0, 12), (0, 13), (0, 14), (0, 8), (2, 43), (18, 50), (18, 51), (18, 52), (1, 27)] rfl) (goodIn_app ig_X11 (goodIn_app gl_s_X0_hasLayerA (goodIn_app gl_s_X9_addM (goodIn_n))))
set_option maxRecDepth 20000 in
set_option maxHeartbeats 4000000 in
theorem gl_s_X12_measureW : GoodIn lw_tbl u_s_X12_measureW := goodIn_ca (z_gr2 gs_all _ [(18, 53), (0, 4), (0, 15), (0, 16), (0, 17), (0, 0), (2, 28), (2, 11), (2, 58)] rfl) (goodIn_app ig_X12 (goodIn_app gl_s_X12_isLayerA (goodIn_n)))
set_option maxRecDepth 20000 in
set_option maxHeartbeats 4000000 in
theorem gl_s_X9_measuredIn : GoodIn lw_tbl u_s_X9_measuredIn := goodIn_ca (z_gr2 gs_all _ [(8, 50), (1, 29), (1, 28)] rfl) (goodIn_app ig_X9 (goodIn_n))
set_option maxRecDepth 20000 in
set_option maxHeartbeats 4000000 in
theorem gl_s_X9_middleOf : GoodIn lw_tbl u_s_X9_middleOf := goodIn_ca (z_gr2 gs_all _ [(8, 51), (1, 29), (8, 52), (5, 8), (5, 9), (1, 27), (3, 40), (2, 42), (1, 28)] rfl) (goodIn_app ig_X9 (goodIn_app gl_s_X9_measuredIn (goodIn_n)))
set_option maxRecDepth 20000 in
set_option maxHeartbeats 4000000 in
theorem gl_s_X11_middleK : GoodIn lw_tbl u_s_X11_middleK := goodIn_ca (z_gr2 gs_all _ [(18, 54), (0, 7), (0, 12), (0, 13), (0, 14), (0, 8), (1, 19), (1, 20), (1, 21), (0, 2), (2, 43), (18, 55), (8, 53), (8, 54), (1, 27), (18, 56), (5, 8), (5, 9)] rfl) (goodIn_app ig_X11 (goodIn_app gl_s_X0_hasLayer (goodIn_app gl_s_X11_bedNowK (goodIn_app gl_s_X9_middleOf (goodIn_app gl_s_X9_measuredIn (goodIn_n))))))
set_option maxRecDepth 20000 in
set_option maxHeartbeats 4000000 in
theorem gl_s_X12_middleOf : GoodIn lw_tbl u_s_X12_middleOf := goodIn_ca (z_gr2 gs_all _ [(8, 55), (2, 28), (3, 54), (0, 3), (2, 11), (2, 58)] rfl) (goodIn_app ig_X12 (goodIn_n))
set_option maxRecDepth 20000 in
set_option maxHeartbeats 4000000 in
theorem gl_s_X12_middle : GoodIn lw_tbl u_s_X12_middle := goodIn_ca (z_gr2 gs_all _ [(18, 57), (0, 4), (0, 15), (0, 16), (0, 17), (0, 0), (0, 6), (0, 23), (0, 24), (0, 25), (2, 28), (0, 3), (2, 11), (8, 56), (8, 57), (8, 58)] rfl) (goodIn_app ig_X12 (goodIn_app gl_s_X12_isLayer (goodIn_app gl_s_X12_know (goodIn_app gl_s_X12_middleOf (goodIn_n)))))
set_option maxRecDepth 20000 in
set_option maxHeartbeats 4000000 in
theorem gl_s_X4_aheadE : GoodIn lw_tbl u_s_X4_aheadE := goodIn_ca (z_gr2 gs_all _ [(18, 58), (0, 20), (1, 51), (2, 26), (1, 45), (1, 46), (0, 5), (1, 50)] rfl) (goodIn_app ig_X4 (goodIn_app gl_s_X4_isLaterK (goodIn_n)))
set_option maxRecDepth 20000 in
set_option maxHeartbeats 4000000 in
theorem gl_s_X3_turnToE : GoodIn lw_tbl u_s_X3_turnToE := goodIn_ca (z_gr2 gs_all _ [(18, 59), (3, 48), (3, 50), (19, 0), (19, 1), (19, 2), (0, 5), (3, 49), (3, 47)] rfl) (goodIn_app ig_X3 (goodIn_app gl_s_X4_aheadE (goodIn_n)))
set_option maxRecDepth 20000 in
set_option maxHeartbeats 4000000 in
theorem gl_s_X3_withinE : GoodIn lw_tbl u_s_X3_withinE := goodIn_ca (z_gr2 gs_all _ [(19, 3), (8, 59), (2, 29), (19, 4)] rfl) (goodIn_n)
set_option maxRecDepth 20000 in
set_option maxHeartbeats 4000000 in
theorem gl_s_X3_timesE : GoodIn lw_tbl u_s_X3_timesE := goodIn_ca (z_gr2 gs_all _ [(19, 5), (19, 6), (19, 7), (0, 22), (19, 8), (8, 59), (2, 29)] rfl) (goodIn_n)
set_option maxRecDepth 20000 in
set_option maxHeartbeats 4000000 in
theorem gl_s_X3_holdsTrueE : GoodIn lw_tbl u_s_X3_holdsTrueE := goodIn_ca (z_gr2 gs_all _ [(19, 9)] rfl) (goodIn_n)
set_option maxRecDepth 20000 in
set_option maxHeartbeats 4000000 in
theorem gl_s_X3_joinedE : GoodIn lw_tbl u_s_X3_joinedE := goodIn_ca (z_gr2 gs_all _ [(19, 10), (19, 11), (19, 12), (1, 10), (19, 13), (19, 14), (2, 29), (19, 15), (19, 16)] rfl) (goodIn_app gl_s_X3_withinE (goodIn_app gl_s_X3_timesE (goodIn_app gl_s_X3_holdsTrueE (goodIn_n))))
set_option maxRecDepth 20000 in
set_option maxHeartbeats 4000000 in
theorem gl_s_X5_findLostX : GoodIn lw_tbl u_s_X5_findLostX := goodIn_ca (z_gr2 gs_all _ [(7, 35), (3, 39), (7, 36), (1, 8)] rfl) (goodIn_app ig_X5 (goodIn_n))
set_option maxRecDepth 20000 in
set_option maxHeartbeats 4000000 in
theorem gl_s_X5_hingesX : GoodIn lw_tbl u_s_X5_hingesX := goodIn_ca (z_gr2 gs_all _ [(7, 37), (1, 8), (2, 38), (7, 38), (7, 39), (0, 22), (7, 40)] rfl) (goodIn_app ig_X5 (goodIn_n))
set_option maxRecDepth 20000 in
set_option maxHeartbeats 4000000 in
theorem gl_s_X5_putRightX : GoodIn lw_tbl u_s_X5_putRightX := goodIn_ca (z_gr2 gs_all _ [(7, 41), (3, 38), (1, 56), (7, 42), (7, 43), (7, 44), (7, 45), (0, 18), (2, 39), (7, 46)] rfl) (goodIn_app ig_X5 (goodIn_app gl_s_X5_hingesX (goodIn_n)))
set_option maxRecDepth 20000 in
set_option maxHeartbeats 4000000 in
theorem gl_s_X4_areFindsInX : GoodIn lw_tbl u_s_X4_areFindsInX := goodIn_ca (z_gr2 gs_all _ [(7, 47), (1, 41), (1, 42), (1, 43), (0, 5), (0, 35), (1, 44)] rfl) (goodIn_app ig_X4 (goodIn_app ig_X0 (goodIn_app gl_s_X4_countsK (goodIn_n))))
set_option maxRecDepth 20000 in
set_option maxHeartbeats 4000000 in
theorem gl_s_X5_gatherX : GoodIn lw_tbl u_s_X5_gatherX := goodIn_ca (z_gr2 gs_all _ [(7, 48), (1, 57), (1, 25), (7, 49), (7, 50), (7, 51), (0, 18), (7, 52), (7, 53), (7, 54), (1, 56), (2, 37), (7, 55), (7, 56), (7, 57), (0, 5), (1, 8), (1, 55)] rfl) (goodIn_app ig_X5 (goodIn_app gl_s_X5_findLostX (goodIn_app gl_s_X5_putRightX (goodIn_app gl_s_X4_areFindsInX (goodIn_n)))))
set_option maxRecDepth 20000 in
set_option maxHeartbeats 4000000 in
theorem gl_s_X5_lastsX : GoodIn lw_tbl u_s_X5_lastsX := goodIn_ca (z_gr2 gs_all _ [(8, 15), (1, 57), (8, 16)] rfl) (goodIn_app ig_X5 (goodIn_n))
set_option maxRecDepth 20000 in
set_option maxHeartbeats 4000000 in
theorem gl_s_X3_ofShellsE : GoodIn lw_tbl u_s_X3_ofShellsE := goodIn_ca (z_gr2 gs_all _ [(19, 17), (5, 10), (3, 51), (19, 18), (8, 17), (8, 18), (0, 18), (19, 19), (19, 20), (3, 16), (3, 17), (19, 21), (19, 22)] rfl) (goodIn_app ig_X3 (goodIn_app ig_X5 (goodIn_app gl_s_X5_lastsX (goodIn_app gl_s_X5_hasKindA (goodIn_n)))))
set_option maxRecDepth 20000 in
set_option maxHeartbeats 4000000 in
theorem gl_s_X9_measuredInM : GoodIn lw_tbl u_s_X9_measuredInM := goodIn_ca (z_gr2 gs_all _ [(8, 50), (1, 29), (1, 28)] rfl) (goodIn_app ig_X9 (goodIn_n))
set_option maxRecDepth 20000 in
set_option maxHeartbeats 4000000 in
theorem gl_s_X9_middleOfM : GoodIn lw_tbl u_s_X9_middleOfM := goodIn_ca (z_gr2 gs_all _ [(8, 51), (1, 29), (8, 52), (5, 8), (5, 9), (1, 27), (3, 40), (2, 42), (1, 28)] rfl) (goodIn_app ig_X9 (goodIn_app gl_s_X9_measuredInM (goodIn_n)))
set_option maxRecDepth 20000 in
set_option maxHeartbeats 4000000 in
theorem gl_s_X6_missAtP : GoodIn lw_tbl u_s_X6_missAtP := goodIn_ca (z_gr2 gs_all _ [(8, 26), (1, 59), (2, 0)] rfl) (goodIn_app ig_X6 (goodIn_n))
set_option maxRecDepth 20000 in
set_option maxHeartbeats 4000000 in
theorem gl_s_X6_tryPairP : GoodIn lw_tbl u_s_X6_tryPairP := goodIn_ca (z_gr2 gs_all _ [(8, 27), (8, 28), (8, 29), (8, 30), (0, 26), (2, 2), (2, 1), (8, 31), (0, 56), (0, 22), (0, 57), (2, 40), (2, 0), (1, 59), (1, 58)] rfl) (goodIn_app ig_X6 (goodIn_app gl_s_X6_missAtP (goodIn_n)))
set_option maxRecDepth 20000 in
set_option maxHeartbeats 4000000 in
theorem gl_s_X6_putRightP : GoodIn lw_tbl u_s_X6_putRightP := goodIn_ca (z_gr2 gs_all _ [(8, 32), (8, 33), (3, 26), (3, 27), (0, 26), (2, 2), (8, 34), (8, 35), (8, 36)] rfl) (goodIn_app ig_X6 (goodIn_app gl_s_X6_sumK (goodIn_app gl_s_X6_tryPairP (goodIn_n))))
set_option maxRecDepth 20000 in
set_option maxHeartbeats 4000000 in
theorem gl_s_X6_seasonsMetP : GoodIn lw_tbl u_s_X6_seasonsMetP := goodIn_ca (z_gr2 gs_all _ [(8, 42), (8, 43), (5, 2), (5, 3), (0, 26), (2, 1)] rfl) (goodIn_app ig_X6 (goodIn_app gl_s_X6_putRightP (goodIn_n)))
set_option maxRecDepth 20000 in
set_option maxHeartbeats 4000000 in
theorem gl_s_X2_leaveOutEachH : GoodIn lw_tbl u_s_X2_leaveOutEachH := goodIn_ca (z_gr2 gs_all _ [(7, 13), (0, 42), (1, 7), (1, 6), (3, 36), (7, 14), (0, 56), (0, 22), (0, 57), (3, 37), (7, 15), (1, 14), (1, 15)] rfl) (goodIn_app ig_X2 (goodIn_n))
set_option maxRecDepth 20000 in
set_option maxHeartbeats 4000000 in
theorem gl_s_X2_weighCellH : GoodIn lw_tbl u_s_X2_weighCellH := goodIn_ca (z_gr2 gs_all _ [(7, 16), (0, 42), (1, 7), (1, 54), (1, 6), (2, 34), (2, 35)] rfl) (goodIn_app ig_X2 (goodIn_n))
set_option maxRecDepth 20000 in
set_option maxHeartbeats 4000000 in
theorem gl_s_X2_weighH : GoodIn lw_tbl u_s_X2_weighH := goodIn_ca (z_gr2 gs_all _ [(7, 17), (1, 7), (0, 42), (1, 52), (7, 18), (7, 19), (7, 20), (0, 53), (1, 53), (7, 21), (7, 22), (7, 23), (1, 54), (1, 6), (2, 36)] rfl) (goodIn_app ig_X2 (goodIn_app gl_s_X2_leaveOutEachH (goodIn_app gl_s_X2_weighCellH (goodIn_n))))
