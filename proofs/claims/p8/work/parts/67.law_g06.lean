set_option maxRecDepth 20000 in
set_option maxHeartbeats 4000000 in
theorem gl_s_X4_joinBeds : GoodIn lw_tbl u_s_X4_joinBeds := goodIn_ca (z_gr2 gs_all _ [(15, 13), (0, 21), (0, 53), (1, 59), (2, 0), (2, 1), (0, 4), (0, 54), (0, 47), (2, 2), (4, 22), (15, 14), (15, 15), (15, 16)] rfl) (goodIn_app ig_X4 (goodIn_app ig_X0 (goodIn_app gl_s_X4_counts (goodIn_app gl_s_X4_join (goodIn_n)))))
set_option maxRecDepth 20000 in
set_option maxHeartbeats 4000000 in
theorem gl_s_X4_isLater : GoodIn lw_tbl u_s_X4_isLater := goodIn_ca (z_gr2 gs_all _ [(15, 17), (2, 55)] rfl) (goodIn_app ig_X4 (goodIn_n))
set_option maxRecDepth 20000 in
set_option maxHeartbeats 4000000 in
theorem gl_s_X4_findLater : GoodIn lw_tbl u_s_X4_findLater := goodIn_ca (z_gr2 gs_all _ [(15, 18), (0, 21), (0, 53), (2, 3), (1, 25), (1, 26), (0, 4), (2, 55), (1, 59), (2, 0), (2, 1), (0, 54), (0, 47), (2, 2), (4, 22)] rfl) (goodIn_app ig_X4 (goodIn_app ig_X0 (goodIn_app gl_s_X4_isLater (goodIn_app gl_s_X4_counts (goodIn_n)))))
set_option maxRecDepth 20000 in
set_option maxHeartbeats 4000000 in
theorem gl_s_X4_hasRing : GoodIn lw_tbl u_s_X4_hasRing := goodIn_ca (z_gr2 gs_all _ [(15, 19), (0, 21), (2, 3), (1, 25), (1, 26), (0, 4)] rfl) (goodIn_app ig_X4 (goodIn_app gl_s_X4_isLater (goodIn_n)))
set_option maxRecDepth 20000 in
set_option maxHeartbeats 4000000 in
theorem gl_s_X4_raiseRank : GoodIn lw_tbl u_s_X4_raiseRank := goodIn_ca (z_gr2 gs_all _ [(15, 20), (0, 21), (2, 3), (1, 25), (1, 26), (0, 4), (1, 31), (2, 51), (1, 21), (0, 32), (1, 22)] rfl) (goodIn_app ig_X4 (goodIn_app gl_s_X4_isLater (goodIn_n)))
set_option maxRecDepth 20000 in
set_option maxHeartbeats 4000000 in
theorem gl_s_X4_setRanks : GoodIn lw_tbl u_s_X4_setRanks := goodIn_ca (z_gr2 gs_all _ [(15, 21), (0, 21), (15, 22), (15, 23), (15, 24), (0, 4), (1, 31)] rfl) (goodIn_app ig_X4 (goodIn_app gl_s_X4_raiseRank (goodIn_n)))
set_option maxRecDepth 20000 in
set_option maxHeartbeats 4000000 in
theorem gl_s_X4_leadYears : GoodIn lw_tbl u_s_X4_leadYears := goodIn_ca (z_gr2 gs_all _ [(15, 25), (0, 21), (2, 3), (1, 25), (1, 26), (0, 4), (2, 56), (2, 51), (1, 21), (0, 32), (1, 22), (2, 57), (4, 21), (0, 57), (0, 58)] rfl) (goodIn_app ig_X4 (goodIn_app gl_s_X4_isLater (goodIn_n)))
set_option maxRecDepth 20000 in
set_option maxHeartbeats 4000000 in
theorem gl_s_X4_setSpans : GoodIn lw_tbl u_s_X4_setSpans := goodIn_ca (z_gr2 gs_all _ [(15, 26), (0, 21), (0, 53), (15, 27), (15, 28), (15, 29), (0, 4), (2, 56), (2, 57), (1, 32), (1, 59), (2, 0), (2, 1), (0, 54), (0, 47), (2, 2), (4, 22), (2, 51), (1, 21), (0, 32), (1, 22), (15, 30), (4, 21), (0, 57), (0, 58)] rfl) (goodIn_app ig_X4 (goodIn_app ig_X0 (goodIn_app gl_s_X4_leadYears (goodIn_app gl_s_X4_counts (goodIn_n)))))
set_option maxRecDepth 20000 in
set_option maxHeartbeats 4000000 in
theorem gl_s_X4_look : GoodIn lw_tbl u_s_X4_look := goodIn_ca (z_gr2 gs_all _ [(15, 31), (0, 53), (0, 47), (15, 32), (0, 21), (15, 33), (15, 34), (15, 35), (0, 4), (15, 36), (15, 37), (15, 38), (15, 39), (15, 40), (15, 41), (15, 42), (15, 43), (15, 44), (1, 32), (15, 45), (15, 46), (15, 47), (15, 48), (15, 49), (15, 50)] rfl) (goodIn_app ig_X4 (goodIn_app ig_X0 (goodIn_app gl_s_X4_findStruck (goodIn_app gl_s_X4_joinBeds (goodIn_app gl_s_X4_findLater (goodIn_app gl_s_X4_hasRing (goodIn_app gl_s_X4_setRanks (goodIn_app gl_s_X4_setSpans (goodIn_n)))))))))
set_option maxRecDepth 20000 in
set_option maxHeartbeats 4000000 in
theorem gl_s_X4_layersOf : GoodIn lw_tbl u_s_X4_layersOf := goodIn_ca (z_gr2 gs_all _ [(15, 51), (0, 21), (0, 54)] rfl) (goodIn_app ig_X4 (goodIn_n))
set_option maxRecDepth 20000 in
set_option maxHeartbeats 4000000 in
theorem gl_s_J6_bitCount_0f7a4 : GoodIn lw_tbl u_s_J6_bitCount_0f7a4 := goodIn_ca (z_gr2 gs_all _ [(15, 52), (15, 53), (15, 54), (15, 55)] rfl) (goodIn_n)
set_option maxRecDepth 20000 in
set_option maxHeartbeats 4000000 in
theorem gl_s_X4_rankOf : GoodIn lw_tbl u_s_X4_rankOf := goodIn_ca (z_gr2 gs_all _ [(15, 56), (1, 32), (1, 31)] rfl) (goodIn_app ig_X4 (goodIn_n))
set_option maxRecDepth 20000 in
set_option maxHeartbeats 4000000 in
theorem gl_s_X11_bed : GoodIn lw_tbl u_s_X11_bed := goodIn_ca (z_gr2 gs_all _ [(15, 57), (0, 5), (4, 23), (4, 24), (4, 25), (0, 8), (0, 14), (0, 15), (0, 16), (0, 36), (1, 2), (1, 3), (1, 4), (0, 4), (2, 4), (6, 46), (15, 58), (6, 47), (4, 26), (4, 27), (15, 59), (6, 48), (6, 49), (16, 0), (6, 50), (6, 51), (16, 1)] rfl) (goodIn_app ig_X11 (goodIn_app ig_X4 (goodIn_app gl_s_X0_hasFirst (goodIn_app gl_s_X0_hasLayer (goodIn_app gl_s_X4_look (goodIn_app gl_s_X4_layersOf (goodIn_app gl_s_J6_bitCount_0f7a4 (goodIn_app gl_s_X4_rankOf (goodIn_n)))))))))
set_option maxRecDepth 20000 in
set_option maxHeartbeats 4000000 in
theorem gl_s_X12_isKnown : GoodIn lw_tbl u_s_X12_isKnown := goodIn_ca (z_gr2 gs_all _ [(16, 2), (0, 7)] rfl) (goodIn_app ig_X12 (goodIn_n))
set_option maxRecDepth 20000 in
set_option maxHeartbeats 4000000 in
theorem gl_s_X12_isLayer : GoodIn lw_tbl u_s_X12_isLayer := goodIn_ca (z_gr2 gs_all _ [(6, 43), (1, 0)] rfl) (goodIn_app ig_X12 (goodIn_n))
set_option maxRecDepth 20000 in
set_option maxHeartbeats 4000000 in
theorem gl_s_X12_orders : GoodIn lw_tbl u_s_X12_orders := goodIn_ca (z_gr2 gs_all _ [(16, 3), (0, 7), (1, 27), (1, 40), (1, 41), (1, 39), (0, 50), (0, 6), (0, 51), (1, 38)] rfl) (goodIn_app ig_X12 (goodIn_n))
set_option maxRecDepth 20000 in
set_option maxHeartbeats 4000000 in
theorem gl_s_X12_spans : GoodIn lw_tbl u_s_X12_spans := goodIn_ca (z_gr2 gs_all _ [(16, 4), (0, 7), (1, 27), (3, 28), (3, 29), (1, 40), (1, 39), (0, 50), (0, 6), (0, 51), (1, 38), (3, 27)] rfl) (goodIn_app ig_X12 (goodIn_n))
set_option maxRecDepth 20000 in
set_option maxHeartbeats 4000000 in
theorem gl_s_X12_know : GoodIn lw_tbl u_s_X12_know := goodIn_ca (z_gr2 gs_all _ [(16, 5), (16, 6), (16, 7), (16, 8), (0, 0), (16, 9), (16, 10), (16, 11), (0, 7), (1, 39), (0, 50), (0, 6), (0, 51), (1, 38)] rfl) (goodIn_app ig_X12 (goodIn_app gl_s_X12_orders (goodIn_app gl_s_X12_spans (goodIn_n))))
set_option maxRecDepth 20000 in
set_option maxHeartbeats 4000000 in
theorem gl_s_X12_size : GoodIn lw_tbl u_s_X12_size := goodIn_ca (z_gr2 gs_all _ [(16, 12), (1, 0), (0, 6)] rfl) (goodIn_app ig_X12 (goodIn_n))
set_option maxRecDepth 20000 in
set_option maxHeartbeats 4000000 in
theorem gl_s_X12_bed : GoodIn lw_tbl u_s_X12_bed := goodIn_ca (z_gr2 gs_all _ [(16, 13), (0, 3), (4, 28), (4, 29), (4, 30), (0, 0), (0, 17), (0, 18), (0, 19), (0, 24), (0, 25), (0, 26), (0, 6), (1, 27), (3, 29), (16, 14), (16, 15), (16, 16), (1, 41), (3, 28)] rfl) (goodIn_app ig_X12 (goodIn_app gl_s_X12_isKnown (goodIn_app gl_s_X12_isLayer (goodIn_app gl_s_X12_know (goodIn_app gl_s_X12_size (goodIn_n))))))
set_option maxRecDepth 20000 in
set_option maxHeartbeats 4000000 in
theorem gl_s_X11_order : GoodIn lw_tbl u_s_X11_order := goodIn_ca (z_gr2 gs_all _ [(16, 17), (0, 5), (4, 23), (4, 24), (4, 25), (0, 8), (0, 14), (0, 15), (0, 16), (0, 36), (1, 2), (1, 3), (1, 4), (0, 4), (2, 4), (16, 18), (1, 25), (1, 26)] rfl) (goodIn_app ig_X11 (goodIn_app ig_X4 (goodIn_app gl_s_X0_hasFirst (goodIn_app gl_s_X0_hasLayer (goodIn_app gl_s_X4_look (goodIn_app gl_s_X4_isLater (goodIn_n)))))))
set_option maxRecDepth 20000 in
set_option maxHeartbeats 4000000 in
theorem gl_s_X12_order : GoodIn lw_tbl u_s_X12_order := goodIn_ca (z_gr2 gs_all _ [(16, 19), (0, 3), (4, 28), (4, 29), (4, 30), (0, 0), (0, 17), (0, 18), (0, 19), (0, 24), (0, 25), (0, 26), (1, 40), (0, 6)] rfl) (goodIn_app ig_X12 (goodIn_app gl_s_X12_isKnown (goodIn_app gl_s_X12_isLayer (goodIn_app gl_s_X12_know (goodIn_n)))))
set_option maxRecDepth 20000 in
set_option maxHeartbeats 4000000 in
theorem gl_s_X11_quarrel : GoodIn lw_tbl u_s_X11_quarrel := goodIn_ca (z_gr2 gs_all _ [(16, 20), (0, 5), (4, 23), (4, 24), (4, 25), (0, 8), (0, 36), (1, 2), (1, 3), (1, 4), (0, 4), (6, 46)] rfl) (goodIn_app ig_X11 (goodIn_app ig_X4 (goodIn_app gl_s_X0_hasFirst (goodIn_app gl_s_X4_look (goodIn_n)))))
set_option maxRecDepth 20000 in
set_option maxHeartbeats 4000000 in
theorem gl_s_X12_quarrel : GoodIn lw_tbl u_s_X12_quarrel := goodIn_ca (z_gr2 gs_all _ [(16, 21), (0, 3), (4, 28), (4, 29), (4, 30), (0, 0), (0, 24), (0, 25), (0, 26), (1, 27)] rfl) (goodIn_app ig_X12 (goodIn_app gl_s_X12_isKnown (goodIn_app gl_s_X12_know (goodIn_n))))
set_option maxRecDepth 20000 in
set_option maxHeartbeats 4000000 in
theorem gl_s_X2_isSide : GoodIn lw_tbl u_s_X2_isSide := goodIn_ca (z_gr2 gs_all _ [(16, 22)] rfl) (goodIn_n)
set_option maxRecDepth 20000 in
set_option maxHeartbeats 4000000 in
theorem gl_s_X2_lay : GoodIn lw_tbl u_s_X2_lay := goodIn_ca (z_gr2 gs_all _ [(16, 23), (16, 24), (16, 25), (0, 55), (2, 10), (2, 11), (1, 11)] rfl) (goodIn_app ig_X2 (goodIn_app gl_s_X2_isSide (goodIn_n)))
set_option maxRecDepth 20000 in
set_option maxHeartbeats 4000000 in
theorem gl_s_X11_heap : GoodIn lw_tbl u_s_X11_heap := goodIn_ca (z_gr2 gs_all _ [(16, 26), (1, 12), (16, 27), (16, 28), (16, 29), (0, 55)] rfl) (goodIn_app ig_X11 (goodIn_app gl_s_X2_lay (goodIn_n)))
set_option maxRecDepth 20000 in
set_option maxHeartbeats 4000000 in
theorem gl_s_X12_heap : GoodIn lw_tbl u_s_X12_heap := goodIn_ca (z_gr2 gs_all _ [(16, 30), (0, 3), (2, 24), (2, 25), (1, 5)] rfl) (goodIn_app ig_X12 (goodIn_n))
set_option maxRecDepth 20000 in
set_option maxHeartbeats 4000000 in
theorem gl_s_X2_draw : GoodIn lw_tbl u_s_X2_draw := goodIn_ca (z_gr2 gs_all _ [(16, 31), (2, 10), (2, 11), (1, 11), (2, 58), (2, 59), (3, 1)] rfl) (goodIn_app ig_X2 (goodIn_n))
set_option maxRecDepth 20000 in
set_option maxHeartbeats 4000000 in
theorem gl_s_X11_column : GoodIn lw_tbl u_s_X11_column := goodIn_ca (z_gr2 gs_all _ [(16, 32), (1, 12), (16, 33), (16, 34), (16, 35), (0, 55)] rfl) (goodIn_app ig_X11 (goodIn_app gl_s_X2_draw (goodIn_n)))
set_option maxRecDepth 20000 in
set_option maxHeartbeats 4000000 in
theorem gl_s_X12_column : GoodIn lw_tbl u_s_X12_column := goodIn_ca (z_gr2 gs_all _ [(16, 36), (0, 3), (1, 5), (2, 24), (2, 25), (3, 30), (3, 31), (2, 26)] rfl) (goodIn_app ig_X12 (goodIn_n))
set_option maxRecDepth 20000 in
set_option maxHeartbeats 4000000 in
theorem gl_s_X11_thick : GoodIn lw_tbl u_s_X11_thick := goodIn_ca (z_gr2 gs_all _ [(16, 37), (1, 12), (4, 31), (0, 5), (0, 14), (0, 15), (0, 16), (0, 8), (16, 38)] rfl) (goodIn_app ig_X11 (goodIn_app ig_X2 (goodIn_app gl_s_X0_hasLayer (goodIn_n))))
set_option maxRecDepth 20000 in
set_option maxHeartbeats 4000000 in
theorem gl_s_X12_thick : GoodIn lw_tbl u_s_X12_thick := goodIn_ca (z_gr2 gs_all _ [(16, 39), (0, 3), (1, 5), (0, 17), (0, 18), (0, 19), (0, 0), (2, 26)] rfl) (goodIn_app ig_X12 (goodIn_app gl_s_X12_isLayer (goodIn_n)))
set_option maxRecDepth 20000 in
set_option maxHeartbeats 4000000 in
theorem gl_s_X11_bedNow : GoodIn lw_tbl u_s_X11_bedNow := goodIn_ca (z_gr2 gs_all _ [(16, 40), (0, 36), (0, 5), (1, 24), (1, 2), (1, 3), (1, 4), (0, 4), (2, 4), (6, 47), (4, 26), (4, 27)] rfl) (goodIn_app ig_X11 (goodIn_app ig_X0 (goodIn_app ig_X4 (goodIn_app gl_s_X4_look (goodIn_app gl_s_X4_layersOf (goodIn_n))))))
set_option maxRecDepth 20000 in
set_option maxHeartbeats 4000000 in
theorem gl_s_X2_leaveOutEach : GoodIn lw_tbl u_s_X2_leaveOutEach := goodIn_ca (z_gr2 gs_all _ [(16, 41), (1, 11), (2, 13), (2, 12), (4, 56), (16, 42), (0, 57), (0, 32), (0, 58), (4, 57), (16, 43), (1, 21), (1, 22)] rfl) (goodIn_app ig_X2 (goodIn_n))
set_option maxRecDepth 20000 in
set_option maxHeartbeats 4000000 in
theorem gl_s_X2_weighCell : GoodIn lw_tbl u_s_X2_weighCell := goodIn_ca (z_gr2 gs_all _ [(16, 44), (1, 11), (2, 13), (3, 0), (2, 12), (2, 58), (2, 59)] rfl) (goodIn_app ig_X2 (goodIn_n))
set_option maxRecDepth 20000 in
set_option maxHeartbeats 4000000 in
theorem gl_s_X2_weigh : GoodIn lw_tbl u_s_X2_weigh := goodIn_ca (z_gr2 gs_all _ [(16, 45), (2, 13), (1, 11), (2, 10), (16, 46), (16, 47), (16, 48), (0, 55), (2, 11), (16, 49), (16, 50), (16, 51), (3, 0), (2, 12), (3, 1)] rfl) (goodIn_app ig_X2 (goodIn_app gl_s_X2_leaveOutEach (goodIn_app gl_s_X2_weighCell (goodIn_n))))
set_option maxRecDepth 20000 in
set_option maxHeartbeats 4000000 in
theorem gl_s_X11_holds : GoodIn lw_tbl u_s_X11_holds := goodIn_ca (z_gr2 gs_all _ [(16, 52), (0, 5), (0, 14), (0, 15), (0, 16), (0, 8), (1, 12), (4, 31), (1, 6), (1, 7), (1, 8), (0, 2), (16, 53), (6, 52), (6, 53), (0, 55), (16, 54), (16, 55), (16, 56)] rfl) (goodIn_app ig_X11 (goodIn_app ig_X2 (goodIn_app gl_s_X0_hasLayer (goodIn_app gl_s_X11_bedNow (goodIn_app gl_s_X2_weigh (goodIn_n))))))
set_option maxRecDepth 20000 in
set_option maxHeartbeats 4000000 in
theorem gl_s_X12_far : GoodIn lw_tbl u_s_X12_far := goodIn_ca (z_gr2 gs_all _ [(16, 57), (3, 30), (3, 31)] rfl) (goodIn_app ig_X12 (goodIn_n))
set_option maxRecDepth 20000 in
set_option maxHeartbeats 4000000 in
theorem gl_s_X12_holdsWithout : GoodIn lw_tbl u_s_X12_holdsWithout := goodIn_ca (z_gr2 gs_all _ [(16, 58), (2, 25), (2, 24), (1, 5), (1, 0), (0, 6), (2, 26), (16, 59), (17, 0), (17, 1), (0, 0)] rfl) (goodIn_app ig_X12 (goodIn_app gl_s_X12_far (goodIn_n)))
set_option maxRecDepth 20000 in
set_option maxHeartbeats 4000000 in
theorem gl_s_X12_holds : GoodIn lw_tbl u_s_X12_holds := goodIn_ca (z_gr2 gs_all _ [(17, 2), (0, 3), (0, 17), (0, 18), (0, 19), (0, 0), (1, 5), (0, 7), (0, 24), (0, 25), (0, 26), (0, 6), (6, 54), (6, 55), (6, 56)] rfl) (goodIn_app ig_X12 (goodIn_app gl_s_X12_isLayer (goodIn_app gl_s_X12_know (goodIn_app gl_s_X12_holdsWithout (goodIn_n)))))
set_option maxRecDepth 20000 in
set_option maxHeartbeats 4000000 in
theorem gl_s_X5_nameA : GoodIn lw_tbl u_s_X5_nameA := goodIn_ca (z_gr2 gs_all _ [(17, 3), (1, 33), (3, 2), (3, 3), (3, 4)] rfl) (goodIn_app ig_X5 (goodIn_n))
set_option maxRecDepth 20000 in
set_option maxHeartbeats 4000000 in
theorem gl_s_X11_kindA : GoodIn lw_tbl u_s_X11_kindA := goodIn_ca (z_gr2 gs_all _ [(17, 4), (1, 13), (17, 5), (17, 6), (17, 7), (0, 27)] rfl) (goodIn_app ig_X11 (goodIn_app gl_s_X5_nameA (goodIn_n)))
set_option maxRecDepth 20000 in
set_option maxHeartbeats 4000000 in
theorem gl_s_X12_kindA : GoodIn lw_tbl u_s_X12_kindA := goodIn_ca (z_gr2 gs_all _ [(17, 8), (0, 3), (1, 1), (3, 32), (3, 33)] rfl) (goodIn_app ig_X12 (goodIn_n))
set_option maxRecDepth 20000 in
set_option maxHeartbeats 4000000 in
theorem gl_s_X5_hasKind : GoodIn lw_tbl u_s_X5_hasKind := goodIn_ca (z_gr2 gs_all _ [(6, 32), (1, 33)] rfl) (goodIn_app ig_X5 (goodIn_n))
set_option maxRecDepth 20000 in
set_option maxHeartbeats 4000000 in
theorem gl_s_X11_kept : GoodIn lw_tbl u_s_X11_kept := goodIn_ca (z_gr2 gs_all _ [(17, 9), (1, 13), (6, 57), (2, 49), (2, 50), (0, 27), (17, 10)] rfl) (goodIn_app ig_X11 (goodIn_app ig_X5 (goodIn_app gl_s_X5_hasKind (goodIn_n))))
set_option maxRecDepth 20000 in
set_option maxHeartbeats 4000000 in
theorem gl_s_X12_isKind : GoodIn lw_tbl u_s_X12_isKind := goodIn_ca (z_gr2 gs_all _ [(6, 44), (1, 1)] rfl) (goodIn_app ig_X12 (goodIn_n))
set_option maxRecDepth 20000 in
set_option maxHeartbeats 4000000 in
theorem gl_s_X12_kept2 : GoodIn lw_tbl u_s_X12_kept2 := goodIn_ca (z_gr2 gs_all _ [(17, 11), (0, 3), (4, 18), (4, 19), (4, 20), (0, 0), (3, 34)] rfl) (goodIn_app ig_X12 (goodIn_app gl_s_X12_isKind (goodIn_n)))
set_option maxRecDepth 20000 in
set_option maxHeartbeats 4000000 in
theorem gl_s_X5_findLost : GoodIn lw_tbl u_s_X5_findLost := goodIn_ca (z_gr2 gs_all _ [(17, 12), (5, 0), (17, 13), (2, 15)] rfl) (goodIn_app ig_X5 (goodIn_n))
set_option maxRecDepth 20000 in
set_option maxHeartbeats 4000000 in
theorem gl_s_X5_hinges : GoodIn lw_tbl u_s_X5_hinges := goodIn_ca (z_gr2 gs_all _ [(17, 14), (2, 15), (3, 3), (17, 15), (17, 16), (0, 32), (17, 17)] rfl) (goodIn_app ig_X5 (goodIn_n))
set_option maxRecDepth 20000 in
set_option maxHeartbeats 4000000 in
theorem gl_s_X5_putRight : GoodIn lw_tbl u_s_X5_putRight := goodIn_ca (z_gr2 gs_all _ [(17, 18), (4, 59), (3, 5), (17, 19), (17, 20), (17, 21), (17, 22), (0, 27), (3, 4), (17, 23)] rfl) (goodIn_app ig_X5 (goodIn_app gl_s_X5_hinges (goodIn_n)))
set_option maxRecDepth 20000 in
set_option maxHeartbeats 4000000 in
theorem gl_s_X4_areFindsIn : GoodIn lw_tbl u_s_X4_areFindsIn := goodIn_ca (z_gr2 gs_all _ [(17, 24), (1, 59), (2, 0), (2, 1), (0, 4), (0, 47), (2, 2)] rfl) (goodIn_app ig_X4 (goodIn_app ig_X0 (goodIn_app gl_s_X4_counts (goodIn_n))))
set_option maxRecDepth 20000 in
set_option maxHeartbeats 4000000 in
theorem gl_s_X5_gather : GoodIn lw_tbl u_s_X5_gather := goodIn_ca (z_gr2 gs_all _ [(17, 25), (3, 6), (1, 33), (17, 26), (17, 27), (17, 28), (0, 27), (17, 29), (17, 30), (17, 31), (3, 5), (3, 2), (17, 32), (17, 33), (17, 34), (0, 4), (2, 15), (2, 14)] rfl) (goodIn_app ig_X5 (goodIn_app gl_s_X5_findLost (goodIn_app gl_s_X5_putRight (goodIn_app gl_s_X4_areFindsIn (goodIn_n)))))
set_option maxRecDepth 20000 in
set_option maxHeartbeats 4000000 in
theorem gl_s_X11_eaten : GoodIn lw_tbl u_s_X11_eaten := goodIn_ca (z_gr2 gs_all _ [(17, 35), (0, 5), (0, 14), (0, 15), (0, 16), (0, 8), (6, 58), (1, 13), (0, 36), (1, 6), (1, 7), (1, 8), (0, 2), (6, 59), (4, 32), (4, 33), (0, 27), (17, 36), (17, 37), (17, 38), (17, 39), (6, 57), (2, 49), (2, 50)] rfl) (goodIn_app ig_X11 (goodIn_app ig_X5 (goodIn_app gl_s_X0_hasLayer (goodIn_app gl_s_X11_bedNow (goodIn_app gl_s_X5_gather (goodIn_app gl_s_X5_hasKind (goodIn_n)))))))
set_option maxRecDepth 20000 in
set_option maxHeartbeats 4000000 in
theorem gl_s_X12_sum : GoodIn lw_tbl u_s_X12_sum := goodIn_ca (z_gr2 gs_all _ [(17, 40), (0, 7), (1, 39), (0, 50), (0, 6), (0, 51), (2, 23)] rfl) (goodIn_app ig_X12 (goodIn_n))
set_option maxRecDepth 20000 in
set_option maxHeartbeats 4000000 in
theorem gl_s_X12_lost : GoodIn lw_tbl u_s_X12_lost := goodIn_ca (z_gr2 gs_all _ [(17, 41), (1, 1), (17, 42), (7, 0), (7, 1), (7, 2), (0, 0)] rfl) (goodIn_app ig_X12 (goodIn_app gl_s_X12_sum (goodIn_n)))
set_option maxRecDepth 20000 in
set_option maxHeartbeats 4000000 in
theorem gl_s_X12_hinges : GoodIn lw_tbl u_s_X12_hinges := goodIn_ca (z_gr2 gs_all _ [(17, 43), (7, 0), (7, 1), (7, 2), (0, 0), (3, 33)] rfl) (goodIn_app ig_X12 (goodIn_app gl_s_X12_sum (goodIn_n)))
set_option maxRecDepth 20000 in
set_option maxHeartbeats 4000000 in
theorem gl_s_X12_righted : GoodIn lw_tbl u_s_X12_righted := goodIn_ca (z_gr2 gs_all _ [(17, 44), (17, 45), (7, 3), (7, 4), (7, 5), (0, 0), (17, 46), (3, 34)] rfl) (goodIn_app ig_X12 (goodIn_app gl_s_X12_hinges (goodIn_n)))
set_option maxRecDepth 20000 in
set_option maxHeartbeats 4000000 in
theorem gl_s_X12_food : GoodIn lw_tbl u_s_X12_food := goodIn_ca (z_gr2 gs_all _ [(17, 47), (1, 1), (7, 6), (7, 7), (7, 8), (0, 0), (3, 32)] rfl) (goodIn_app ig_X12 (goodIn_app gl_s_X12_righted (goodIn_n)))
set_option maxRecDepth 20000 in
set_option maxHeartbeats 4000000 in
theorem gl_s_X12_least : GoodIn lw_tbl u_s_X12_least := goodIn_ca (z_gr2 gs_all _ [(17, 48), (7, 3), (7, 4), (7, 5), (0, 0)] rfl) (goodIn_app gl_s_X12_hinges (goodIn_n))
