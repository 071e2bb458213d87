set_option maxRecDepth 20000 in
set_option maxHeartbeats 4000000 in
theorem gl_s_X4_isLaterK : GoodIn lw_tbl u_s_X4_isLaterK := goodIn_ca (z_gr2 gs_all _ [(6, 48), (2, 11)] rfl) (goodIn_app ig_X4 (goodIn_n))
set_option maxRecDepth 20000 in
set_option maxHeartbeats 4000000 in
theorem gl_s_X4_findLaterK : GoodIn lw_tbl u_s_X4_findLaterK := goodIn_ca (z_gr2 gs_all _ [(15, 33), (0, 20), (0, 50), (2, 3), (1, 32), (1, 33), (0, 6), (2, 11), (1, 59), (2, 0), (2, 1), (0, 51), (0, 42), (2, 2), (4, 22)] rfl) (goodIn_app ig_X4 (goodIn_app ig_X0 (goodIn_app gl_s_X4_isLaterK (goodIn_app gl_s_X4_countsK (goodIn_n)))))
set_option maxRecDepth 20000 in
set_option maxHeartbeats 4000000 in
theorem gl_s_X4_hasRingK : GoodIn lw_tbl u_s_X4_hasRingK := goodIn_ca (z_gr2 gs_all _ [(15, 34), (0, 20), (2, 3), (1, 32), (1, 33), (0, 6)] rfl) (goodIn_app ig_X4 (goodIn_app gl_s_X4_isLaterK (goodIn_n)))
set_option maxRecDepth 20000 in
set_option maxHeartbeats 4000000 in
theorem gl_s_X4_raiseRankK : GoodIn lw_tbl u_s_X4_raiseRankK := goodIn_ca (z_gr2 gs_all _ [(15, 35), (0, 20), (2, 3), (1, 32), (1, 33), (0, 6), (1, 15), (2, 56), (1, 28), (0, 34), (1, 29)] rfl) (goodIn_app ig_X4 (goodIn_app gl_s_X4_isLaterK (goodIn_n)))
set_option maxRecDepth 20000 in
set_option maxHeartbeats 4000000 in
theorem gl_s_X4_setRanksK : GoodIn lw_tbl u_s_X4_setRanksK := goodIn_ca (z_gr2 gs_all _ [(15, 36), (0, 20), (15, 37), (15, 38), (15, 39), (0, 6), (1, 15)] rfl) (goodIn_app ig_X4 (goodIn_app gl_s_X4_raiseRankK (goodIn_n)))
set_option maxRecDepth 20000 in
set_option maxHeartbeats 4000000 in
theorem gl_s_X4_leadYearsK : GoodIn lw_tbl u_s_X4_leadYearsK := goodIn_ca (z_gr2 gs_all _ [(15, 40), (0, 20), (2, 3), (1, 32), (1, 33), (0, 6), (2, 59), (2, 56), (1, 28), (0, 34), (1, 29), (3, 0), (4, 21), (1, 1), (1, 2)] rfl) (goodIn_app ig_X4 (goodIn_app gl_s_X4_isLaterK (goodIn_n)))
set_option maxRecDepth 20000 in
set_option maxHeartbeats 4000000 in
theorem gl_s_X4_setSpansK : GoodIn lw_tbl u_s_X4_setSpansK := goodIn_ca (z_gr2 gs_all _ [(15, 41), (0, 20), (0, 50), (15, 42), (15, 43), (15, 44), (0, 6), (2, 59), (3, 0), (1, 16), (1, 59), (2, 0), (2, 1), (0, 51), (0, 42), (2, 2), (4, 22), (2, 56), (1, 28), (0, 34), (1, 29), (15, 45), (4, 21), (1, 1), (1, 2)] rfl) (goodIn_app ig_X4 (goodIn_app ig_X0 (goodIn_app gl_s_X4_leadYearsK (goodIn_app gl_s_X4_countsK (goodIn_n)))))
set_option maxRecDepth 20000 in
set_option maxHeartbeats 4000000 in
theorem gl_s_X4_lookK : GoodIn lw_tbl u_s_X4_lookK := goodIn_ca (z_gr2 gs_all _ [(15, 46), (0, 50), (0, 42), (15, 47), (0, 20), (15, 48), (15, 49), (15, 50), (0, 6), (15, 51), (15, 52), (15, 53), (15, 54), (15, 55), (15, 56), (15, 57), (15, 58), (15, 59), (1, 16), (16, 0), (16, 1), (16, 2), (16, 3), (16, 4), (16, 5)] rfl) (goodIn_app ig_X4 (goodIn_app ig_X0 (goodIn_app gl_s_X4_findStruckK (goodIn_app gl_s_X4_joinBedsK (goodIn_app gl_s_X4_findLaterK (goodIn_app gl_s_X4_hasRingK (goodIn_app gl_s_X4_setRanksK (goodIn_app gl_s_X4_setSpansK (goodIn_n)))))))))
set_option maxRecDepth 20000 in
set_option maxHeartbeats 4000000 in
theorem gl_s_X4_layersOfK : GoodIn lw_tbl u_s_X4_layersOfK := goodIn_ca (z_gr2 gs_all _ [(6, 49), (0, 20), (0, 51)] rfl) (goodIn_app ig_X4 (goodIn_n))
set_option maxRecDepth 20000 in
set_option maxHeartbeats 4000000 in
theorem gl_s_bitCountK : GoodIn lw_tbl u_s_bitCountK := goodIn_ca (z_gr2 gs_all _ [(6, 50), (6, 51), (6, 52), (6, 53)] rfl) (goodIn_n)
set_option maxRecDepth 20000 in
set_option maxHeartbeats 4000000 in
theorem gl_s_X4_rankOfK : GoodIn lw_tbl u_s_X4_rankOfK := goodIn_ca (z_gr2 gs_all _ [(6, 54), (1, 16), (1, 15)] rfl) (goodIn_app ig_X4 (goodIn_n))
set_option maxRecDepth 20000 in
set_option maxHeartbeats 4000000 in
theorem gl_s_X11_bedK : GoodIn lw_tbl u_s_X11_bedK := goodIn_ca (z_gr2 gs_all _ [(16, 6), (0, 7), (4, 23), (4, 24), (4, 25), (0, 8), (0, 14), (0, 15), (0, 16), (0, 38), (1, 6), (1, 7), (1, 8), (0, 6), (2, 4), (6, 55), (16, 7), (6, 56), (4, 26), (4, 27), (16, 8), (6, 57), (6, 58), (16, 9), (6, 59), (7, 0), (16, 10)] rfl) (goodIn_app ig_X11 (goodIn_app ig_X4 (goodIn_app gl_s_X0_hasFirstA (goodIn_app gl_s_X0_hasLayerA (goodIn_app gl_s_X4_lookK (goodIn_app gl_s_X4_layersOfK (goodIn_app gl_s_bitCountK (goodIn_app gl_s_X4_rankOfK (goodIn_n)))))))))
set_option maxRecDepth 20000 in
set_option maxHeartbeats 4000000 in
theorem gl_s_X12_isKnownA : GoodIn lw_tbl u_s_X12_isKnownA := goodIn_ca (z_gr2 gs_all _ [(16, 11), (0, 5)] rfl) (goodIn_app ig_X12 (goodIn_n))
set_option maxRecDepth 20000 in
set_option maxHeartbeats 4000000 in
theorem gl_s_X12_ordersK : GoodIn lw_tbl u_s_X12_ordersK := goodIn_ca (z_gr2 gs_all _ [(7, 1), (0, 5), (0, 56), (1, 0), (1, 22), (0, 55), (0, 32), (0, 4), (0, 33), (0, 54)] rfl) (goodIn_app ig_X12 (goodIn_n))
set_option maxRecDepth 20000 in
set_option maxHeartbeats 4000000 in
theorem gl_s_X12_spansK : GoodIn lw_tbl u_s_X12_spansK := goodIn_ca (z_gr2 gs_all _ [(7, 2), (0, 5), (0, 56), (2, 27), (2, 28), (1, 0), (0, 55), (0, 32), (0, 4), (0, 33), (0, 54), (2, 25)] rfl) (goodIn_app ig_X12 (goodIn_n))
set_option maxRecDepth 20000 in
set_option maxHeartbeats 4000000 in
theorem gl_s_X12_knowK : GoodIn lw_tbl u_s_X12_knowK := goodIn_ca (z_gr2 gs_all _ [(7, 3), (7, 4), (7, 5), (7, 6), (0, 0), (7, 7), (7, 8), (7, 9), (0, 5), (0, 55), (0, 32), (0, 4), (0, 33), (0, 54)] rfl) (goodIn_app ig_X12 (goodIn_app gl_s_X12_ordersK (goodIn_app gl_s_X12_spansK (goodIn_n))))
set_option maxRecDepth 20000 in
set_option maxHeartbeats 4000000 in
theorem gl_s_X12_sizeK : GoodIn lw_tbl u_s_X12_sizeK := goodIn_ca (z_gr2 gs_all _ [(16, 12), (1, 4), (0, 4)] rfl) (goodIn_app ig_X12 (goodIn_n))
set_option maxRecDepth 20000 in
set_option maxHeartbeats 4000000 in
theorem gl_s_X12_bedK : GoodIn lw_tbl u_s_X12_bedK := goodIn_ca (z_gr2 gs_all _ [(16, 13), (0, 3), (4, 28), (4, 29), (4, 30), (0, 0), (0, 17), (0, 18), (0, 19), (0, 24), (0, 25), (0, 26), (0, 4), (0, 56), (2, 28), (16, 14), (16, 15), (16, 16), (1, 22), (2, 27)] rfl) (goodIn_app ig_X12 (goodIn_app gl_s_X12_isKnownA (goodIn_app gl_s_X12_isLayerA (goodIn_app gl_s_X12_knowK (goodIn_app gl_s_X12_sizeK (goodIn_n))))))
set_option maxRecDepth 20000 in
set_option maxHeartbeats 4000000 in
theorem gl_s_X11_orderK : GoodIn lw_tbl u_s_X11_orderK := goodIn_ca (z_gr2 gs_all _ [(16, 17), (0, 7), (4, 23), (4, 24), (4, 25), (0, 8), (0, 14), (0, 15), (0, 16), (0, 38), (1, 6), (1, 7), (1, 8), (0, 6), (2, 4), (16, 18), (1, 32), (1, 33)] rfl) (goodIn_app ig_X11 (goodIn_app ig_X4 (goodIn_app gl_s_X0_hasFirstA (goodIn_app gl_s_X0_hasLayerA (goodIn_app gl_s_X4_lookK (goodIn_app gl_s_X4_isLaterK (goodIn_n)))))))
set_option maxRecDepth 20000 in
set_option maxHeartbeats 4000000 in
theorem gl_s_X12_orderK : GoodIn lw_tbl u_s_X12_orderK := goodIn_ca (z_gr2 gs_all _ [(16, 19), (0, 3), (4, 28), (4, 29), (4, 30), (0, 0), (0, 17), (0, 18), (0, 19), (0, 24), (0, 25), (0, 26), (1, 0), (0, 4)] rfl) (goodIn_app ig_X12 (goodIn_app gl_s_X12_isKnownA (goodIn_app gl_s_X12_isLayerA (goodIn_app gl_s_X12_knowK (goodIn_n)))))
set_option maxRecDepth 20000 in
set_option maxHeartbeats 4000000 in
theorem gl_s_X11_quarrelK : GoodIn lw_tbl u_s_X11_quarrelK := goodIn_ca (z_gr2 gs_all _ [(16, 20), (0, 7), (4, 23), (4, 24), (4, 25), (0, 8), (0, 38), (1, 6), (1, 7), (1, 8), (0, 6), (6, 55)] rfl) (goodIn_app ig_X11 (goodIn_app ig_X4 (goodIn_app gl_s_X0_hasFirstA (goodIn_app gl_s_X4_lookK (goodIn_n)))))
set_option maxRecDepth 20000 in
set_option maxHeartbeats 4000000 in
theorem gl_s_X12_quarrelK : GoodIn lw_tbl u_s_X12_quarrelK := goodIn_ca (z_gr2 gs_all _ [(16, 21), (0, 3), (4, 28), (4, 29), (4, 30), (0, 0), (0, 24), (0, 25), (0, 26), (0, 56)] rfl) (goodIn_app ig_X12 (goodIn_app gl_s_X12_isKnownA (goodIn_app gl_s_X12_knowK (goodIn_n))))
set_option maxRecDepth 20000 in
set_option maxHeartbeats 4000000 in
theorem gl_s_X2_isSide : GoodIn lw_tbl u_s_X2_isSide := goodIn_ca (z_gr2 gs_all _ [(16, 22)] rfl) (goodIn_n)
set_option maxRecDepth 20000 in
set_option maxHeartbeats 4000000 in
theorem gl_s_X2_lay : GoodIn lw_tbl u_s_X2_lay := goodIn_ca (z_gr2 gs_all _ [(16, 23), (16, 24), (16, 25), (0, 58), (2, 12), (2, 13), (1, 17)] rfl) (goodIn_app ig_X2 (goodIn_app gl_s_X2_isSide (goodIn_n)))
set_option maxRecDepth 20000 in
set_option maxHeartbeats 4000000 in
theorem gl_s_X11_heap : GoodIn lw_tbl u_s_X11_heap := goodIn_ca (z_gr2 gs_all _ [(16, 26), (1, 18), (16, 27), (16, 28), (16, 29), (0, 58)] rfl) (goodIn_app ig_X11 (goodIn_app gl_s_X2_lay (goodIn_n)))
set_option maxRecDepth 20000 in
set_option maxHeartbeats 4000000 in
theorem gl_s_X12_heap : GoodIn lw_tbl u_s_X12_heap := goodIn_ca (z_gr2 gs_all _ [(16, 30), (0, 3), (2, 29), (2, 30), (1, 9)] rfl) (goodIn_app ig_X12 (goodIn_n))
set_option maxRecDepth 20000 in
set_option maxHeartbeats 4000000 in
theorem gl_s_X2_draw : GoodIn lw_tbl u_s_X2_draw := goodIn_ca (z_gr2 gs_all _ [(16, 31), (2, 12), (2, 13), (1, 17), (3, 1), (3, 2), (3, 4)] rfl) (goodIn_app ig_X2 (goodIn_n))
set_option maxRecDepth 20000 in
set_option maxHeartbeats 4000000 in
theorem gl_s_X11_column : GoodIn lw_tbl u_s_X11_column := goodIn_ca (z_gr2 gs_all _ [(16, 32), (1, 18), (16, 33), (16, 34), (16, 35), (0, 58)] rfl) (goodIn_app ig_X11 (goodIn_app gl_s_X2_draw (goodIn_n)))
set_option maxRecDepth 20000 in
set_option maxHeartbeats 4000000 in
theorem gl_s_X12_column : GoodIn lw_tbl u_s_X12_column := goodIn_ca (z_gr2 gs_all _ [(16, 36), (0, 3), (1, 9), (2, 29), (2, 30), (3, 30), (3, 31), (2, 31)] rfl) (goodIn_app ig_X12 (goodIn_n))
set_option maxRecDepth 20000 in
set_option maxHeartbeats 4000000 in
theorem gl_s_X0_hasLayer : GoodIn lw_tbl u_s_X0_hasLayer := goodIn_ca (z_gr2 gs_all _ [(6, 29), (2, 58)] rfl) (goodIn_app ig_X0 (goodIn_n))
set_option maxRecDepth 20000 in
set_option maxHeartbeats 4000000 in
theorem gl_s_X11_thick : GoodIn lw_tbl u_s_X11_thick := goodIn_ca (z_gr2 gs_all _ [(16, 37), (1, 18), (4, 31), (0, 7), (0, 14), (0, 15), (0, 16), (0, 8), (16, 38)] rfl) (goodIn_app ig_X11 (goodIn_app ig_X2 (goodIn_app gl_s_X0_hasLayer (goodIn_n))))
set_option maxRecDepth 20000 in
set_option maxHeartbeats 4000000 in
theorem gl_s_X12_isLayer : GoodIn lw_tbl u_s_X12_isLayer := goodIn_ca (z_gr2 gs_all _ [(6, 43), (1, 4)] rfl) (goodIn_app ig_X12 (goodIn_n))
set_option maxRecDepth 20000 in
set_option maxHeartbeats 4000000 in
theorem gl_s_X12_thick : GoodIn lw_tbl u_s_X12_thick := goodIn_ca (z_gr2 gs_all _ [(16, 39), (0, 3), (1, 9), (0, 17), (0, 18), (0, 19), (0, 0), (2, 31)] rfl) (goodIn_app ig_X12 (goodIn_app gl_s_X12_isLayer (goodIn_n)))
set_option maxRecDepth 20000 in
set_option maxHeartbeats 4000000 in
theorem gl_s_X11_bedNowK : GoodIn lw_tbl u_s_X11_bedNowK := goodIn_ca (z_gr2 gs_all _ [(16, 40), (0, 38), (0, 7), (1, 31), (1, 6), (1, 7), (1, 8), (0, 6), (2, 4), (6, 56), (4, 26), (4, 27)] rfl) (goodIn_app ig_X11 (goodIn_app ig_X0 (goodIn_app ig_X4 (goodIn_app gl_s_X4_lookK (goodIn_app gl_s_X4_layersOfK (goodIn_n))))))
set_option maxRecDepth 20000 in
set_option maxHeartbeats 4000000 in
theorem gl_s_X2_leaveOutEach : GoodIn lw_tbl u_s_X2_leaveOutEach := goodIn_ca (z_gr2 gs_all _ [(16, 41), (1, 17), (2, 15), (2, 14), (4, 56), (16, 42), (1, 1), (0, 34), (1, 2), (4, 57), (16, 43), (1, 28), (1, 29)] rfl) (goodIn_app ig_X2 (goodIn_n))
set_option maxRecDepth 20000 in
set_option maxHeartbeats 4000000 in
theorem gl_s_X2_weighCell : GoodIn lw_tbl u_s_X2_weighCell := goodIn_ca (z_gr2 gs_all _ [(16, 44), (1, 17), (2, 15), (3, 3), (2, 14), (3, 1), (3, 2)] rfl) (goodIn_app ig_X2 (goodIn_n))
set_option maxRecDepth 20000 in
set_option maxHeartbeats 4000000 in
theorem gl_s_X2_weigh : GoodIn lw_tbl u_s_X2_weigh := goodIn_ca (z_gr2 gs_all _ [(16, 45), (2, 15), (1, 17), (2, 12), (16, 46), (16, 47), (16, 48), (0, 58), (2, 13), (16, 49), (16, 50), (16, 51), (3, 3), (2, 14), (3, 4)] rfl) (goodIn_app ig_X2 (goodIn_app gl_s_X2_leaveOutEach (goodIn_app gl_s_X2_weighCell (goodIn_n))))
set_option maxRecDepth 20000 in
set_option maxHeartbeats 4000000 in
theorem gl_s_X11_holdsK : GoodIn lw_tbl u_s_X11_holdsK := goodIn_ca (z_gr2 gs_all _ [(16, 52), (0, 7), (0, 14), (0, 15), (0, 16), (0, 8), (1, 18), (4, 31), (1, 10), (1, 11), (1, 12), (0, 2), (16, 53), (7, 10), (7, 11), (0, 58), (16, 54), (16, 55), (16, 56)] rfl) (goodIn_app ig_X11 (goodIn_app ig_X2 (goodIn_app gl_s_X0_hasLayer (goodIn_app gl_s_X11_bedNowK (goodIn_app gl_s_X2_weigh (goodIn_n))))))
set_option maxRecDepth 20000 in
set_option maxHeartbeats 4000000 in
theorem gl_s_X12_orders : GoodIn lw_tbl u_s_X12_orders := goodIn_ca (z_gr2 gs_all _ [(7, 1), (0, 5), (0, 56), (1, 0), (1, 22), (0, 55), (0, 32), (0, 4), (0, 33), (0, 54)] rfl) (goodIn_app ig_X12 (goodIn_n))
set_option maxRecDepth 20000 in
set_option maxHeartbeats 4000000 in
theorem gl_s_X12_spans : GoodIn lw_tbl u_s_X12_spans := goodIn_ca (z_gr2 gs_all _ [(7, 2), (0, 5), (0, 56), (2, 27), (2, 28), (1, 0), (0, 55), (0, 32), (0, 4), (0, 33), (0, 54), (2, 25)] rfl) (goodIn_app ig_X12 (goodIn_n))
set_option maxRecDepth 20000 in
set_option maxHeartbeats 4000000 in
theorem gl_s_X12_know : GoodIn lw_tbl u_s_X12_know := goodIn_ca (z_gr2 gs_all _ [(7, 3), (7, 4), (7, 5), (7, 6), (0, 0), (7, 7), (7, 8), (7, 9), (0, 5), (0, 55), (0, 32), (0, 4), (0, 33), (0, 54)] rfl) (goodIn_app ig_X12 (goodIn_app gl_s_X12_orders (goodIn_app gl_s_X12_spans (goodIn_n))))
set_option maxRecDepth 20000 in
set_option maxHeartbeats 4000000 in
theorem gl_s_X12_far : GoodIn lw_tbl u_s_X12_far := goodIn_ca (z_gr2 gs_all _ [(16, 57), (3, 30), (3, 31)] rfl) (goodIn_app ig_X12 (goodIn_n))
set_option maxRecDepth 20000 in
set_option maxHeartbeats 4000000 in
theorem gl_s_X12_holdsWithout : GoodIn lw_tbl u_s_X12_holdsWithout := goodIn_ca (z_gr2 gs_all _ [(16, 58), (2, 30), (2, 29), (1, 9), (1, 4), (0, 4), (2, 31), (16, 59), (17, 0), (17, 1), (0, 0)] rfl) (goodIn_app ig_X12 (goodIn_app gl_s_X12_far (goodIn_n)))
set_option maxRecDepth 20000 in
set_option maxHeartbeats 4000000 in
theorem gl_s_X12_holds : GoodIn lw_tbl u_s_X12_holds := goodIn_ca (z_gr2 gs_all _ [(17, 2), (0, 3), (0, 17), (0, 18), (0, 19), (0, 0), (1, 9), (0, 5), (0, 24), (0, 25), (0, 26), (0, 4), (7, 12), (7, 13), (7, 14)] rfl) (goodIn_app ig_X12 (goodIn_app gl_s_X12_isLayer (goodIn_app gl_s_X12_know (goodIn_app gl_s_X12_holdsWithout (goodIn_n)))))
set_option maxRecDepth 20000 in
set_option maxHeartbeats 4000000 in
theorem gl_s_X5_nameA : GoodIn lw_tbl u_s_X5_nameA := goodIn_ca (z_gr2 gs_all _ [(17, 3), (1, 37), (3, 5), (3, 6), (3, 7)] rfl) (goodIn_app ig_X5 (goodIn_n))
set_option maxRecDepth 20000 in
set_option maxHeartbeats 4000000 in
theorem gl_s_X11_kindA : GoodIn lw_tbl u_s_X11_kindA := goodIn_ca (z_gr2 gs_all _ [(17, 4), (1, 19), (17, 5), (17, 6), (17, 7), (0, 27)] rfl) (goodIn_app ig_X11 (goodIn_app gl_s_X5_nameA (goodIn_n)))
set_option maxRecDepth 20000 in
set_option maxHeartbeats 4000000 in
theorem gl_s_X12_kindA : GoodIn lw_tbl u_s_X12_kindA := goodIn_ca (z_gr2 gs_all _ [(17, 8), (0, 3), (1, 5), (3, 32), (3, 33)] rfl) (goodIn_app ig_X12 (goodIn_n))
set_option maxRecDepth 20000 in
set_option maxHeartbeats 4000000 in
theorem gl_s_X5_hasKind : GoodIn lw_tbl u_s_X5_hasKind := goodIn_ca (z_gr2 gs_all _ [(6, 32), (1, 37)] rfl) (goodIn_app ig_X5 (goodIn_n))
set_option maxRecDepth 20000 in
set_option maxHeartbeats 4000000 in
theorem gl_s_X11_kept : GoodIn lw_tbl u_s_X11_kept := goodIn_ca (z_gr2 gs_all _ [(17, 9), (1, 19), (7, 15), (2, 54), (2, 55), (0, 27), (17, 10)] rfl) (goodIn_app ig_X11 (goodIn_app ig_X5 (goodIn_app gl_s_X5_hasKind (goodIn_n))))
set_option maxRecDepth 20000 in
set_option maxHeartbeats 4000000 in
theorem gl_s_X12_isKind : GoodIn lw_tbl u_s_X12_isKind := goodIn_ca (z_gr2 gs_all _ [(6, 44), (1, 5)] rfl) (goodIn_app ig_X12 (goodIn_n))
set_option maxRecDepth 20000 in
set_option maxHeartbeats 4000000 in
theorem gl_s_X12_kept2 : GoodIn lw_tbl u_s_X12_kept2 := goodIn_ca (z_gr2 gs_all _ [(17, 11), (0, 3), (4, 18), (4, 19), (4, 20), (0, 0), (3, 34)] rfl) (goodIn_app ig_X12 (goodIn_app gl_s_X12_isKind (goodIn_n)))
set_option maxRecDepth 20000 in
set_option maxHeartbeats 4000000 in
theorem gl_s_X5_findLost : GoodIn lw_tbl u_s_X5_findLost := goodIn_ca (z_gr2 gs_all _ [(17, 12), (5, 0), (17, 13), (2, 17)] rfl) (goodIn_app ig_X5 (goodIn_n))
set_option maxRecDepth 20000 in
set_option maxHeartbeats 4000000 in
theorem gl_s_X5_hinges : GoodIn lw_tbl u_s_X5_hinges := goodIn_ca (z_gr2 gs_all _ [(17, 14), (2, 17), (3, 6), (17, 15), (17, 16), (0, 34), (17, 17)] rfl) (goodIn_app ig_X5 (goodIn_n))
set_option maxRecDepth 20000 in
set_option maxHeartbeats 4000000 in
theorem gl_s_X5_putRight : GoodIn lw_tbl u_s_X5_putRight := goodIn_ca (z_gr2 gs_all _ [(17, 18), (4, 59), (3, 8), (17, 19), (17, 20), (17, 21), (17, 22), (0, 27), (3, 7), (17, 23)] rfl) (goodIn_app ig_X5 (goodIn_app gl_s_X5_hinges (goodIn_n)))
set_option maxRecDepth 20000 in
set_option maxHeartbeats 4000000 in
theorem gl_s_X4_counts : GoodIn lw_tbl u_s_X4_counts := goodIn_ca (z_gr2 gs_all _ [(6, 46), (0, 50), (2, 10), (0, 42), (6, 47)] rfl) (goodIn_app ig_X4 (goodIn_app ig_X0 (goodIn_n)))
set_option maxRecDepth 20000 in
set_option maxHeartbeats 4000000 in
theorem gl_s_X4_areFindsIn : GoodIn lw_tbl u_s_X4_areFindsIn := goodIn_ca (z_gr2 gs_all _ [(17, 24), (1, 59), (2, 0), (2, 1), (0, 6), (0, 42), (2, 2)] rfl) (goodIn_app ig_X4 (goodIn_app ig_X0 (goodIn_app gl_s_X4_counts (goodIn_n))))
set_option maxRecDepth 20000 in
set_option maxHeartbeats 4000000 in
theorem gl_s_X5_gather : GoodIn lw_tbl u_s_X5_gather := goodIn_ca (z_gr2 gs_all _ [(17, 25), (3, 9), (1, 37), (17, 26), (17, 27), (17, 28), (0, 27), (17, 29), (17, 30), (17, 31), (3, 8), (3, 5), (17, 32), (17, 33), (17, 34), (0, 6), (2, 17), (2, 16)] rfl) (goodIn_app ig_X5 (goodIn_app gl_s_X5_findLost (goodIn_app gl_s_X5_putRight (goodIn_app gl_s_X4_areFindsIn (goodIn_n)))))
set_option maxRecDepth 20000 in
set_option maxHeartbeats 4000000 in
theorem gl_s_X11_eatenK : GoodIn lw_tbl u_s_X11_eatenK := goodIn_ca (z_gr2 gs_all _ [(17, 35), (0, 7), (0, 14), (0, 15), (0, 16), (0, 8), (7, 16), (1, 19), (0, 38), (1, 10), (1, 11), (1, 12), (0, 2), (7, 17), (4, 32), (4, 33), (0, 27), (17, 36), (17, 37), (17, 38), (17, 39), (7, 15), (2, 54), (2, 55)] rfl) (goodIn_app ig_X11 (goodIn_app ig_X5 (goodIn_app gl_s_X0_hasLayer (goodIn_app gl_s_X11_bedNowK (goodIn_app gl_s_X5_gather (goodIn_app gl_s_X5_hasKind (goodIn_n)))))))
set_option maxRecDepth 20000 in
set_option maxHeartbeats 4000000 in
theorem gl_s_X12_sum : GoodIn lw_tbl u_s_X12_sum := goodIn_ca (z_gr2 gs_all _ [(17, 40), (0, 5), (0, 55), (0, 32), (0, 4), (0, 33), (2, 26)] rfl) (goodIn_app ig_X12 (goodIn_n))
set_option maxRecDepth 20000 in
set_option maxHeartbeats 4000000 in
theorem gl_s_X12_lost : GoodIn lw_tbl u_s_X12_lost := goodIn_ca (z_gr2 gs_all _ [(17, 41), (1, 5), (17, 42), (7, 18), (7, 19), (7, 20), (0, 0)] rfl) (goodIn_app ig_X12 (goodIn_app gl_s_X12_sum (goodIn_n)))
