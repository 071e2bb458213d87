set_option maxRecDepth 20000 in
set_option maxHeartbeats 4000000 in
theorem gl_s_X4_leadYearsK : GoodIn lw_tbl u_s_X4_leadYearsK := goodIn_ca (z_gr2 gs_all _ [(16, 51), (0, 20), (2, 26), (1, 45), (1, 46), (0, 5), (3, 34), (3, 18), (1, 14), (0, 22), (1, 15), (3, 35), (4, 39), (0, 56), (0, 57)] rfl) (goodIn_app ig_X4 (goodIn_app gl_s_X4_isLaterK (goodIn_n)))
set_option maxRecDepth 20000 in
set_option maxHeartbeats 4000000 in
theorem gl_s_X4_setSpansK : GoodIn lw_tbl u_s_X4_setSpansK := goodIn_ca (z_gr2 gs_all _ [(16, 52), (0, 20), (0, 52), (16, 53), (16, 54), (16, 55), (0, 5), (3, 34), (3, 35), (1, 51), (1, 41), (1, 42), (1, 43), (1, 5), (0, 35), (1, 44), (4, 40), (3, 18), (1, 14), (0, 22), (1, 15), (16, 56), (4, 39), (0, 56), (0, 57)] rfl) (goodIn_app ig_X4 (goodIn_app ig_X0 (goodIn_app gl_s_X4_leadYearsK (goodIn_app gl_s_X4_countsK (goodIn_n)))))
set_option maxRecDepth 20000 in
set_option maxHeartbeats 4000000 in
theorem gl_s_X4_lookK : GoodIn lw_tbl u_s_X4_lookK := goodIn_ca (z_gr2 gs_all _ [(16, 57), (0, 52), (0, 35), (16, 58), (0, 20), (16, 59), (17, 0), (17, 1), (0, 5), (17, 2), (17, 3), (17, 4), (17, 5), (17, 6), (17, 7), (17, 8), (17, 9), (17, 10), (1, 51), (17, 11), (17, 12), (17, 13), (17, 14), (17, 15), (17, 16)] rfl) (goodIn_app ig_X4 (goodIn_app ig_X0 (goodIn_app gl_s_X4_findStruckK (goodIn_app gl_s_X4_joinBedsK (goodIn_app gl_s_X4_findLaterK (goodIn_app gl_s_X4_hasRingK (goodIn_app gl_s_X4_setRanksK (goodIn_app gl_s_X4_setSpansK (goodIn_n)))))))))
set_option maxRecDepth 20000 in
set_option maxHeartbeats 4000000 in
theorem gl_s_X4_layersOfK : GoodIn lw_tbl u_s_X4_layersOfK := goodIn_ca (z_gr2 gs_all _ [(17, 17), (0, 20), (1, 5)] rfl) (goodIn_app ig_X4 (goodIn_n))
set_option maxRecDepth 20000 in
set_option maxHeartbeats 4000000 in
theorem gl_s_bitCountK : GoodIn lw_tbl u_s_bitCountK := goodIn_ca (z_gr2 gs_all _ [(17, 18), (17, 19), (17, 20), (17, 21)] rfl) (goodIn_n)
set_option maxRecDepth 20000 in
set_option maxHeartbeats 4000000 in
theorem gl_s_X4_rankOfK : GoodIn lw_tbl u_s_X4_rankOfK := goodIn_ca (z_gr2 gs_all _ [(17, 22), (1, 51), (1, 50)] rfl) (goodIn_app ig_X4 (goodIn_n))
set_option maxRecDepth 20000 in
set_option maxHeartbeats 4000000 in
theorem gl_s_X11_bedK : GoodIn lw_tbl u_s_X11_bedK := goodIn_ca (z_gr2 gs_all _ [(17, 23), (0, 7), (4, 41), (4, 42), (4, 43), (0, 8), (0, 12), (0, 13), (0, 14), (0, 36), (1, 16), (1, 17), (1, 18), (0, 5), (2, 27), (6, 58), (17, 24), (6, 59), (4, 44), (4, 45), (17, 25), (7, 0), (7, 1), (17, 26), (7, 2), (7, 3), (17, 27)] rfl) (goodIn_app ig_X11 (goodIn_app ig_X4 (goodIn_app gl_s_X0_hasFirstA (goodIn_app gl_s_X0_hasLayerA (goodIn_app gl_s_X4_lookK (goodIn_app gl_s_X4_layersOfK (goodIn_app gl_s_bitCountK (goodIn_app gl_s_X4_rankOfK (goodIn_n)))))))))
set_option maxRecDepth 20000 in
set_option maxHeartbeats 4000000 in
theorem gl_s_X12_isKnownA : GoodIn lw_tbl u_s_X12_isKnownA := goodIn_ca (z_gr2 gs_all _ [(17, 28), (0, 6)] rfl) (goodIn_app ig_X12 (goodIn_n))
set_option maxRecDepth 20000 in
set_option maxHeartbeats 4000000 in
theorem gl_s_X12_ordersK : GoodIn lw_tbl u_s_X12_ordersK := goodIn_ca (z_gr2 gs_all _ [(7, 4), (0, 6), (1, 2), (1, 11), (1, 32), (0, 44), (0, 27), (0, 3), (0, 28), (0, 55)] rfl) (goodIn_app ig_X12 (goodIn_n))
set_option maxRecDepth 20000 in
set_option maxHeartbeats 4000000 in
theorem gl_s_X12_spansK : GoodIn lw_tbl u_s_X12_spansK := goodIn_ca (z_gr2 gs_all _ [(7, 5), (0, 6), (1, 2), (2, 49), (2, 50), (1, 11), (0, 44), (0, 27), (0, 3), (0, 28), (0, 55), (2, 48)] rfl) (goodIn_app ig_X12 (goodIn_n))
set_option maxRecDepth 20000 in
set_option maxHeartbeats 4000000 in
theorem gl_s_X12_knowK : GoodIn lw_tbl u_s_X12_knowK := goodIn_ca (z_gr2 gs_all _ [(7, 6), (7, 7), (7, 8), (7, 9), (0, 0), (7, 10), (7, 11), (7, 12), (0, 6), (0, 44), (0, 27), (0, 3), (0, 28), (0, 55)] rfl) (goodIn_app ig_X12 (goodIn_app gl_s_X12_ordersK (goodIn_app gl_s_X12_spansK (goodIn_n))))
set_option maxRecDepth 20000 in
set_option maxHeartbeats 4000000 in
theorem gl_s_X12_sizeK : GoodIn lw_tbl u_s_X12_sizeK := goodIn_ca (z_gr2 gs_all _ [(17, 29), (0, 49), (0, 3)] rfl) (goodIn_app ig_X12 (goodIn_n))
set_option maxRecDepth 20000 in
set_option maxHeartbeats 4000000 in
theorem gl_s_X12_bedK : GoodIn lw_tbl u_s_X12_bedK := goodIn_ca (z_gr2 gs_all _ [(17, 30), (0, 4), (4, 46), (4, 47), (4, 48), (0, 0), (0, 15), (0, 16), (0, 17), (0, 23), (0, 24), (0, 25), (0, 3), (1, 2), (2, 50), (17, 31), (17, 32), (17, 33), (1, 32), (2, 49)] rfl) (goodIn_app ig_X12 (goodIn_app gl_s_X12_isKnownA (goodIn_app gl_s_X12_isLayerA (goodIn_app gl_s_X12_knowK (goodIn_app gl_s_X12_sizeK (goodIn_n))))))
set_option maxRecDepth 20000 in
set_option maxHeartbeats 4000000 in
theorem gl_s_X11_orderK : GoodIn lw_tbl u_s_X11_orderK := goodIn_ca (z_gr2 gs_all _ [(17, 34), (0, 7), (4, 41), (4, 42), (4, 43), (0, 8), (0, 12), (0, 13), (0, 14), (0, 36), (1, 16), (1, 17), (1, 18), (0, 5), (2, 27), (17, 35), (1, 45), (1, 46)] rfl) (goodIn_app ig_X11 (goodIn_app ig_X4 (goodIn_app gl_s_X0_hasFirstA (goodIn_app gl_s_X0_hasLayerA (goodIn_app gl_s_X4_lookK (goodIn_app gl_s_X4_isLaterK (goodIn_n)))))))
set_option maxRecDepth 20000 in
set_option maxHeartbeats 4000000 in
theorem gl_s_X12_orderK : GoodIn lw_tbl u_s_X12_orderK := goodIn_ca (z_gr2 gs_all _ [(17, 36), (0, 4), (4, 46), (4, 47), (4, 48), (0, 0), (0, 15), (0, 16), (0, 17), (0, 23), (0, 24), (0, 25), (1, 11), (0, 3)] rfl) (goodIn_app ig_X12 (goodIn_app gl_s_X12_isKnownA (goodIn_app gl_s_X12_isLayerA (goodIn_app gl_s_X12_knowK (goodIn_n)))))
set_option maxRecDepth 20000 in
set_option maxHeartbeats 4000000 in
theorem gl_s_X11_quarrelK : GoodIn lw_tbl u_s_X11_quarrelK := goodIn_ca (z_gr2 gs_all _ [(17, 37), (0, 7), (4, 41), (4, 42), (4, 43), (0, 8), (0, 36), (1, 16), (1, 17), (1, 18), (0, 5), (6, 58)] rfl) (goodIn_app ig_X11 (goodIn_app ig_X4 (goodIn_app gl_s_X0_hasFirstA (goodIn_app gl_s_X4_lookK (goodIn_n)))))
set_option maxRecDepth 20000 in
set_option maxHeartbeats 4000000 in
theorem gl_s_X12_quarrelK : GoodIn lw_tbl u_s_X12_quarrelK := goodIn_ca (z_gr2 gs_all _ [(17, 38), (0, 4), (4, 46), (4, 47), (4, 48), (0, 0), (0, 23), (0, 24), (0, 25), (1, 2)] rfl) (goodIn_app ig_X12 (goodIn_app gl_s_X12_isKnownA (goodIn_app gl_s_X12_knowK (goodIn_n))))
set_option maxRecDepth 20000 in
set_option maxHeartbeats 4000000 in
theorem gl_s_X2_isSideA : GoodIn lw_tbl u_s_X2_isSideA := goodIn_ca (z_gr2 gs_all _ [(17, 39)] rfl) (goodIn_n)
set_option maxRecDepth 20000 in
set_option maxHeartbeats 4000000 in
theorem gl_s_X2_layG : GoodIn lw_tbl u_s_X2_layG := goodIn_ca (z_gr2 gs_all _ [(17, 40), (17, 41), (17, 42), (0, 53), (1, 52), (1, 53), (0, 42)] rfl) (goodIn_app ig_X2 (goodIn_app gl_s_X2_isSideA (goodIn_n)))
set_option maxRecDepth 20000 in
set_option maxHeartbeats 4000000 in
theorem gl_s_X11_heapG : GoodIn lw_tbl u_s_X11_heapG := goodIn_ca (z_gr2 gs_all _ [(17, 43), (1, 24), (17, 44), (17, 45), (17, 46), (0, 53)] rfl) (goodIn_app ig_X11 (goodIn_app gl_s_X2_layG (goodIn_n)))
set_option maxRecDepth 20000 in
set_option maxHeartbeats 4000000 in
theorem gl_s_X12_heapG : GoodIn lw_tbl u_s_X12_heapG := goodIn_ca (z_gr2 gs_all _ [(17, 47), (0, 4), (2, 6), (2, 7), (1, 3)] rfl) (goodIn_app ig_X12 (goodIn_n))
set_option maxRecDepth 20000 in
set_option maxHeartbeats 4000000 in
theorem gl_s_X2_drawT : GoodIn lw_tbl u_s_X2_drawT := goodIn_ca (z_gr2 gs_all _ [(17, 48), (1, 52), (1, 53), (0, 42), (2, 34), (2, 35), (2, 36)] rfl) (goodIn_app ig_X2 (goodIn_n))
set_option maxRecDepth 20000 in
set_option maxHeartbeats 4000000 in
theorem gl_s_X11_columnT : GoodIn lw_tbl u_s_X11_columnT := goodIn_ca (z_gr2 gs_all _ [(17, 49), (1, 24), (17, 50), (17, 51), (17, 52), (0, 53)] rfl) (goodIn_app ig_X11 (goodIn_app gl_s_X2_drawT (goodIn_n)))
set_option maxRecDepth 20000 in
set_option maxHeartbeats 4000000 in
theorem gl_s_X12_columnT : GoodIn lw_tbl u_s_X12_columnT := goodIn_ca (z_gr2 gs_all _ [(17, 53), (0, 4), (1, 3), (2, 6), (2, 7), (2, 51), (2, 52), (2, 8)] rfl) (goodIn_app ig_X12 (goodIn_n))
set_option maxRecDepth 20000 in
set_option maxHeartbeats 4000000 in
theorem gl_s_X11_thickT : GoodIn lw_tbl u_s_X11_thickT := goodIn_ca (z_gr2 gs_all _ [(17, 54), (1, 24), (4, 49), (0, 7), (0, 12), (0, 13), (0, 14), (0, 8), (17, 55)] rfl) (goodIn_app ig_X11 (goodIn_app ig_X2 (goodIn_app gl_s_X0_hasLayerA (goodIn_n))))
set_option maxRecDepth 20000 in
set_option maxHeartbeats 4000000 in
theorem gl_s_X12_thickT : GoodIn lw_tbl u_s_X12_thickT := goodIn_ca (z_gr2 gs_all _ [(17, 56), (0, 4), (1, 3), (0, 15), (0, 16), (0, 17), (0, 0), (2, 8)] rfl) (goodIn_app ig_X12 (goodIn_app gl_s_X12_isLayerA (goodIn_n)))
set_option maxRecDepth 20000 in
set_option maxHeartbeats 4000000 in
theorem gl_s_X0_hasLayer : GoodIn lw_tbl u_s_X0_hasLayer := goodIn_ca (z_gr2 gs_all _ [(6, 39), (3, 32)] rfl) (goodIn_app ig_X0 (goodIn_n))
set_option maxRecDepth 20000 in
set_option maxHeartbeats 4000000 in
theorem gl_s_X11_bedNowK : GoodIn lw_tbl u_s_X11_bedNowK := goodIn_ca (z_gr2 gs_all _ [(17, 57), (0, 36), (0, 7), (1, 40), (1, 16), (1, 17), (1, 18), (0, 5), (2, 27), (6, 59), (4, 44), (4, 45)] rfl) (goodIn_app ig_X11 (goodIn_app ig_X0 (goodIn_app ig_X4 (goodIn_app gl_s_X4_lookK (goodIn_app gl_s_X4_layersOfK (goodIn_n))))))
set_option maxRecDepth 20000 in
set_option maxHeartbeats 4000000 in
theorem gl_s_X2_leaveOutEach : GoodIn lw_tbl u_s_X2_leaveOutEach := goodIn_ca (z_gr2 gs_all _ [(7, 13), (0, 42), (1, 7), (1, 6), (3, 36), (7, 14), (0, 56), (0, 22), (0, 57), (3, 37), (7, 15), (1, 14), (1, 15)] rfl) (goodIn_app ig_X2 (goodIn_n))
set_option maxRecDepth 20000 in
set_option maxHeartbeats 4000000 in
theorem gl_s_X2_weighCell : GoodIn lw_tbl u_s_X2_weighCell := goodIn_ca (z_gr2 gs_all _ [(7, 16), (0, 42), (1, 7), (1, 54), (1, 6), (2, 34), (2, 35)] rfl) (goodIn_app ig_X2 (goodIn_n))
set_option maxRecDepth 20000 in
set_option maxHeartbeats 4000000 in
theorem gl_s_X2_weigh : GoodIn lw_tbl u_s_X2_weigh := goodIn_ca (z_gr2 gs_all _ [(7, 17), (1, 7), (0, 42), (1, 52), (7, 18), (7, 19), (7, 20), (0, 53), (1, 53), (7, 21), (7, 22), (7, 23), (1, 54), (1, 6), (2, 36)] rfl) (goodIn_app ig_X2 (goodIn_app gl_s_X2_leaveOutEach (goodIn_app gl_s_X2_weighCell (goodIn_n))))
set_option maxRecDepth 20000 in
set_option maxHeartbeats 4000000 in
theorem gl_s_X11_holdsK : GoodIn lw_tbl u_s_X11_holdsK := goodIn_ca (z_gr2 gs_all _ [(17, 58), (0, 7), (0, 12), (0, 13), (0, 14), (0, 8), (1, 24), (4, 49), (1, 19), (1, 20), (1, 21), (0, 2), (17, 59), (7, 24), (7, 25), (0, 53), (18, 0), (18, 1), (18, 2)] rfl) (goodIn_app ig_X11 (goodIn_app ig_X2 (goodIn_app gl_s_X0_hasLayer (goodIn_app gl_s_X11_bedNowK (goodIn_app gl_s_X2_weigh (goodIn_n))))))
set_option maxRecDepth 20000 in
set_option maxHeartbeats 4000000 in
theorem gl_s_X12_isLayer : GoodIn lw_tbl u_s_X12_isLayer := goodIn_ca (z_gr2 gs_all _ [(6, 53), (0, 49)] rfl) (goodIn_app ig_X12 (goodIn_n))
set_option maxRecDepth 20000 in
set_option maxHeartbeats 4000000 in
theorem gl_s_X12_orders : GoodIn lw_tbl u_s_X12_orders := goodIn_ca (z_gr2 gs_all _ [(7, 4), (0, 6), (1, 2), (1, 11), (1, 32), (0, 44), (0, 27), (0, 3), (0, 28), (0, 55)] rfl) (goodIn_app ig_X12 (goodIn_n))
set_option maxRecDepth 20000 in
set_option maxHeartbeats 4000000 in
theorem gl_s_X12_spans : GoodIn lw_tbl u_s_X12_spans := goodIn_ca (z_gr2 gs_all _ [(7, 5), (0, 6), (1, 2), (2, 49), (2, 50), (1, 11), (0, 44), (0, 27), (0, 3), (0, 28), (0, 55), (2, 48)] rfl) (goodIn_app ig_X12 (goodIn_n))
set_option maxRecDepth 20000 in
set_option maxHeartbeats 4000000 in
theorem gl_s_X12_know : GoodIn lw_tbl u_s_X12_know := goodIn_ca (z_gr2 gs_all _ [(7, 6), (7, 7), (7, 8), (7, 9), (0, 0), (7, 10), (7, 11), (7, 12), (0, 6), (0, 44), (0, 27), (0, 3), (0, 28), (0, 55)] rfl) (goodIn_app ig_X12 (goodIn_app gl_s_X12_orders (goodIn_app gl_s_X12_spans (goodIn_n))))
set_option maxRecDepth 20000 in
set_option maxHeartbeats 4000000 in
theorem gl_s_X12_far : GoodIn lw_tbl u_s_X12_far := goodIn_ca (z_gr2 gs_all _ [(7, 26), (2, 51), (2, 52)] rfl) (goodIn_app ig_X12 (goodIn_n))
set_option maxRecDepth 20000 in
set_option maxHeartbeats 4000000 in
theorem gl_s_X12_holdsWithout : GoodIn lw_tbl u_s_X12_holdsWithout := goodIn_ca (z_gr2 gs_all _ [(7, 27), (2, 7), (2, 6), (1, 3), (0, 49), (0, 3), (2, 8), (7, 28), (7, 29), (7, 30), (0, 0)] rfl) (goodIn_app ig_X12 (goodIn_app gl_s_X12_far (goodIn_n)))
set_option maxRecDepth 20000 in
set_option maxHeartbeats 4000000 in
theorem gl_s_X12_holds : GoodIn lw_tbl u_s_X12_holds := goodIn_ca (z_gr2 gs_all _ [(18, 3), (0, 4), (0, 15), (0, 16), (0, 17), (0, 0), (1, 3), (0, 6), (0, 23), (0, 24), (0, 25), (0, 3), (7, 31), (7, 32), (7, 33)] rfl) (goodIn_app ig_X12 (goodIn_app gl_s_X12_isLayer (goodIn_app gl_s_X12_know (goodIn_app gl_s_X12_holdsWithout (goodIn_n)))))
set_option maxRecDepth 20000 in
set_option maxHeartbeats 4000000 in
theorem gl_s_X5_nameX : GoodIn lw_tbl u_s_X5_nameX := goodIn_ca (z_gr2 gs_all _ [(18, 4), (1, 25), (2, 37), (2, 38), (2, 39)] rfl) (goodIn_app ig_X5 (goodIn_n))
set_option maxRecDepth 20000 in
set_option maxHeartbeats 4000000 in
theorem gl_s_X11_kindX : GoodIn lw_tbl u_s_X11_kindX := goodIn_ca (z_gr2 gs_all _ [(18, 5), (1, 26), (18, 6), (18, 7), (18, 8), (0, 18)] rfl) (goodIn_app ig_X11 (goodIn_app gl_s_X5_nameX (goodIn_n)))
set_option maxRecDepth 20000 in
set_option maxHeartbeats 4000000 in
theorem gl_s_X12_kindX : GoodIn lw_tbl u_s_X12_kindX := goodIn_ca (z_gr2 gs_all _ [(18, 9), (0, 4), (0, 50), (2, 53), (2, 54)] rfl) (goodIn_app ig_X12 (goodIn_n))
set_option maxRecDepth 20000 in
set_option maxHeartbeats 4000000 in
theorem gl_s_X11_keptX : GoodIn lw_tbl u_s_X11_keptX := goodIn_ca (z_gr2 gs_all _ [(18, 10), (1, 26), (7, 34), (3, 16), (3, 17), (0, 18), (18, 11)] rfl) (goodIn_app ig_X11 (goodIn_app ig_X5 (goodIn_app gl_s_X5_hasKindA (goodIn_n))))
set_option maxRecDepth 20000 in
set_option maxHeartbeats 4000000 in
theorem gl_s_X12_keptX : GoodIn lw_tbl u_s_X12_keptX := goodIn_ca (z_gr2 gs_all _ [(18, 12), (0, 4), (4, 36), (4, 37), (4, 38), (0, 0), (2, 55)] rfl) (goodIn_app ig_X12 (goodIn_app gl_s_X12_isKindA (goodIn_n)))
set_option maxRecDepth 20000 in
set_option maxHeartbeats 4000000 in
theorem gl_s_X5_findLost : GoodIn lw_tbl u_s_X5_findLost := goodIn_ca (z_gr2 gs_all _ [(7, 35), (3, 39), (7, 36), (1, 8)] rfl) (goodIn_app ig_X5 (goodIn_n))
set_option maxRecDepth 20000 in
set_option maxHeartbeats 4000000 in
theorem gl_s_X5_hinges : GoodIn lw_tbl u_s_X5_hinges := goodIn_ca (z_gr2 gs_all _ [(7, 37), (1, 8), (2, 38), (7, 38), (7, 39), (0, 22), (7, 40)] rfl) (goodIn_app ig_X5 (goodIn_n))
set_option maxRecDepth 20000 in
set_option maxHeartbeats 4000000 in
theorem gl_s_X5_putRight : GoodIn lw_tbl u_s_X5_putRight := goodIn_ca (z_gr2 gs_all _ [(7, 41), (3, 38), (1, 56), (7, 42), (7, 43), (7, 44), (7, 45), (0, 18), (2, 39), (7, 46)] rfl) (goodIn_app ig_X5 (goodIn_app gl_s_X5_hinges (goodIn_n)))
set_option maxRecDepth 20000 in
set_option maxHeartbeats 4000000 in
theorem gl_s_X4_counts : GoodIn lw_tbl u_s_X4_counts := goodIn_ca (z_gr2 gs_all _ [(6, 56), (0, 52), (2, 33), (0, 35), (6, 57)] rfl) (goodIn_app ig_X4 (goodIn_app ig_X0 (goodIn_n)))
set_option maxRecDepth 20000 in
set_option maxHeartbeats 4000000 in
theorem gl_s_X4_areFindsIn : GoodIn lw_tbl u_s_X4_areFindsIn := goodIn_ca (z_gr2 gs_all _ [(7, 47), (1, 41), (1, 42), (1, 43), (0, 5), (0, 35), (1, 44)] rfl) (goodIn_app ig_X4 (goodIn_app ig_X0 (goodIn_app gl_s_X4_counts (goodIn_n))))
set_option maxRecDepth 20000 in
set_option maxHeartbeats 4000000 in
theorem gl_s_X5_gather : GoodIn lw_tbl u_s_X5_gather := goodIn_ca (z_gr2 gs_all _ [(7, 48), (1, 57), (1, 25), (7, 49), (7, 50), (7, 51), (0, 18), (7, 52), (7, 53), (7, 54), (1, 56), (2, 37), (7, 55), (7, 56), (7, 57), (0, 5), (1, 8), (1, 55)] rfl) (goodIn_app ig_X5 (goodIn_app gl_s_X5_findLost (goodIn_app gl_s_X5_putRight (goodIn_app gl_s_X4_areFindsIn (goodIn_n)))))
set_option maxRecDepth 20000 in
set_option maxHeartbeats 4000000 in
theorem gl_s_X5_hasKind : GoodIn lw_tbl u_s_X5_hasKind := goodIn_ca (z_gr2 gs_all _ [(6, 42), (1, 25)] rfl) (goodIn_app ig_X5 (goodIn_n))
set_option maxRecDepth 20000 in
set_option maxHeartbeats 4000000 in
theorem gl_s_X11_eatenK : GoodIn lw_tbl u_s_X11_eatenK := goodIn_ca (z_gr2 gs_all _ [(18, 13), (0, 7), (0, 12), (0, 13), (0, 14), (0, 8), (7, 58), (1, 26), (0, 36), (1, 19), (1, 20), (1, 21), (0, 2), (7, 59), (4, 50), (4, 51), (0, 18), (18, 14), (18, 15), (18, 16), (18, 17), (7, 34), (3, 16), (3, 17)] rfl) (goodIn_app ig_X11 (goodIn_app ig_X5 (goodIn_app gl_s_X0_hasLayer (goodIn_app gl_s_X11_bedNowK (goodIn_app gl_s_X5_gather (goodIn_app gl_s_X5_hasKind (goodIn_n)))))))
set_option maxRecDepth 20000 in
set_option maxHeartbeats 4000000 in
theorem gl_s_X12_sum : GoodIn lw_tbl u_s_X12_sum := goodIn_ca (z_gr2 gs_all _ [(8, 0), (0, 6), (0, 44), (0, 27), (0, 3), (0, 28), (2, 5)] rfl) (goodIn_app ig_X12 (goodIn_n))
set_option maxRecDepth 20000 in
set_option maxHeartbeats 4000000 in
theorem gl_s_X12_lost : GoodIn lw_tbl u_s_X12_lost := goodIn_ca (z_gr2 gs_all _ [(8, 1), (0, 50), (8, 2), (3, 19), (3, 20), (3, 21), (0, 0)] rfl) (goodIn_app ig_X12 (goodIn_app gl_s_X12_sum (goodIn_n)))
set_option maxRecDepth 20000 in
set_option maxHeartbeats 4000000 in
theorem gl_s_X12_hinges : GoodIn lw_tbl u_s_X12_hinges := goodIn_ca (z_gr2 gs_all _ [(8, 3), (3, 19), (3, 20), (3, 21), (0, 0), (2, 54)] rfl) (goodIn_app ig_X12 (goodIn_app gl_s_X12_sum (goodIn_n)))
set_option maxRecDepth 20000 in
set_option maxHeartbeats 4000000 in
theorem gl_s_X12_righted : GoodIn lw_tbl u_s_X12_righted := goodIn_ca (z_gr2 gs_all _ [(8, 4), (8, 5), (3, 22), (3, 23), (3, 24), (0, 0), (8, 6), (2, 55)] rfl) (goodIn_app ig_X12 (goodIn_app gl_s_X12_hinges (goodIn_n)))
set_option maxRecDepth 20000 in
set_option maxHeartbeats 4000000 in
theorem gl_s_X12_food : GoodIn lw_tbl u_s_X12_food := goodIn_ca (z_gr2 gs_all _ [(8, 7), (0, 50), (4, 52), (4, 53), (4, 54), (0, 0), (2, 53)] rfl) (goodIn_app ig_X12 (goodIn_app gl_s_X12_righted (goodIn_n)))
set_option maxRecDepth 20000 in
set_option maxHeartbeats 4000000 in
theorem gl_s_X12_isKind : GoodIn lw_tbl u_s_X12_isKind := goodIn_ca (z_gr2 gs_all _ [(6, 54), (0, 50)] rfl) (goodIn_app ig_X12 (goodIn_n))
set_option maxRecDepth 20000 in
set_option maxHeartbeats 4000000 in
theorem gl_s_X12_least : GoodIn lw_tbl u_s_X12_least := goodIn_ca (z_gr2 gs_all _ [(8, 8), (3, 22), (3, 23), (3, 24), (0, 0)] rfl) (goodIn_app gl_s_X12_hinges (goodIn_n))
set_option maxRecDepth 20000 in
set_option maxHeartbeats 4000000 in
theorem gl_s_X12_eaten : GoodIn lw_tbl u_s_X12_eaten := goodIn_ca (z_gr2 gs_all _ [(18, 18), (0, 4), (0, 15), (0, 16), (0, 17), (0, 0), (3, 25), (0, 6), (0, 23), (0, 24), (0, 25), (0, 3), (8, 9), (8, 10), (8, 11), (4, 55), (4, 56), (4, 57), (4, 36), (4, 37), (4, 38), (4, 52), (4, 53), (4, 54), (8, 12), (8, 13), (8, 14)] rfl) (goodIn_app ig_X12 (goodIn_app gl_s_X12_isLayer (goodIn_app gl_s_X12_know (goodIn_app gl_s_X12_lost (goodIn_app gl_s_X12_food (goodIn_app gl_s_X12_isKind (goodIn_app gl_s_X12_righted (goodIn_app gl_s_X12_least (goodIn_n)))))))))
