set_option maxRecDepth 20000 in
set_option maxHeartbeats 4000000 in
theorem gl_s_X4_layersOf : GoodIn lw_tbl u_s_X4_layersOf := goodIn_ca (z_gr2 gs_all _ [(15, 51), (0, 18), (0, 52)] rfl) (goodIn_app ig_X4 (goodIn_n))
set_option maxRecDepth 20000 in
set_option maxHeartbeats 4000000 in
theorem gl_s_J6_bitCount_0f7a4 : GoodIn lw_tbl u_s_J6_bitCount_0f7a4 := goodIn_ca (z_gr2 gs_all _ [(15, 52), (15, 53), (15, 54), (15, 55)] rfl) (goodIn_n)
set_option maxRecDepth 20000 in
set_option maxHeartbeats 4000000 in
theorem gl_s_X4_rankOf : GoodIn lw_tbl u_s_X4_rankOf := goodIn_ca (z_gr2 gs_all _ [(15, 56), (1, 30), (1, 29)] rfl) (goodIn_app ig_X4 (goodIn_n))
set_option maxRecDepth 20000 in
set_option maxHeartbeats 4000000 in
theorem gl_s_X11_bed : GoodIn lw_tbl u_s_X11_bed := goodIn_ca (z_gr2 gs_all _ [(15, 57), (0, 5), (4, 21), (4, 22), (4, 23), (0, 8), (0, 11), (0, 12), (0, 13), (0, 33), (1, 0), (1, 1), (1, 2), (0, 4), (2, 2), (6, 26), (15, 58), (6, 27), (4, 24), (4, 25), (15, 59), (6, 28), (6, 29), (16, 0), (6, 30), (6, 31), (16, 1)] rfl) (goodIn_app ig_X11 (goodIn_app ig_X4 (goodIn_app gl_s_X0_hasFirst (goodIn_app gl_s_X0_hasLayer (goodIn_app gl_s_X4_look (goodIn_app gl_s_X4_layersOf (goodIn_app gl_s_J6_bitCount_0f7a4 (goodIn_app gl_s_X4_rankOf (goodIn_n)))))))))
set_option maxRecDepth 20000 in
set_option maxHeartbeats 4000000 in
theorem gl_s_X12_isKnown : GoodIn lw_tbl u_s_X12_isKnown := goodIn_ca (z_gr2 gs_all _ [(16, 2), (0, 7)] rfl) (goodIn_app ig_X12 (goodIn_n))
set_option maxRecDepth 20000 in
set_option maxHeartbeats 4000000 in
theorem gl_s_X12_orders : GoodIn lw_tbl u_s_X12_orders := goodIn_ca (z_gr2 gs_all _ [(16, 3), (0, 7), (1, 24), (1, 37), (1, 38), (1, 36), (0, 47), (0, 6), (0, 48), (1, 35)] rfl) (goodIn_app ig_X12 (goodIn_n))
set_option maxRecDepth 20000 in
set_option maxHeartbeats 4000000 in
theorem gl_s_X12_spans : GoodIn lw_tbl u_s_X12_spans := goodIn_ca (z_gr2 gs_all _ [(16, 4), (0, 7), (1, 24), (3, 22), (3, 23), (1, 37), (1, 36), (0, 47), (0, 6), (0, 48), (1, 35), (3, 21)] rfl) (goodIn_app ig_X12 (goodIn_n))
set_option maxRecDepth 20000 in
set_option maxHeartbeats 4000000 in
theorem gl_s_X12_know : GoodIn lw_tbl u_s_X12_know := goodIn_ca (z_gr2 gs_all _ [(16, 5), (16, 6), (16, 7), (16, 8), (0, 0), (16, 9), (16, 10), (16, 11), (0, 7), (1, 36), (0, 47), (0, 6), (0, 48), (1, 35)] rfl) (goodIn_app ig_X12 (goodIn_app gl_s_X12_orders (goodIn_app gl_s_X12_spans (goodIn_n))))
set_option maxRecDepth 20000 in
set_option maxHeartbeats 4000000 in
theorem gl_s_X12_size : GoodIn lw_tbl u_s_X12_size := goodIn_ca (z_gr2 gs_all _ [(16, 12), (0, 59), (0, 6)] rfl) (goodIn_app ig_X12 (goodIn_n))
set_option maxRecDepth 20000 in
set_option maxHeartbeats 4000000 in
theorem gl_s_X12_bed : GoodIn lw_tbl u_s_X12_bed := goodIn_ca (z_gr2 gs_all _ [(16, 13), (0, 3), (4, 26), (4, 27), (4, 28), (0, 0), (0, 14), (0, 15), (0, 16), (0, 23), (0, 24), (0, 25), (0, 6), (1, 24), (3, 23), (16, 14), (16, 15), (16, 16), (1, 38), (3, 22)] rfl) (goodIn_app ig_X12 (goodIn_app gl_s_X12_isKnown (goodIn_app gl_s_X12_isLayer (goodIn_app gl_s_X12_know (goodIn_app gl_s_X12_size (goodIn_n))))))
set_option maxRecDepth 20000 in
set_option maxHeartbeats 4000000 in
theorem gl_s_X11_order : GoodIn lw_tbl u_s_X11_order := goodIn_ca (z_gr2 gs_all _ [(16, 17), (0, 5), (4, 21), (4, 22), (4, 23), (0, 8), (0, 11), (0, 12), (0, 13), (0, 33), (1, 0), (1, 1), (1, 2), (0, 4), (2, 2), (16, 18), (1, 22), (1, 23)] rfl) (goodIn_app ig_X11 (goodIn_app ig_X4 (goodIn_app gl_s_X0_hasFirst (goodIn_app gl_s_X0_hasLayer (goodIn_app gl_s_X4_look (goodIn_app gl_s_X4_isLater (goodIn_n)))))))
set_option maxRecDepth 20000 in
set_option maxHeartbeats 4000000 in
theorem gl_s_X12_order : GoodIn lw_tbl u_s_X12_order := goodIn_ca (z_gr2 gs_all _ [(16, 19), (0, 3), (4, 26), (4, 27), (4, 28), (0, 0), (0, 14), (0, 15), (0, 16), (0, 23), (0, 24), (0, 25), (1, 37), (0, 6)] rfl) (goodIn_app ig_X12 (goodIn_app gl_s_X12_isKnown (goodIn_app gl_s_X12_isLayer (goodIn_app gl_s_X12_know (goodIn_n)))))
set_option maxRecDepth 20000 in
set_option maxHeartbeats 4000000 in
theorem gl_s_X11_quarrel : GoodIn lw_tbl u_s_X11_quarrel := goodIn_ca (z_gr2 gs_all _ [(16, 20), (0, 5), (4, 21), (4, 22), (4, 23), (0, 8), (0, 33), (1, 0), (1, 1), (1, 2), (0, 4), (6, 26)] rfl) (goodIn_app ig_X11 (goodIn_app ig_X4 (goodIn_app gl_s_X0_hasFirst (goodIn_app gl_s_X4_look (goodIn_n)))))
set_option maxRecDepth 20000 in
set_option maxHeartbeats 4000000 in
theorem gl_s_X12_quarrel : GoodIn lw_tbl u_s_X12_quarrel := goodIn_ca (z_gr2 gs_all _ [(16, 21), (0, 3), (4, 26), (4, 27), (4, 28), (0, 0), (0, 23), (0, 24), (0, 25), (1, 24)] rfl) (goodIn_app ig_X12 (goodIn_app gl_s_X12_isKnown (goodIn_app gl_s_X12_know (goodIn_n))))
set_option maxRecDepth 20000 in
set_option maxHeartbeats 4000000 in
theorem gl_s_X2_isSideA : GoodIn lw_tbl u_s_X2_isSideA := goodIn_ca (z_gr2 gs_all _ [(16, 22)] rfl) (goodIn_n)
set_option maxRecDepth 20000 in
set_option maxHeartbeats 4000000 in
theorem gl_s_X2_layG : GoodIn lw_tbl u_s_X2_layG := goodIn_ca (z_gr2 gs_all _ [(16, 23), (16, 24), (16, 25), (0, 53), (2, 8), (2, 9), (1, 9)] rfl) (goodIn_app ig_X2 (goodIn_app gl_s_X2_isSideA (goodIn_n)))
set_option maxRecDepth 20000 in
set_option maxHeartbeats 4000000 in
theorem gl_s_X11_heapG : GoodIn lw_tbl u_s_X11_heapG := goodIn_ca (z_gr2 gs_all _ [(16, 26), (1, 10), (16, 27), (16, 28), (16, 29), (0, 53)] rfl) (goodIn_app ig_X11 (goodIn_app gl_s_X2_layG (goodIn_n)))
set_option maxRecDepth 20000 in
set_option maxHeartbeats 4000000 in
theorem gl_s_X12_heapG : GoodIn lw_tbl u_s_X12_heapG := goodIn_ca (z_gr2 gs_all _ [(16, 30), (0, 3), (2, 23), (2, 24), (1, 3)] rfl) (goodIn_app ig_X12 (goodIn_n))
set_option maxRecDepth 20000 in
set_option maxHeartbeats 4000000 in
theorem gl_s_X2_drawA : GoodIn lw_tbl u_s_X2_drawA := goodIn_ca (z_gr2 gs_all _ [(16, 31), (2, 8), (2, 9), (1, 9), (2, 52), (2, 53), (2, 55)] rfl) (goodIn_app ig_X2 (goodIn_n))
set_option maxRecDepth 20000 in
set_option maxHeartbeats 4000000 in
theorem gl_s_X11_columnA : GoodIn lw_tbl u_s_X11_columnA := goodIn_ca (z_gr2 gs_all _ [(16, 32), (1, 10), (16, 33), (16, 34), (16, 35), (0, 53)] rfl) (goodIn_app ig_X11 (goodIn_app gl_s_X2_drawA (goodIn_n)))
set_option maxRecDepth 20000 in
set_option maxHeartbeats 4000000 in
theorem gl_s_X12_columnA : GoodIn lw_tbl u_s_X12_columnA := goodIn_ca (z_gr2 gs_all _ [(16, 36), (0, 3), (1, 3), (2, 23), (2, 24), (3, 24), (3, 25), (2, 25)] rfl) (goodIn_app ig_X12 (goodIn_n))
set_option maxRecDepth 20000 in
set_option maxHeartbeats 4000000 in
theorem gl_s_X0_hasLayerA : GoodIn lw_tbl u_s_X0_hasLayerA := goodIn_ca (z_gr2 gs_all _ [(6, 13), (2, 47)] rfl) (goodIn_app ig_X0 (goodIn_n))
set_option maxRecDepth 20000 in
set_option maxHeartbeats 4000000 in
theorem gl_s_X11_thickA : GoodIn lw_tbl u_s_X11_thickA := goodIn_ca (z_gr2 gs_all _ [(16, 37), (1, 10), (4, 29), (0, 5), (0, 11), (0, 12), (0, 13), (0, 8), (16, 38)] rfl) (goodIn_app ig_X11 (goodIn_app ig_X2 (goodIn_app gl_s_X0_hasLayerA (goodIn_n))))
set_option maxRecDepth 20000 in
set_option maxHeartbeats 4000000 in
theorem gl_s_X12_isLayerA : GoodIn lw_tbl u_s_X12_isLayerA := goodIn_ca (z_gr2 gs_all _ [(6, 24), (0, 59)] rfl) (goodIn_app ig_X12 (goodIn_n))
set_option maxRecDepth 20000 in
set_option maxHeartbeats 4000000 in
theorem gl_s_X12_thickA : GoodIn lw_tbl u_s_X12_thickA := goodIn_ca (z_gr2 gs_all _ [(16, 39), (0, 3), (1, 3), (0, 14), (0, 15), (0, 16), (0, 0), (2, 25)] rfl) (goodIn_app ig_X12 (goodIn_app gl_s_X12_isLayerA (goodIn_n)))
set_option maxRecDepth 20000 in
set_option maxHeartbeats 4000000 in
theorem gl_s_X11_bedNow : GoodIn lw_tbl u_s_X11_bedNow := goodIn_ca (z_gr2 gs_all _ [(16, 40), (0, 33), (0, 5), (1, 20), (1, 0), (1, 1), (1, 2), (0, 4), (2, 2), (6, 27), (4, 24), (4, 25)] rfl) (goodIn_app ig_X11 (goodIn_app ig_X0 (goodIn_app ig_X4 (goodIn_app gl_s_X4_look (goodIn_app gl_s_X4_layersOf (goodIn_n))))))
set_option maxRecDepth 20000 in
set_option maxHeartbeats 4000000 in
theorem gl_s_X2_leaveOutEach : GoodIn lw_tbl u_s_X2_leaveOutEach := goodIn_ca (z_gr2 gs_all _ [(16, 41), (1, 9), (2, 11), (2, 10), (4, 54), (16, 42), (0, 56), (0, 32), (0, 57), (4, 55), (16, 43), (1, 17), (1, 18)] rfl) (goodIn_app ig_X2 (goodIn_n))
set_option maxRecDepth 20000 in
set_option maxHeartbeats 4000000 in
theorem gl_s_X2_weighCell : GoodIn lw_tbl u_s_X2_weighCell := goodIn_ca (z_gr2 gs_all _ [(16, 44), (1, 9), (2, 11), (2, 54), (2, 10), (2, 52), (2, 53)] rfl) (goodIn_app ig_X2 (goodIn_n))
set_option maxRecDepth 20000 in
set_option maxHeartbeats 4000000 in
theorem gl_s_X2_weigh : GoodIn lw_tbl u_s_X2_weigh := goodIn_ca (z_gr2 gs_all _ [(16, 45), (2, 11), (1, 9), (2, 8), (16, 46), (16, 47), (16, 48), (0, 53), (2, 9), (16, 49), (16, 50), (16, 51), (2, 54), (2, 10), (2, 55)] rfl) (goodIn_app ig_X2 (goodIn_app gl_s_X2_leaveOutEach (goodIn_app gl_s_X2_weighCell (goodIn_n))))
set_option maxRecDepth 20000 in
set_option maxHeartbeats 4000000 in
theorem gl_s_X11_holds : GoodIn lw_tbl u_s_X11_holds := goodIn_ca (z_gr2 gs_all _ [(16, 52), (0, 5), (0, 11), (0, 12), (0, 13), (0, 8), (1, 10), (4, 29), (1, 4), (1, 5), (1, 6), (0, 2), (16, 53), (6, 32), (6, 33), (0, 53), (16, 54), (16, 55), (16, 56)] rfl) (goodIn_app ig_X11 (goodIn_app ig_X2 (goodIn_app gl_s_X0_hasLayer (goodIn_app gl_s_X11_bedNow (goodIn_app gl_s_X2_weigh (goodIn_n))))))
set_option maxRecDepth 20000 in
set_option maxHeartbeats 4000000 in
theorem gl_s_X12_far : GoodIn lw_tbl u_s_X12_far := goodIn_ca (z_gr2 gs_all _ [(16, 57), (3, 24), (3, 25)] rfl) (goodIn_app ig_X12 (goodIn_n))
set_option maxRecDepth 20000 in
set_option maxHeartbeats 4000000 in
theorem gl_s_X12_holdsWithout : GoodIn lw_tbl u_s_X12_holdsWithout := goodIn_ca (z_gr2 gs_all _ [(16, 58), (2, 24), (2, 23), (1, 3), (0, 59), (0, 6), (2, 25), (16, 59), (17, 0), (17, 1), (0, 0)] rfl) (goodIn_app ig_X12 (goodIn_app gl_s_X12_far (goodIn_n)))
set_option maxRecDepth 20000 in
set_option maxHeartbeats 4000000 in
theorem gl_s_X12_holds : GoodIn lw_tbl u_s_X12_holds := goodIn_ca (z_gr2 gs_all _ [(17, 2), (0, 3), (0, 14), (0, 15), (0, 16), (0, 0), (1, 3), (0, 7), (0, 23), (0, 24), (0, 25), (0, 6), (6, 34), (6, 35), (6, 36)] rfl) (goodIn_app ig_X12 (goodIn_app gl_s_X12_isLayer (goodIn_app gl_s_X12_know (goodIn_app gl_s_X12_holdsWithout (goodIn_n)))))
set_option maxRecDepth 20000 in
set_option maxHeartbeats 4000000 in
theorem gl_s_X5_name : GoodIn lw_tbl u_s_X5_name := goodIn_ca (z_gr2 gs_all _ [(17, 3), (2, 14), (2, 56), (2, 57), (2, 58)] rfl) (goodIn_app ig_X5 (goodIn_n))
set_option maxRecDepth 20000 in
set_option maxHeartbeats 4000000 in
theorem gl_s_X11_kind : GoodIn lw_tbl u_s_X11_kind := goodIn_ca (z_gr2 gs_all _ [(17, 4), (1, 11), (17, 5), (17, 6), (17, 7), (0, 26)] rfl) (goodIn_app ig_X11 (goodIn_app gl_s_X5_name (goodIn_n)))
set_option maxRecDepth 20000 in
set_option maxHeartbeats 4000000 in
theorem gl_s_X12_kind : GoodIn lw_tbl u_s_X12_kind := goodIn_ca (z_gr2 gs_all _ [(17, 8), (0, 3), (1, 21), (3, 26), (3, 27)] rfl) (goodIn_app ig_X12 (goodIn_n))
set_option maxRecDepth 20000 in
set_option maxHeartbeats 4000000 in
theorem gl_s_X11_kept : GoodIn lw_tbl u_s_X11_kept := goodIn_ca (z_gr2 gs_all _ [(17, 9), (1, 11), (6, 37), (2, 43), (2, 44), (0, 26), (17, 10)] rfl) (goodIn_app ig_X11 (goodIn_app ig_X5 (goodIn_app gl_s_X5_hasKind (goodIn_n))))
set_option maxRecDepth 20000 in
set_option maxHeartbeats 4000000 in
theorem gl_s_X12_kept2 : GoodIn lw_tbl u_s_X12_kept2 := goodIn_ca (z_gr2 gs_all _ [(17, 11), (0, 3), (4, 16), (4, 17), (4, 18), (0, 0), (3, 28)] rfl) (goodIn_app ig_X12 (goodIn_app gl_s_X12_isKind (goodIn_n)))
set_option maxRecDepth 20000 in
set_option maxHeartbeats 4000000 in
theorem gl_s_X5_findLost : GoodIn lw_tbl u_s_X5_findLost := goodIn_ca (z_gr2 gs_all _ [(17, 12), (4, 58), (17, 13), (2, 13)] rfl) (goodIn_app ig_X5 (goodIn_n))
set_option maxRecDepth 20000 in
set_option maxHeartbeats 4000000 in
theorem gl_s_X5_hinges : GoodIn lw_tbl u_s_X5_hinges := goodIn_ca (z_gr2 gs_all _ [(17, 14), (2, 13), (2, 57), (17, 15), (17, 16), (0, 32), (17, 17)] rfl) (goodIn_app ig_X5 (goodIn_n))
set_option maxRecDepth 20000 in
set_option maxHeartbeats 4000000 in
theorem gl_s_X5_putRight : GoodIn lw_tbl u_s_X5_putRight := goodIn_ca (z_gr2 gs_all _ [(17, 18), (4, 57), (2, 59), (17, 19), (17, 20), (17, 21), (17, 22), (0, 26), (2, 58), (17, 23)] rfl) (goodIn_app ig_X5 (goodIn_app gl_s_X5_hinges (goodIn_n)))
set_option maxRecDepth 20000 in
set_option maxHeartbeats 4000000 in
theorem gl_s_X4_areFindsIn : GoodIn lw_tbl u_s_X4_areFindsIn := goodIn_ca (z_gr2 gs_all _ [(17, 24), (1, 57), (1, 58), (1, 59), (0, 4), (0, 45), (2, 0)] rfl) (goodIn_app ig_X4 (goodIn_app ig_X0 (goodIn_app gl_s_X4_counts (goodIn_n))))
set_option maxRecDepth 20000 in
set_option maxHeartbeats 4000000 in
theorem gl_s_X5_gather : GoodIn lw_tbl u_s_X5_gather := goodIn_ca (z_gr2 gs_all _ [(17, 25), (3, 0), (2, 14), (17, 26), (17, 27), (17, 28), (0, 26), (17, 29), (17, 30), (17, 31), (2, 59), (2, 56), (17, 32), (17, 33), (17, 34), (0, 4), (2, 13), (2, 12)] rfl) (goodIn_app ig_X5 (goodIn_app gl_s_X5_findLost (goodIn_app gl_s_X5_putRight (goodIn_app gl_s_X4_areFindsIn (goodIn_n)))))
set_option maxRecDepth 20000 in
set_option maxHeartbeats 4000000 in
theorem gl_s_X11_eaten : GoodIn lw_tbl u_s_X11_eaten := goodIn_ca (z_gr2 gs_all _ [(17, 35), (0, 5), (0, 11), (0, 12), (0, 13), (0, 8), (6, 38), (1, 11), (0, 33), (1, 4), (1, 5), (1, 6), (0, 2), (6, 39), (4, 30), (4, 31), (0, 26), (17, 36), (17, 37), (17, 38), (17, 39), (6, 37), (2, 43), (2, 44)] rfl) (goodIn_app ig_X11 (goodIn_app ig_X5 (goodIn_app gl_s_X0_hasLayer (goodIn_app gl_s_X11_bedNow (goodIn_app gl_s_X5_gather (goodIn_app gl_s_X5_hasKind (goodIn_n)))))))
set_option maxRecDepth 20000 in
set_option maxHeartbeats 4000000 in
theorem gl_s_X12_sum : GoodIn lw_tbl u_s_X12_sum := goodIn_ca (z_gr2 gs_all _ [(17, 40), (0, 7), (1, 36), (0, 47), (0, 6), (0, 48), (2, 22)] rfl) (goodIn_app ig_X12 (goodIn_n))
set_option maxRecDepth 20000 in
set_option maxHeartbeats 4000000 in
theorem gl_s_X12_lost : GoodIn lw_tbl u_s_X12_lost := goodIn_ca (z_gr2 gs_all _ [(17, 41), (1, 21), (17, 42), (6, 40), (6, 41), (6, 42), (0, 0)] rfl) (goodIn_app ig_X12 (goodIn_app gl_s_X12_sum (goodIn_n)))
set_option maxRecDepth 20000 in
set_option maxHeartbeats 4000000 in
theorem gl_s_X12_hinges : GoodIn lw_tbl u_s_X12_hinges := goodIn_ca (z_gr2 gs_all _ [(17, 43), (6, 40), (6, 41), (6, 42), (0, 0), (3, 27)] rfl) (goodIn_app ig_X12 (goodIn_app gl_s_X12_sum (goodIn_n)))
set_option maxRecDepth 20000 in
set_option maxHeartbeats 4000000 in
theorem gl_s_X12_righted : GoodIn lw_tbl u_s_X12_righted := goodIn_ca (z_gr2 gs_all _ [(17, 44), (17, 45), (6, 43), (6, 44), (6, 45), (0, 0), (17, 46), (3, 28)] rfl) (goodIn_app ig_X12 (goodIn_app gl_s_X12_hinges (goodIn_n)))
set_option maxRecDepth 20000 in
set_option maxHeartbeats 4000000 in
theorem gl_s_X12_food : GoodIn lw_tbl u_s_X12_food := goodIn_ca (z_gr2 gs_all _ [(17, 47), (1, 21), (6, 46), (6, 47), (6, 48), (0, 0), (3, 26)] rfl) (goodIn_app ig_X12 (goodIn_app gl_s_X12_righted (goodIn_n)))
set_option maxRecDepth 20000 in
set_option maxHeartbeats 4000000 in
theorem gl_s_X12_least : GoodIn lw_tbl u_s_X12_least := goodIn_ca (z_gr2 gs_all _ [(17, 48), (6, 43), (6, 44), (6, 45), (0, 0)] rfl) (goodIn_app gl_s_X12_hinges (goodIn_n))
set_option maxRecDepth 20000 in
set_option maxHeartbeats 4000000 in
theorem gl_s_X12_eaten : GoodIn lw_tbl u_s_X12_eaten := goodIn_ca (z_gr2 gs_all _ [(17, 49), (0, 3), (0, 14), (0, 15), (0, 16), (0, 0), (4, 32), (0, 7), (0, 23), (0, 24), (0, 25), (0, 6), (6, 49), (6, 50), (6, 51), (4, 33), (4, 34), (4, 35), (4, 16), (4, 17), (4, 18), (6, 46), (6, 47), (6, 48), (6, 52), (6, 53), (6, 54)] rfl) (goodIn_app ig_X12 (goodIn_app gl_s_X12_isLayer (goodIn_app gl_s_X12_know (goodIn_app gl_s_X12_lost (goodIn_app gl_s_X12_food (goodIn_app gl_s_X12_isKind (goodIn_app gl_s_X12_righted (goodIn_app gl_s_X12_least (goodIn_n)))))))))
set_option maxRecDepth 20000 in
set_option maxHeartbeats 4000000 in
theorem gl_s_X5_lasts : GoodIn lw_tbl u_s_X5_lasts := goodIn_ca (z_gr2 gs_all _ [(17, 50), (3, 0), (17, 51)] rfl) (goodIn_app ig_X5 (goodIn_n))
set_option maxRecDepth 20000 in
set_option maxHeartbeats 4000000 in
theorem gl_s_X11_days : GoodIn lw_tbl u_s_X11_days := goodIn_ca (z_gr2 gs_all _ [(17, 52), (0, 5), (0, 11), (0, 12), (0, 13), (0, 8), (6, 38), (17, 53), (1, 11), (0, 33), (1, 4), (1, 5), (1, 6), (0, 2), (6, 39), (4, 30), (4, 31), (0, 26), (17, 54), (6, 55), (6, 56)] rfl) (goodIn_app ig_X11 (goodIn_app gl_s_X0_hasLayer (goodIn_app gl_s_X11_bedNow (goodIn_app gl_s_X5_gather (goodIn_app gl_s_X5_lasts (goodIn_n))))))
set_option maxRecDepth 20000 in
set_option maxHeartbeats 4000000 in
theorem gl_s_X12_days : GoodIn lw_tbl u_s_X12_days := goodIn_ca (z_gr2 gs_all _ [(17, 55), (0, 3), (0, 14), (0, 15), (0, 16), (0, 0), (4, 32), (3, 57), (0, 7), (0, 23), (0, 24), (0, 25), (0, 6), (4, 33), (4, 34), (4, 35), (17, 56)] rfl) (goodIn_app ig_X12 (goodIn_app gl_s_X12_isLayer (goodIn_app gl_s_X12_know (goodIn_app gl_s_X12_food (goodIn_n)))))
set_option maxRecDepth 20000 in
set_option maxHeartbeats 4000000 in
theorem gl_s_X6_has : GoodIn lw_tbl u_s_X6_has := goodIn_ca (z_gr2 gs_all _ [(17, 57)] rfl) (goodIn_n)
set_option maxRecDepth 20000 in
set_option maxHeartbeats 4000000 in
theorem gl_s_X6_areWithin : GoodIn lw_tbl u_s_X6_areWithin := goodIn_ca (z_gr2 gs_all _ [(17, 58)] rfl) (goodIn_n)
set_option maxRecDepth 20000 in
set_option maxHeartbeats 4000000 in
theorem gl_s_X6_setRow : GoodIn lw_tbl u_s_X6_setRow := goodIn_ca (z_gr2 gs_all _ [(17, 59), (3, 1)] rfl) (goodIn_app ig_X6 (goodIn_n))
set_option maxRecDepth 20000 in
set_option maxHeartbeats 4000000 in
theorem gl_s_X11_reads : GoodIn lw_tbl u_s_X11_reads := goodIn_ca (z_gr2 gs_all _ [(18, 0), (4, 36), (4, 37), (0, 36), (6, 57), (6, 58), (1, 31), (18, 1), (18, 2), (18, 3)] rfl) (goodIn_app ig_X11 (goodIn_app gl_s_X6_has (goodIn_app gl_s_X6_areWithin (goodIn_app gl_s_X6_setRow (goodIn_n)))))
set_option maxRecDepth 20000 in
set_option maxHeartbeats 4000000 in
theorem gl_s_X12_isReader : GoodIn lw_tbl u_s_X12_isReader := goodIn_ca (z_gr2 gs_all _ [(18, 4)] rfl) (goodIn_n)
set_option maxRecDepth 20000 in
set_option maxHeartbeats 4000000 in
theorem gl_s_X12_reads : GoodIn lw_tbl u_s_X12_reads := goodIn_ca (z_gr2 gs_all _ [(18, 5), (0, 3), (4, 38), (4, 39), (0, 0), (3, 29)] rfl) (goodIn_app ig_X12 (goodIn_app gl_s_X12_isReader (goodIn_n)))
