set_option maxRecDepth 20000 in
set_option maxHeartbeats 4000000 in
theorem gl_s_X12_hinges : GoodIn lw_tbl u_s_X12_hinges := goodIn_ca (z_gr2 gs_all _ [(17, 43), (7, 18), (7, 19), (7, 20), (0, 0), (3, 33)] rfl) (goodIn_app ig_X12 (goodIn_app gl_s_X12_sum (goodIn_n)))
set_option maxRecDepth 20000 in
set_option maxHeartbeats 4000000 in
theorem gl_s_X12_righted : GoodIn lw_tbl u_s_X12_righted := goodIn_ca (z_gr2 gs_all _ [(17, 44), (17, 45), (7, 21), (7, 22), (7, 23), (0, 0), (17, 46), (3, 34)] rfl) (goodIn_app ig_X12 (goodIn_app gl_s_X12_hinges (goodIn_n)))
set_option maxRecDepth 20000 in
set_option maxHeartbeats 4000000 in
theorem gl_s_X12_food : GoodIn lw_tbl u_s_X12_food := goodIn_ca (z_gr2 gs_all _ [(17, 47), (1, 5), (7, 24), (7, 25), (7, 26), (0, 0), (3, 32)] rfl) (goodIn_app ig_X12 (goodIn_app gl_s_X12_righted (goodIn_n)))
set_option maxRecDepth 20000 in
set_option maxHeartbeats 4000000 in
theorem gl_s_X12_least : GoodIn lw_tbl u_s_X12_least := goodIn_ca (z_gr2 gs_all _ [(17, 48), (7, 21), (7, 22), (7, 23), (0, 0)] rfl) (goodIn_app gl_s_X12_hinges (goodIn_n))
set_option maxRecDepth 20000 in
set_option maxHeartbeats 4000000 in
theorem gl_s_X12_eaten : GoodIn lw_tbl u_s_X12_eaten := goodIn_ca (z_gr2 gs_all _ [(17, 49), (0, 3), (0, 17), (0, 18), (0, 19), (0, 0), (4, 34), (0, 5), (0, 24), (0, 25), (0, 26), (0, 4), (7, 27), (7, 28), (7, 29), (4, 35), (4, 36), (4, 37), (4, 18), (4, 19), (4, 20), (7, 24), (7, 25), (7, 26), (7, 30), (7, 31), (7, 32)] rfl) (goodIn_app ig_X12 (goodIn_app gl_s_X12_isLayer (goodIn_app gl_s_X12_know (goodIn_app gl_s_X12_lost (goodIn_app gl_s_X12_food (goodIn_app gl_s_X12_isKind (goodIn_app gl_s_X12_righted (goodIn_app gl_s_X12_least (goodIn_n)))))))))
set_option maxRecDepth 20000 in
set_option maxHeartbeats 4000000 in
theorem gl_s_X5_lasts : GoodIn lw_tbl u_s_X5_lasts := goodIn_ca (z_gr2 gs_all _ [(17, 50), (3, 9), (17, 51)] rfl) (goodIn_app ig_X5 (goodIn_n))
set_option maxRecDepth 20000 in
set_option maxHeartbeats 4000000 in
theorem gl_s_X11_daysK : GoodIn lw_tbl u_s_X11_daysK := goodIn_ca (z_gr2 gs_all _ [(17, 52), (0, 7), (0, 14), (0, 15), (0, 16), (0, 8), (7, 16), (17, 53), (1, 19), (0, 38), (1, 10), (1, 11), (1, 12), (0, 2), (7, 17), (4, 32), (4, 33), (0, 27), (17, 54), (7, 33), (7, 34)] rfl) (goodIn_app ig_X11 (goodIn_app gl_s_X0_hasLayer (goodIn_app gl_s_X11_bedNowK (goodIn_app gl_s_X5_gather (goodIn_app gl_s_X5_lasts (goodIn_n))))))
set_option maxRecDepth 20000 in
set_option maxHeartbeats 4000000 in
theorem gl_s_X12_days : GoodIn lw_tbl u_s_X12_days := goodIn_ca (z_gr2 gs_all _ [(17, 55), (0, 3), (0, 17), (0, 18), (0, 19), (0, 0), (4, 34), (2, 49), (0, 5), (0, 24), (0, 25), (0, 26), (0, 4), (4, 35), (4, 36), (4, 37), (17, 56)] rfl) (goodIn_app ig_X12 (goodIn_app gl_s_X12_isLayer (goodIn_app gl_s_X12_know (goodIn_app gl_s_X12_food (goodIn_n)))))
set_option maxRecDepth 20000 in
set_option maxHeartbeats 4000000 in
theorem gl_s_X6_has : GoodIn lw_tbl u_s_X6_has := goodIn_ca (z_gr2 gs_all _ [(17, 57)] rfl) (goodIn_n)
set_option maxRecDepth 20000 in
set_option maxHeartbeats 4000000 in
theorem gl_s_X6_areWithin : GoodIn lw_tbl u_s_X6_areWithin := goodIn_ca (z_gr2 gs_all _ [(17, 58)] rfl) (goodIn_n)
set_option maxRecDepth 20000 in
set_option maxHeartbeats 4000000 in
theorem gl_s_X6_setRow : GoodIn lw_tbl u_s_X6_setRow := goodIn_ca (z_gr2 gs_all _ [(17, 59), (3, 10)] rfl) (goodIn_app ig_X6 (goodIn_n))
set_option maxRecDepth 20000 in
set_option maxHeartbeats 4000000 in
theorem gl_s_X11_reads : GoodIn lw_tbl u_s_X11_reads := goodIn_ca (z_gr2 gs_all _ [(18, 0), (4, 38), (4, 39), (0, 43), (7, 35), (7, 36), (1, 38), (18, 1), (18, 2), (18, 3)] rfl) (goodIn_app ig_X11 (goodIn_app gl_s_X6_has (goodIn_app gl_s_X6_areWithin (goodIn_app gl_s_X6_setRow (goodIn_n)))))
set_option maxRecDepth 20000 in
set_option maxHeartbeats 4000000 in
theorem gl_s_X12_isReader : GoodIn lw_tbl u_s_X12_isReader := goodIn_ca (z_gr2 gs_all _ [(18, 4)] rfl) (goodIn_n)
set_option maxRecDepth 20000 in
set_option maxHeartbeats 4000000 in
theorem gl_s_X12_reads : GoodIn lw_tbl u_s_X12_reads := goodIn_ca (z_gr2 gs_all _ [(18, 5), (0, 3), (4, 40), (4, 41), (0, 0), (3, 36)] rfl) (goodIn_app ig_X12 (goodIn_app gl_s_X12_isReader (goodIn_n)))
set_option maxRecDepth 20000 in
set_option maxHeartbeats 4000000 in
theorem gl_s_X6_sum : GoodIn lw_tbl u_s_X6_sum := goodIn_ca (z_gr2 gs_all _ [(18, 6), (3, 12), (3, 11)] rfl) (goodIn_app ig_X6 (goodIn_n))
set_option maxRecDepth 20000 in
set_option maxHeartbeats 4000000 in
theorem gl_s_X6_tell : GoodIn lw_tbl u_s_X6_tell := goodIn_ca (z_gr2 gs_all _ [(18, 7), (3, 11)] rfl) (goodIn_app ig_X6 (goodIn_n))
set_option maxRecDepth 20000 in
set_option maxHeartbeats 4000000 in
theorem gl_s_X11_readingsK : GoodIn lw_tbl u_s_X11_readingsK := goodIn_ca (z_gr2 gs_all _ [(18, 8), (0, 7), (0, 14), (0, 15), (0, 16), (0, 8), (4, 38), (4, 39), (0, 43), (7, 35), (7, 36), (1, 38), (1, 10), (1, 11), (1, 12), (0, 2), (7, 37), (4, 42), (4, 43), (18, 9), (18, 10), (18, 11)] rfl) (goodIn_app ig_X11 (goodIn_app gl_s_X0_hasLayer (goodIn_app gl_s_X6_has (goodIn_app gl_s_X6_areWithin (goodIn_app gl_s_X11_bedNowK (goodIn_app gl_s_X6_sum (goodIn_app gl_s_X6_tell (goodIn_n))))))))
set_option maxRecDepth 20000 in
set_option maxHeartbeats 4000000 in
theorem gl_s_X12_isFew : GoodIn lw_tbl u_s_X12_isFew := goodIn_ca (z_gr2 gs_all _ [(18, 12)] rfl) (goodIn_n)
set_option maxRecDepth 20000 in
set_option maxHeartbeats 4000000 in
theorem gl_s_X12_gather : GoodIn lw_tbl u_s_X12_gather := goodIn_ca (z_gr2 gs_all _ [(18, 13), (1, 4), (0, 4), (3, 38), (3, 37)] rfl) (goodIn_app ig_X12 (goodIn_n))
set_option maxRecDepth 20000 in
set_option maxHeartbeats 4000000 in
theorem gl_s_X12_readings : GoodIn lw_tbl u_s_X12_readings := goodIn_ca (z_gr2 gs_all _ [(18, 14), (0, 3), (0, 17), (0, 18), (0, 19), (0, 0), (4, 40), (4, 41), (18, 15), (18, 16), (0, 5), (0, 24), (0, 25), (0, 26), (0, 4), (4, 44), (4, 45), (4, 46), (3, 37)] rfl) (goodIn_app ig_X12 (goodIn_app gl_s_X12_isLayer (goodIn_app gl_s_X12_isReader (goodIn_app gl_s_X12_isFew (goodIn_app gl_s_X12_know (goodIn_app gl_s_X12_gather (goodIn_n)))))))
set_option maxRecDepth 20000 in
set_option maxHeartbeats 4000000 in
theorem gl_s_X6_missAt : GoodIn lw_tbl u_s_X6_missAt := goodIn_ca (z_gr2 gs_all _ [(18, 17), (3, 13), (3, 14)] rfl) (goodIn_app ig_X6 (goodIn_n))
set_option maxRecDepth 20000 in
set_option maxHeartbeats 4000000 in
theorem gl_s_X6_tryPair : GoodIn lw_tbl u_s_X6_tryPair := goodIn_ca (z_gr2 gs_all _ [(18, 18), (18, 19), (18, 20), (18, 21), (0, 43), (3, 16), (3, 15), (18, 22), (1, 1), (0, 34), (1, 2), (3, 10), (3, 14), (3, 13), (3, 12)] rfl) (goodIn_app ig_X6 (goodIn_app gl_s_X6_missAt (goodIn_n)))
set_option maxRecDepth 20000 in
set_option maxHeartbeats 4000000 in
theorem gl_s_X6_putRight : GoodIn lw_tbl u_s_X6_putRight := goodIn_ca (z_gr2 gs_all _ [(18, 23), (18, 24), (4, 42), (4, 43), (0, 43), (3, 16), (18, 25), (18, 26), (18, 27)] rfl) (goodIn_app ig_X6 (goodIn_app gl_s_X6_sum (goodIn_app gl_s_X6_tryPair (goodIn_n))))
set_option maxRecDepth 20000 in
set_option maxHeartbeats 4000000 in
theorem gl_s_X11_seasonK : GoodIn lw_tbl u_s_X11_seasonK := goodIn_ca (z_gr2 gs_all _ [(18, 28), (0, 7), (0, 14), (0, 15), (0, 16), (0, 8), (4, 38), (4, 39), (0, 43), (1, 10), (1, 11), (1, 12), (0, 2), (1, 38), (18, 29), (7, 38), (7, 39), (18, 30), (18, 31), (7, 37), (4, 42), (4, 43)] rfl) (goodIn_app ig_X11 (goodIn_app ig_X6 (goodIn_app gl_s_X0_hasLayer (goodIn_app gl_s_X6_has (goodIn_app gl_s_X11_bedNowK (goodIn_app gl_s_X6_putRight (goodIn_app gl_s_X6_sum (goodIn_n))))))))
set_option maxRecDepth 20000 in
set_option maxHeartbeats 4000000 in
theorem gl_s_X12_missOf : GoodIn lw_tbl u_s_X12_missOf := goodIn_ca (z_gr2 gs_all _ [(18, 32), (3, 38), (3, 36)] rfl) (goodIn_app ig_X12 (goodIn_n))
set_option maxRecDepth 20000 in
set_option maxHeartbeats 4000000 in
theorem gl_s_X12_puts : GoodIn lw_tbl u_s_X12_puts := goodIn_ca (z_gr2 gs_all _ [(18, 33), (4, 44), (4, 45), (4, 46), (0, 0), (4, 34), (7, 40), (18, 34), (18, 35), (18, 36), (2, 32)] rfl) (goodIn_app ig_X12 (goodIn_app gl_s_X12_gather (goodIn_app gl_s_X12_missOf (goodIn_n))))
set_option maxRecDepth 20000 in
set_option maxHeartbeats 4000000 in
theorem gl_s_X12_season : GoodIn lw_tbl u_s_X12_season := goodIn_ca (z_gr2 gs_all _ [(18, 37), (0, 3), (0, 17), (0, 18), (0, 19), (0, 0), (4, 40), (4, 41), (0, 5), (0, 24), (0, 25), (0, 26), (0, 4), (7, 41), (7, 42), (7, 43), (2, 32), (7, 40), (4, 44), (4, 45), (4, 46)] rfl) (goodIn_app ig_X12 (goodIn_app gl_s_X12_isLayer (goodIn_app gl_s_X12_isReader (goodIn_app gl_s_X12_know (goodIn_app gl_s_X12_puts (goodIn_app gl_s_X12_gather (goodIn_n)))))))
set_option maxRecDepth 20000 in
set_option maxHeartbeats 4000000 in
theorem gl_s_X6_seasonsMet : GoodIn lw_tbl u_s_X6_seasonsMet := goodIn_ca (z_gr2 gs_all _ [(18, 38), (18, 39), (7, 38), (7, 39), (0, 43), (3, 15)] rfl) (goodIn_app ig_X6 (goodIn_app gl_s_X6_putRight (goodIn_n)))
set_option maxRecDepth 20000 in
set_option maxHeartbeats 4000000 in
theorem gl_s_X11_stayK : GoodIn lw_tbl u_s_X11_stayK := goodIn_ca (z_gr2 gs_all _ [(18, 40), (0, 7), (0, 14), (0, 15), (0, 16), (0, 8), (1, 38), (1, 10), (1, 11), (1, 12), (0, 2), (18, 41), (7, 44), (7, 45), (0, 43)] rfl) (goodIn_app ig_X11 (goodIn_app gl_s_X0_hasLayer (goodIn_app gl_s_X11_bedNowK (goodIn_app gl_s_X6_seasonsMet (goodIn_n)))))
set_option maxRecDepth 20000 in
set_option maxHeartbeats 4000000 in
theorem gl_s_X12_stays : GoodIn lw_tbl u_s_X12_stays := goodIn_ca (z_gr2 gs_all _ [(18, 42), (7, 41), (7, 42), (7, 43), (0, 0), (2, 32)] rfl) (goodIn_app ig_X12 (goodIn_app gl_s_X12_puts (goodIn_n)))
set_option maxRecDepth 20000 in
set_option maxHeartbeats 4000000 in
theorem gl_s_X12_stay : GoodIn lw_tbl u_s_X12_stay := goodIn_ca (z_gr2 gs_all _ [(18, 43), (0, 3), (0, 17), (0, 18), (0, 19), (0, 0), (0, 5), (0, 24), (0, 25), (0, 26), (0, 4), (7, 46), (7, 47), (7, 48)] rfl) (goodIn_app ig_X12 (goodIn_app gl_s_X12_isLayer (goodIn_app gl_s_X12_know (goodIn_app gl_s_X12_stays (goodIn_n)))))
set_option maxRecDepth 20000 in
set_option maxHeartbeats 4000000 in
theorem gl_s_X9_add : GoodIn lw_tbl u_s_X9_add := goodIn_ca (z_gr2 gs_all _ [(18, 44), (2, 19), (2, 18), (3, 17)] rfl) (goodIn_app ig_X9 (goodIn_n))
set_option maxRecDepth 20000 in
set_option maxHeartbeats 4000000 in
theorem gl_s_X11_measure : GoodIn lw_tbl u_s_X11_measure := goodIn_ca (z_gr2 gs_all _ [(18, 45), (0, 7), (0, 14), (0, 15), (0, 16), (0, 8), (2, 20), (18, 46), (18, 47), (18, 48), (1, 39)] rfl) (goodIn_app ig_X11 (goodIn_app gl_s_X0_hasLayer (goodIn_app gl_s_X9_add (goodIn_n))))
set_option maxRecDepth 20000 in
set_option maxHeartbeats 4000000 in
theorem gl_s_X12_measure : GoodIn lw_tbl u_s_X12_measure := goodIn_ca (z_gr2 gs_all _ [(18, 49), (0, 3), (0, 17), (0, 18), (0, 19), (0, 0), (2, 57), (2, 33), (3, 39)] rfl) (goodIn_app ig_X12 (goodIn_app gl_s_X12_isLayer (goodIn_n)))
set_option maxRecDepth 20000 in
set_option maxHeartbeats 4000000 in
theorem gl_s_X9_measuredIn : GoodIn lw_tbl u_s_X9_measuredIn := goodIn_ca (z_gr2 gs_all _ [(18, 50), (2, 19), (2, 18)] rfl) (goodIn_app ig_X9 (goodIn_n))
set_option maxRecDepth 20000 in
set_option maxHeartbeats 4000000 in
theorem gl_s_X9_middleOf : GoodIn lw_tbl u_s_X9_middleOf := goodIn_ca (z_gr2 gs_all _ [(18, 51), (2, 19), (18, 52), (7, 49), (7, 50), (1, 39), (5, 1), (3, 17), (2, 18)] rfl) (goodIn_app ig_X9 (goodIn_app gl_s_X9_measuredIn (goodIn_n)))
set_option maxRecDepth 20000 in
set_option maxHeartbeats 4000000 in
theorem gl_s_X11_middleK : GoodIn lw_tbl u_s_X11_middleK := goodIn_ca (z_gr2 gs_all _ [(18, 53), (0, 7), (0, 14), (0, 15), (0, 16), (0, 8), (1, 10), (1, 11), (1, 12), (0, 2), (2, 20), (18, 54), (7, 51), (7, 52), (1, 39), (18, 55), (7, 49), (7, 50)] rfl) (goodIn_app ig_X11 (goodIn_app gl_s_X0_hasLayer (goodIn_app gl_s_X11_bedNowK (goodIn_app gl_s_X9_middleOf (goodIn_app gl_s_X9_measuredIn (goodIn_n))))))
set_option maxRecDepth 20000 in
set_option maxHeartbeats 4000000 in
theorem gl_s_X12_middleOf : GoodIn lw_tbl u_s_X12_middleOf := goodIn_ca (z_gr2 gs_all _ [(18, 56), (2, 57), (5, 15), (0, 4), (2, 33), (3, 39)] rfl) (goodIn_app ig_X12 (goodIn_n))
set_option maxRecDepth 20000 in
set_option maxHeartbeats 4000000 in
theorem gl_s_X12_middle : GoodIn lw_tbl u_s_X12_middle := goodIn_ca (z_gr2 gs_all _ [(18, 57), (0, 3), (0, 17), (0, 18), (0, 19), (0, 0), (0, 5), (0, 24), (0, 25), (0, 26), (2, 57), (0, 4), (2, 33), (7, 53), (7, 54), (7, 55)] rfl) (goodIn_app ig_X12 (goodIn_app gl_s_X12_isLayer (goodIn_app gl_s_X12_know (goodIn_app gl_s_X12_middleOf (goodIn_n)))))
set_option maxRecDepth 20000 in
set_option maxHeartbeats 4000000 in
theorem gl_s_X4_isLater : GoodIn lw_tbl u_s_X4_isLater := goodIn_ca (z_gr2 gs_all _ [(6, 48), (2, 11)] rfl) (goodIn_app ig_X4 (goodIn_n))
set_option maxRecDepth 20000 in
set_option maxHeartbeats 4000000 in
theorem gl_s_X4_ahead : GoodIn lw_tbl u_s_X4_ahead := goodIn_ca (z_gr2 gs_all _ [(18, 58), (0, 20), (1, 16), (2, 3), (1, 32), (1, 33), (0, 6), (1, 15)] rfl) (goodIn_app ig_X4 (goodIn_app gl_s_X4_isLater (goodIn_n)))
set_option maxRecDepth 20000 in
set_option maxHeartbeats 4000000 in
theorem gl_s_X3_turnTo : GoodIn lw_tbl u_s_X3_turnTo := goodIn_ca (z_gr2 gs_all _ [(18, 59), (3, 25), (3, 27), (19, 0), (19, 1), (19, 2), (0, 6), (3, 26), (3, 24)] rfl) (goodIn_app ig_X3 (goodIn_app gl_s_X4_ahead (goodIn_n)))
set_option maxRecDepth 20000 in
set_option maxHeartbeats 4000000 in
theorem gl_s_X3_within : GoodIn lw_tbl u_s_X3_within := goodIn_ca (z_gr2 gs_all _ [(19, 3), (7, 56), (2, 5), (19, 4)] rfl) (goodIn_n)
set_option maxRecDepth 20000 in
set_option maxHeartbeats 4000000 in
theorem gl_s_X3_times : GoodIn lw_tbl u_s_X3_times := goodIn_ca (z_gr2 gs_all _ [(19, 5), (19, 6), (19, 7), (0, 34), (19, 8), (7, 56), (2, 5)] rfl) (goodIn_n)
set_option maxRecDepth 20000 in
set_option maxHeartbeats 4000000 in
theorem gl_s_X3_holdsTrue : GoodIn lw_tbl u_s_X3_holdsTrue := goodIn_ca (z_gr2 gs_all _ [(19, 9)] rfl) (goodIn_n)
set_option maxRecDepth 20000 in
set_option maxHeartbeats 4000000 in
theorem gl_s_X3_joined : GoodIn lw_tbl u_s_X3_joined := goodIn_ca (z_gr2 gs_all _ [(19, 10), (19, 11), (19, 12), (0, 59), (19, 13), (19, 14), (2, 5), (19, 15), (19, 16)] rfl) (goodIn_app gl_s_X3_within (goodIn_app gl_s_X3_times (goodIn_app gl_s_X3_holdsTrue (goodIn_n))))
set_option maxRecDepth 20000 in
set_option maxHeartbeats 4000000 in
theorem gl_s_X4_layersOf : GoodIn lw_tbl u_s_X4_layersOf := goodIn_ca (z_gr2 gs_all _ [(6, 49), (0, 20), (0, 51)] rfl) (goodIn_app ig_X4 (goodIn_n))
set_option maxRecDepth 20000 in
set_option maxHeartbeats 4000000 in
theorem gl_s_X3_ofShells : GoodIn lw_tbl u_s_X3_ofShells := goodIn_ca (z_gr2 gs_all _ [(19, 17), (4, 47), (3, 28), (19, 18), (7, 33), (7, 34), (0, 27), (19, 19), (19, 20), (2, 54), (2, 55), (19, 21), (19, 22)] rfl) (goodIn_app ig_X3 (goodIn_app ig_X5 (goodIn_app gl_s_X5_lasts (goodIn_app gl_s_X5_hasKind (goodIn_n)))))
set_option maxRecDepth 20000 in
set_option maxHeartbeats 4000000 in
theorem gl_s_J6_bitCount_0f7a4 : GoodIn lw_tbl u_s_J6_bitCount_0f7a4 := goodIn_ca (z_gr2 gs_all _ [(6, 50), (6, 51), (6, 52), (6, 53)] rfl) (goodIn_n)
set_option maxRecDepth 20000 in
set_option maxHeartbeats 4000000 in
theorem gl_s_X4_rankOf : GoodIn lw_tbl u_s_X4_rankOf := goodIn_ca (z_gr2 gs_all _ [(6, 54), (1, 16), (1, 15)] rfl) (goodIn_app ig_X4 (goodIn_n))
set_option maxRecDepth 20000 in
set_option maxHeartbeats 4000000 in
theorem gl_s_X3_valueOf : GoodIn lw_tbl u_s_X3_valueOf := goodIn_ca (z_gr2 gs_all _ [(19, 23), (3, 27), (19, 24), (4, 26), (4, 27), (0, 6), (3, 28), (19, 25), (4, 32), (4, 33), (0, 27), (19, 26), (19, 27), (19, 28), (0, 59), (5, 14), (19, 29), (7, 51), (7, 52), (1, 39), (5, 13), (19, 30), (7, 44), (7, 45), (0, 43), (19, 31), (6, 57), (6, 58), (4, 47), (19, 32), (6, 59), (7, 0), (5, 12), (19, 33), (7, 10), (7, 11), (0, 58), (19, 34), (19, 35)] rfl) (goodIn_app ig_X3 (goodIn_app ig_X2 (goodIn_app gl_s_X4_layersOf (goodIn_app gl_s_X5_gather (goodIn_app gl_s_X3_ofShells (goodIn_app gl_s_X9_middleOf (goodIn_app gl_s_X6_seasonsMet (goodIn_app gl_s_J6_bitCount_0f7a4 (goodIn_app gl_s_X4_rankOf (goodIn_app gl_s_X2_weigh (goodIn_n)))))))))))
set_option maxRecDepth 20000 in
set_option maxHeartbeats 4000000 in
theorem gl_s_X3_part : GoodIn lw_tbl u_s_X3_part := goodIn_ca (z_gr2 gs_all _ [(19, 36), (3, 26), (2, 5), (3, 24), (5, 10), (19, 37), (19, 38), (19, 39), (0, 59), (4, 47), (3, 25)] rfl) (goodIn_app ig_X3 (goodIn_app gl_s_X3_valueOf (goodIn_n)))
set_option maxRecDepth 20000 in
set_option maxHeartbeats 4000000 in
theorem gl_s_X3_worthOf : GoodIn lw_tbl u_s_X3_worthOf := goodIn_ca (z_gr2 gs_all _ [(19, 40), (19, 41), (2, 5), (5, 11), (19, 42), (19, 43), (19, 44), (0, 59), (19, 45), (19, 46), (19, 47), (19, 48)] rfl) (goodIn_app ig_X7 (goodIn_app ig_X3 (goodIn_app gl_s_X3_joined (goodIn_app gl_s_X3_part (goodIn_n)))))
set_option maxRecDepth 20000 in
set_option maxHeartbeats 4000000 in
theorem gl_s_X11_causeK : GoodIn lw_tbl u_s_X11_causeK := goodIn_ca (z_gr2 gs_all _ [(19, 49), (7, 57), (1, 41), (2, 44), (2, 45), (0, 7), (0, 14), (0, 15), (0, 16), (0, 8), (0, 38), (1, 31), (1, 6), (1, 7), (1, 8), (0, 6), (3, 29), (2, 4), (7, 58), (7, 59), (8, 0), (0, 59), (8, 1), (8, 2), (8, 3)] rfl) (goodIn_app ig_X11 (goodIn_app ig_X8 (goodIn_app ig_X7 (goodIn_app ig_X0 (goodIn_app ig_X4 (goodIn_app gl_s_X0_hasLayer (goodIn_app gl_s_X4_lookK (goodIn_app gl_s_X3_turnTo (goodIn_app gl_s_X3_worthOf (goodIn_n))))))))))
set_option maxRecDepth 20000 in
set_option maxHeartbeats 4000000 in
theorem gl_s_X12_truth : GoodIn lw_tbl u_s_X12_truth := goodIn_ca (z_gr2 gs_all _ [(19, 50)] rfl) (goodIn_n)
set_option maxRecDepth 20000 in
set_option maxHeartbeats 4000000 in
theorem gl_s_X12_big2 : GoodIn lw_tbl u_s_X12_big2 := goodIn_ca (z_gr2 gs_all _ [(19, 51)] rfl) (goodIn_n)
set_option maxRecDepth 20000 in
set_option maxHeartbeats 4000000 in
theorem gl_s_X12_bounded : GoodIn lw_tbl u_s_X12_bounded := goodIn_ca (z_gr2 gs_all _ [(19, 52), (8, 4), (8, 5), (0, 0), (8, 6), (1, 13)] rfl) (goodIn_app gl_s_X12_big2 (goodIn_n))
set_option maxRecDepth 20000 in
set_option maxHeartbeats 4000000 in
theorem gl_s_X12_made : GoodIn lw_tbl u_s_X12_made := goodIn_ca (z_gr2 gs_all _ [(19, 53), (8, 7), (8, 8), (0, 0), (19, 54), (19, 55), (8, 4), (8, 5), (8, 6), (1, 13)] rfl) (goodIn_app gl_s_X12_truth (goodIn_app gl_s_X12_bounded (goodIn_app gl_s_X12_big2 (goodIn_n))))
set_option maxRecDepth 20000 in
set_option maxHeartbeats 4000000 in
theorem gl_s_X12_orNone : GoodIn lw_tbl u_s_X12_orNone := goodIn_ca (z_gr2 gs_all _ [(19, 56), (1, 13)] rfl) (goodIn_n)
set_option maxRecDepth 20000 in
set_option maxHeartbeats 4000000 in
theorem gl_s_X12_nameValue : GoodIn lw_tbl u_s_X12_nameValue := goodIn_ca (z_gr2 gs_all _ [(19, 57), (4, 35), (4, 36), (4, 37), (0, 0), (7, 53), (7, 54), (7, 55), (19, 58), (19, 59), (20, 0), (7, 46), (7, 47), (7, 48), (1, 13), (0, 56), (1, 22), (7, 27), (7, 28), (7, 29), (1, 9), (7, 12), (7, 13), (7, 14), (1, 5), (7, 30), (7, 31), (7, 32)] rfl) (goodIn_app ig_X12 (goodIn_app gl_s_X12_food (goodIn_app gl_s_X12_middleOf (goodIn_app gl_s_X12_orNone (goodIn_app gl_s_X12_stays (goodIn_app gl_s_X12_lost (goodIn_app gl_s_X12_holdsWithout (goodIn_app gl_s_X12_least (goodIn_n)))))))))
