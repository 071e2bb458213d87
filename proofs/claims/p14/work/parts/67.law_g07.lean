set_option maxRecDepth 20000 in
set_option maxHeartbeats 4000000 in
theorem gl_s_X6_sum : GoodIn lw_tbl u_s_X6_sum := goodIn_ca (z_gr2 gs_all _ [(18, 6), (3, 3), (3, 2)] rfl) (goodIn_app ig_X6 (goodIn_n))
set_option maxRecDepth 20000 in
set_option maxHeartbeats 4000000 in
theorem gl_s_X6_tell : GoodIn lw_tbl u_s_X6_tell := goodIn_ca (z_gr2 gs_all _ [(18, 7), (3, 2)] rfl) (goodIn_app ig_X6 (goodIn_n))
set_option maxRecDepth 20000 in
set_option maxHeartbeats 4000000 in
theorem gl_s_X11_readings : GoodIn lw_tbl u_s_X11_readings := goodIn_ca (z_gr2 gs_all _ [(18, 8), (0, 5), (0, 11), (0, 12), (0, 13), (0, 8), (4, 36), (4, 37), (0, 36), (6, 57), (6, 58), (1, 31), (1, 4), (1, 5), (1, 6), (0, 2), (6, 59), (4, 40), (4, 41), (18, 9), (18, 10), (18, 11)] rfl) (goodIn_app ig_X11 (goodIn_app gl_s_X0_hasLayer (goodIn_app gl_s_X6_has (goodIn_app gl_s_X6_areWithin (goodIn_app gl_s_X11_bedNow (goodIn_app gl_s_X6_sum (goodIn_app gl_s_X6_tell (goodIn_n))))))))
set_option maxRecDepth 20000 in
set_option maxHeartbeats 4000000 in
theorem gl_s_X12_isFew : GoodIn lw_tbl u_s_X12_isFew := goodIn_ca (z_gr2 gs_all _ [(18, 12)] rfl) (goodIn_n)
set_option maxRecDepth 20000 in
set_option maxHeartbeats 4000000 in
theorem gl_s_X12_gather : GoodIn lw_tbl u_s_X12_gather := goodIn_ca (z_gr2 gs_all _ [(18, 13), (0, 59), (0, 6), (3, 31), (3, 30)] rfl) (goodIn_app ig_X12 (goodIn_n))
set_option maxRecDepth 20000 in
set_option maxHeartbeats 4000000 in
theorem gl_s_X12_readings : GoodIn lw_tbl u_s_X12_readings := goodIn_ca (z_gr2 gs_all _ [(18, 14), (0, 3), (0, 14), (0, 15), (0, 16), (0, 0), (4, 38), (4, 39), (18, 15), (18, 16), (0, 7), (0, 23), (0, 24), (0, 25), (0, 6), (4, 42), (4, 43), (4, 44), (3, 30)] rfl) (goodIn_app ig_X12 (goodIn_app gl_s_X12_isLayer (goodIn_app gl_s_X12_isReader (goodIn_app gl_s_X12_isFew (goodIn_app gl_s_X12_know (goodIn_app gl_s_X12_gather (goodIn_n)))))))
set_option maxRecDepth 20000 in
set_option maxHeartbeats 4000000 in
theorem gl_s_X6_missAt : GoodIn lw_tbl u_s_X6_missAt := goodIn_ca (z_gr2 gs_all _ [(18, 17), (3, 4), (3, 5)] rfl) (goodIn_app ig_X6 (goodIn_n))
set_option maxRecDepth 20000 in
set_option maxHeartbeats 4000000 in
theorem gl_s_X6_tryPair : GoodIn lw_tbl u_s_X6_tryPair := goodIn_ca (z_gr2 gs_all _ [(18, 18), (18, 19), (18, 20), (18, 21), (0, 36), (3, 7), (3, 6), (18, 22), (0, 56), (0, 32), (0, 57), (3, 1), (3, 5), (3, 4), (3, 3)] rfl) (goodIn_app ig_X6 (goodIn_app gl_s_X6_missAt (goodIn_n)))
set_option maxRecDepth 20000 in
set_option maxHeartbeats 4000000 in
theorem gl_s_X6_putRight : GoodIn lw_tbl u_s_X6_putRight := goodIn_ca (z_gr2 gs_all _ [(18, 23), (18, 24), (4, 40), (4, 41), (0, 36), (3, 7), (18, 25), (18, 26), (18, 27)] rfl) (goodIn_app ig_X6 (goodIn_app gl_s_X6_sum (goodIn_app gl_s_X6_tryPair (goodIn_n))))
set_option maxRecDepth 20000 in
set_option maxHeartbeats 4000000 in
theorem gl_s_X11_season : GoodIn lw_tbl u_s_X11_season := goodIn_ca (z_gr2 gs_all _ [(18, 28), (0, 5), (0, 11), (0, 12), (0, 13), (0, 8), (4, 36), (4, 37), (0, 36), (1, 4), (1, 5), (1, 6), (0, 2), (1, 31), (18, 29), (7, 0), (7, 1), (18, 30), (18, 31), (6, 59), (4, 40), (4, 41)] rfl) (goodIn_app ig_X11 (goodIn_app ig_X6 (goodIn_app gl_s_X0_hasLayer (goodIn_app gl_s_X6_has (goodIn_app gl_s_X11_bedNow (goodIn_app gl_s_X6_putRight (goodIn_app gl_s_X6_sum (goodIn_n))))))))
set_option maxRecDepth 20000 in
set_option maxHeartbeats 4000000 in
theorem gl_s_X12_missOf : GoodIn lw_tbl u_s_X12_missOf := goodIn_ca (z_gr2 gs_all _ [(18, 32), (3, 31), (3, 29)] rfl) (goodIn_app ig_X12 (goodIn_n))
set_option maxRecDepth 20000 in
set_option maxHeartbeats 4000000 in
theorem gl_s_X12_puts : GoodIn lw_tbl u_s_X12_puts := goodIn_ca (z_gr2 gs_all _ [(18, 33), (4, 42), (4, 43), (4, 44), (0, 0), (4, 32), (7, 2), (18, 34), (18, 35), (18, 36), (2, 26)] rfl) (goodIn_app ig_X12 (goodIn_app gl_s_X12_gather (goodIn_app gl_s_X12_missOf (goodIn_n))))
set_option maxRecDepth 20000 in
set_option maxHeartbeats 4000000 in
theorem gl_s_X12_season : GoodIn lw_tbl u_s_X12_season := goodIn_ca (z_gr2 gs_all _ [(18, 37), (0, 3), (0, 14), (0, 15), (0, 16), (0, 0), (4, 38), (4, 39), (0, 7), (0, 23), (0, 24), (0, 25), (0, 6), (7, 3), (7, 4), (7, 5), (2, 26), (7, 2), (4, 42), (4, 43), (4, 44)] rfl) (goodIn_app ig_X12 (goodIn_app gl_s_X12_isLayer (goodIn_app gl_s_X12_isReader (goodIn_app gl_s_X12_know (goodIn_app gl_s_X12_puts (goodIn_app gl_s_X12_gather (goodIn_n)))))))
set_option maxRecDepth 20000 in
set_option maxHeartbeats 4000000 in
theorem gl_s_X6_seasonsMet : GoodIn lw_tbl u_s_X6_seasonsMet := goodIn_ca (z_gr2 gs_all _ [(18, 38), (18, 39), (7, 0), (7, 1), (0, 36), (3, 6)] rfl) (goodIn_app ig_X6 (goodIn_app gl_s_X6_putRight (goodIn_n)))
set_option maxRecDepth 20000 in
set_option maxHeartbeats 4000000 in
theorem gl_s_X11_stay : GoodIn lw_tbl u_s_X11_stay := goodIn_ca (z_gr2 gs_all _ [(18, 40), (0, 5), (0, 11), (0, 12), (0, 13), (0, 8), (1, 31), (1, 4), (1, 5), (1, 6), (0, 2), (18, 41), (7, 6), (7, 7), (0, 36)] rfl) (goodIn_app ig_X11 (goodIn_app gl_s_X0_hasLayer (goodIn_app gl_s_X11_bedNow (goodIn_app gl_s_X6_seasonsMet (goodIn_n)))))
set_option maxRecDepth 20000 in
set_option maxHeartbeats 4000000 in
theorem gl_s_X12_stays : GoodIn lw_tbl u_s_X12_stays := goodIn_ca (z_gr2 gs_all _ [(18, 42), (7, 3), (7, 4), (7, 5), (0, 0), (2, 26)] rfl) (goodIn_app ig_X12 (goodIn_app gl_s_X12_puts (goodIn_n)))
set_option maxRecDepth 20000 in
set_option maxHeartbeats 4000000 in
theorem gl_s_X12_stay : GoodIn lw_tbl u_s_X12_stay := goodIn_ca (z_gr2 gs_all _ [(18, 43), (0, 3), (0, 14), (0, 15), (0, 16), (0, 0), (0, 7), (0, 23), (0, 24), (0, 25), (0, 6), (7, 8), (7, 9), (7, 10)] rfl) (goodIn_app ig_X12 (goodIn_app gl_s_X12_isLayer (goodIn_app gl_s_X12_know (goodIn_app gl_s_X12_stays (goodIn_n)))))
set_option maxRecDepth 20000 in
set_option maxHeartbeats 4000000 in
theorem gl_s_X9_add : GoodIn lw_tbl u_s_X9_add := goodIn_ca (z_gr2 gs_all _ [(18, 44), (2, 16), (2, 15), (3, 8)] rfl) (goodIn_app ig_X9 (goodIn_n))
set_option maxRecDepth 20000 in
set_option maxHeartbeats 4000000 in
theorem gl_s_X11_measure : GoodIn lw_tbl u_s_X11_measure := goodIn_ca (z_gr2 gs_all _ [(18, 45), (0, 5), (0, 11), (0, 12), (0, 13), (0, 8), (2, 17), (18, 46), (18, 47), (18, 48), (1, 32)] rfl) (goodIn_app ig_X11 (goodIn_app gl_s_X0_hasLayer (goodIn_app gl_s_X9_add (goodIn_n))))
set_option maxRecDepth 20000 in
set_option maxHeartbeats 4000000 in
theorem gl_s_X12_measure : GoodIn lw_tbl u_s_X12_measure := goodIn_ca (z_gr2 gs_all _ [(18, 49), (0, 3), (0, 14), (0, 15), (0, 16), (0, 0), (2, 46), (2, 27), (3, 32)] rfl) (goodIn_app ig_X12 (goodIn_app gl_s_X12_isLayer (goodIn_n)))
set_option maxRecDepth 20000 in
set_option maxHeartbeats 4000000 in
theorem gl_s_X9_measuredIn : GoodIn lw_tbl u_s_X9_measuredIn := goodIn_ca (z_gr2 gs_all _ [(18, 50), (2, 16), (2, 15)] rfl) (goodIn_app ig_X9 (goodIn_n))
set_option maxRecDepth 20000 in
set_option maxHeartbeats 4000000 in
theorem gl_s_X9_middleOf : GoodIn lw_tbl u_s_X9_middleOf := goodIn_ca (z_gr2 gs_all _ [(18, 51), (2, 16), (18, 52), (7, 11), (7, 12), (1, 32), (4, 59), (3, 8), (2, 15)] rfl) (goodIn_app ig_X9 (goodIn_app gl_s_X9_measuredIn (goodIn_n)))
set_option maxRecDepth 20000 in
set_option maxHeartbeats 4000000 in
theorem gl_s_X11_middle : GoodIn lw_tbl u_s_X11_middle := goodIn_ca (z_gr2 gs_all _ [(18, 53), (0, 5), (0, 11), (0, 12), (0, 13), (0, 8), (1, 4), (1, 5), (1, 6), (0, 2), (2, 17), (18, 54), (7, 13), (7, 14), (1, 32), (18, 55), (7, 11), (7, 12)] rfl) (goodIn_app ig_X11 (goodIn_app gl_s_X0_hasLayer (goodIn_app gl_s_X11_bedNow (goodIn_app gl_s_X9_middleOf (goodIn_app gl_s_X9_measuredIn (goodIn_n))))))
set_option maxRecDepth 20000 in
set_option maxHeartbeats 4000000 in
theorem gl_s_X12_middleOf : GoodIn lw_tbl u_s_X12_middleOf := goodIn_ca (z_gr2 gs_all _ [(18, 56), (2, 46), (5, 14), (0, 6), (2, 27), (3, 32)] rfl) (goodIn_app ig_X12 (goodIn_n))
set_option maxRecDepth 20000 in
set_option maxHeartbeats 4000000 in
theorem gl_s_X12_middle : GoodIn lw_tbl u_s_X12_middle := goodIn_ca (z_gr2 gs_all _ [(18, 57), (0, 3), (0, 14), (0, 15), (0, 16), (0, 0), (0, 7), (0, 23), (0, 24), (0, 25), (2, 46), (0, 6), (2, 27), (7, 15), (7, 16), (7, 17)] rfl) (goodIn_app ig_X12 (goodIn_app gl_s_X12_isLayer (goodIn_app gl_s_X12_know (goodIn_app gl_s_X12_middleOf (goodIn_n)))))
set_option maxRecDepth 20000 in
set_option maxHeartbeats 4000000 in
theorem gl_s_X4_ahead : GoodIn lw_tbl u_s_X4_ahead := goodIn_ca (z_gr2 gs_all _ [(18, 58), (0, 18), (1, 30), (2, 1), (1, 22), (1, 23), (0, 4), (1, 29)] rfl) (goodIn_app ig_X4 (goodIn_app gl_s_X4_isLater (goodIn_n)))
set_option maxRecDepth 20000 in
set_option maxHeartbeats 4000000 in
theorem gl_s_X3_turnTo : GoodIn lw_tbl u_s_X3_turnTo := goodIn_ca (z_gr2 gs_all _ [(18, 59), (3, 16), (3, 18), (19, 0), (19, 1), (19, 2), (0, 4), (3, 17), (3, 15)] rfl) (goodIn_app ig_X3 (goodIn_app gl_s_X4_ahead (goodIn_n)))
set_option maxRecDepth 20000 in
set_option maxHeartbeats 4000000 in
theorem gl_s_X3_within : GoodIn lw_tbl u_s_X3_within := goodIn_ca (z_gr2 gs_all _ [(19, 3), (7, 18), (2, 3), (19, 4)] rfl) (goodIn_n)
set_option maxRecDepth 20000 in
set_option maxHeartbeats 4000000 in
theorem gl_s_X3_times : GoodIn lw_tbl u_s_X3_times := goodIn_ca (z_gr2 gs_all _ [(19, 5), (19, 6), (19, 7), (0, 32), (19, 8), (7, 18), (2, 3)] rfl) (goodIn_n)
set_option maxRecDepth 20000 in
set_option maxHeartbeats 4000000 in
theorem gl_s_X3_holdsTrue : GoodIn lw_tbl u_s_X3_holdsTrue := goodIn_ca (z_gr2 gs_all _ [(19, 9)] rfl) (goodIn_n)
set_option maxRecDepth 20000 in
set_option maxHeartbeats 4000000 in
theorem gl_s_X3_joined : GoodIn lw_tbl u_s_X3_joined := goodIn_ca (z_gr2 gs_all _ [(19, 10), (19, 11), (19, 12), (0, 55), (19, 13), (19, 14), (2, 3), (19, 15), (19, 16)] rfl) (goodIn_app gl_s_X3_within (goodIn_app gl_s_X3_times (goodIn_app gl_s_X3_holdsTrue (goodIn_n))))
set_option maxRecDepth 20000 in
set_option maxHeartbeats 4000000 in
theorem gl_s_X3_ofShells : GoodIn lw_tbl u_s_X3_ofShells := goodIn_ca (z_gr2 gs_all _ [(19, 17), (4, 45), (3, 19), (19, 18), (6, 55), (6, 56), (0, 26), (19, 19), (19, 20), (2, 43), (2, 44), (19, 21), (19, 22)] rfl) (goodIn_app ig_X3 (goodIn_app ig_X5 (goodIn_app gl_s_X5_lasts (goodIn_app gl_s_X5_hasKind (goodIn_n)))))
set_option maxRecDepth 20000 in
set_option maxHeartbeats 4000000 in
theorem gl_s_X3_valueOf : GoodIn lw_tbl u_s_X3_valueOf := goodIn_ca (z_gr2 gs_all _ [(19, 23), (3, 18), (19, 24), (4, 24), (4, 25), (0, 4), (3, 19), (19, 25), (4, 30), (4, 31), (0, 26), (19, 26), (19, 27), (19, 28), (0, 55), (5, 12), (19, 29), (7, 13), (7, 14), (1, 32), (5, 11), (19, 30), (7, 6), (7, 7), (0, 36), (19, 31), (6, 28), (6, 29), (4, 45), (19, 32), (6, 30), (6, 31), (5, 10), (19, 33), (6, 32), (6, 33), (0, 53), (19, 34), (19, 35)] rfl) (goodIn_app ig_X3 (goodIn_app ig_X2 (goodIn_app gl_s_X4_layersOf (goodIn_app gl_s_X5_gather (goodIn_app gl_s_X3_ofShells (goodIn_app gl_s_X9_middleOf (goodIn_app gl_s_X6_seasonsMet (goodIn_app gl_s_J6_bitCount_0f7a4 (goodIn_app gl_s_X4_rankOf (goodIn_app gl_s_X2_weigh (goodIn_n)))))))))))
set_option maxRecDepth 20000 in
set_option maxHeartbeats 4000000 in
theorem gl_s_X3_part : GoodIn lw_tbl u_s_X3_part := goodIn_ca (z_gr2 gs_all _ [(19, 36), (3, 17), (2, 3), (3, 15), (5, 8), (19, 37), (19, 38), (19, 39), (0, 55), (4, 45), (3, 16)] rfl) (goodIn_app ig_X3 (goodIn_app gl_s_X3_valueOf (goodIn_n)))
set_option maxRecDepth 20000 in
set_option maxHeartbeats 4000000 in
theorem gl_s_X3_worthOf : GoodIn lw_tbl u_s_X3_worthOf := goodIn_ca (z_gr2 gs_all _ [(19, 40), (19, 41), (2, 3), (5, 9), (19, 42), (19, 43), (19, 44), (0, 55), (19, 45), (19, 46), (19, 47), (19, 48)] rfl) (goodIn_app ig_X7 (goodIn_app ig_X3 (goodIn_app gl_s_X3_joined (goodIn_app gl_s_X3_part (goodIn_n)))))
set_option maxRecDepth 20000 in
set_option maxHeartbeats 4000000 in
theorem gl_s_X11_cause : GoodIn lw_tbl u_s_X11_cause := goodIn_ca (z_gr2 gs_all _ [(19, 49), (7, 19), (1, 34), (2, 37), (2, 38), (0, 5), (0, 11), (0, 12), (0, 13), (0, 8), (0, 33), (1, 20), (1, 0), (1, 1), (1, 2), (0, 4), (3, 20), (2, 2), (7, 20), (7, 21), (7, 22), (0, 55), (7, 23), (7, 24), (7, 25)] rfl) (goodIn_app ig_X11 (goodIn_app ig_X8 (goodIn_app ig_X7 (goodIn_app ig_X0 (goodIn_app ig_X4 (goodIn_app gl_s_X0_hasLayer (goodIn_app gl_s_X4_look (goodIn_app gl_s_X3_turnTo (goodIn_app gl_s_X3_worthOf (goodIn_n))))))))))
set_option maxRecDepth 20000 in
set_option maxHeartbeats 4000000 in
theorem gl_s_X12_truth : GoodIn lw_tbl u_s_X12_truth := goodIn_ca (z_gr2 gs_all _ [(19, 50)] rfl) (goodIn_n)
set_option maxRecDepth 20000 in
set_option maxHeartbeats 4000000 in
theorem gl_s_X12_big2 : GoodIn lw_tbl u_s_X12_big2 := goodIn_ca (z_gr2 gs_all _ [(19, 51)] rfl) (goodIn_n)
set_option maxRecDepth 20000 in
set_option maxHeartbeats 4000000 in
theorem gl_s_X12_bounded : GoodIn lw_tbl u_s_X12_bounded := goodIn_ca (z_gr2 gs_all _ [(19, 52), (7, 26), (7, 27), (0, 0), (7, 28), (1, 7)] rfl) (goodIn_app gl_s_X12_big2 (goodIn_n))
set_option maxRecDepth 20000 in
set_option maxHeartbeats 4000000 in
theorem gl_s_X12_made : GoodIn lw_tbl u_s_X12_made := goodIn_ca (z_gr2 gs_all _ [(19, 53), (7, 29), (7, 30), (0, 0), (19, 54), (19, 55), (7, 26), (7, 27), (7, 28), (1, 7)] rfl) (goodIn_app gl_s_X12_truth (goodIn_app gl_s_X12_bounded (goodIn_app gl_s_X12_big2 (goodIn_n))))
set_option maxRecDepth 20000 in
set_option maxHeartbeats 4000000 in
theorem gl_s_X12_orNone : GoodIn lw_tbl u_s_X12_orNone := goodIn_ca (z_gr2 gs_all _ [(19, 56), (1, 7)] rfl) (goodIn_n)
set_option maxRecDepth 20000 in
set_option maxHeartbeats 4000000 in
theorem gl_s_X12_nameValue : GoodIn lw_tbl u_s_X12_nameValue := goodIn_ca (z_gr2 gs_all _ [(19, 57), (4, 33), (4, 34), (4, 35), (0, 0), (7, 15), (7, 16), (7, 17), (19, 58), (19, 59), (20, 0), (7, 8), (7, 9), (7, 10), (1, 7), (1, 24), (1, 38), (6, 49), (6, 50), (6, 51), (1, 3), (6, 34), (6, 35), (6, 36), (1, 21), (6, 52), (6, 53), (6, 54)] rfl) (goodIn_app ig_X12 (goodIn_app gl_s_X12_food (goodIn_app gl_s_X12_middleOf (goodIn_app gl_s_X12_orNone (goodIn_app gl_s_X12_stays (goodIn_app gl_s_X12_lost (goodIn_app gl_s_X12_holdsWithout (goodIn_app gl_s_X12_least (goodIn_n)))))))))
set_option maxRecDepth 20000 in
set_option maxHeartbeats 4000000 in
theorem gl_s_X12_aheadOf : GoodIn lw_tbl u_s_X12_aheadOf := goodIn_ca (z_gr2 gs_all _ [(20, 1), (1, 24), (1, 37), (1, 38)] rfl) (goodIn_app ig_X12 (goodIn_n))
set_option maxRecDepth 20000 in
set_option maxHeartbeats 4000000 in
theorem gl_s_X12_causeOf : GoodIn lw_tbl u_s_X12_causeOf := goodIn_ca (z_gr2 gs_all _ [(20, 2), (1, 7), (2, 29), (2, 32), (2, 28), (2, 30), (5, 15), (1, 14), (1, 40), (20, 3), (20, 4), (0, 0), (7, 29), (7, 30), (1, 41), (2, 31), (20, 5), (20, 6), (20, 7), (20, 8), (20, 9), (20, 10)] rfl) (goodIn_app ig_X12 (goodIn_app gl_s_X12_made (goodIn_app gl_s_X12_truth (goodIn_app gl_s_X12_nameValue (goodIn_app gl_s_X12_aheadOf (goodIn_n))))))
set_option maxRecDepth 20000 in
set_option maxHeartbeats 4000000 in
theorem gl_s_X12_cause : GoodIn lw_tbl u_s_X12_cause := goodIn_ca (z_gr2 gs_all _ [(20, 11), (0, 3), (1, 7), (2, 42), (0, 14), (0, 15), (0, 16), (0, 0), (0, 7), (0, 23), (0, 24), (0, 25), (0, 6), (7, 31), (7, 32), (7, 33)] rfl) (goodIn_app ig_X12 (goodIn_app gl_s_X12_isLayer (goodIn_app gl_s_X12_know (goodIn_app gl_s_X12_causeOf (goodIn_n)))))
set_option maxRecDepth 20000 in
set_option maxHeartbeats 4000000 in
theorem gl_s_X11_why : GoodIn lw_tbl u_s_X11_why := goodIn_ca (z_gr2 gs_all _ [(20, 12), (0, 5), (0, 11), (0, 12), (0, 13), (0, 8), (0, 33), (1, 20), (1, 0), (1, 1), (1, 2), (0, 4), (3, 20), (2, 2), (7, 20), (7, 21), (7, 22), (0, 55), (1, 34), (2, 37), (2, 38), (7, 23), (7, 24), (7, 25), (7, 19)] rfl) (goodIn_app ig_X11 (goodIn_app ig_X0 (goodIn_app ig_X4 (goodIn_app ig_X8 (goodIn_app ig_X7 (goodIn_app gl_s_X0_hasLayer (goodIn_app gl_s_X4_look (goodIn_app gl_s_X3_turnTo (goodIn_app gl_s_X3_worthOf (goodIn_n))))))))))
set_option maxRecDepth 20000 in
set_option maxHeartbeats 4000000 in
theorem gl_s_X12_why : GoodIn lw_tbl u_s_X12_why := goodIn_ca (z_gr2 gs_all _ [(20, 13), (0, 3), (0, 14), (0, 15), (0, 16), (0, 0), (0, 7), (0, 23), (0, 24), (0, 25), (2, 42), (0, 6), (7, 31), (7, 32), (7, 33), (1, 7)] rfl) (goodIn_app ig_X12 (goodIn_app gl_s_X12_isLayer (goodIn_app gl_s_X12_know (goodIn_app gl_s_X12_causeOf (goodIn_n)))))
set_option maxRecDepth 20000 in
set_option maxHeartbeats 4000000 in
theorem gl_s_X12_fails : GoodIn lw_tbl u_s_X12_fails := goodIn_ca (z_gr2 gs_all _ [(20, 14), (0, 3)] rfl) (goodIn_app ig_X12 (goodIn_n))
set_option maxRecDepth 20000 in
set_option maxHeartbeats 4000000 in
theorem gl_s_X12_count : GoodIn lw_tbl u_s_X12_count := goodIn_ca (z_gr2 gs_all _ [(20, 15), (0, 3), (20, 16), (20, 17), (20, 18), (0, 0), (0, 7), (0, 23), (0, 24), (0, 25), (0, 59), (0, 6), (1, 3), (1, 21), (2, 46), (2, 42), (6, 12)] rfl) (goodIn_app ig_X12 (goodIn_app gl_s_X12_fails (goodIn_app gl_s_X12_know (goodIn_n))))
set_option maxRecDepth 20000 in
set_option maxHeartbeats 4000000 in
theorem gl_s_X4_bedsInAll : GoodIn lw_tbl u_s_X4_bedsInAll := goodIn_ca (z_gr2 gs_all _ [(20, 19), (0, 18), (0, 52)] rfl) (goodIn_app ig_X4 (goodIn_n))
set_option maxRecDepth 20000 in
set_option maxHeartbeats 4000000 in
theorem gl_s_X11_count : GoodIn lw_tbl u_s_X11_count := goodIn_ca (z_gr2 gs_all _ [(20, 20), (0, 33), (0, 5), (1, 20), (1, 0), (1, 1), (1, 2), (0, 4), (20, 21), (20, 22), (20, 23), (6, 25), (1, 10), (4, 29), (1, 11), (20, 24), (2, 17), (20, 25), (1, 34), (2, 37), (2, 38), (20, 26)] rfl) (goodIn_app ig_X11 (goodIn_app ig_X0 (goodIn_app ig_X2 (goodIn_app ig_X5 (goodIn_app ig_X9 (goodIn_app ig_X8 (goodIn_app ig_X7 (goodIn_app gl_s_X4_look (goodIn_app gl_s_X4_bedsInAll (goodIn_n))))))))))
set_option maxRecDepth 20000 in
set_option maxHeartbeats 4000000 in
theorem gl_s_L_count_in : GoodIn lw_tbl u_s_L_count_in := goodIn_ca (z_gr2 gs_all _ [(20, 27), (20, 28), (20, 29), (20, 30), (0, 2)] rfl) (goodIn_app gl_s_X11_count (goodIn_n))
