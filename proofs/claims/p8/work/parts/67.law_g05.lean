set_option maxRecDepth 20000 in
set_option maxHeartbeats 4000000 in
theorem gl_s_X12_bind : GoodIn lw_tbl u_s_X12_bind := goodIn_ca (z_gr2 gs_all _ [(13, 37), (2, 46), (3, 42), (6, 16), (6, 17), (0, 0), (3, 43), (1, 16), (6, 18), (6, 19), (6, 20), (4, 2), (4, 3), (4, 4), (1, 43)] rfl) (goodIn_app ig_X12 (goodIn_app gl_s_X12_weight (goodIn_app gl_s_X12_drop (goodIn_app gl_s_X12_done (goodIn_n)))))
set_option maxRecDepth 20000 in
set_option maxHeartbeats 4000000 in
theorem gl_s_X12_closes : GoodIn lw_tbl u_s_X12_closes := goodIn_ca (z_gr2 gs_all _ [(13, 38), (4, 5), (4, 6), (4, 7), (4, 8), (0, 0), (2, 46), (3, 45), (2, 47), (0, 41), (0, 42), (0, 43), (0, 44), (0, 45), (0, 46)] rfl) (goodIn_app ig_X12 (goodIn_app gl_s_X12_bind (goodIn_app gl_s_X12_take_r (goodIn_app gl_s_X12_wrong (goodIn_n)))))
set_option maxRecDepth 20000 in
set_option maxHeartbeats 4000000 in
theorem gl_s_X12_grown : GoodIn lw_tbl u_s_X12_grown := goodIn_ca (z_gr2 gs_all _ [(13, 39), (6, 21), (2, 31), (1, 16), (1, 43), (2, 32), (1, 44), (0, 44), (0, 45), (0, 46), (0, 0)] rfl) (goodIn_app ig_X12 (goodIn_app gl_s_X12_wrong (goodIn_n)))
set_option maxRecDepth 20000 in
set_option maxHeartbeats 4000000 in
theorem gl_s_X12_waitFor : GoodIn lw_tbl u_s_X12_waitFor := goodIn_ca (z_gr2 gs_all _ [(13, 40), (3, 42), (2, 46), (3, 43)] rfl) (goodIn_app ig_X12 (goodIn_n))
set_option maxRecDepth 20000 in
set_option maxHeartbeats 4000000 in
theorem gl_s_X12_joins : GoodIn lw_tbl u_s_X12_joins := goodIn_ca (z_gr2 gs_all _ [(13, 41), (4, 9), (4, 10), (4, 11), (0, 0), (6, 16), (6, 17), (4, 6), (4, 7), (4, 8), (6, 22), (6, 23), (6, 24), (2, 47), (4, 12), (4, 13), (0, 41), (0, 42), (0, 43), (0, 44), (0, 45), (0, 46)] rfl) (goodIn_app ig_X12 (goodIn_app gl_s_X12_grown (goodIn_app gl_s_X12_weight (goodIn_app gl_s_X12_bind (goodIn_app gl_s_X12_waitFor (goodIn_app gl_s_X12_take_r (goodIn_app gl_s_X12_wrong (goodIn_n))))))))
set_option maxRecDepth 20000 in
set_option maxHeartbeats 4000000 in
theorem gl_s_X12_nameRead : GoodIn lw_tbl u_s_X12_nameRead := goodIn_ca (z_gr2 gs_all _ [(13, 42), (0, 34), (0, 44), (0, 45), (0, 46), (0, 0), (0, 33), (4, 9), (4, 10), (4, 11), (1, 44), (0, 41), (0, 42), (0, 43), (4, 2), (4, 3), (4, 4)] rfl) (goodIn_app ig_X12 (goodIn_app gl_s_X12_wrong (goodIn_app gl_s_X12_grown (goodIn_app gl_s_X12_take_r (goodIn_app gl_s_X12_done (goodIn_n))))))
set_option maxRecDepth 20000 in
set_option maxHeartbeats 4000000 in
theorem gl_s_X12_valueRead : GoodIn lw_tbl u_s_X12_valueRead := goodIn_ca (z_gr2 gs_all _ [(13, 43), (1, 55), (1, 56), (1, 57), (0, 0), (4, 5), (3, 45), (2, 47), (6, 22), (6, 23), (6, 24), (4, 12), (0, 41), (0, 42), (0, 43), (0, 44), (0, 45), (0, 46), (0, 34), (4, 13), (13, 44), (13, 45), (13, 46), (0, 33), (4, 9), (4, 10), (4, 11), (1, 16), (6, 18), (6, 19), (6, 20), (4, 2), (4, 3), (4, 4), (2, 44)] rfl) (goodIn_app ig_X12 (goodIn_app gl_s_X12_isSign (goodIn_app gl_s_X12_waitFor (goodIn_app gl_s_X12_take_r (goodIn_app gl_s_X12_wrong (goodIn_app gl_s_X12_nameRead (goodIn_app gl_s_X12_grown (goodIn_app gl_s_X12_drop (goodIn_app gl_s_X12_done (goodIn_n))))))))))
set_option maxRecDepth 20000 in
set_option maxHeartbeats 4000000 in
theorem gl_s_X12_expression : GoodIn lw_tbl u_s_X12_expression := goodIn_ca (z_gr2 gs_all _ [(13, 47), (2, 46), (4, 0), (4, 5), (2, 47), (4, 13), (4, 12), (13, 48), (13, 49), (13, 50), (0, 0), (1, 55), (1, 56), (1, 57), (4, 6), (4, 7), (4, 8), (13, 51), (13, 52), (13, 53), (0, 44), (0, 45), (0, 46), (13, 54), (13, 55), (13, 56), (13, 57), (13, 58), (13, 59)] rfl) (goodIn_app ig_X12 (goodIn_app gl_s_X12_signNow (goodIn_app gl_s_X12_isSign (goodIn_app gl_s_X12_bind (goodIn_app gl_s_X12_closes (goodIn_app gl_s_X12_wrong (goodIn_app gl_s_X12_joins (goodIn_app gl_s_X12_valueRead (goodIn_n)))))))))
set_option maxRecDepth 20000 in
set_option maxHeartbeats 4000000 in
theorem gl_s_X12_causeRead : GoodIn lw_tbl u_s_X12_causeRead := goodIn_ca (z_gr2 gs_all _ [(14, 0), (0, 34), (0, 44), (0, 45), (0, 46), (0, 0), (0, 33), (3, 59), (0, 41), (0, 42), (0, 43), (14, 1), (14, 2), (14, 3), (3, 41), (0, 38), (1, 54), (1, 55), (1, 56), (1, 57), (2, 29), (4, 1), (14, 4), (14, 5), (14, 6), (2, 30), (3, 40), (0, 23)] rfl) (goodIn_app ig_X12 (goodIn_app gl_s_X12_wrong (goodIn_app gl_s_X12_take_r (goodIn_app gl_s_X12_isTold (goodIn_app gl_s_X12_isSign (goodIn_app gl_s_X12_expression (goodIn_n)))))))
set_option maxRecDepth 20000 in
set_option maxHeartbeats 4000000 in
theorem gl_s_X12_rules3 : GoodIn lw_tbl u_s_X12_rules3 := goodIn_ca (z_gr2 gs_all _ [(14, 7), (0, 3), (1, 45), (6, 25), (6, 26), (6, 27), (0, 0), (3, 59), (6, 21), (4, 1), (0, 34), (2, 48), (6, 28), (2, 31), (1, 16), (1, 43), (2, 32), (1, 44), (2, 33), (2, 29), (2, 30), (14, 8), (14, 9), (14, 10)] rfl) (goodIn_app ig_X12 (goodIn_app gl_s_X12_begins_r (goodIn_app gl_s_X12_causeRead (goodIn_n))))
set_option maxRecDepth 20000 in
set_option maxHeartbeats 4000000 in
theorem gl_s_X0_hasLayerA : GoodIn lw_tbl u_s_X0_hasLayerA := goodIn_ca (z_gr2 gs_all _ [(6, 29), (2, 53)] rfl) (goodIn_app ig_X0 (goodIn_n))
set_option maxRecDepth 20000 in
set_option maxHeartbeats 4000000 in
theorem gl_s_X0_isFull2 : GoodIn lw_tbl u_s_X0_isFull2 := goodIn_ca (z_gr2 gs_all _ [(14, 11), (2, 9)] rfl) (goodIn_app ig_X0 (goodIn_n))
set_option maxRecDepth 20000 in
set_option maxHeartbeats 4000000 in
theorem gl_s_X5_clear : GoodIn lw_tbl u_s_X5_clear := goodIn_ca (z_gr2 gs_all _ [(14, 12), (2, 14)] rfl) (goodIn_app ig_X5 (goodIn_n))
set_option maxRecDepth 20000 in
set_option maxHeartbeats 4000000 in
theorem gl_s_X10_byteAt4 : GoodIn lw_tbl u_s_X10_byteAt4 := goodIn_ca (z_gr2 gs_all _ [(5, 17), (0, 30), (2, 6)] rfl) (goodIn_app ig_X10 (goodIn_n))
set_option maxRecDepth 20000 in
set_option maxHeartbeats 4000000 in
theorem gl_s_X10_isLetter3 : GoodIn lw_tbl u_s_X10_isLetter3 := goodIn_ca (z_gr2 gs_all _ [(5, 18)] rfl) (goodIn_n)
set_option maxRecDepth 20000 in
set_option maxHeartbeats 4000000 in
theorem gl_s_X10_passLetters3 : GoodIn lw_tbl u_s_X10_passLetters3 := goodIn_ca (z_gr2 gs_all _ [(5, 22), (0, 31), (0, 30), (0, 9), (0, 10), (0, 11), (0, 1), (2, 34), (2, 35)] rfl) (goodIn_app ig_X10 (goodIn_app gl_s_X10_byteAt4 (goodIn_app gl_s_X10_isLetter3 (goodIn_n))))
set_option maxRecDepth 20000 in
set_option maxHeartbeats 4000000 in
theorem gl_s_X10_isDigit3 : GoodIn lw_tbl u_s_X10_isDigit3 := goodIn_ca (z_gr2 gs_all _ [(5, 19)] rfl) (goodIn_n)
set_option maxRecDepth 20000 in
set_option maxHeartbeats 4000000 in
theorem gl_s_X10_passDigits3 : GoodIn lw_tbl u_s_X10_passDigits3 := goodIn_ca (z_gr2 gs_all _ [(5, 20), (0, 31), (0, 30), (0, 9), (0, 10), (0, 11), (0, 1), (1, 17), (1, 18)] rfl) (goodIn_app ig_X10 (goodIn_app gl_s_X10_byteAt4 (goodIn_app gl_s_X10_isDigit3 (goodIn_n))))
set_option maxRecDepth 20000 in
set_option maxHeartbeats 4000000 in
theorem gl_s_X10_passSign3 : GoodIn lw_tbl u_s_X10_passSign3 := goodIn_ca (z_gr2 gs_all _ [(5, 21), (0, 31), (0, 9), (0, 10), (0, 11), (0, 1), (1, 29)] rfl) (goodIn_app ig_X10 (goodIn_app gl_s_X10_byteAt4 (goodIn_n)))
set_option maxRecDepth 20000 in
set_option maxHeartbeats 4000000 in
theorem gl_s_X10_next3 : GoodIn lw_tbl u_s_X10_next3 := goodIn_ca (z_gr2 gs_all _ [(5, 23), (0, 31), (0, 30), (0, 39), (1, 29), (0, 9), (0, 10), (0, 11), (0, 1), (2, 34), (2, 35), (0, 52), (5, 30), (5, 31), (5, 32), (1, 28), (5, 24), (5, 25), (5, 26), (0, 35), (1, 17), (1, 18), (5, 27), (5, 28), (5, 29)] rfl) (goodIn_app ig_X10 (goodIn_app gl_s_X10_byteAt4 (goodIn_app gl_s_X10_isLetter3 (goodIn_app gl_s_X10_passLetters3 (goodIn_app gl_s_X10_passDigits3 (goodIn_app gl_s_X10_isDigit3 (goodIn_app gl_s_X10_passSign3 (goodIn_n))))))))
set_option maxRecDepth 20000 in
set_option maxHeartbeats 4000000 in
theorem gl_s_X10_open3 : GoodIn lw_tbl u_s_X10_open3 := goodIn_ca (z_gr2 gs_all _ [(5, 33), (0, 30), (1, 28), (1, 10), (0, 31), (2, 7), (2, 8), (5, 34), (0, 28), (0, 29), (0, 1)] rfl) (goodIn_app ig_X10 (goodIn_app gl_s_X10_next3 (goodIn_n)))
set_option maxRecDepth 20000 in
set_option maxHeartbeats 4000000 in
theorem gl_s_X10_numberFrom3 : GoodIn lw_tbl u_s_X10_numberFrom3 := goodIn_ca (z_gr2 gs_all _ [(5, 47), (0, 35), (0, 9), (0, 10), (0, 11), (0, 1), (5, 48), (5, 49), (0, 57), (0, 32), (0, 58)] rfl) (goodIn_app ig_X10 (goodIn_app gl_s_X10_byteAt4 (goodIn_n)))
set_option maxRecDepth 20000 in
set_option maxHeartbeats 4000000 in
theorem gl_s_X10_numberBehind_1 : GoodIn lw_tbl u_s_X10_numberBehind_1 := goodIn_ca (z_gr2 gs_all _ [(6, 30), (0, 52), (0, 35), (0, 39), (0, 9), (0, 10), (0, 11), (0, 1), (1, 17), (1, 18), (6, 31), (2, 37), (2, 38)] rfl) (goodIn_app ig_X10 (goodIn_app gl_s_X10_byteAt4 (goodIn_app gl_s_X10_isDigit3 (goodIn_app gl_s_X10_numberFrom3 (goodIn_n)))))
set_option maxRecDepth 20000 in
set_option maxHeartbeats 4000000 in
theorem gl_s_X5_hasKindA : GoodIn lw_tbl u_s_X5_hasKindA := goodIn_ca (z_gr2 gs_all _ [(6, 32), (1, 33)] rfl) (goodIn_app ig_X5 (goodIn_n))
set_option maxRecDepth 20000 in
set_option maxHeartbeats 4000000 in
theorem gl_s_X1_readKind3 : GoodIn lw_tbl u_s_X1_readKind3 := goodIn_ca (z_gr2 gs_all _ [(14, 13), (0, 48), (6, 33), (6, 34), (6, 35), (0, 1), (3, 16), (2, 20), (14, 14), (2, 49), (2, 50), (0, 27), (1, 23), (0, 28), (0, 29), (1, 58), (0, 12), (0, 13)] rfl) (goodIn_app ig_X1 (goodIn_app gl_s_X10_numberBehind_1 (goodIn_app gl_s_X5_hasKindA (goodIn_app gl_s_X10_next3 (goodIn_app gl_s_X10_fail (goodIn_n))))))
set_option maxRecDepth 20000 in
set_option maxHeartbeats 4000000 in
theorem gl_s_X10_numberBehind_2 : GoodIn lw_tbl u_s_X10_numberBehind_2 := goodIn_ca (z_gr2 gs_all _ [(6, 30), (0, 52), (0, 35), (0, 39), (0, 9), (0, 10), (0, 11), (0, 1), (1, 17), (1, 18), (6, 31), (2, 37), (2, 38)] rfl) (goodIn_app ig_X10 (goodIn_app gl_s_X10_byteAt4 (goodIn_app gl_s_X10_isDigit3 (goodIn_app gl_s_X10_numberFrom3 (goodIn_n)))))
set_option maxRecDepth 20000 in
set_option maxHeartbeats 4000000 in
theorem gl_s_X1_readSieve3 : GoodIn lw_tbl u_s_X1_readSieve3 := goodIn_ca (z_gr2 gs_all _ [(14, 15), (0, 48), (6, 33), (6, 34), (6, 35), (0, 1), (3, 17), (1, 23), (0, 28), (0, 29), (1, 58), (0, 12), (0, 13)] rfl) (goodIn_app ig_X1 (goodIn_app gl_s_X10_numberBehind_2 (goodIn_app gl_s_X10_next3 (goodIn_app gl_s_X10_fail (goodIn_n)))))
set_option maxRecDepth 20000 in
set_option maxHeartbeats 4000000 in
theorem gl_s_X1_passSign_58 : GoodIn lw_tbl u_s_X1_passSign_58 := goodIn_ca (z_gr2 gs_all _ [(6, 36), (0, 48), (4, 14), (1, 23), (0, 28), (0, 29), (0, 1), (1, 58), (0, 12), (0, 13)] rfl) (goodIn_app ig_X1 (goodIn_app ig_X10 (goodIn_app gl_s_X10_next3 (goodIn_app gl_s_X10_fail (goodIn_n)))))
set_option maxRecDepth 20000 in
set_option maxHeartbeats 4000000 in
theorem gl_s_X10_wordIn3 : GoodIn lw_tbl u_s_X10_wordIn3 := goodIn_ca (z_gr2 gs_all _ [(5, 38), (0, 52), (0, 39), (5, 39), (5, 40), (5, 41), (1, 46), (0, 35), (5, 42), (5, 43), (5, 44), (0, 9), (0, 10), (0, 11), (0, 1)] rfl) (goodIn_app ig_X10 (goodIn_app gl_s_J0_length_8abf5 (goodIn_app gl_s_J0_charAt_5068e (goodIn_app gl_s_X10_byteAt4 (goodIn_n)))))
set_option maxRecDepth 20000 in
set_option maxHeartbeats 4000000 in
theorem gl_s_X5_add : GoodIn lw_tbl u_s_X5_add := goodIn_ca (z_gr2 gs_all _ [(14, 16), (2, 14)] rfl) (goodIn_app ig_X5 (goodIn_n))
set_option maxRecDepth 20000 in
set_option maxHeartbeats 4000000 in
theorem gl_s_X1_readPart3 : GoodIn lw_tbl u_s_X1_readPart3 := goodIn_ca (z_gr2 gs_all _ [(14, 17), (0, 48), (14, 18), (1, 19), (1, 20), (0, 1), (3, 18), (1, 23), (0, 28), (0, 29), (6, 37), (14, 19), (14, 20), (2, 37), (2, 38), (2, 20), (3, 15), (3, 16), (3, 17), (14, 21), (14, 22), (14, 23), (0, 27), (1, 58), (0, 12), (0, 13)] rfl) (goodIn_app ig_X1 (goodIn_app ig_X10 (goodIn_app gl_s_X10_wordIn3 (goodIn_app gl_s_X10_next3 (goodIn_app gl_s_X10_numberFrom3 (goodIn_app gl_s_X5_add (goodIn_app gl_s_X10_fail (goodIn_n))))))))
set_option maxRecDepth 20000 in
set_option maxHeartbeats 4000000 in
theorem gl_s_X1_readFind3 : GoodIn lw_tbl u_s_X1_readFind3 := goodIn_ca (z_gr2 gs_all _ [(14, 24), (14, 25), (14, 26), (14, 27), (2, 19), (14, 28), (14, 29), (14, 30), (6, 38), (6, 39), (6, 40), (3, 18), (14, 31), (14, 32), (14, 33), (0, 48), (4, 14), (1, 23), (0, 28), (0, 29), (0, 1)] rfl) (goodIn_app ig_X1 (goodIn_app ig_X10 (goodIn_app gl_s_X1_readKind3 (goodIn_app gl_s_X1_readSieve3 (goodIn_app gl_s_X1_passSign_58 (goodIn_app gl_s_X1_readPart3 (goodIn_app gl_s_X10_next3 (goodIn_n))))))))
set_option maxRecDepth 20000 in
set_option maxHeartbeats 4000000 in
theorem gl_s_X1_passSign_59 : GoodIn lw_tbl u_s_X1_passSign_59 := goodIn_ca (z_gr2 gs_all _ [(6, 36), (0, 48), (4, 14), (1, 23), (0, 28), (0, 29), (0, 1), (1, 58), (0, 12), (0, 13)] rfl) (goodIn_app ig_X1 (goodIn_app ig_X10 (goodIn_app gl_s_X10_next3 (goodIn_app gl_s_X10_fail (goodIn_n)))))
set_option maxRecDepth 20000 in
set_option maxHeartbeats 4000000 in
theorem gl_s_X1_read4 : GoodIn lw_tbl u_s_X1_read4 := goodIn_ca (z_gr2 gs_all _ [(14, 34), (3, 15), (2, 20), (14, 35), (14, 36), (14, 37), (0, 27), (0, 48), (14, 38), (5, 50), (5, 51), (0, 1), (14, 39), (14, 40), (14, 41), (2, 19), (6, 37), (6, 38), (6, 39), (6, 40)] rfl) (goodIn_app ig_X1 (goodIn_app ig_X10 (goodIn_app gl_s_X5_clear (goodIn_app gl_s_X10_open3 (goodIn_app gl_s_X1_readFind3 (goodIn_app gl_s_X1_passSign_59 (goodIn_n)))))))
set_option maxRecDepth 20000 in
set_option maxHeartbeats 4000000 in
theorem gl_s_X0_write3 : GoodIn lw_tbl u_s_X0_write3 := goodIn_ca (z_gr2 gs_all _ [(14, 42), (14, 43), (6, 41), (6, 42), (0, 8), (4, 51), (2, 9), (4, 52), (4, 53), (4, 54)] rfl) (goodIn_app ig_X0 (goodIn_app gl_s_X0_isFull2 (goodIn_n)))
set_option maxRecDepth 20000 in
set_option maxHeartbeats 4000000 in
theorem gl_s_X11_finds3 : GoodIn lw_tbl u_s_X11_finds3 := goodIn_ca (z_gr2 gs_all _ [(14, 44), (1, 30), (5, 52), (5, 53), (5, 54), (0, 1), (0, 5), (0, 14), (0, 15), (0, 16), (0, 8), (14, 45), (6, 41), (6, 42), (5, 2), (1, 24), (14, 46), (14, 47), (14, 48), (2, 19), (4, 15), (4, 16), (4, 17)] rfl) (goodIn_app ig_X11 (goodIn_app ig_X0 (goodIn_app gl_s_X10_hasFedA (goodIn_app gl_s_X0_hasLayerA (goodIn_app gl_s_X0_isFull2 (goodIn_app gl_s_X1_read4 (goodIn_app gl_s_X0_write3 (goodIn_n))))))))
set_option maxRecDepth 20000 in
set_option maxHeartbeats 4000000 in
theorem gl_s_X12_isLayerA : GoodIn lw_tbl u_s_X12_isLayerA := goodIn_ca (z_gr2 gs_all _ [(6, 43), (1, 0)] rfl) (goodIn_app ig_X12 (goodIn_n))
set_option maxRecDepth 20000 in
set_option maxHeartbeats 4000000 in
theorem gl_s_X12_wordAt3 : GoodIn lw_tbl u_s_X12_wordAt3 := goodIn_ca (z_gr2 gs_all _ [(5, 55), (3, 35), (0, 23)] rfl) (goodIn_app ig_X12 (goodIn_n))
set_option maxRecDepth 20000 in
set_option maxHeartbeats 4000000 in
theorem gl_s_X12_digits3 : GoodIn lw_tbl u_s_X12_digits3 := goodIn_ca (z_gr2 gs_all _ [(5, 56), (0, 33), (0, 38), (2, 41), (2, 42), (2, 43), (0, 0), (2, 44), (0, 23)] rfl) (goodIn_app ig_X12 (goodIn_app gl_s_X12_isDigit (goodIn_n)))
set_option maxRecDepth 20000 in
set_option maxHeartbeats 4000000 in
theorem gl_s_X12_signOf3 : GoodIn lw_tbl u_s_X12_signOf3 := goodIn_ca (z_gr2 gs_all _ [(5, 57), (0, 38), (5, 58), (5, 59), (6, 0), (0, 0)] rfl) (goodIn_app ig_X12 (goodIn_app gl_s_X12_isAt (goodIn_n)))
set_option maxRecDepth 20000 in
set_option maxHeartbeats 4000000 in
theorem gl_s_X12_take3 : GoodIn lw_tbl u_s_X12_take3 := goodIn_ca (z_gr2 gs_all _ [(6, 1), (0, 38), (0, 59), (1, 54), (6, 2), (6, 3), (6, 4), (0, 0), (6, 5), (6, 6), (6, 7), (0, 33), (0, 34), (2, 41), (2, 42), (2, 43), (6, 8), (6, 9), (6, 10), (0, 23), (6, 11), (6, 12), (6, 13)] rfl) (goodIn_app ig_X12 (goodIn_app gl_s_X12_isSmall (goodIn_app gl_s_X12_wordAt3 (goodIn_app gl_s_X12_isDigit (goodIn_app gl_s_X12_digits3 (goodIn_app gl_s_X12_signOf3 (goodIn_n)))))))
set_option maxRecDepth 20000 in
set_option maxHeartbeats 4000000 in
theorem gl_s_X12_begins3 : GoodIn lw_tbl u_s_X12_begins3 := goodIn_ca (z_gr2 gs_all _ [(6, 14), (0, 59), (1, 45), (2, 45), (1, 42), (0, 38), (0, 41), (0, 42), (0, 43), (0, 0)] rfl) (goodIn_app ig_X12 (goodIn_app gl_s_X12_take3 (goodIn_n)))
set_option maxRecDepth 20000 in
set_option maxHeartbeats 4000000 in
theorem gl_s_X12_isKindA : GoodIn lw_tbl u_s_X12_isKindA := goodIn_ca (z_gr2 gs_all _ [(6, 44), (1, 1)] rfl) (goodIn_app ig_X12 (goodIn_n))
set_option maxRecDepth 20000 in
set_option maxHeartbeats 4000000 in
theorem gl_s_X12_isSign3 : GoodIn lw_tbl u_s_X12_isSign3 := goodIn_ca (z_gr2 gs_all _ [(6, 15), (0, 34), (0, 33)] rfl) (goodIn_app ig_X12 (goodIn_n))
set_option maxRecDepth 20000 in
set_option maxHeartbeats 4000000 in
theorem gl_s_X12_findRead3 : GoodIn lw_tbl u_s_X12_findRead3 := goodIn_ca (z_gr2 gs_all _ [(14, 49), (0, 34), (0, 33), (4, 18), (4, 19), (4, 20), (0, 0), (0, 7), (0, 41), (0, 42), (0, 43), (1, 55), (1, 56), (1, 57), (0, 44), (0, 45), (0, 46), (2, 23)] rfl) (goodIn_app ig_X12 (goodIn_app gl_s_X12_isKindA (goodIn_app gl_s_X12_take3 (goodIn_app gl_s_X12_isSign3 (goodIn_app gl_s_X12_wrong (goodIn_n))))))
set_option maxRecDepth 20000 in
set_option maxHeartbeats 4000000 in
theorem gl_s_X12_findsRead3 : GoodIn lw_tbl u_s_X12_findsRead3 := goodIn_ca (z_gr2 gs_all _ [(14, 50), (14, 51), (14, 52), (14, 53), (0, 0), (0, 34), (1, 55), (1, 56), (1, 57), (0, 41), (0, 42), (0, 43), (0, 44), (0, 45), (0, 46), (2, 23), (0, 7)] rfl) (goodIn_app ig_X12 (goodIn_app gl_s_X12_findRead3 (goodIn_app gl_s_X12_isSign3 (goodIn_app gl_s_X12_take3 (goodIn_app gl_s_X12_wrong (goodIn_n))))))
set_option maxRecDepth 20000 in
set_option maxHeartbeats 4000000 in
theorem gl_s_X12_finds3 : GoodIn lw_tbl u_s_X12_finds3 := goodIn_ca (z_gr2 gs_all _ [(14, 54), (0, 3), (1, 45), (0, 17), (0, 18), (0, 19), (0, 0), (0, 7), (6, 25), (6, 26), (6, 27), (14, 55), (14, 56), (14, 57), (0, 50), (0, 51)] rfl) (goodIn_app ig_X12 (goodIn_app gl_s_X12_isLayerA (goodIn_app gl_s_X12_begins3 (goodIn_app gl_s_X12_findsRead3 (goodIn_n)))))
set_option maxRecDepth 20000 in
set_option maxHeartbeats 4000000 in
theorem gl_s_X11_fault : GoodIn lw_tbl u_s_X11_fault := goodIn_ca (z_gr2 gs_all _ [(14, 58), (1, 30), (14, 59), (15, 0)] rfl) (goodIn_app ig_X11 (goodIn_app ig_X10 (goodIn_n)))
set_option maxRecDepth 20000 in
set_option maxHeartbeats 4000000 in
theorem gl_s_X12_fault : GoodIn lw_tbl u_s_X12_fault := goodIn_ca (z_gr2 gs_all _ [(15, 1), (0, 3), (1, 42), (2, 45)] rfl) (goodIn_app ig_X12 (goodIn_n))
set_option maxRecDepth 20000 in
set_option maxHeartbeats 4000000 in
theorem gl_s_X11_layerA : GoodIn lw_tbl u_s_X11_layerA := goodIn_ca (z_gr2 gs_all _ [(15, 2), (0, 5), (6, 45)] rfl) (goodIn_app ig_X11 (goodIn_app ig_X0 (goodIn_n)))
set_option maxRecDepth 20000 in
set_option maxHeartbeats 4000000 in
theorem gl_s_X12_layerA : GoodIn lw_tbl u_s_X12_layerA := goodIn_ca (z_gr2 gs_all _ [(15, 3), (0, 3), (1, 0)] rfl) (goodIn_app ig_X12 (goodIn_n))
set_option maxRecDepth 20000 in
set_option maxHeartbeats 4000000 in
theorem gl_s_X11_note3 : GoodIn lw_tbl u_s_X11_note3 := goodIn_ca (z_gr2 gs_all _ [(15, 4), (0, 5), (0, 14), (0, 15), (0, 16), (0, 8), (4, 15), (4, 16), (4, 17)] rfl) (goodIn_app ig_X11 (goodIn_app gl_s_X0_hasLayerA (goodIn_app gl_s_X0_write3 (goodIn_n))))
set_option maxRecDepth 20000 in
set_option maxHeartbeats 4000000 in
theorem gl_s_X12_note3 : GoodIn lw_tbl u_s_X12_note3 := goodIn_ca (z_gr2 gs_all _ [(15, 5), (0, 3), (0, 7), (0, 17), (0, 18), (0, 19), (0, 0), (0, 50), (0, 51), (1, 38), (3, 27)] rfl) (goodIn_app ig_X12 (goodIn_app gl_s_X12_isLayerA (goodIn_n)))
set_option maxRecDepth 20000 in
set_option maxHeartbeats 4000000 in
theorem gl_s_X11_strike3 : GoodIn lw_tbl u_s_X11_strike3 := goodIn_ca (z_gr2 gs_all _ [(15, 6), (0, 5), (1, 24), (4, 15), (4, 16), (4, 17), (0, 8)] rfl) (goodIn_app ig_X11 (goodIn_app ig_X0 (goodIn_app gl_s_X0_write3 (goodIn_n))))
set_option maxRecDepth 20000 in
set_option maxHeartbeats 4000000 in
theorem gl_s_X12_strike3 : GoodIn lw_tbl u_s_X12_strike3 := goodIn_ca (z_gr2 gs_all _ [(15, 7), (0, 3), (0, 7), (0, 50), (0, 51)] rfl) (goodIn_app ig_X12 (goodIn_n))
set_option maxRecDepth 20000 in
set_option maxHeartbeats 4000000 in
theorem gl_s_X0_hasFirst : GoodIn lw_tbl u_s_X0_hasFirst := goodIn_ca (z_gr2 gs_all _ [(15, 8), (2, 9)] rfl) (goodIn_app ig_X0 (goodIn_n))
set_option maxRecDepth 20000 in
set_option maxHeartbeats 4000000 in
theorem gl_s_X0_hasLayer : GoodIn lw_tbl u_s_X0_hasLayer := goodIn_ca (z_gr2 gs_all _ [(6, 29), (2, 53)] rfl) (goodIn_app ig_X0 (goodIn_n))
set_option maxRecDepth 20000 in
set_option maxHeartbeats 4000000 in
theorem gl_s_X4_counts : GoodIn lw_tbl u_s_X4_counts := goodIn_ca (z_gr2 gs_all _ [(15, 9), (0, 53), (2, 54), (0, 47), (15, 10)] rfl) (goodIn_app ig_X4 (goodIn_app ig_X0 (goodIn_n)))
set_option maxRecDepth 20000 in
set_option maxHeartbeats 4000000 in
theorem gl_s_X4_findStruck : GoodIn lw_tbl u_s_X4_findStruck := goodIn_ca (z_gr2 gs_all _ [(15, 11), (0, 53), (1, 59), (2, 0), (2, 1), (0, 4), (0, 47), (2, 2), (2, 54)] rfl) (goodIn_app ig_X4 (goodIn_app ig_X0 (goodIn_app gl_s_X4_counts (goodIn_n))))
set_option maxRecDepth 20000 in
set_option maxHeartbeats 4000000 in
theorem gl_s_X4_join : GoodIn lw_tbl u_s_X4_join := goodIn_ca (z_gr2 gs_all _ [(15, 12), (4, 21), (0, 57), (0, 32), (0, 58), (2, 51), (1, 21), (1, 22), (0, 21), (0, 54)] rfl) (goodIn_app ig_X4 (goodIn_n))
