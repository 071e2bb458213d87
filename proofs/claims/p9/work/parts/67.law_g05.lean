set_option maxRecDepth 20000 in
set_option maxHeartbeats 4000000 in
theorem gl_s_X12_bind : GoodIn lw_tbl u_s_X12_bind := goodIn_ca (z_gr2 gs_all _ [(13, 55), (2, 51), (3, 42), (6, 16), (6, 17), (0, 0), (3, 43), (1, 23), (6, 18), (6, 19), (6, 20), (4, 2), (4, 3), (4, 4), (1, 43)] rfl) (goodIn_app ig_X12 (goodIn_app gl_s_X12_weight (goodIn_app gl_s_X12_drop (goodIn_app gl_s_X12_done (goodIn_n)))))
set_option maxRecDepth 20000 in
set_option maxHeartbeats 4000000 in
theorem gl_s_X12_closes : GoodIn lw_tbl u_s_X12_closes := goodIn_ca (z_gr2 gs_all _ [(13, 56), (4, 5), (4, 6), (4, 7), (4, 8), (0, 0), (2, 51), (3, 45), (2, 52), (0, 44), (0, 45), (0, 46), (0, 47), (0, 48), (0, 49)] rfl) (goodIn_app ig_X12 (goodIn_app gl_s_X12_bind (goodIn_app gl_s_X12_take_r (goodIn_app gl_s_X12_wrong (goodIn_n)))))
set_option maxRecDepth 20000 in
set_option maxHeartbeats 4000000 in
theorem gl_s_X12_grown : GoodIn lw_tbl u_s_X12_grown := goodIn_ca (z_gr2 gs_all _ [(13, 57), (6, 21), (2, 36), (1, 23), (1, 43), (2, 37), (1, 44), (0, 47), (0, 48), (0, 49), (0, 0)] rfl) (goodIn_app ig_X12 (goodIn_app gl_s_X12_wrong (goodIn_n)))
set_option maxRecDepth 20000 in
set_option maxHeartbeats 4000000 in
theorem gl_s_X12_waitFor : GoodIn lw_tbl u_s_X12_waitFor := goodIn_ca (z_gr2 gs_all _ [(13, 58), (3, 42), (2, 51), (3, 43)] rfl) (goodIn_app ig_X12 (goodIn_n))
set_option maxRecDepth 20000 in
set_option maxHeartbeats 4000000 in
theorem gl_s_X12_joins : GoodIn lw_tbl u_s_X12_joins := goodIn_ca (z_gr2 gs_all _ [(13, 59), (4, 9), (4, 10), (4, 11), (0, 0), (6, 16), (6, 17), (4, 6), (4, 7), (4, 8), (6, 22), (6, 23), (6, 24), (2, 52), (4, 12), (4, 13), (0, 44), (0, 45), (0, 46), (0, 47), (0, 48), (0, 49)] rfl) (goodIn_app ig_X12 (goodIn_app gl_s_X12_grown (goodIn_app gl_s_X12_weight (goodIn_app gl_s_X12_bind (goodIn_app gl_s_X12_waitFor (goodIn_app gl_s_X12_take_r (goodIn_app gl_s_X12_wrong (goodIn_n))))))))
set_option maxRecDepth 20000 in
set_option maxHeartbeats 4000000 in
theorem gl_s_X12_nameRead : GoodIn lw_tbl u_s_X12_nameRead := goodIn_ca (z_gr2 gs_all _ [(14, 0), (0, 36), (0, 47), (0, 48), (0, 49), (0, 0), (0, 35), (4, 9), (4, 10), (4, 11), (1, 44), (0, 44), (0, 45), (0, 46), (4, 2), (4, 3), (4, 4)] rfl) (goodIn_app ig_X12 (goodIn_app gl_s_X12_wrong (goodIn_app gl_s_X12_grown (goodIn_app gl_s_X12_take_r (goodIn_app gl_s_X12_done (goodIn_n))))))
set_option maxRecDepth 20000 in
set_option maxHeartbeats 4000000 in
theorem gl_s_X12_valueRead : GoodIn lw_tbl u_s_X12_valueRead := goodIn_ca (z_gr2 gs_all _ [(14, 1), (1, 55), (1, 56), (1, 57), (0, 0), (4, 5), (3, 45), (2, 52), (6, 22), (6, 23), (6, 24), (4, 12), (0, 44), (0, 45), (0, 46), (0, 47), (0, 48), (0, 49), (0, 36), (4, 13), (14, 2), (14, 3), (14, 4), (0, 35), (4, 9), (4, 10), (4, 11), (1, 23), (6, 18), (6, 19), (6, 20), (4, 2), (4, 3), (4, 4), (2, 49)] rfl) (goodIn_app ig_X12 (goodIn_app gl_s_X12_isSign (goodIn_app gl_s_X12_waitFor (goodIn_app gl_s_X12_take_r (goodIn_app gl_s_X12_wrong (goodIn_app gl_s_X12_nameRead (goodIn_app gl_s_X12_grown (goodIn_app gl_s_X12_drop (goodIn_app gl_s_X12_done (goodIn_n))))))))))
set_option maxRecDepth 20000 in
set_option maxHeartbeats 4000000 in
theorem gl_s_X12_expression : GoodIn lw_tbl u_s_X12_expression := goodIn_ca (z_gr2 gs_all _ [(14, 5), (2, 51), (4, 0), (4, 5), (2, 52), (4, 13), (4, 12), (14, 6), (14, 7), (14, 8), (0, 0), (1, 55), (1, 56), (1, 57), (4, 6), (4, 7), (4, 8), (14, 9), (14, 10), (14, 11), (0, 47), (0, 48), (0, 49), (14, 12), (14, 13), (14, 14), (14, 15), (14, 16), (14, 17)] rfl) (goodIn_app ig_X12 (goodIn_app gl_s_X12_signNow (goodIn_app gl_s_X12_isSign (goodIn_app gl_s_X12_bind (goodIn_app gl_s_X12_closes (goodIn_app gl_s_X12_wrong (goodIn_app gl_s_X12_joins (goodIn_app gl_s_X12_valueRead (goodIn_n)))))))))
set_option maxRecDepth 20000 in
set_option maxHeartbeats 4000000 in
theorem gl_s_X12_causeRead : GoodIn lw_tbl u_s_X12_causeRead := goodIn_ca (z_gr2 gs_all _ [(14, 18), (0, 36), (0, 47), (0, 48), (0, 49), (0, 0), (0, 35), (3, 59), (0, 44), (0, 45), (0, 46), (14, 19), (14, 20), (14, 21), (3, 41), (0, 40), (1, 54), (1, 55), (1, 56), (1, 57), (2, 34), (4, 1), (14, 22), (14, 23), (14, 24), (2, 35), (3, 40), (0, 23)] rfl) (goodIn_app ig_X12 (goodIn_app gl_s_X12_wrong (goodIn_app gl_s_X12_take_r (goodIn_app gl_s_X12_isTold (goodIn_app gl_s_X12_isSign (goodIn_app gl_s_X12_expression (goodIn_n)))))))
set_option maxRecDepth 20000 in
set_option maxHeartbeats 4000000 in
theorem gl_s_X12_rules3 : GoodIn lw_tbl u_s_X12_rules3 := goodIn_ca (z_gr2 gs_all _ [(14, 25), (0, 3), (1, 45), (6, 25), (6, 26), (6, 27), (0, 0), (3, 59), (6, 21), (4, 1), (0, 36), (2, 53), (6, 28), (2, 36), (1, 23), (1, 43), (2, 37), (1, 44), (2, 38), (2, 34), (2, 35), (14, 26), (14, 27), (14, 28)] rfl) (goodIn_app ig_X12 (goodIn_app gl_s_X12_begins_r (goodIn_app gl_s_X12_causeRead (goodIn_n))))
set_option maxRecDepth 20000 in
set_option maxHeartbeats 4000000 in
theorem gl_s_X0_hasLayerA : GoodIn lw_tbl u_s_X0_hasLayerA := goodIn_ca (z_gr2 gs_all _ [(6, 29), (2, 58)] rfl) (goodIn_app ig_X0 (goodIn_n))
set_option maxRecDepth 20000 in
set_option maxHeartbeats 4000000 in
theorem gl_s_X0_isFull2 : GoodIn lw_tbl u_s_X0_isFull2 := goodIn_ca (z_gr2 gs_all _ [(14, 29), (2, 9)] rfl) (goodIn_app ig_X0 (goodIn_n))
set_option maxRecDepth 20000 in
set_option maxHeartbeats 4000000 in
theorem gl_s_X5_clear : GoodIn lw_tbl u_s_X5_clear := goodIn_ca (z_gr2 gs_all _ [(14, 30), (2, 16)] rfl) (goodIn_app ig_X5 (goodIn_n))
set_option maxRecDepth 20000 in
set_option maxHeartbeats 4000000 in
theorem gl_s_X10_byteAt4 : GoodIn lw_tbl u_s_X10_byteAt4 := goodIn_ca (z_gr2 gs_all _ [(5, 17), (0, 30), (2, 6)] rfl) (goodIn_app ig_X10 (goodIn_n))
set_option maxRecDepth 20000 in
set_option maxHeartbeats 4000000 in
theorem gl_s_X10_isLetter3 : GoodIn lw_tbl u_s_X10_isLetter3 := goodIn_ca (z_gr2 gs_all _ [(5, 18)] rfl) (goodIn_n)
set_option maxRecDepth 20000 in
set_option maxHeartbeats 4000000 in
theorem gl_s_X10_passLetters3 : GoodIn lw_tbl u_s_X10_passLetters3 := goodIn_ca (z_gr2 gs_all _ [(5, 22), (0, 31), (0, 30), (0, 9), (0, 10), (0, 11), (0, 1), (2, 39), (2, 40)] rfl) (goodIn_app ig_X10 (goodIn_app gl_s_X10_byteAt4 (goodIn_app gl_s_X10_isLetter3 (goodIn_n))))
set_option maxRecDepth 20000 in
set_option maxHeartbeats 4000000 in
theorem gl_s_X10_isDigit3 : GoodIn lw_tbl u_s_X10_isDigit3 := goodIn_ca (z_gr2 gs_all _ [(5, 19)] rfl) (goodIn_n)
set_option maxRecDepth 20000 in
set_option maxHeartbeats 4000000 in
theorem gl_s_X10_passDigits3 : GoodIn lw_tbl u_s_X10_passDigits3 := goodIn_ca (z_gr2 gs_all _ [(5, 20), (0, 31), (0, 30), (0, 9), (0, 10), (0, 11), (0, 1), (1, 24), (1, 25)] rfl) (goodIn_app ig_X10 (goodIn_app gl_s_X10_byteAt4 (goodIn_app gl_s_X10_isDigit3 (goodIn_n))))
set_option maxRecDepth 20000 in
set_option maxHeartbeats 4000000 in
theorem gl_s_X10_passSign3 : GoodIn lw_tbl u_s_X10_passSign3 := goodIn_ca (z_gr2 gs_all _ [(5, 21), (0, 31), (0, 9), (0, 10), (0, 11), (0, 1), (1, 35)] rfl) (goodIn_app ig_X10 (goodIn_app gl_s_X10_byteAt4 (goodIn_n)))
set_option maxRecDepth 20000 in
set_option maxHeartbeats 4000000 in
theorem gl_s_X10_next3 : GoodIn lw_tbl u_s_X10_next3 := goodIn_ca (z_gr2 gs_all _ [(5, 23), (0, 31), (0, 30), (0, 41), (1, 35), (0, 9), (0, 10), (0, 11), (0, 1), (2, 39), (2, 40), (0, 57), (5, 30), (5, 31), (5, 32), (1, 34), (5, 24), (5, 25), (5, 26), (0, 37), (1, 24), (1, 25), (5, 27), (5, 28), (5, 29)] rfl) (goodIn_app ig_X10 (goodIn_app gl_s_X10_byteAt4 (goodIn_app gl_s_X10_isLetter3 (goodIn_app gl_s_X10_passLetters3 (goodIn_app gl_s_X10_passDigits3 (goodIn_app gl_s_X10_isDigit3 (goodIn_app gl_s_X10_passSign3 (goodIn_n))))))))
set_option maxRecDepth 20000 in
set_option maxHeartbeats 4000000 in
theorem gl_s_X10_open3 : GoodIn lw_tbl u_s_X10_open3 := goodIn_ca (z_gr2 gs_all _ [(5, 33), (0, 30), (1, 34), (1, 14), (0, 31), (2, 7), (2, 8), (5, 34), (0, 28), (0, 29), (0, 1)] rfl) (goodIn_app ig_X10 (goodIn_app gl_s_X10_next3 (goodIn_n)))
set_option maxRecDepth 20000 in
set_option maxHeartbeats 4000000 in
theorem gl_s_X10_numberFrom3 : GoodIn lw_tbl u_s_X10_numberFrom3 := goodIn_ca (z_gr2 gs_all _ [(5, 47), (0, 37), (0, 9), (0, 10), (0, 11), (0, 1), (5, 48), (5, 49), (1, 1), (0, 34), (1, 2)] rfl) (goodIn_app ig_X10 (goodIn_app gl_s_X10_byteAt4 (goodIn_n)))
set_option maxRecDepth 20000 in
set_option maxHeartbeats 4000000 in
theorem gl_s_X10_numberBehind_1 : GoodIn lw_tbl u_s_X10_numberBehind_1 := goodIn_ca (z_gr2 gs_all _ [(6, 30), (0, 57), (0, 37), (0, 41), (0, 9), (0, 10), (0, 11), (0, 1), (1, 24), (1, 25), (6, 31), (2, 42), (2, 43)] rfl) (goodIn_app ig_X10 (goodIn_app gl_s_X10_byteAt4 (goodIn_app gl_s_X10_isDigit3 (goodIn_app gl_s_X10_numberFrom3 (goodIn_n)))))
set_option maxRecDepth 20000 in
set_option maxHeartbeats 4000000 in
theorem gl_s_X5_hasKindA : GoodIn lw_tbl u_s_X5_hasKindA := goodIn_ca (z_gr2 gs_all _ [(6, 32), (1, 37)] rfl) (goodIn_app ig_X5 (goodIn_n))
set_option maxRecDepth 20000 in
set_option maxHeartbeats 4000000 in
theorem gl_s_X1_readKind3 : GoodIn lw_tbl u_s_X1_readKind3 := goodIn_ca (z_gr2 gs_all _ [(14, 31), (0, 52), (6, 33), (6, 34), (6, 35), (0, 1), (3, 19), (2, 22), (14, 32), (2, 54), (2, 55), (0, 27), (1, 30), (0, 28), (0, 29), (1, 58), (0, 12), (0, 13)] rfl) (goodIn_app ig_X1 (goodIn_app gl_s_X10_numberBehind_1 (goodIn_app gl_s_X5_hasKindA (goodIn_app gl_s_X10_next3 (goodIn_app gl_s_X10_fail (goodIn_n))))))
set_option maxRecDepth 20000 in
set_option maxHeartbeats 4000000 in
theorem gl_s_X10_numberBehind_2 : GoodIn lw_tbl u_s_X10_numberBehind_2 := goodIn_ca (z_gr2 gs_all _ [(6, 30), (0, 57), (0, 37), (0, 41), (0, 9), (0, 10), (0, 11), (0, 1), (1, 24), (1, 25), (6, 31), (2, 42), (2, 43)] rfl) (goodIn_app ig_X10 (goodIn_app gl_s_X10_byteAt4 (goodIn_app gl_s_X10_isDigit3 (goodIn_app gl_s_X10_numberFrom3 (goodIn_n)))))
set_option maxRecDepth 20000 in
set_option maxHeartbeats 4000000 in
theorem gl_s_X1_readSieve3 : GoodIn lw_tbl u_s_X1_readSieve3 := goodIn_ca (z_gr2 gs_all _ [(14, 33), (0, 52), (6, 33), (6, 34), (6, 35), (0, 1), (3, 20), (1, 30), (0, 28), (0, 29), (1, 58), (0, 12), (0, 13)] rfl) (goodIn_app ig_X1 (goodIn_app gl_s_X10_numberBehind_2 (goodIn_app gl_s_X10_next3 (goodIn_app gl_s_X10_fail (goodIn_n)))))
set_option maxRecDepth 20000 in
set_option maxHeartbeats 4000000 in
theorem gl_s_X1_passSign_58 : GoodIn lw_tbl u_s_X1_passSign_58 := goodIn_ca (z_gr2 gs_all _ [(6, 36), (0, 52), (4, 14), (1, 30), (0, 28), (0, 29), (0, 1), (1, 58), (0, 12), (0, 13)] rfl) (goodIn_app ig_X1 (goodIn_app ig_X10 (goodIn_app gl_s_X10_next3 (goodIn_app gl_s_X10_fail (goodIn_n)))))
set_option maxRecDepth 20000 in
set_option maxHeartbeats 4000000 in
theorem gl_s_X10_wordIn3 : GoodIn lw_tbl u_s_X10_wordIn3 := goodIn_ca (z_gr2 gs_all _ [(5, 38), (0, 57), (0, 41), (5, 39), (5, 40), (5, 41), (1, 46), (0, 37), (5, 42), (5, 43), (5, 44), (0, 9), (0, 10), (0, 11), (0, 1)] rfl) (goodIn_app ig_X10 (goodIn_app gl_s_J0_length_8abf5 (goodIn_app gl_s_J0_charAt_5068e (goodIn_app gl_s_X10_byteAt4 (goodIn_n)))))
set_option maxRecDepth 20000 in
set_option maxHeartbeats 4000000 in
theorem gl_s_X5_add : GoodIn lw_tbl u_s_X5_add := goodIn_ca (z_gr2 gs_all _ [(14, 34), (2, 16)] rfl) (goodIn_app ig_X5 (goodIn_n))
set_option maxRecDepth 20000 in
set_option maxHeartbeats 4000000 in
theorem gl_s_X1_readPart3 : GoodIn lw_tbl u_s_X1_readPart3 := goodIn_ca (z_gr2 gs_all _ [(14, 35), (0, 52), (14, 36), (1, 26), (1, 27), (0, 1), (3, 21), (1, 30), (0, 28), (0, 29), (6, 37), (14, 37), (14, 38), (2, 42), (2, 43), (2, 22), (3, 18), (3, 19), (3, 20), (14, 39), (14, 40), (14, 41), (0, 27), (1, 58), (0, 12), (0, 13)] rfl) (goodIn_app ig_X1 (goodIn_app ig_X10 (goodIn_app gl_s_X10_wordIn3 (goodIn_app gl_s_X10_next3 (goodIn_app gl_s_X10_numberFrom3 (goodIn_app gl_s_X5_add (goodIn_app gl_s_X10_fail (goodIn_n))))))))
set_option maxRecDepth 20000 in
set_option maxHeartbeats 4000000 in
theorem gl_s_X1_readFind3 : GoodIn lw_tbl u_s_X1_readFind3 := goodIn_ca (z_gr2 gs_all _ [(14, 42), (14, 43), (14, 44), (14, 45), (2, 21), (14, 46), (14, 47), (14, 48), (6, 38), (6, 39), (6, 40), (3, 21), (14, 49), (14, 50), (14, 51), (0, 52), (4, 14), (1, 30), (0, 28), (0, 29), (0, 1)] rfl) (goodIn_app ig_X1 (goodIn_app ig_X10 (goodIn_app gl_s_X1_readKind3 (goodIn_app gl_s_X1_readSieve3 (goodIn_app gl_s_X1_passSign_58 (goodIn_app gl_s_X1_readPart3 (goodIn_app gl_s_X10_next3 (goodIn_n))))))))
set_option maxRecDepth 20000 in
set_option maxHeartbeats 4000000 in
theorem gl_s_X1_passSign_59 : GoodIn lw_tbl u_s_X1_passSign_59 := goodIn_ca (z_gr2 gs_all _ [(6, 36), (0, 52), (4, 14), (1, 30), (0, 28), (0, 29), (0, 1), (1, 58), (0, 12), (0, 13)] rfl) (goodIn_app ig_X1 (goodIn_app ig_X10 (goodIn_app gl_s_X10_next3 (goodIn_app gl_s_X10_fail (goodIn_n)))))
set_option maxRecDepth 20000 in
set_option maxHeartbeats 4000000 in
theorem gl_s_X1_read4 : GoodIn lw_tbl u_s_X1_read4 := goodIn_ca (z_gr2 gs_all _ [(14, 52), (3, 18), (2, 22), (14, 53), (14, 54), (14, 55), (0, 27), (0, 52), (14, 56), (5, 50), (5, 51), (0, 1), (14, 57), (14, 58), (14, 59), (2, 21), (6, 37), (6, 38), (6, 39), (6, 40)] rfl) (goodIn_app ig_X1 (goodIn_app ig_X10 (goodIn_app gl_s_X5_clear (goodIn_app gl_s_X10_open3 (goodIn_app gl_s_X1_readFind3 (goodIn_app gl_s_X1_passSign_59 (goodIn_n)))))))
set_option maxRecDepth 20000 in
set_option maxHeartbeats 4000000 in
theorem gl_s_X0_writeK : GoodIn lw_tbl u_s_X0_writeK := goodIn_ca (z_gr2 gs_all _ [(15, 0), (15, 1), (6, 41), (6, 42), (0, 8), (4, 51), (2, 9), (4, 52), (4, 53), (4, 54)] rfl) (goodIn_app ig_X0 (goodIn_app gl_s_X0_isFull2 (goodIn_n)))
set_option maxRecDepth 20000 in
set_option maxHeartbeats 4000000 in
theorem gl_s_X11_findsK : GoodIn lw_tbl u_s_X11_findsK := goodIn_ca (z_gr2 gs_all _ [(15, 2), (1, 36), (5, 52), (5, 53), (5, 54), (0, 1), (0, 7), (0, 14), (0, 15), (0, 16), (0, 8), (15, 3), (6, 41), (6, 42), (5, 2), (1, 31), (15, 4), (15, 5), (15, 6), (2, 21), (4, 15), (4, 16), (4, 17)] rfl) (goodIn_app ig_X11 (goodIn_app ig_X0 (goodIn_app gl_s_X10_hasFedA (goodIn_app gl_s_X0_hasLayerA (goodIn_app gl_s_X0_isFull2 (goodIn_app gl_s_X1_read4 (goodIn_app gl_s_X0_writeK (goodIn_n))))))))
set_option maxRecDepth 20000 in
set_option maxHeartbeats 4000000 in
theorem gl_s_X12_isLayerA : GoodIn lw_tbl u_s_X12_isLayerA := goodIn_ca (z_gr2 gs_all _ [(6, 43), (1, 4)] rfl) (goodIn_app ig_X12 (goodIn_n))
set_option maxRecDepth 20000 in
set_option maxHeartbeats 4000000 in
theorem gl_s_X12_wordAt3 : GoodIn lw_tbl u_s_X12_wordAt3 := goodIn_ca (z_gr2 gs_all _ [(5, 55), (3, 35), (0, 23)] rfl) (goodIn_app ig_X12 (goodIn_n))
set_option maxRecDepth 20000 in
set_option maxHeartbeats 4000000 in
theorem gl_s_X12_digits3 : GoodIn lw_tbl u_s_X12_digits3 := goodIn_ca (z_gr2 gs_all _ [(5, 56), (0, 35), (0, 40), (2, 46), (2, 47), (2, 48), (0, 0), (2, 49), (0, 23)] rfl) (goodIn_app ig_X12 (goodIn_app gl_s_X12_isDigit (goodIn_n)))
set_option maxRecDepth 20000 in
set_option maxHeartbeats 4000000 in
theorem gl_s_X12_signOf3 : GoodIn lw_tbl u_s_X12_signOf3 := goodIn_ca (z_gr2 gs_all _ [(5, 57), (0, 40), (5, 58), (5, 59), (6, 0), (0, 0)] rfl) (goodIn_app ig_X12 (goodIn_app gl_s_X12_isAt (goodIn_n)))
set_option maxRecDepth 20000 in
set_option maxHeartbeats 4000000 in
theorem gl_s_X12_take3 : GoodIn lw_tbl u_s_X12_take3 := goodIn_ca (z_gr2 gs_all _ [(6, 1), (0, 40), (1, 3), (1, 54), (6, 2), (6, 3), (6, 4), (0, 0), (6, 5), (6, 6), (6, 7), (0, 35), (0, 36), (2, 46), (2, 47), (2, 48), (6, 8), (6, 9), (6, 10), (0, 23), (6, 11), (6, 12), (6, 13)] rfl) (goodIn_app ig_X12 (goodIn_app gl_s_X12_isSmall (goodIn_app gl_s_X12_wordAt3 (goodIn_app gl_s_X12_isDigit (goodIn_app gl_s_X12_digits3 (goodIn_app gl_s_X12_signOf3 (goodIn_n)))))))
set_option maxRecDepth 20000 in
set_option maxHeartbeats 4000000 in
theorem gl_s_X12_begins3 : GoodIn lw_tbl u_s_X12_begins3 := goodIn_ca (z_gr2 gs_all _ [(6, 14), (1, 3), (1, 45), (2, 50), (1, 42), (0, 40), (0, 44), (0, 45), (0, 46), (0, 0)] rfl) (goodIn_app ig_X12 (goodIn_app gl_s_X12_take3 (goodIn_n)))
set_option maxRecDepth 20000 in
set_option maxHeartbeats 4000000 in
theorem gl_s_X12_isKindA : GoodIn lw_tbl u_s_X12_isKindA := goodIn_ca (z_gr2 gs_all _ [(6, 44), (1, 5)] rfl) (goodIn_app ig_X12 (goodIn_n))
set_option maxRecDepth 20000 in
set_option maxHeartbeats 4000000 in
theorem gl_s_X12_isSign3 : GoodIn lw_tbl u_s_X12_isSign3 := goodIn_ca (z_gr2 gs_all _ [(6, 15), (0, 36), (0, 35)] rfl) (goodIn_app ig_X12 (goodIn_n))
set_option maxRecDepth 20000 in
set_option maxHeartbeats 4000000 in
theorem gl_s_X12_findRead3 : GoodIn lw_tbl u_s_X12_findRead3 := goodIn_ca (z_gr2 gs_all _ [(15, 7), (0, 36), (0, 35), (4, 18), (4, 19), (4, 20), (0, 0), (0, 5), (0, 44), (0, 45), (0, 46), (1, 55), (1, 56), (1, 57), (0, 47), (0, 48), (0, 49), (2, 26)] rfl) (goodIn_app ig_X12 (goodIn_app gl_s_X12_isKindA (goodIn_app gl_s_X12_take3 (goodIn_app gl_s_X12_isSign3 (goodIn_app gl_s_X12_wrong (goodIn_n))))))
set_option maxRecDepth 20000 in
set_option maxHeartbeats 4000000 in
theorem gl_s_X12_findsRead3 : GoodIn lw_tbl u_s_X12_findsRead3 := goodIn_ca (z_gr2 gs_all _ [(15, 8), (15, 9), (15, 10), (15, 11), (0, 0), (0, 36), (1, 55), (1, 56), (1, 57), (0, 44), (0, 45), (0, 46), (0, 47), (0, 48), (0, 49), (2, 26), (0, 5)] rfl) (goodIn_app ig_X12 (goodIn_app gl_s_X12_findRead3 (goodIn_app gl_s_X12_isSign3 (goodIn_app gl_s_X12_take3 (goodIn_app gl_s_X12_wrong (goodIn_n))))))
set_option maxRecDepth 20000 in
set_option maxHeartbeats 4000000 in
theorem gl_s_X12_findsK : GoodIn lw_tbl u_s_X12_findsK := goodIn_ca (z_gr2 gs_all _ [(15, 12), (0, 3), (1, 45), (0, 17), (0, 18), (0, 19), (0, 0), (0, 5), (6, 25), (6, 26), (6, 27), (15, 13), (15, 14), (15, 15), (0, 32), (0, 33)] rfl) (goodIn_app ig_X12 (goodIn_app gl_s_X12_isLayerA (goodIn_app gl_s_X12_begins3 (goodIn_app gl_s_X12_findsRead3 (goodIn_n)))))
set_option maxRecDepth 20000 in
set_option maxHeartbeats 4000000 in
theorem gl_s_X11_fault : GoodIn lw_tbl u_s_X11_fault := goodIn_ca (z_gr2 gs_all _ [(15, 16), (1, 36), (15, 17), (15, 18)] rfl) (goodIn_app ig_X11 (goodIn_app ig_X10 (goodIn_n)))
set_option maxRecDepth 20000 in
set_option maxHeartbeats 4000000 in
theorem gl_s_X12_fault : GoodIn lw_tbl u_s_X12_fault := goodIn_ca (z_gr2 gs_all _ [(15, 19), (0, 3), (1, 42), (2, 50)] rfl) (goodIn_app ig_X12 (goodIn_n))
set_option maxRecDepth 20000 in
set_option maxHeartbeats 4000000 in
theorem gl_s_X11_layerA : GoodIn lw_tbl u_s_X11_layerA := goodIn_ca (z_gr2 gs_all _ [(15, 20), (0, 7), (6, 45)] rfl) (goodIn_app ig_X11 (goodIn_app ig_X0 (goodIn_n)))
set_option maxRecDepth 20000 in
set_option maxHeartbeats 4000000 in
theorem gl_s_X12_layerA : GoodIn lw_tbl u_s_X12_layerA := goodIn_ca (z_gr2 gs_all _ [(15, 21), (0, 3), (1, 4)] rfl) (goodIn_app ig_X12 (goodIn_n))
set_option maxRecDepth 20000 in
set_option maxHeartbeats 4000000 in
theorem gl_s_X11_noteK : GoodIn lw_tbl u_s_X11_noteK := goodIn_ca (z_gr2 gs_all _ [(15, 22), (0, 7), (0, 14), (0, 15), (0, 16), (0, 8), (4, 15), (4, 16), (4, 17)] rfl) (goodIn_app ig_X11 (goodIn_app gl_s_X0_hasLayerA (goodIn_app gl_s_X0_writeK (goodIn_n))))
set_option maxRecDepth 20000 in
set_option maxHeartbeats 4000000 in
theorem gl_s_X12_noteK : GoodIn lw_tbl u_s_X12_noteK := goodIn_ca (z_gr2 gs_all _ [(15, 23), (0, 3), (0, 5), (0, 17), (0, 18), (0, 19), (0, 0), (0, 32), (0, 33), (0, 54), (2, 25)] rfl) (goodIn_app ig_X12 (goodIn_app gl_s_X12_isLayerA (goodIn_n)))
set_option maxRecDepth 20000 in
set_option maxHeartbeats 4000000 in
theorem gl_s_X11_strikeK : GoodIn lw_tbl u_s_X11_strikeK := goodIn_ca (z_gr2 gs_all _ [(15, 24), (0, 7), (1, 31), (4, 15), (4, 16), (4, 17), (0, 8)] rfl) (goodIn_app ig_X11 (goodIn_app ig_X0 (goodIn_app gl_s_X0_writeK (goodIn_n))))
set_option maxRecDepth 20000 in
set_option maxHeartbeats 4000000 in
theorem gl_s_X12_strikeK : GoodIn lw_tbl u_s_X12_strikeK := goodIn_ca (z_gr2 gs_all _ [(15, 25), (0, 3), (0, 5), (0, 32), (0, 33)] rfl) (goodIn_app ig_X12 (goodIn_n))
set_option maxRecDepth 20000 in
set_option maxHeartbeats 4000000 in
theorem gl_s_X0_hasFirstA : GoodIn lw_tbl u_s_X0_hasFirstA := goodIn_ca (z_gr2 gs_all _ [(15, 26), (2, 9)] rfl) (goodIn_app ig_X0 (goodIn_n))
set_option maxRecDepth 20000 in
set_option maxHeartbeats 4000000 in
theorem gl_s_X4_countsK : GoodIn lw_tbl u_s_X4_countsK := goodIn_ca (z_gr2 gs_all _ [(6, 46), (0, 50), (2, 10), (0, 42), (6, 47)] rfl) (goodIn_app ig_X4 (goodIn_app ig_X0 (goodIn_n)))
set_option maxRecDepth 20000 in
set_option maxHeartbeats 4000000 in
theorem gl_s_X4_findStruckK : GoodIn lw_tbl u_s_X4_findStruckK := goodIn_ca (z_gr2 gs_all _ [(15, 27), (0, 50), (1, 59), (2, 0), (2, 1), (0, 6), (0, 42), (2, 2), (2, 10)] rfl) (goodIn_app ig_X4 (goodIn_app ig_X0 (goodIn_app gl_s_X4_countsK (goodIn_n))))
set_option maxRecDepth 20000 in
set_option maxHeartbeats 4000000 in
theorem gl_s_X4_joinK : GoodIn lw_tbl u_s_X4_joinK := goodIn_ca (z_gr2 gs_all _ [(15, 28), (4, 21), (1, 1), (0, 34), (1, 2), (2, 56), (1, 28), (1, 29), (0, 20), (0, 51)] rfl) (goodIn_app ig_X4 (goodIn_n))
set_option maxRecDepth 20000 in
set_option maxHeartbeats 4000000 in
theorem gl_s_X4_joinBedsK : GoodIn lw_tbl u_s_X4_joinBedsK := goodIn_ca (z_gr2 gs_all _ [(15, 29), (0, 20), (0, 50), (1, 59), (2, 0), (2, 1), (0, 6), (0, 51), (0, 42), (2, 2), (4, 22), (15, 30), (15, 31), (15, 32)] rfl) (goodIn_app ig_X4 (goodIn_app ig_X0 (goodIn_app gl_s_X4_countsK (goodIn_app gl_s_X4_joinK (goodIn_n)))))
