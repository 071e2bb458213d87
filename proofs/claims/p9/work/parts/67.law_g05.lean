set_option maxRecDepth 20000 in
set_option maxHeartbeats 4000000 in
theorem gl_s_X12_done : GoodIn lw_tbl u_s_X12_done := goodIn_ca (z_gr2 gs_all _ [(15, 4), (3, 3), (4, 19), (3, 59), (4, 18)] rfl) (goodIn_app ig_X12 (goodIn_n))
set_option maxRecDepth 20000 in
set_option maxHeartbeats 4000000 in
theorem gl_s_X12_bindN : GoodIn lw_tbl u_s_X12_bindN := goodIn_ca (z_gr2 gs_all _ [(15, 5), (3, 13), (3, 57), (6, 26), (6, 27), (0, 0), (3, 58), (1, 34), (6, 28), (6, 29), (6, 30), (4, 20), (4, 21), (4, 22), (2, 12)] rfl) (goodIn_app ig_X12 (goodIn_app gl_s_X12_weightR (goodIn_app gl_s_X12_drop (goodIn_app gl_s_X12_done (goodIn_n)))))
set_option maxRecDepth 20000 in
set_option maxHeartbeats 4000000 in
theorem gl_s_X12_closesN : GoodIn lw_tbl u_s_X12_closesN := goodIn_ca (z_gr2 gs_all _ [(15, 6), (4, 23), (4, 24), (4, 25), (4, 26), (0, 0), (3, 13), (4, 0), (3, 14), (0, 46), (0, 47), (0, 48)] rfl) (goodIn_app ig_X12 (goodIn_app gl_s_X12_bindN (goodIn_app gl_s_X12_takeR (goodIn_n))))
set_option maxRecDepth 20000 in
set_option maxHeartbeats 4000000 in
theorem gl_s_X12_grownN : GoodIn lw_tbl u_s_X12_grownN := goodIn_ca (z_gr2 gs_all _ [(15, 7), (6, 31), (3, 1), (1, 34), (2, 12), (3, 2), (2, 13), (0, 59), (1, 0), (1, 1), (0, 0)] rfl) (goodIn_app ig_X12 (goodIn_app gl_s_X12_wrong (goodIn_n)))
set_option maxRecDepth 20000 in
set_option maxHeartbeats 4000000 in
theorem gl_s_X12_waitFor : GoodIn lw_tbl u_s_X12_waitFor := goodIn_ca (z_gr2 gs_all _ [(15, 8), (3, 57), (3, 13), (3, 58)] rfl) (goodIn_app ig_X12 (goodIn_n))
set_option maxRecDepth 20000 in
set_option maxHeartbeats 4000000 in
theorem gl_s_X12_joinsN : GoodIn lw_tbl u_s_X12_joinsN := goodIn_ca (z_gr2 gs_all _ [(15, 9), (4, 27), (4, 28), (4, 29), (0, 0), (6, 26), (6, 27), (4, 24), (4, 25), (4, 26), (6, 32), (6, 33), (6, 34), (3, 14), (4, 30), (4, 31), (0, 46), (0, 47), (0, 48), (0, 59), (1, 0), (1, 1)] rfl) (goodIn_app ig_X12 (goodIn_app gl_s_X12_grownN (goodIn_app gl_s_X12_weightR (goodIn_app gl_s_X12_bindN (goodIn_app gl_s_X12_waitFor (goodIn_app gl_s_X12_takeR (goodIn_app gl_s_X12_wrong (goodIn_n))))))))
set_option maxRecDepth 20000 in
set_option maxHeartbeats 4000000 in
theorem gl_s_X12_nameReadN : GoodIn lw_tbl u_s_X12_nameReadN := goodIn_ca (z_gr2 gs_all _ [(15, 10), (0, 34), (0, 59), (1, 0), (1, 1), (0, 0), (0, 38), (4, 27), (4, 28), (4, 29), (2, 13), (0, 46), (0, 47), (0, 48), (4, 20), (4, 21), (4, 22)] rfl) (goodIn_app ig_X12 (goodIn_app gl_s_X12_wrong (goodIn_app gl_s_X12_grownN (goodIn_app gl_s_X12_takeR (goodIn_app gl_s_X12_done (goodIn_n))))))
set_option maxRecDepth 20000 in
set_option maxHeartbeats 4000000 in
theorem gl_s_X12_valueReadN : GoodIn lw_tbl u_s_X12_valueReadN := goodIn_ca (z_gr2 gs_all _ [(15, 11), (2, 22), (2, 23), (2, 24), (0, 0), (4, 23), (4, 0), (3, 14), (6, 32), (6, 33), (6, 34), (4, 30), (0, 46), (0, 47), (0, 48), (0, 59), (1, 0), (1, 1), (0, 34), (4, 31), (15, 12), (15, 13), (15, 14), (0, 38), (4, 27), (4, 28), (4, 29), (1, 34), (6, 28), (6, 29), (6, 30), (4, 20), (4, 21), (4, 22), (4, 16)] rfl) (goodIn_app ig_X12 (goodIn_app gl_s_X12_isSignR (goodIn_app gl_s_X12_waitFor (goodIn_app gl_s_X12_takeR (goodIn_app gl_s_X12_wrong (goodIn_app gl_s_X12_nameReadN (goodIn_app gl_s_X12_grownN (goodIn_app gl_s_X12_drop (goodIn_app gl_s_X12_done (goodIn_n))))))))))
set_option maxRecDepth 20000 in
set_option maxHeartbeats 4000000 in
theorem gl_s_X12_expressionN : GoodIn lw_tbl u_s_X12_expressionN := goodIn_ca (z_gr2 gs_all _ [(15, 15), (3, 13), (4, 18), (4, 23), (3, 14), (4, 31), (4, 30), (15, 16), (15, 17), (15, 18), (0, 0), (2, 22), (2, 23), (2, 24), (4, 24), (4, 25), (4, 26), (15, 19), (15, 20), (15, 21), (0, 59), (1, 0), (1, 1), (15, 22), (15, 23), (15, 24), (15, 25), (15, 26), (15, 27)] rfl) (goodIn_app ig_X12 (goodIn_app gl_s_X12_signNowR (goodIn_app gl_s_X12_isSignR (goodIn_app gl_s_X12_bindN (goodIn_app gl_s_X12_closesN (goodIn_app gl_s_X12_wrong (goodIn_app gl_s_X12_joinsN (goodIn_app gl_s_X12_valueReadN (goodIn_n)))))))))
set_option maxRecDepth 20000 in
set_option maxHeartbeats 4000000 in
theorem gl_s_X12_causeReadN : GoodIn lw_tbl u_s_X12_causeReadN := goodIn_ca (z_gr2 gs_all _ [(15, 28), (0, 34), (0, 59), (1, 0), (1, 1), (0, 0), (0, 38), (4, 17), (0, 46), (0, 47), (0, 48), (15, 29), (15, 30), (15, 31), (3, 56), (0, 45), (2, 21), (2, 22), (2, 23), (2, 24), (2, 59), (4, 19), (15, 32), (15, 33), (15, 34), (3, 0), (3, 55), (0, 21)] rfl) (goodIn_app ig_X12 (goodIn_app gl_s_X12_wrong (goodIn_app gl_s_X12_takeR (goodIn_app gl_s_X12_isToldR (goodIn_app gl_s_X12_isSignR (goodIn_app gl_s_X12_expressionN (goodIn_n)))))))
set_option maxRecDepth 20000 in
set_option maxHeartbeats 4000000 in
theorem gl_s_X12_rulesN : GoodIn lw_tbl u_s_X12_rulesN := goodIn_ca (z_gr2 gs_all _ [(15, 35), (0, 4), (2, 14), (6, 35), (6, 36), (6, 37), (0, 0), (4, 17), (6, 31), (4, 19), (0, 34), (3, 15), (6, 38), (3, 1), (1, 34), (2, 12), (3, 2), (2, 13), (3, 3), (2, 59), (3, 0), (15, 36), (15, 37), (15, 38)] rfl) (goodIn_app ig_X12 (goodIn_app gl_s_X12_beginsR (goodIn_app gl_s_X12_causeReadN (goodIn_n))))
set_option maxRecDepth 20000 in
set_option maxHeartbeats 4000000 in
theorem gl_s_X0_hasLayerA : GoodIn lw_tbl u_s_X0_hasLayerA := goodIn_ca (z_gr2 gs_all _ [(6, 39), (3, 32)] rfl) (goodIn_app ig_X0 (goodIn_n))
set_option maxRecDepth 20000 in
set_option maxHeartbeats 4000000 in
theorem gl_s_X0_isFull2 : GoodIn lw_tbl u_s_X0_isFull2 := goodIn_ca (z_gr2 gs_all _ [(15, 39), (2, 32)] rfl) (goodIn_app ig_X0 (goodIn_n))
set_option maxRecDepth 20000 in
set_option maxHeartbeats 4000000 in
theorem gl_s_X5_clearX : GoodIn lw_tbl u_s_X5_clearX := goodIn_ca (z_gr2 gs_all _ [(15, 40), (1, 55)] rfl) (goodIn_app ig_X5 (goodIn_n))
set_option maxRecDepth 20000 in
set_option maxHeartbeats 4000000 in
theorem gl_s_X10_passSign3 : GoodIn lw_tbl u_s_X10_passSign3 := goodIn_ca (z_gr2 gs_all _ [(5, 34), (0, 39), (0, 29), (0, 30), (0, 31), (0, 1), (1, 48)] rfl) (goodIn_app ig_X10 (goodIn_app gl_s_X10_byteAt4 (goodIn_n)))
set_option maxRecDepth 20000 in
set_option maxHeartbeats 4000000 in
theorem gl_s_X10_next3 : GoodIn lw_tbl u_s_X10_next3 := goodIn_ca (z_gr2 gs_all _ [(5, 35), (0, 39), (0, 51), (0, 40), (1, 48), (0, 29), (0, 30), (0, 31), (0, 1), (4, 1), (4, 2), (1, 4), (5, 36), (5, 37), (5, 38), (1, 47), (5, 39), (5, 40), (5, 41), (0, 41), (2, 15), (2, 16), (5, 42), (5, 43), (5, 44)] rfl) (goodIn_app ig_X10 (goodIn_app gl_s_X10_byteAt4 (goodIn_app gl_s_X10_isLetter3 (goodIn_app gl_s_X10_passLetters3 (goodIn_app gl_s_X10_passDigits3 (goodIn_app gl_s_X10_isDigit3 (goodIn_app gl_s_X10_passSign3 (goodIn_n))))))))
set_option maxRecDepth 20000 in
set_option maxHeartbeats 4000000 in
theorem gl_s_X10_open3 : GoodIn lw_tbl u_s_X10_open3 := goodIn_ca (z_gr2 gs_all _ [(5, 45), (0, 51), (1, 47), (1, 23), (0, 39), (2, 30), (2, 31), (5, 46), (0, 32), (0, 33), (0, 1)] rfl) (goodIn_app ig_X10 (goodIn_app gl_s_X10_next3 (goodIn_n)))
set_option maxRecDepth 20000 in
set_option maxHeartbeats 4000000 in
theorem gl_s_X10_numberBehind_1 : GoodIn lw_tbl u_s_X10_numberBehind_1 := goodIn_ca (z_gr2 gs_all _ [(6, 40), (1, 4), (0, 41), (0, 40), (0, 29), (0, 30), (0, 31), (0, 1), (2, 15), (2, 16), (6, 41), (3, 8), (3, 9)] rfl) (goodIn_app ig_X10 (goodIn_app gl_s_X10_byteAt4 (goodIn_app gl_s_X10_isDigit3 (goodIn_app gl_s_X10_numberFrom3 (goodIn_n)))))
set_option maxRecDepth 20000 in
set_option maxHeartbeats 4000000 in
theorem gl_s_X5_hasKindA : GoodIn lw_tbl u_s_X5_hasKindA := goodIn_ca (z_gr2 gs_all _ [(6, 42), (1, 25)] rfl) (goodIn_app ig_X5 (goodIn_n))
set_option maxRecDepth 20000 in
set_option maxHeartbeats 4000000 in
theorem gl_s_X1_readKindX : GoodIn lw_tbl u_s_X1_readKindX := goodIn_ca (z_gr2 gs_all _ [(15, 41), (0, 54), (6, 43), (6, 44), (6, 45), (0, 1), (3, 42), (2, 45), (15, 42), (3, 16), (3, 17), (0, 18), (1, 39), (0, 32), (0, 33), (2, 25), (0, 10), (0, 11)] rfl) (goodIn_app ig_X1 (goodIn_app gl_s_X10_numberBehind_1 (goodIn_app gl_s_X5_hasKindA (goodIn_app gl_s_X10_next3 (goodIn_app gl_s_X10_fail (goodIn_n))))))
set_option maxRecDepth 20000 in
set_option maxHeartbeats 4000000 in
theorem gl_s_X10_numberBehind_2 : GoodIn lw_tbl u_s_X10_numberBehind_2 := goodIn_ca (z_gr2 gs_all _ [(6, 40), (1, 4), (0, 41), (0, 40), (0, 29), (0, 30), (0, 31), (0, 1), (2, 15), (2, 16), (6, 41), (3, 8), (3, 9)] rfl) (goodIn_app ig_X10 (goodIn_app gl_s_X10_byteAt4 (goodIn_app gl_s_X10_isDigit3 (goodIn_app gl_s_X10_numberFrom3 (goodIn_n)))))
set_option maxRecDepth 20000 in
set_option maxHeartbeats 4000000 in
theorem gl_s_X1_readSieveX : GoodIn lw_tbl u_s_X1_readSieveX := goodIn_ca (z_gr2 gs_all _ [(15, 43), (0, 54), (6, 43), (6, 44), (6, 45), (0, 1), (3, 43), (1, 39), (0, 32), (0, 33), (2, 25), (0, 10), (0, 11)] rfl) (goodIn_app ig_X1 (goodIn_app gl_s_X10_numberBehind_2 (goodIn_app gl_s_X10_next3 (goodIn_app gl_s_X10_fail (goodIn_n)))))
set_option maxRecDepth 20000 in
set_option maxHeartbeats 4000000 in
theorem gl_s_X1_passSignX_58 : GoodIn lw_tbl u_s_X1_passSignX_58 := goodIn_ca (z_gr2 gs_all _ [(6, 46), (0, 54), (4, 32), (1, 39), (0, 32), (0, 33), (0, 1), (2, 25), (0, 10), (0, 11)] rfl) (goodIn_app ig_X1 (goodIn_app ig_X10 (goodIn_app gl_s_X10_next3 (goodIn_app gl_s_X10_fail (goodIn_n)))))
set_option maxRecDepth 20000 in
set_option maxHeartbeats 4000000 in
theorem gl_s_X10_wordIn3 : GoodIn lw_tbl u_s_X10_wordIn3 := goodIn_ca (z_gr2 gs_all _ [(5, 50), (1, 4), (0, 40), (5, 51), (5, 52), (5, 53), (2, 17), (0, 41), (5, 54), (5, 55), (5, 56), (0, 29), (0, 30), (0, 31), (0, 1)] rfl) (goodIn_app ig_X10 (goodIn_app gl_s_J0_length_8abf5 (goodIn_app gl_s_J0_charAt_5068e (goodIn_app gl_s_X10_byteAt4 (goodIn_n)))))
set_option maxRecDepth 20000 in
set_option maxHeartbeats 4000000 in
theorem gl_s_X5_addX : GoodIn lw_tbl u_s_X5_addX := goodIn_ca (z_gr2 gs_all _ [(15, 44), (1, 55)] rfl) (goodIn_app ig_X5 (goodIn_n))
set_option maxRecDepth 20000 in
set_option maxHeartbeats 4000000 in
theorem gl_s_X1_readPartX : GoodIn lw_tbl u_s_X1_readPartX := goodIn_ca (z_gr2 gs_all _ [(15, 45), (0, 54), (15, 46), (1, 12), (1, 13), (0, 1), (3, 44), (1, 39), (0, 32), (0, 33), (6, 47), (15, 47), (15, 48), (3, 8), (3, 9), (2, 45), (3, 41), (3, 42), (3, 43), (15, 49), (15, 50), (15, 51), (0, 18), (2, 25), (0, 10), (0, 11)] rfl) (goodIn_app ig_X1 (goodIn_app ig_X10 (goodIn_app gl_s_X10_wordIn3 (goodIn_app gl_s_X10_next3 (goodIn_app gl_s_X10_numberFrom3 (goodIn_app gl_s_X5_addX (goodIn_app gl_s_X10_fail (goodIn_n))))))))
set_option maxRecDepth 20000 in
set_option maxHeartbeats 4000000 in
theorem gl_s_X1_readFindX : GoodIn lw_tbl u_s_X1_readFindX := goodIn_ca (z_gr2 gs_all _ [(15, 52), (15, 53), (15, 54), (15, 55), (2, 44), (15, 56), (15, 57), (15, 58), (6, 48), (6, 49), (6, 50), (3, 44), (15, 59), (16, 0), (16, 1), (0, 54), (4, 32), (1, 39), (0, 32), (0, 33), (0, 1)] rfl) (goodIn_app ig_X1 (goodIn_app ig_X10 (goodIn_app gl_s_X1_readKindX (goodIn_app gl_s_X1_readSieveX (goodIn_app gl_s_X1_passSignX_58 (goodIn_app gl_s_X1_readPartX (goodIn_app gl_s_X10_next3 (goodIn_n))))))))
set_option maxRecDepth 20000 in
set_option maxHeartbeats 4000000 in
theorem gl_s_X1_passSignX_59 : GoodIn lw_tbl u_s_X1_passSignX_59 := goodIn_ca (z_gr2 gs_all _ [(6, 46), (0, 54), (4, 32), (1, 39), (0, 32), (0, 33), (0, 1), (2, 25), (0, 10), (0, 11)] rfl) (goodIn_app ig_X1 (goodIn_app ig_X10 (goodIn_app gl_s_X10_next3 (goodIn_app gl_s_X10_fail (goodIn_n)))))
set_option maxRecDepth 20000 in
set_option maxHeartbeats 4000000 in
theorem gl_s_X1_readX : GoodIn lw_tbl u_s_X1_readX := goodIn_ca (z_gr2 gs_all _ [(16, 2), (3, 41), (2, 45), (16, 3), (16, 4), (16, 5), (0, 18), (0, 54), (16, 6), (6, 0), (6, 1), (0, 1), (16, 7), (16, 8), (16, 9), (2, 44), (6, 47), (6, 48), (6, 49), (6, 50)] rfl) (goodIn_app ig_X1 (goodIn_app ig_X10 (goodIn_app gl_s_X5_clearX (goodIn_app gl_s_X10_open3 (goodIn_app gl_s_X1_readFindX (goodIn_app gl_s_X1_passSignX_59 (goodIn_n)))))))
set_option maxRecDepth 20000 in
set_option maxHeartbeats 4000000 in
theorem gl_s_X0_writeK : GoodIn lw_tbl u_s_X0_writeK := goodIn_ca (z_gr2 gs_all _ [(16, 10), (16, 11), (6, 51), (6, 52), (0, 8), (5, 14), (2, 32), (5, 15), (5, 16), (5, 17)] rfl) (goodIn_app ig_X0 (goodIn_app gl_s_X0_isFull2 (goodIn_n)))
set_option maxRecDepth 20000 in
set_option maxHeartbeats 4000000 in
theorem gl_s_X11_findsX : GoodIn lw_tbl u_s_X11_findsX := goodIn_ca (z_gr2 gs_all _ [(16, 12), (1, 49), (6, 2), (6, 3), (6, 4), (0, 1), (0, 7), (0, 12), (0, 13), (0, 14), (0, 8), (16, 13), (6, 51), (6, 52), (5, 20), (1, 40), (16, 14), (16, 15), (16, 16), (2, 44), (4, 33), (4, 34), (4, 35)] rfl) (goodIn_app ig_X11 (goodIn_app ig_X0 (goodIn_app gl_s_X10_hasFedA (goodIn_app gl_s_X0_hasLayerA (goodIn_app gl_s_X0_isFull2 (goodIn_app gl_s_X1_readX (goodIn_app gl_s_X0_writeK (goodIn_n))))))))
set_option maxRecDepth 20000 in
set_option maxHeartbeats 4000000 in
theorem gl_s_X12_isLayerA : GoodIn lw_tbl u_s_X12_isLayerA := goodIn_ca (z_gr2 gs_all _ [(6, 53), (0, 49)] rfl) (goodIn_app ig_X12 (goodIn_n))
set_option maxRecDepth 20000 in
set_option maxHeartbeats 4000000 in
theorem gl_s_X12_wordAt3 : GoodIn lw_tbl u_s_X12_wordAt3 := goodIn_ca (z_gr2 gs_all _ [(6, 5), (3, 53), (0, 21)] rfl) (goodIn_app ig_X12 (goodIn_n))
set_option maxRecDepth 20000 in
set_option maxHeartbeats 4000000 in
theorem gl_s_X12_isAt : GoodIn lw_tbl u_s_X12_isAt := goodIn_ca (z_gr2 gs_all _ [(6, 6), (0, 58), (0, 21)] rfl) (goodIn_app ig_X12 (goodIn_n))
set_option maxRecDepth 20000 in
set_option maxHeartbeats 4000000 in
theorem gl_s_X12_signOf3 : GoodIn lw_tbl u_s_X12_signOf3 := goodIn_ca (z_gr2 gs_all _ [(6, 7), (0, 45), (6, 8), (6, 9), (6, 10), (0, 0)] rfl) (goodIn_app ig_X12 (goodIn_app gl_s_X12_isAt (goodIn_n)))
set_option maxRecDepth 20000 in
set_option maxHeartbeats 4000000 in
theorem gl_s_X12_take3 : GoodIn lw_tbl u_s_X12_take3 := goodIn_ca (z_gr2 gs_all _ [(6, 11), (0, 45), (0, 58), (2, 21), (6, 12), (6, 13), (6, 14), (0, 0), (6, 15), (6, 16), (6, 17), (0, 38), (0, 34), (4, 13), (4, 14), (4, 15), (6, 18), (6, 19), (6, 20), (0, 21), (6, 21), (6, 22), (6, 23)] rfl) (goodIn_app ig_X12 (goodIn_app gl_s_X12_isSmall (goodIn_app gl_s_X12_wordAt3 (goodIn_app gl_s_X12_isDigit (goodIn_app gl_s_X12_digits3 (goodIn_app gl_s_X12_signOf3 (goodIn_n)))))))
set_option maxRecDepth 20000 in
set_option maxHeartbeats 4000000 in
theorem gl_s_X12_begins3 : GoodIn lw_tbl u_s_X12_begins3 := goodIn_ca (z_gr2 gs_all _ [(6, 24), (0, 58), (2, 14), (3, 12), (2, 9), (0, 45), (0, 46), (0, 47), (0, 48), (0, 0)] rfl) (goodIn_app ig_X12 (goodIn_app gl_s_X12_take3 (goodIn_n)))
set_option maxRecDepth 20000 in
set_option maxHeartbeats 4000000 in
theorem gl_s_X12_isKindA : GoodIn lw_tbl u_s_X12_isKindA := goodIn_ca (z_gr2 gs_all _ [(6, 54), (0, 50)] rfl) (goodIn_app ig_X12 (goodIn_n))
set_option maxRecDepth 20000 in
set_option maxHeartbeats 4000000 in
theorem gl_s_X12_isSign3 : GoodIn lw_tbl u_s_X12_isSign3 := goodIn_ca (z_gr2 gs_all _ [(6, 25), (0, 34), (0, 38)] rfl) (goodIn_app ig_X12 (goodIn_n))
set_option maxRecDepth 20000 in
set_option maxHeartbeats 4000000 in
theorem gl_s_X12_findReadX : GoodIn lw_tbl u_s_X12_findReadX := goodIn_ca (z_gr2 gs_all _ [(16, 17), (0, 34), (0, 38), (4, 36), (4, 37), (4, 38), (0, 0), (0, 6), (0, 46), (0, 47), (0, 48), (2, 22), (2, 23), (2, 24), (0, 59), (1, 0), (1, 1), (2, 5)] rfl) (goodIn_app ig_X12 (goodIn_app gl_s_X12_isKindA (goodIn_app gl_s_X12_take3 (goodIn_app gl_s_X12_isSign3 (goodIn_app gl_s_X12_wrong (goodIn_n))))))
set_option maxRecDepth 20000 in
set_option maxHeartbeats 4000000 in
theorem gl_s_X12_findsReadX : GoodIn lw_tbl u_s_X12_findsReadX := goodIn_ca (z_gr2 gs_all _ [(16, 18), (16, 19), (16, 20), (16, 21), (0, 0), (0, 34), (2, 22), (2, 23), (2, 24), (0, 46), (0, 47), (0, 48), (0, 59), (1, 0), (1, 1), (2, 5), (0, 6)] rfl) (goodIn_app ig_X12 (goodIn_app gl_s_X12_findReadX (goodIn_app gl_s_X12_isSign3 (goodIn_app gl_s_X12_take3 (goodIn_app gl_s_X12_wrong (goodIn_n))))))
set_option maxRecDepth 20000 in
set_option maxHeartbeats 4000000 in
theorem gl_s_X12_findsX : GoodIn lw_tbl u_s_X12_findsX := goodIn_ca (z_gr2 gs_all _ [(16, 22), (0, 4), (2, 14), (0, 15), (0, 16), (0, 17), (0, 0), (0, 6), (6, 35), (6, 36), (6, 37), (16, 23), (16, 24), (16, 25), (0, 27), (0, 28)] rfl) (goodIn_app ig_X12 (goodIn_app gl_s_X12_isLayerA (goodIn_app gl_s_X12_begins3 (goodIn_app gl_s_X12_findsReadX (goodIn_n)))))
set_option maxRecDepth 20000 in
set_option maxHeartbeats 4000000 in
theorem gl_s_X11_fault : GoodIn lw_tbl u_s_X11_fault := goodIn_ca (z_gr2 gs_all _ [(16, 26), (1, 49), (16, 27), (16, 28)] rfl) (goodIn_app ig_X11 (goodIn_app ig_X10 (goodIn_n)))
set_option maxRecDepth 20000 in
set_option maxHeartbeats 4000000 in
theorem gl_s_X12_fault : GoodIn lw_tbl u_s_X12_fault := goodIn_ca (z_gr2 gs_all _ [(16, 29), (0, 4), (2, 9), (3, 12)] rfl) (goodIn_app ig_X12 (goodIn_n))
set_option maxRecDepth 20000 in
set_option maxHeartbeats 4000000 in
theorem gl_s_X11_layerA : GoodIn lw_tbl u_s_X11_layerA := goodIn_ca (z_gr2 gs_all _ [(16, 30), (0, 7), (6, 55)] rfl) (goodIn_app ig_X11 (goodIn_app ig_X0 (goodIn_n)))
set_option maxRecDepth 20000 in
set_option maxHeartbeats 4000000 in
theorem gl_s_X12_layerA : GoodIn lw_tbl u_s_X12_layerA := goodIn_ca (z_gr2 gs_all _ [(16, 31), (0, 4), (0, 49)] rfl) (goodIn_app ig_X12 (goodIn_n))
set_option maxRecDepth 20000 in
set_option maxHeartbeats 4000000 in
theorem gl_s_X11_noteK : GoodIn lw_tbl u_s_X11_noteK := goodIn_ca (z_gr2 gs_all _ [(16, 32), (0, 7), (0, 12), (0, 13), (0, 14), (0, 8), (4, 33), (4, 34), (4, 35)] rfl) (goodIn_app ig_X11 (goodIn_app gl_s_X0_hasLayerA (goodIn_app gl_s_X0_writeK (goodIn_n))))
set_option maxRecDepth 20000 in
set_option maxHeartbeats 4000000 in
theorem gl_s_X12_noteK : GoodIn lw_tbl u_s_X12_noteK := goodIn_ca (z_gr2 gs_all _ [(16, 33), (0, 4), (0, 6), (0, 15), (0, 16), (0, 17), (0, 0), (0, 27), (0, 28), (0, 55), (2, 48)] rfl) (goodIn_app ig_X12 (goodIn_app gl_s_X12_isLayerA (goodIn_n)))
set_option maxRecDepth 20000 in
set_option maxHeartbeats 4000000 in
theorem gl_s_X11_strikeK : GoodIn lw_tbl u_s_X11_strikeK := goodIn_ca (z_gr2 gs_all _ [(16, 34), (0, 7), (1, 40), (4, 33), (4, 34), (4, 35), (0, 8)] rfl) (goodIn_app ig_X11 (goodIn_app ig_X0 (goodIn_app gl_s_X0_writeK (goodIn_n))))
set_option maxRecDepth 20000 in
set_option maxHeartbeats 4000000 in
theorem gl_s_X12_strikeK : GoodIn lw_tbl u_s_X12_strikeK := goodIn_ca (z_gr2 gs_all _ [(16, 35), (0, 4), (0, 6), (0, 27), (0, 28)] rfl) (goodIn_app ig_X12 (goodIn_n))
set_option maxRecDepth 20000 in
set_option maxHeartbeats 4000000 in
theorem gl_s_X0_hasFirstA : GoodIn lw_tbl u_s_X0_hasFirstA := goodIn_ca (z_gr2 gs_all _ [(16, 36), (2, 32)] rfl) (goodIn_app ig_X0 (goodIn_n))
set_option maxRecDepth 20000 in
set_option maxHeartbeats 4000000 in
theorem gl_s_X4_countsK : GoodIn lw_tbl u_s_X4_countsK := goodIn_ca (z_gr2 gs_all _ [(6, 56), (0, 52), (2, 33), (0, 35), (6, 57)] rfl) (goodIn_app ig_X4 (goodIn_app ig_X0 (goodIn_n)))
set_option maxRecDepth 20000 in
set_option maxHeartbeats 4000000 in
theorem gl_s_X4_findStruckK : GoodIn lw_tbl u_s_X4_findStruckK := goodIn_ca (z_gr2 gs_all _ [(16, 37), (0, 52), (1, 41), (1, 42), (1, 43), (0, 5), (0, 35), (1, 44), (2, 33)] rfl) (goodIn_app ig_X4 (goodIn_app ig_X0 (goodIn_app gl_s_X4_countsK (goodIn_n))))
set_option maxRecDepth 20000 in
set_option maxHeartbeats 4000000 in
theorem gl_s_X4_joinK : GoodIn lw_tbl u_s_X4_joinK := goodIn_ca (z_gr2 gs_all _ [(16, 38), (4, 39), (0, 56), (0, 22), (0, 57), (3, 18), (1, 14), (1, 15), (0, 20), (1, 5)] rfl) (goodIn_app ig_X4 (goodIn_n))
set_option maxRecDepth 20000 in
set_option maxHeartbeats 4000000 in
theorem gl_s_X4_joinBedsK : GoodIn lw_tbl u_s_X4_joinBedsK := goodIn_ca (z_gr2 gs_all _ [(16, 39), (0, 20), (0, 52), (1, 41), (1, 42), (1, 43), (0, 5), (1, 5), (0, 35), (1, 44), (4, 40), (16, 40), (16, 41), (16, 42)] rfl) (goodIn_app ig_X4 (goodIn_app ig_X0 (goodIn_app gl_s_X4_countsK (goodIn_app gl_s_X4_joinK (goodIn_n)))))
set_option maxRecDepth 20000 in
set_option maxHeartbeats 4000000 in
theorem gl_s_X4_isLaterK : GoodIn lw_tbl u_s_X4_isLaterK := goodIn_ca (z_gr2 gs_all _ [(16, 43), (3, 33)] rfl) (goodIn_app ig_X4 (goodIn_n))
set_option maxRecDepth 20000 in
set_option maxHeartbeats 4000000 in
theorem gl_s_X4_findLaterK : GoodIn lw_tbl u_s_X4_findLaterK := goodIn_ca (z_gr2 gs_all _ [(16, 44), (0, 20), (0, 52), (2, 26), (1, 45), (1, 46), (0, 5), (3, 33), (1, 41), (1, 42), (1, 43), (1, 5), (0, 35), (1, 44), (4, 40)] rfl) (goodIn_app ig_X4 (goodIn_app ig_X0 (goodIn_app gl_s_X4_isLaterK (goodIn_app gl_s_X4_countsK (goodIn_n)))))
set_option maxRecDepth 20000 in
set_option maxHeartbeats 4000000 in
theorem gl_s_X4_hasRingK : GoodIn lw_tbl u_s_X4_hasRingK := goodIn_ca (z_gr2 gs_all _ [(16, 45), (0, 20), (2, 26), (1, 45), (1, 46), (0, 5)] rfl) (goodIn_app ig_X4 (goodIn_app gl_s_X4_isLaterK (goodIn_n)))
set_option maxRecDepth 20000 in
set_option maxHeartbeats 4000000 in
theorem gl_s_X4_raiseRankK : GoodIn lw_tbl u_s_X4_raiseRankK := goodIn_ca (z_gr2 gs_all _ [(16, 46), (0, 20), (2, 26), (1, 45), (1, 46), (0, 5), (1, 50), (3, 18), (1, 14), (0, 22), (1, 15)] rfl) (goodIn_app ig_X4 (goodIn_app gl_s_X4_isLaterK (goodIn_n)))
set_option maxRecDepth 20000 in
set_option maxHeartbeats 4000000 in
theorem gl_s_X4_setRanksK : GoodIn lw_tbl u_s_X4_setRanksK := goodIn_ca (z_gr2 gs_all _ [(16, 47), (0, 20), (16, 48), (16, 49), (16, 50), (0, 5), (1, 50)] rfl) (goodIn_app ig_X4 (goodIn_app gl_s_X4_raiseRankK (goodIn_n)))
