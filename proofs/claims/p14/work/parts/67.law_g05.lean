set_option maxRecDepth 20000 in
set_option maxHeartbeats 4000000 in
theorem gl_s_X12_bind : GoodIn lw_tbl u_s_X12_bind := goodIn_ca (z_gr2 gs_all _ [(13, 32), (2, 40), (3, 35), (6, 0), (6, 1), (0, 0), (3, 36), (1, 14), (6, 2), (6, 3), (6, 4), (4, 1), (4, 2), (4, 3), (1, 40)] rfl) (goodIn_app ig_X12 (goodIn_app gl_s_X12_weight (goodIn_app gl_s_X12_drop (goodIn_app gl_s_X12_done (goodIn_n)))))
set_option maxRecDepth 20000 in
set_option maxHeartbeats 4000000 in
theorem gl_s_X12_closes : GoodIn lw_tbl u_s_X12_closes := goodIn_ca (z_gr2 gs_all _ [(13, 33), (4, 4), (4, 5), (4, 6), (4, 7), (0, 0), (2, 40), (3, 38), (2, 41), (0, 38), (0, 39), (0, 40), (0, 41), (0, 42), (0, 43)] rfl) (goodIn_app ig_X12 (goodIn_app gl_s_X12_bind (goodIn_app gl_s_X12_take_r (goodIn_app gl_s_X12_wrong (goodIn_n)))))
set_option maxRecDepth 20000 in
set_option maxHeartbeats 4000000 in
theorem gl_s_X12_grown : GoodIn lw_tbl u_s_X12_grown := goodIn_ca (z_gr2 gs_all _ [(13, 34), (6, 5), (2, 30), (1, 14), (1, 40), (2, 31), (1, 41), (0, 41), (0, 42), (0, 43), (0, 0)] rfl) (goodIn_app ig_X12 (goodIn_app gl_s_X12_wrong (goodIn_n)))
set_option maxRecDepth 20000 in
set_option maxHeartbeats 4000000 in
theorem gl_s_X12_waitFor : GoodIn lw_tbl u_s_X12_waitFor := goodIn_ca (z_gr2 gs_all _ [(13, 35), (3, 35), (2, 40), (3, 36)] rfl) (goodIn_app ig_X12 (goodIn_n))
set_option maxRecDepth 20000 in
set_option maxHeartbeats 4000000 in
theorem gl_s_X12_joins : GoodIn lw_tbl u_s_X12_joins := goodIn_ca (z_gr2 gs_all _ [(13, 36), (4, 8), (4, 9), (4, 10), (0, 0), (6, 0), (6, 1), (4, 5), (4, 6), (4, 7), (6, 6), (6, 7), (6, 8), (2, 41), (4, 11), (4, 12), (0, 38), (0, 39), (0, 40), (0, 41), (0, 42), (0, 43)] rfl) (goodIn_app ig_X12 (goodIn_app gl_s_X12_grown (goodIn_app gl_s_X12_weight (goodIn_app gl_s_X12_bind (goodIn_app gl_s_X12_waitFor (goodIn_app gl_s_X12_take_r (goodIn_app gl_s_X12_wrong (goodIn_n))))))))
set_option maxRecDepth 20000 in
set_option maxHeartbeats 4000000 in
theorem gl_s_X12_nameRead : GoodIn lw_tbl u_s_X12_nameRead := goodIn_ca (z_gr2 gs_all _ [(13, 37), (0, 35), (0, 41), (0, 42), (0, 43), (0, 0), (0, 37), (4, 8), (4, 9), (4, 10), (1, 41), (0, 38), (0, 39), (0, 40), (4, 1), (4, 2), (4, 3)] rfl) (goodIn_app ig_X12 (goodIn_app gl_s_X12_wrong (goodIn_app gl_s_X12_grown (goodIn_app gl_s_X12_take_r (goodIn_app gl_s_X12_done (goodIn_n))))))
set_option maxRecDepth 20000 in
set_option maxHeartbeats 4000000 in
theorem gl_s_X12_valueRead : GoodIn lw_tbl u_s_X12_valueRead := goodIn_ca (z_gr2 gs_all _ [(13, 38), (1, 53), (1, 54), (1, 55), (0, 0), (4, 4), (3, 38), (2, 41), (6, 6), (6, 7), (6, 8), (4, 11), (0, 38), (0, 39), (0, 40), (0, 41), (0, 42), (0, 43), (0, 35), (4, 12), (13, 39), (13, 40), (13, 41), (0, 37), (4, 8), (4, 9), (4, 10), (1, 14), (6, 2), (6, 3), (6, 4), (4, 1), (4, 2), (4, 3), (3, 57)] rfl) (goodIn_app ig_X12 (goodIn_app gl_s_X12_isSign (goodIn_app gl_s_X12_waitFor (goodIn_app gl_s_X12_take_r (goodIn_app gl_s_X12_wrong (goodIn_app gl_s_X12_nameRead (goodIn_app gl_s_X12_grown (goodIn_app gl_s_X12_drop (goodIn_app gl_s_X12_done (goodIn_n))))))))))
set_option maxRecDepth 20000 in
set_option maxHeartbeats 4000000 in
theorem gl_s_X12_expression : GoodIn lw_tbl u_s_X12_expression := goodIn_ca (z_gr2 gs_all _ [(13, 42), (2, 40), (3, 59), (4, 4), (2, 41), (4, 12), (4, 11), (13, 43), (13, 44), (13, 45), (0, 0), (1, 53), (1, 54), (1, 55), (4, 5), (4, 6), (4, 7), (13, 46), (13, 47), (13, 48), (0, 41), (0, 42), (0, 43), (13, 49), (13, 50), (13, 51), (13, 52), (13, 53), (13, 54)] rfl) (goodIn_app ig_X12 (goodIn_app gl_s_X12_signNow (goodIn_app gl_s_X12_isSign (goodIn_app gl_s_X12_bind (goodIn_app gl_s_X12_closes (goodIn_app gl_s_X12_wrong (goodIn_app gl_s_X12_joins (goodIn_app gl_s_X12_valueRead (goodIn_n)))))))))
set_option maxRecDepth 20000 in
set_option maxHeartbeats 4000000 in
theorem gl_s_X12_causeRead : GoodIn lw_tbl u_s_X12_causeRead := goodIn_ca (z_gr2 gs_all _ [(13, 55), (0, 35), (0, 41), (0, 42), (0, 43), (0, 0), (0, 37), (3, 58), (0, 38), (0, 39), (0, 40), (13, 56), (13, 57), (13, 58), (3, 34), (0, 49), (1, 52), (1, 53), (1, 54), (1, 55), (2, 28), (4, 0), (13, 59), (14, 0), (14, 1), (2, 29), (3, 33), (0, 29)] rfl) (goodIn_app ig_X12 (goodIn_app gl_s_X12_wrong (goodIn_app gl_s_X12_take_r (goodIn_app gl_s_X12_isTold (goodIn_app gl_s_X12_isSign (goodIn_app gl_s_X12_expression (goodIn_n)))))))
set_option maxRecDepth 20000 in
set_option maxHeartbeats 4000000 in
theorem gl_s_X12_rules : GoodIn lw_tbl u_s_X12_rules := goodIn_ca (z_gr2 gs_all _ [(14, 2), (0, 3), (1, 42), (6, 9), (6, 10), (6, 11), (0, 0), (3, 58), (6, 5), (4, 0), (0, 35), (2, 42), (6, 12), (2, 30), (1, 14), (1, 40), (2, 31), (1, 41), (2, 32), (2, 28), (2, 29), (14, 3), (14, 4), (14, 5)] rfl) (goodIn_app ig_X12 (goodIn_app gl_s_X12_begins_r (goodIn_app gl_s_X12_causeRead (goodIn_n))))
set_option maxRecDepth 20000 in
set_option maxHeartbeats 4000000 in
theorem gl_s_X0_hasLayer : GoodIn lw_tbl u_s_X0_hasLayer := goodIn_ca (z_gr2 gs_all _ [(6, 13), (2, 47)] rfl) (goodIn_app ig_X0 (goodIn_n))
set_option maxRecDepth 20000 in
set_option maxHeartbeats 4000000 in
theorem gl_s_X0_isFull2 : GoodIn lw_tbl u_s_X0_isFull2 := goodIn_ca (z_gr2 gs_all _ [(14, 6), (2, 7)] rfl) (goodIn_app ig_X0 (goodIn_n))
set_option maxRecDepth 20000 in
set_option maxHeartbeats 4000000 in
theorem gl_s_X5_clear : GoodIn lw_tbl u_s_X5_clear := goodIn_ca (z_gr2 gs_all _ [(14, 7), (2, 12)] rfl) (goodIn_app ig_X5 (goodIn_n))
set_option maxRecDepth 20000 in
set_option maxHeartbeats 4000000 in
theorem gl_s_X10_byteAt2 : GoodIn lw_tbl u_s_X10_byteAt2 := goodIn_ca (z_gr2 gs_all _ [(5, 16), (0, 27), (2, 4)] rfl) (goodIn_app ig_X10 (goodIn_n))
set_option maxRecDepth 20000 in
set_option maxHeartbeats 4000000 in
theorem gl_s_X10_passDigits2 : GoodIn lw_tbl u_s_X10_passDigits2 := goodIn_ca (z_gr2 gs_all _ [(5, 18), (0, 28), (0, 27), (0, 20), (0, 21), (0, 22), (0, 1), (1, 43), (1, 44)] rfl) (goodIn_app ig_X10 (goodIn_app gl_s_X10_byteAt2 (goodIn_app gl_s_X10_isDigit (goodIn_n))))
set_option maxRecDepth 20000 in
set_option maxHeartbeats 4000000 in
theorem gl_s_X10_passSign2 : GoodIn lw_tbl u_s_X10_passSign2 := goodIn_ca (z_gr2 gs_all _ [(5, 19), (0, 28), (0, 20), (0, 21), (0, 22), (0, 1), (1, 27)] rfl) (goodIn_app ig_X10 (goodIn_app gl_s_X10_byteAt (goodIn_n)))
set_option maxRecDepth 20000 in
set_option maxHeartbeats 4000000 in
theorem gl_s_X10_isLetter2 : GoodIn lw_tbl u_s_X10_isLetter2 := goodIn_ca (z_gr2 gs_all _ [(5, 17)] rfl) (goodIn_n)
set_option maxRecDepth 20000 in
set_option maxHeartbeats 4000000 in
theorem gl_s_X10_passLetters2 : GoodIn lw_tbl u_s_X10_passLetters2 := goodIn_ca (z_gr2 gs_all _ [(5, 20), (0, 28), (0, 27), (0, 20), (0, 21), (0, 22), (0, 1), (2, 33), (2, 34)] rfl) (goodIn_app ig_X10 (goodIn_app gl_s_X10_byteAt2 (goodIn_app gl_s_X10_isLetter2 (goodIn_n))))
set_option maxRecDepth 20000 in
set_option maxHeartbeats 4000000 in
theorem gl_s_X10_next2 : GoodIn lw_tbl u_s_X10_next2 := goodIn_ca (z_gr2 gs_all _ [(5, 21), (0, 28), (0, 27), (0, 50), (1, 27), (0, 20), (0, 21), (0, 22), (0, 1), (2, 33), (2, 34), (1, 43), (1, 44), (1, 26), (5, 22), (5, 23), (5, 24), (0, 44), (5, 25), (5, 26), (5, 27), (5, 28), (5, 29), (5, 30), (1, 25)] rfl) (goodIn_app ig_X10 (goodIn_app gl_s_X10_byteAt (goodIn_app gl_s_X10_isLetter (goodIn_app gl_s_X10_isDigit (goodIn_app gl_s_X10_passDigits2 (goodIn_app gl_s_X10_passSign2 (goodIn_app gl_s_X10_passLetters2 (goodIn_n))))))))
set_option maxRecDepth 20000 in
set_option maxHeartbeats 4000000 in
theorem gl_s_X10_open_f : GoodIn lw_tbl u_s_X10_open_f := goodIn_ca (z_gr2 gs_all _ [(5, 31), (0, 27), (1, 25), (1, 8), (0, 28), (2, 5), (2, 6), (5, 32), (0, 30), (0, 31), (0, 1)] rfl) (goodIn_app ig_X10 (goodIn_app gl_s_X10_next2 (goodIn_n)))
set_option maxRecDepth 20000 in
set_option maxHeartbeats 4000000 in
theorem gl_s_X10_numberFrom2 : GoodIn lw_tbl u_s_X10_numberFrom2 := goodIn_ca (z_gr2 gs_all _ [(5, 38), (0, 44), (0, 20), (0, 21), (0, 22), (0, 1), (5, 39), (5, 40), (0, 56), (0, 32), (0, 57)] rfl) (goodIn_app ig_X10 (goodIn_app gl_s_X10_byteAt2 (goodIn_n)))
set_option maxRecDepth 20000 in
set_option maxHeartbeats 4000000 in
theorem gl_s_X10_numberBehind : GoodIn lw_tbl u_s_X10_numberBehind := goodIn_ca (z_gr2 gs_all _ [(14, 8), (1, 26), (0, 44), (0, 50), (0, 20), (0, 21), (0, 22), (0, 1), (1, 43), (1, 44), (14, 9), (3, 49), (3, 50)] rfl) (goodIn_app ig_X10 (goodIn_app gl_s_X10_byteAt (goodIn_app gl_s_X10_isDigit (goodIn_app gl_s_X10_numberFrom2 (goodIn_n)))))
set_option maxRecDepth 20000 in
set_option maxHeartbeats 4000000 in
theorem gl_s_X5_hasKind : GoodIn lw_tbl u_s_X5_hasKind := goodIn_ca (z_gr2 gs_all _ [(14, 10), (2, 14)] rfl) (goodIn_app ig_X5 (goodIn_n))
set_option maxRecDepth 20000 in
set_option maxHeartbeats 4000000 in
theorem gl_s_X1_readKind : GoodIn lw_tbl u_s_X1_readKind := goodIn_ca (z_gr2 gs_all _ [(14, 11), (0, 54), (6, 14), (6, 15), (6, 16), (0, 1), (3, 10), (2, 19), (14, 12), (2, 43), (2, 44), (0, 26), (1, 56), (0, 30), (0, 31), (1, 19), (0, 9), (0, 10)] rfl) (goodIn_app ig_X1 (goodIn_app gl_s_X10_numberBehind (goodIn_app gl_s_X5_hasKind (goodIn_app gl_s_X10_next2 (goodIn_app gl_s_X10_fail (goodIn_n))))))
set_option maxRecDepth 20000 in
set_option maxHeartbeats 4000000 in
theorem gl_s_X1_readSieve : GoodIn lw_tbl u_s_X1_readSieve := goodIn_ca (z_gr2 gs_all _ [(14, 13), (0, 54), (6, 14), (6, 15), (6, 16), (0, 1), (3, 11), (1, 56), (0, 30), (0, 31), (1, 19), (0, 9), (0, 10)] rfl) (goodIn_app ig_X1 (goodIn_app gl_s_X10_numberBehind (goodIn_app gl_s_X10_next2 (goodIn_app gl_s_X10_fail (goodIn_n)))))
set_option maxRecDepth 20000 in
set_option maxHeartbeats 4000000 in
theorem gl_s_X1_passSign : GoodIn lw_tbl u_s_X1_passSign := goodIn_ca (z_gr2 gs_all _ [(14, 14), (0, 54), (6, 17), (1, 56), (0, 30), (0, 31), (0, 1), (1, 19), (0, 9), (0, 10)] rfl) (goodIn_app ig_X1 (goodIn_app ig_X10 (goodIn_app gl_s_X10_next2 (goodIn_app gl_s_X10_fail (goodIn_n)))))
set_option maxRecDepth 20000 in
set_option maxHeartbeats 4000000 in
theorem gl_s_X5_add : GoodIn lw_tbl u_s_X5_add := goodIn_ca (z_gr2 gs_all _ [(14, 15), (2, 12)] rfl) (goodIn_app ig_X5 (goodIn_n))
set_option maxRecDepth 20000 in
set_option maxHeartbeats 4000000 in
theorem gl_s_X1_readPart : GoodIn lw_tbl u_s_X1_readPart := goodIn_ca (z_gr2 gs_all _ [(14, 16), (0, 54), (14, 17), (1, 15), (1, 16), (0, 1), (3, 12), (1, 56), (0, 30), (0, 31), (6, 18), (14, 18), (14, 19), (3, 49), (3, 50), (2, 19), (3, 9), (3, 10), (3, 11), (14, 20), (14, 21), (14, 22), (0, 26), (1, 19), (0, 9), (0, 10)] rfl) (goodIn_app ig_X1 (goodIn_app ig_X10 (goodIn_app gl_s_X10_wordIn (goodIn_app gl_s_X10_next2 (goodIn_app gl_s_X10_numberFrom (goodIn_app gl_s_X5_add (goodIn_app gl_s_X10_fail (goodIn_n))))))))
set_option maxRecDepth 20000 in
set_option maxHeartbeats 4000000 in
theorem gl_s_X1_readFind : GoodIn lw_tbl u_s_X1_readFind := goodIn_ca (z_gr2 gs_all _ [(14, 23), (14, 24), (14, 25), (14, 26), (2, 18), (14, 27), (14, 28), (14, 29), (6, 19), (6, 20), (6, 21), (3, 12), (0, 54), (1, 19), (0, 9), (0, 10), (0, 1), (14, 30), (14, 31), (14, 32), (6, 17), (1, 56), (0, 30), (0, 31)] rfl) (goodIn_app ig_X1 (goodIn_app ig_X10 (goodIn_app gl_s_X1_readKind (goodIn_app gl_s_X1_readSieve (goodIn_app gl_s_X1_passSign (goodIn_app gl_s_X10_fail (goodIn_app gl_s_X1_readPart (goodIn_app gl_s_X10_next2 (goodIn_n)))))))))
set_option maxRecDepth 20000 in
set_option maxHeartbeats 4000000 in
theorem gl_s_X1_read : GoodIn lw_tbl u_s_X1_read := goodIn_ca (z_gr2 gs_all _ [(14, 33), (3, 9), (2, 19), (14, 34), (14, 35), (14, 36), (0, 26), (0, 54), (14, 37), (5, 41), (5, 42), (0, 1), (1, 19), (0, 9), (0, 10), (14, 38), (14, 39), (14, 40), (2, 18), (6, 18), (6, 19), (6, 20), (6, 21)] rfl) (goodIn_app ig_X1 (goodIn_app ig_X10 (goodIn_app gl_s_X5_clear (goodIn_app gl_s_X10_open_f (goodIn_app gl_s_X10_fail (goodIn_app gl_s_X1_readFind (goodIn_app gl_s_X1_passSign (goodIn_n))))))))
set_option maxRecDepth 20000 in
set_option maxHeartbeats 4000000 in
theorem gl_s_X0_write : GoodIn lw_tbl u_s_X0_write := goodIn_ca (z_gr2 gs_all _ [(14, 41), (14, 42), (6, 22), (6, 23), (0, 8), (4, 49), (2, 7), (4, 50), (4, 51), (4, 52)] rfl) (goodIn_app ig_X0 (goodIn_app gl_s_X0_isFull2 (goodIn_n)))
set_option maxRecDepth 20000 in
set_option maxHeartbeats 4000000 in
theorem gl_s_X11_finds : GoodIn lw_tbl u_s_X11_finds := goodIn_ca (z_gr2 gs_all _ [(14, 43), (1, 28), (5, 43), (5, 44), (5, 45), (0, 1), (0, 5), (0, 11), (0, 12), (0, 13), (0, 8), (14, 44), (6, 22), (6, 23), (5, 0), (1, 20), (14, 45), (14, 46), (14, 47), (2, 18), (4, 13), (4, 14), (4, 15)] rfl) (goodIn_app ig_X11 (goodIn_app ig_X0 (goodIn_app gl_s_X10_hasFed (goodIn_app gl_s_X0_hasLayer (goodIn_app gl_s_X0_isFull2 (goodIn_app gl_s_X1_read (goodIn_app gl_s_X0_write (goodIn_n))))))))
set_option maxRecDepth 20000 in
set_option maxHeartbeats 4000000 in
theorem gl_s_X12_isLayer : GoodIn lw_tbl u_s_X12_isLayer := goodIn_ca (z_gr2 gs_all _ [(6, 24), (0, 59)] rfl) (goodIn_app ig_X12 (goodIn_n))
set_option maxRecDepth 20000 in
set_option maxHeartbeats 4000000 in
theorem gl_s_X12_take_f : GoodIn lw_tbl u_s_X12_take_f := goodIn_ca (z_gr2 gs_all _ [(5, 46), (0, 49), (0, 58), (1, 52), (5, 47), (5, 48), (5, 49), (0, 0), (5, 50), (5, 51), (5, 52), (0, 37), (0, 35), (3, 54), (3, 55), (3, 56), (5, 53), (5, 54), (5, 55), (0, 29), (5, 56), (5, 57), (5, 58)] rfl) (goodIn_app ig_X12 (goodIn_app gl_s_X12_isSmall (goodIn_app gl_s_X12_wordAt (goodIn_app gl_s_X12_isDigit (goodIn_app gl_s_X12_digits (goodIn_app gl_s_X12_signOf (goodIn_n)))))))
set_option maxRecDepth 20000 in
set_option maxHeartbeats 4000000 in
theorem gl_s_X12_begins_f : GoodIn lw_tbl u_s_X12_begins_f := goodIn_ca (z_gr2 gs_all _ [(5, 59), (0, 58), (1, 42), (2, 39), (1, 39), (0, 49), (0, 38), (0, 39), (0, 40), (0, 0)] rfl) (goodIn_app ig_X12 (goodIn_app gl_s_X12_take_f (goodIn_n)))
set_option maxRecDepth 20000 in
set_option maxHeartbeats 4000000 in
theorem gl_s_X12_isKind : GoodIn lw_tbl u_s_X12_isKind := goodIn_ca (z_gr2 gs_all _ [(14, 48), (1, 21)] rfl) (goodIn_app ig_X12 (goodIn_n))
set_option maxRecDepth 20000 in
set_option maxHeartbeats 4000000 in
theorem gl_s_X12_findRead : GoodIn lw_tbl u_s_X12_findRead := goodIn_ca (z_gr2 gs_all _ [(14, 49), (0, 35), (0, 37), (4, 16), (4, 17), (4, 18), (0, 0), (0, 7), (0, 38), (0, 39), (0, 40), (1, 53), (1, 54), (1, 55), (0, 41), (0, 42), (0, 43), (2, 22)] rfl) (goodIn_app ig_X12 (goodIn_app gl_s_X12_isKind (goodIn_app gl_s_X12_take_f (goodIn_app gl_s_X12_isSign (goodIn_app gl_s_X12_wrong (goodIn_n))))))
set_option maxRecDepth 20000 in
set_option maxHeartbeats 4000000 in
theorem gl_s_X12_findsRead : GoodIn lw_tbl u_s_X12_findsRead := goodIn_ca (z_gr2 gs_all _ [(14, 50), (14, 51), (14, 52), (14, 53), (0, 0), (0, 35), (1, 53), (1, 54), (1, 55), (0, 38), (0, 39), (0, 40), (0, 41), (0, 42), (0, 43), (2, 22), (0, 7)] rfl) (goodIn_app ig_X12 (goodIn_app gl_s_X12_findRead (goodIn_app gl_s_X12_isSign (goodIn_app gl_s_X12_take_f (goodIn_app gl_s_X12_wrong (goodIn_n))))))
set_option maxRecDepth 20000 in
set_option maxHeartbeats 4000000 in
theorem gl_s_X12_finds : GoodIn lw_tbl u_s_X12_finds := goodIn_ca (z_gr2 gs_all _ [(14, 54), (0, 3), (1, 42), (0, 14), (0, 15), (0, 16), (0, 0), (0, 7), (6, 9), (6, 10), (6, 11), (14, 55), (14, 56), (14, 57), (0, 47), (0, 48)] rfl) (goodIn_app ig_X12 (goodIn_app gl_s_X12_isLayer (goodIn_app gl_s_X12_begins_f (goodIn_app gl_s_X12_findsRead (goodIn_n)))))
set_option maxRecDepth 20000 in
set_option maxHeartbeats 4000000 in
theorem gl_s_X11_fault : GoodIn lw_tbl u_s_X11_fault := goodIn_ca (z_gr2 gs_all _ [(14, 58), (1, 28), (14, 59), (15, 0)] rfl) (goodIn_app ig_X11 (goodIn_app ig_X10 (goodIn_n)))
set_option maxRecDepth 20000 in
set_option maxHeartbeats 4000000 in
theorem gl_s_X12_fault : GoodIn lw_tbl u_s_X12_fault := goodIn_ca (z_gr2 gs_all _ [(15, 1), (0, 3), (1, 39), (2, 39)] rfl) (goodIn_app ig_X12 (goodIn_n))
set_option maxRecDepth 20000 in
set_option maxHeartbeats 4000000 in
theorem gl_s_X11_layerA : GoodIn lw_tbl u_s_X11_layerA := goodIn_ca (z_gr2 gs_all _ [(15, 2), (0, 5), (6, 25)] rfl) (goodIn_app ig_X11 (goodIn_app ig_X0 (goodIn_n)))
set_option maxRecDepth 20000 in
set_option maxHeartbeats 4000000 in
theorem gl_s_X12_layerA : GoodIn lw_tbl u_s_X12_layerA := goodIn_ca (z_gr2 gs_all _ [(15, 3), (0, 3), (0, 59)] rfl) (goodIn_app ig_X12 (goodIn_n))
set_option maxRecDepth 20000 in
set_option maxHeartbeats 4000000 in
theorem gl_s_X11_note : GoodIn lw_tbl u_s_X11_note := goodIn_ca (z_gr2 gs_all _ [(15, 4), (0, 5), (0, 11), (0, 12), (0, 13), (0, 8), (4, 13), (4, 14), (4, 15)] rfl) (goodIn_app ig_X11 (goodIn_app gl_s_X0_hasLayer (goodIn_app gl_s_X0_write (goodIn_n))))
set_option maxRecDepth 20000 in
set_option maxHeartbeats 4000000 in
theorem gl_s_X12_note : GoodIn lw_tbl u_s_X12_note := goodIn_ca (z_gr2 gs_all _ [(15, 5), (0, 3), (0, 7), (0, 14), (0, 15), (0, 16), (0, 0), (0, 47), (0, 48), (1, 35), (3, 21)] rfl) (goodIn_app ig_X12 (goodIn_app gl_s_X12_isLayer (goodIn_n)))
set_option maxRecDepth 20000 in
set_option maxHeartbeats 4000000 in
theorem gl_s_X11_strike : GoodIn lw_tbl u_s_X11_strike := goodIn_ca (z_gr2 gs_all _ [(15, 6), (0, 5), (1, 20), (4, 13), (4, 14), (4, 15), (0, 8)] rfl) (goodIn_app ig_X11 (goodIn_app ig_X0 (goodIn_app gl_s_X0_write (goodIn_n))))
set_option maxRecDepth 20000 in
set_option maxHeartbeats 4000000 in
theorem gl_s_X12_strike : GoodIn lw_tbl u_s_X12_strike := goodIn_ca (z_gr2 gs_all _ [(15, 7), (0, 3), (0, 7), (0, 47), (0, 48)] rfl) (goodIn_app ig_X12 (goodIn_n))
set_option maxRecDepth 20000 in
set_option maxHeartbeats 4000000 in
theorem gl_s_X0_hasFirst : GoodIn lw_tbl u_s_X0_hasFirst := goodIn_ca (z_gr2 gs_all _ [(15, 8), (2, 7)] rfl) (goodIn_app ig_X0 (goodIn_n))
set_option maxRecDepth 20000 in
set_option maxHeartbeats 4000000 in
theorem gl_s_X4_counts : GoodIn lw_tbl u_s_X4_counts := goodIn_ca (z_gr2 gs_all _ [(15, 9), (0, 51), (2, 48), (0, 45), (15, 10)] rfl) (goodIn_app ig_X4 (goodIn_app ig_X0 (goodIn_n)))
set_option maxRecDepth 20000 in
set_option maxHeartbeats 4000000 in
theorem gl_s_X4_findStruck : GoodIn lw_tbl u_s_X4_findStruck := goodIn_ca (z_gr2 gs_all _ [(15, 11), (0, 51), (1, 57), (1, 58), (1, 59), (0, 4), (0, 45), (2, 0), (2, 48)] rfl) (goodIn_app ig_X4 (goodIn_app ig_X0 (goodIn_app gl_s_X4_counts (goodIn_n))))
set_option maxRecDepth 20000 in
set_option maxHeartbeats 4000000 in
theorem gl_s_X4_join : GoodIn lw_tbl u_s_X4_join := goodIn_ca (z_gr2 gs_all _ [(15, 12), (4, 19), (0, 56), (0, 32), (0, 57), (2, 45), (1, 17), (1, 18), (0, 18), (0, 52)] rfl) (goodIn_app ig_X4 (goodIn_n))
set_option maxRecDepth 20000 in
set_option maxHeartbeats 4000000 in
theorem gl_s_X4_joinBeds : GoodIn lw_tbl u_s_X4_joinBeds := goodIn_ca (z_gr2 gs_all _ [(15, 13), (0, 18), (0, 51), (1, 57), (1, 58), (1, 59), (0, 4), (0, 52), (0, 45), (2, 0), (4, 20), (15, 14), (15, 15), (15, 16)] rfl) (goodIn_app ig_X4 (goodIn_app ig_X0 (goodIn_app gl_s_X4_counts (goodIn_app gl_s_X4_join (goodIn_n)))))
set_option maxRecDepth 20000 in
set_option maxHeartbeats 4000000 in
theorem gl_s_X4_isLater : GoodIn lw_tbl u_s_X4_isLater := goodIn_ca (z_gr2 gs_all _ [(15, 17), (2, 49)] rfl) (goodIn_app ig_X4 (goodIn_n))
set_option maxRecDepth 20000 in
set_option maxHeartbeats 4000000 in
theorem gl_s_X4_findLater : GoodIn lw_tbl u_s_X4_findLater := goodIn_ca (z_gr2 gs_all _ [(15, 18), (0, 18), (0, 51), (2, 1), (1, 22), (1, 23), (0, 4), (2, 49), (1, 57), (1, 58), (1, 59), (0, 52), (0, 45), (2, 0), (4, 20)] rfl) (goodIn_app ig_X4 (goodIn_app ig_X0 (goodIn_app gl_s_X4_isLater (goodIn_app gl_s_X4_counts (goodIn_n)))))
set_option maxRecDepth 20000 in
set_option maxHeartbeats 4000000 in
theorem gl_s_X4_hasRing : GoodIn lw_tbl u_s_X4_hasRing := goodIn_ca (z_gr2 gs_all _ [(15, 19), (0, 18), (2, 1), (1, 22), (1, 23), (0, 4)] rfl) (goodIn_app ig_X4 (goodIn_app gl_s_X4_isLater (goodIn_n)))
set_option maxRecDepth 20000 in
set_option maxHeartbeats 4000000 in
theorem gl_s_X4_raiseRank : GoodIn lw_tbl u_s_X4_raiseRank := goodIn_ca (z_gr2 gs_all _ [(15, 20), (0, 18), (2, 1), (1, 22), (1, 23), (0, 4), (1, 29), (2, 45), (1, 17), (0, 32), (1, 18)] rfl) (goodIn_app ig_X4 (goodIn_app gl_s_X4_isLater (goodIn_n)))
set_option maxRecDepth 20000 in
set_option maxHeartbeats 4000000 in
theorem gl_s_X4_setRanks : GoodIn lw_tbl u_s_X4_setRanks := goodIn_ca (z_gr2 gs_all _ [(15, 21), (0, 18), (15, 22), (15, 23), (15, 24), (0, 4), (1, 29)] rfl) (goodIn_app ig_X4 (goodIn_app gl_s_X4_raiseRank (goodIn_n)))
set_option maxRecDepth 20000 in
set_option maxHeartbeats 4000000 in
theorem gl_s_X4_leadYears : GoodIn lw_tbl u_s_X4_leadYears := goodIn_ca (z_gr2 gs_all _ [(15, 25), (0, 18), (2, 1), (1, 22), (1, 23), (0, 4), (2, 50), (2, 45), (1, 17), (0, 32), (1, 18), (2, 51), (4, 19), (0, 56), (0, 57)] rfl) (goodIn_app ig_X4 (goodIn_app gl_s_X4_isLater (goodIn_n)))
set_option maxRecDepth 20000 in
set_option maxHeartbeats 4000000 in
theorem gl_s_X4_setSpans : GoodIn lw_tbl u_s_X4_setSpans := goodIn_ca (z_gr2 gs_all _ [(15, 26), (0, 18), (0, 51), (15, 27), (15, 28), (15, 29), (0, 4), (2, 50), (2, 51), (1, 30), (1, 57), (1, 58), (1, 59), (0, 52), (0, 45), (2, 0), (4, 20), (2, 45), (1, 17), (0, 32), (1, 18), (15, 30), (4, 19), (0, 56), (0, 57)] rfl) (goodIn_app ig_X4 (goodIn_app ig_X0 (goodIn_app gl_s_X4_leadYears (goodIn_app gl_s_X4_counts (goodIn_n)))))
set_option maxRecDepth 20000 in
set_option maxHeartbeats 4000000 in
theorem gl_s_X4_look : GoodIn lw_tbl u_s_X4_look := goodIn_ca (z_gr2 gs_all _ [(15, 31), (0, 51), (0, 45), (15, 32), (0, 18), (15, 33), (15, 34), (15, 35), (0, 4), (15, 36), (15, 37), (15, 38), (15, 39), (15, 40), (15, 41), (15, 42), (15, 43), (15, 44), (1, 30), (15, 45), (15, 46), (15, 47), (15, 48), (15, 49), (15, 50)] rfl) (goodIn_app ig_X4 (goodIn_app ig_X0 (goodIn_app gl_s_X4_findStruck (goodIn_app gl_s_X4_joinBeds (goodIn_app gl_s_X4_findLater (goodIn_app gl_s_X4_hasRing (goodIn_app gl_s_X4_setRanks (goodIn_app gl_s_X4_setSpans (goodIn_n)))))))))
