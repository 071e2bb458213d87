theorem goodIn_n {big : List Cond} : GoodIn big [] := fun _ h => absurd h List.not_mem_nil
set_option maxRecDepth 20000 in
set_option maxHeartbeats 4000000 in
theorem gl_s_X10_hasRoomA : GoodIn lw_tbl u_s_X10_hasRoomA := goodIn_ca (z_gr2 gs_all _ [(11, 58), (1, 14)] rfl) (goodIn_app ig_X10 (goodIn_n))
set_option maxRecDepth 20000 in
set_option maxHeartbeats 4000000 in
theorem gl_s_X10_put3 : GoodIn lw_tbl u_s_X10_put3 := goodIn_ca (z_gr2 gs_all _ [(11, 59), (1, 14), (2, 6)] rfl) (goodIn_app ig_X10 (goodIn_n))
set_option maxRecDepth 20000 in
set_option maxHeartbeats 4000000 in
theorem gl_s_X11_feed3 : GoodIn lw_tbl u_s_X11_feed3 := goodIn_ca (z_gr2 gs_all _ [(12, 0), (1, 36), (12, 1), (12, 2), (12, 3), (0, 1), (12, 4), (12, 5), (12, 6), (12, 7)] rfl) (goodIn_app ig_X11 (goodIn_app ig_X10 (goodIn_app gl_s_X10_hasRoomA (goodIn_app gl_s_X10_put3 (goodIn_n)))))
set_option maxRecDepth 20000 in
set_option maxHeartbeats 4000000 in
theorem gl_s_X12_feed3 : GoodIn lw_tbl u_s_X12_feed3 := goodIn_ca (z_gr2 gs_all _ [(12, 8), (0, 3), (1, 45), (0, 23)] rfl) (goodIn_app ig_X12 (goodIn_n))
set_option maxRecDepth 20000 in
set_option maxHeartbeats 4000000 in
theorem gl_s_X10_hasFedA : GoodIn lw_tbl u_s_X10_hasFedA := goodIn_ca (z_gr2 gs_all _ [(12, 9), (1, 14)] rfl) (goodIn_app ig_X10 (goodIn_n))
set_option maxRecDepth 20000 in
set_option maxHeartbeats 4000000 in
theorem gl_s_X10_byteAt : GoodIn lw_tbl u_s_X10_byteAt := goodIn_ca (z_gr2 gs_all _ [(5, 17), (0, 30), (2, 6)] rfl) (goodIn_app ig_X10 (goodIn_n))
set_option maxRecDepth 20000 in
set_option maxHeartbeats 4000000 in
theorem gl_s_X10_isLetter : GoodIn lw_tbl u_s_X10_isLetter := goodIn_ca (z_gr2 gs_all _ [(5, 18)] rfl) (goodIn_n)
set_option maxRecDepth 20000 in
set_option maxHeartbeats 4000000 in
theorem gl_s_X10_isDigit : GoodIn lw_tbl u_s_X10_isDigit := goodIn_ca (z_gr2 gs_all _ [(5, 19)] rfl) (goodIn_n)
set_option maxRecDepth 20000 in
set_option maxHeartbeats 4000000 in
theorem gl_s_X10_passDigits : GoodIn lw_tbl u_s_X10_passDigits := goodIn_ca (z_gr2 gs_all _ [(5, 20), (0, 31), (0, 30), (0, 9), (0, 10), (0, 11), (0, 1), (1, 24), (1, 25)] rfl) (goodIn_app ig_X10 (goodIn_app gl_s_X10_byteAt (goodIn_app gl_s_X10_isDigit (goodIn_n))))
set_option maxRecDepth 20000 in
set_option maxHeartbeats 4000000 in
theorem gl_s_X10_passSign : GoodIn lw_tbl u_s_X10_passSign := goodIn_ca (z_gr2 gs_all _ [(5, 21), (0, 31), (0, 9), (0, 10), (0, 11), (0, 1), (1, 35)] rfl) (goodIn_app ig_X10 (goodIn_app gl_s_X10_byteAt (goodIn_n)))
set_option maxRecDepth 20000 in
set_option maxHeartbeats 4000000 in
theorem gl_s_X10_passLetters : GoodIn lw_tbl u_s_X10_passLetters := goodIn_ca (z_gr2 gs_all _ [(5, 22), (0, 31), (0, 30), (0, 9), (0, 10), (0, 11), (0, 1), (2, 39), (2, 40)] rfl) (goodIn_app ig_X10 (goodIn_app gl_s_X10_byteAt (goodIn_app gl_s_X10_isLetter (goodIn_n))))
set_option maxRecDepth 20000 in
set_option maxHeartbeats 4000000 in
theorem gl_s_X10_next : GoodIn lw_tbl u_s_X10_next := goodIn_ca (z_gr2 gs_all _ [(5, 23), (0, 31), (0, 30), (0, 41), (1, 35), (0, 9), (0, 10), (0, 11), (0, 1), (2, 39), (2, 40), (1, 24), (1, 25), (0, 57), (5, 24), (5, 25), (5, 26), (0, 37), (5, 27), (5, 28), (5, 29), (5, 30), (5, 31), (5, 32), (1, 34)] rfl) (goodIn_app ig_X10 (goodIn_app gl_s_X10_byteAt (goodIn_app gl_s_X10_isLetter (goodIn_app gl_s_X10_isDigit (goodIn_app gl_s_X10_passDigits (goodIn_app gl_s_X10_passSign (goodIn_app gl_s_X10_passLetters (goodIn_n))))))))
set_option maxRecDepth 20000 in
set_option maxHeartbeats 4000000 in
theorem gl_s_X10_open_r : GoodIn lw_tbl u_s_X10_open_r := goodIn_ca (z_gr2 gs_all _ [(5, 33), (0, 30), (1, 34), (1, 14), (0, 31), (2, 7), (2, 8), (5, 34), (0, 28), (0, 29), (0, 1)] rfl) (goodIn_app ig_X10 (goodIn_app gl_s_X10_next (goodIn_n)))
set_option maxRecDepth 20000 in
set_option maxHeartbeats 4000000 in
theorem gl_s_X7_clear : GoodIn lw_tbl u_s_X7_clear := goodIn_ca (z_gr2 gs_all _ [(12, 10), (2, 24), (3, 23), (5, 8)] rfl) (goodIn_app ig_X7 (goodIn_n))
set_option maxRecDepth 20000 in
set_option maxHeartbeats 4000000 in
theorem gl_s_J0_coder_7d493 : GoodIn lw_tbl u_s_J0_coder_7d493 := goodIn_ca (z_gr2 gs_all _ [(12, 11), (5, 35), (5, 36)] rfl) (goodIn_n)
set_option maxRecDepth 20000 in
set_option maxHeartbeats 4000000 in
theorem gl_s_J0_length_8abf5 : GoodIn lw_tbl u_s_J0_length_8abf5 := goodIn_ca (z_gr2 gs_all _ [(12, 12), (5, 37), (12, 13), (12, 14), (12, 15), (1, 46)] rfl) (goodIn_app gl_s_J0_coder_7d493 (goodIn_n))
set_option maxRecDepth 20000 in
set_option maxHeartbeats 4000000 in
theorem gl_s_J0_isLatin1_aae02 : GoodIn lw_tbl u_s_J0_isLatin1_aae02 := goodIn_ca (z_gr2 gs_all _ [(12, 16), (5, 35), (5, 36)] rfl) (goodIn_n)
set_option maxRecDepth 20000 in
set_option maxHeartbeats 4000000 in
theorem gl_s_J3_checkIndex_w : GoodIn lw_tbl u_s_J3_checkIndex_w := goodIn_ca (z_gr2 gs_all _ [(12, 17)] rfl) (goodIn_n)
set_option maxRecDepth 20000 in
set_option maxHeartbeats 4000000 in
theorem gl_s_J0_checkIndex_df160 : GoodIn lw_tbl u_s_J0_checkIndex_df160 := goodIn_ca (z_gr2 gs_all _ [(12, 18), (12, 19), (12, 20), (12, 21), (12, 22)] rfl) (goodIn_app gl_s_J3_checkIndex_w (goodIn_n))
set_option maxRecDepth 20000 in
set_option maxHeartbeats 4000000 in
theorem gl_s_J1_charAt_3b067 : GoodIn lw_tbl u_s_J1_charAt_3b067 := goodIn_ca (z_gr2 gs_all _ [(12, 23), (12, 24), (12, 25), (1, 46)] rfl) (goodIn_app gl_s_J0_checkIndex_df160 (goodIn_n))
set_option maxRecDepth 20000 in
set_option maxHeartbeats 4000000 in
theorem gl_s_J0_charAt_5068e : GoodIn lw_tbl u_s_J0_charAt_5068e := goodIn_ca (z_gr2 gs_all _ [(12, 26), (12, 27), (12, 28), (12, 29), (1, 46), (5, 37), (12, 30), (12, 31), (12, 32)] rfl) (goodIn_app gl_s_J0_isLatin1_aae02 (goodIn_app gl_s_J1_charAt_3b067 (goodIn_n)))
set_option maxRecDepth 20000 in
set_option maxHeartbeats 4000000 in
theorem gl_s_X10_wordIn : GoodIn lw_tbl u_s_X10_wordIn := goodIn_ca (z_gr2 gs_all _ [(5, 38), (0, 57), (0, 41), (5, 39), (5, 40), (5, 41), (1, 46), (0, 37), (5, 42), (5, 43), (5, 44), (0, 9), (0, 10), (0, 11), (0, 1)] rfl) (goodIn_app ig_X10 (goodIn_app gl_s_J0_length_8abf5 (goodIn_app gl_s_J0_charAt_5068e (goodIn_app gl_s_X10_byteAt (goodIn_n)))))
set_option maxRecDepth 20000 in
set_option maxHeartbeats 4000000 in
theorem gl_s_X10_fail : GoodIn lw_tbl u_s_X10_fail := goodIn_ca (z_gr2 gs_all _ [(12, 33), (2, 7), (0, 41), (2, 8)] rfl) (goodIn_app ig_X10 (goodIn_n))
set_option maxRecDepth 20000 in
set_option maxHeartbeats 4000000 in
theorem gl_s_X10_isInHandAt : GoodIn lw_tbl u_s_X10_isInHandAt := goodIn_ca (z_gr2 gs_all _ [(12, 34), (0, 37), (0, 41), (0, 9), (0, 10), (0, 11), (0, 1)] rfl) (goodIn_app ig_X10 (goodIn_app gl_s_X10_byteAt (goodIn_n)))
set_option maxRecDepth 20000 in
set_option maxHeartbeats 4000000 in
theorem gl_s_X8_readTitle : GoodIn lw_tbl u_s_X8_readTitle := goodIn_ca (z_gr2 gs_all _ [(12, 35), (0, 21), (12, 36), (5, 45), (3, 46), (0, 39), (0, 12), (0, 13), (0, 1), (1, 47), (1, 26), (1, 27), (0, 53), (5, 46), (5, 3), (5, 4), (2, 41), (0, 28), (0, 29), (12, 37), (12, 38), (12, 39)] rfl) (goodIn_app ig_X8 (goodIn_app ig_X10 (goodIn_app ig_X7 (goodIn_app gl_s_X10_fail (goodIn_app gl_s_X10_wordIn (goodIn_app gl_s_X10_next (goodIn_app gl_s_X10_isInHandAt (goodIn_n))))))))
set_option maxRecDepth 20000 in
set_option maxHeartbeats 4000000 in
theorem gl_s_X8_tieKnot : GoodIn lw_tbl u_s_X8_tieKnot := goodIn_ca (z_gr2 gs_all _ [(12, 40), (0, 53), (12, 41), (0, 21), (0, 39), (0, 12), (0, 13), (0, 1)] rfl) (goodIn_app ig_X8 (goodIn_app ig_X7 (goodIn_app gl_s_X10_fail (goodIn_n))))
set_option maxRecDepth 20000 in
set_option maxHeartbeats 4000000 in
theorem gl_s_X7_add : GoodIn lw_tbl u_s_X7_add := goodIn_ca (z_gr2 gs_all _ [(12, 42), (2, 24), (5, 5), (5, 6)] rfl) (goodIn_app ig_X7 (goodIn_n))
set_option maxRecDepth 20000 in
set_option maxHeartbeats 4000000 in
theorem gl_s_X8_takeName : GoodIn lw_tbl u_s_X8_takeName := goodIn_ca (z_gr2 gs_all _ [(12, 43), (0, 21), (1, 47), (1, 26), (1, 27), (0, 1), (1, 48), (1, 49), (1, 50), (0, 22), (0, 53), (3, 47), (3, 48), (3, 49), (1, 21), (1, 40), (0, 39), (0, 12), (0, 13)] rfl) (goodIn_app ig_X8 (goodIn_app gl_s_X10_wordIn (goodIn_app gl_s_X8_tieKnot (goodIn_app gl_s_X7_add (goodIn_app gl_s_X10_fail (goodIn_n))))))
set_option maxRecDepth 20000 in
set_option maxHeartbeats 4000000 in
theorem gl_s_X8_lastWaiting : GoodIn lw_tbl u_s_X8_lastWaiting := goodIn_ca (z_gr2 gs_all _ [(12, 44), (1, 20), (3, 22)] rfl) (goodIn_app ig_X8 (goodIn_n))
set_option maxRecDepth 20000 in
set_option maxHeartbeats 4000000 in
theorem gl_s_X8_tightness : GoodIn lw_tbl u_s_X8_tightness := goodIn_ca (z_gr2 gs_all _ [(12, 45)] rfl) (goodIn_n)
set_option maxRecDepth 20000 in
set_option maxHeartbeats 4000000 in
theorem gl_s_X8_await : GoodIn lw_tbl u_s_X8_await := goodIn_ca (z_gr2 gs_all _ [(12, 46), (1, 20), (3, 22)] rfl) (goodIn_app ig_X8 (goodIn_n))
set_option maxRecDepth 20000 in
set_option maxHeartbeats 4000000 in
theorem gl_s_X8_takeNot : GoodIn lw_tbl u_s_X8_takeNot := goodIn_ca (z_gr2 gs_all _ [(12, 47), (3, 50), (3, 51), (3, 52), (0, 22), (1, 51), (1, 52), (1, 48), (1, 49), (1, 50), (3, 53), (3, 54), (3, 55), (0, 21), (0, 39), (0, 12), (0, 13), (0, 1)] rfl) (goodIn_app ig_X8 (goodIn_app gl_s_X8_lastWaiting (goodIn_app gl_s_X8_tightness (goodIn_app gl_s_X8_tieKnot (goodIn_app gl_s_X8_await (goodIn_app gl_s_X10_fail (goodIn_n)))))))
set_option maxRecDepth 20000 in
set_option maxHeartbeats 4000000 in
theorem gl_s_X10_numberFrom : GoodIn lw_tbl u_s_X10_numberFrom := goodIn_ca (z_gr2 gs_all _ [(5, 47), (0, 37), (0, 9), (0, 10), (0, 11), (0, 1), (5, 48), (5, 49), (1, 1), (0, 34), (1, 2)] rfl) (goodIn_app ig_X10 (goodIn_app gl_s_X10_byteAt (goodIn_n)))
set_option maxRecDepth 20000 in
set_option maxHeartbeats 4000000 in
theorem gl_s_X8_takeNumber : GoodIn lw_tbl u_s_X8_takeNumber := goodIn_ca (z_gr2 gs_all _ [(12, 48), (0, 21), (5, 45), (12, 49), (2, 42), (2, 43), (0, 1), (12, 50), (1, 48), (1, 49), (1, 50), (0, 22), (0, 53), (3, 47), (3, 48), (3, 49), (1, 21), (1, 40), (0, 39), (0, 12), (0, 13)] rfl) (goodIn_app ig_X8 (goodIn_app ig_X10 (goodIn_app gl_s_X10_numberFrom (goodIn_app gl_s_X8_tieKnot (goodIn_app gl_s_X7_add (goodIn_app gl_s_X10_fail (goodIn_n)))))))
set_option maxRecDepth 20000 in
set_option maxHeartbeats 4000000 in
theorem gl_s_X8_takeOpen : GoodIn lw_tbl u_s_X8_takeOpen := goodIn_ca (z_gr2 gs_all _ [(12, 51), (2, 23), (3, 53), (3, 54), (3, 55), (0, 22), (0, 21), (0, 39), (0, 12), (0, 13), (0, 1)] rfl) (goodIn_app ig_X8 (goodIn_app gl_s_X8_await (goodIn_app gl_s_X10_fail (goodIn_n))))
set_option maxRecDepth 20000 in
set_option maxHeartbeats 4000000 in
theorem gl_s_X8_takePart : GoodIn lw_tbl u_s_X8_takePart := goodIn_ca (z_gr2 gs_all _ [(12, 52), (0, 21), (1, 53), (3, 46), (1, 47), (1, 26), (1, 27), (0, 1), (1, 48), (1, 49), (1, 50), (0, 22), (2, 41), (0, 28), (0, 29), (12, 53), (12, 54), (12, 55), (12, 56), (12, 57), (12, 58), (12, 59), (13, 0), (13, 1), (13, 2), (13, 3), (13, 4)] rfl) (goodIn_app ig_X8 (goodIn_app ig_X10 (goodIn_app gl_s_X10_wordIn (goodIn_app gl_s_X8_tieKnot (goodIn_app gl_s_X10_next (goodIn_app gl_s_X8_takeName (goodIn_app gl_s_X8_takeNot (goodIn_app gl_s_X8_takeNumber (goodIn_app gl_s_X8_takeOpen (goodIn_n))))))))))
set_option maxRecDepth 20000 in
set_option maxHeartbeats 4000000 in
theorem gl_s_X8_joinInHand : GoodIn lw_tbl u_s_X8_joinInHand := goodIn_ca (z_gr2 gs_all _ [(13, 5), (0, 21), (1, 47), (1, 26), (1, 27), (0, 1), (1, 53)] rfl) (goodIn_app ig_X8 (goodIn_app ig_X10 (goodIn_app gl_s_X10_wordIn (goodIn_n))))
set_option maxRecDepth 20000 in
set_option maxHeartbeats 4000000 in
theorem gl_s_X8_settle : GoodIn lw_tbl u_s_X8_settle := goodIn_ca (z_gr2 gs_all _ [(13, 6), (1, 20), (3, 50), (3, 51), (3, 52), (0, 22), (1, 51), (1, 52), (0, 53), (3, 47), (3, 48), (3, 49), (1, 21)] rfl) (goodIn_app ig_X8 (goodIn_app gl_s_X8_lastWaiting (goodIn_app gl_s_X8_tightness (goodIn_app gl_s_X7_add (goodIn_n)))))
set_option maxRecDepth 20000 in
set_option maxHeartbeats 4000000 in
theorem gl_s_X8_takeClose : GoodIn lw_tbl u_s_X8_takeClose := goodIn_ca (z_gr2 gs_all _ [(13, 7), (2, 23), (1, 51), (1, 52), (0, 22), (3, 56), (3, 57), (3, 58), (1, 20), (13, 8), (1, 28), (0, 34), (1, 29), (0, 21), (0, 39), (0, 12), (0, 13), (0, 1)] rfl) (goodIn_app ig_X8 (goodIn_app gl_s_X8_tightness (goodIn_app gl_s_X8_settle (goodIn_app gl_s_X10_fail (goodIn_n)))))
set_option maxRecDepth 20000 in
set_option maxHeartbeats 4000000 in
theorem gl_s_X8_takeJoin : GoodIn lw_tbl u_s_X8_takeJoin := goodIn_ca (z_gr2 gs_all _ [(13, 9), (0, 21), (1, 53), (13, 10), (13, 11), (13, 12), (0, 22), (1, 51), (1, 52), (3, 56), (3, 57), (3, 58), (1, 48), (1, 49), (1, 50), (3, 53), (3, 54), (3, 55), (1, 40), (3, 50), (3, 51), (3, 52), (0, 39), (0, 12), (0, 13), (0, 1), (13, 13), (13, 14), (13, 15)] rfl) (goodIn_app ig_X8 (goodIn_app ig_X10 (goodIn_app gl_s_X8_joinInHand (goodIn_app gl_s_X8_tightness (goodIn_app gl_s_X8_settle (goodIn_app gl_s_X8_tieKnot (goodIn_app gl_s_X8_await (goodIn_app gl_s_X8_lastWaiting (goodIn_app gl_s_X10_fail (goodIn_app gl_s_X8_takeClose (goodIn_n)))))))))))
set_option maxRecDepth 20000 in
set_option maxHeartbeats 4000000 in
theorem gl_s_X8_readBody : GoodIn lw_tbl u_s_X8_readBody := goodIn_ca (z_gr2 gs_all _ [(13, 16), (1, 20), (2, 23), (1, 40), (0, 21), (0, 39), (0, 12), (0, 13), (0, 1), (13, 17), (13, 18), (13, 19), (0, 22), (2, 41), (0, 28), (0, 29), (13, 20), (13, 21), (13, 22), (1, 53), (1, 51), (1, 52), (3, 56), (3, 57), (3, 58)] rfl) (goodIn_app ig_X8 (goodIn_app ig_X10 (goodIn_app gl_s_X10_fail (goodIn_app gl_s_X8_takePart (goodIn_app gl_s_X10_next (goodIn_app gl_s_X8_takeJoin (goodIn_app gl_s_X8_tightness (goodIn_app gl_s_X8_settle (goodIn_n)))))))))
set_option maxRecDepth 20000 in
set_option maxHeartbeats 4000000 in
theorem gl_s_X7_endCause : GoodIn lw_tbl u_s_X7_endCause := goodIn_ca (z_gr2 gs_all _ [(13, 23), (3, 23), (5, 7), (2, 24)] rfl) (goodIn_app ig_X7 (goodIn_n))
set_option maxRecDepth 20000 in
set_option maxHeartbeats 4000000 in
theorem gl_s_X8_readCause : GoodIn lw_tbl u_s_X8_readCause := goodIn_ca (z_gr2 gs_all _ [(13, 24), (0, 21), (1, 47), (1, 26), (1, 27), (0, 1), (0, 53), (5, 46), (2, 41), (0, 28), (0, 29), (13, 25), (13, 26), (13, 27), (0, 22), (1, 53), (13, 28), (13, 29), (13, 30), (13, 31), (13, 32), (13, 33), (1, 21), (0, 39), (0, 12), (0, 13)] rfl) (goodIn_app ig_X8 (goodIn_app ig_X7 (goodIn_app ig_X10 (goodIn_app gl_s_X10_wordIn (goodIn_app gl_s_X10_next (goodIn_app gl_s_X8_readTitle (goodIn_app gl_s_X8_readBody (goodIn_app gl_s_X7_endCause (goodIn_app gl_s_X10_fail (goodIn_n))))))))))
set_option maxRecDepth 20000 in
set_option maxHeartbeats 4000000 in
theorem gl_s_X8_read3 : GoodIn lw_tbl u_s_X8_read3 := goodIn_ca (z_gr2 gs_all _ [(13, 34), (0, 21), (13, 35), (5, 50), (5, 51), (0, 1), (0, 53), (13, 36), (13, 37), (13, 38), (1, 21), (5, 9), (3, 46), (13, 39), (13, 40), (13, 41), (0, 22)] rfl) (goodIn_app ig_X8 (goodIn_app ig_X10 (goodIn_app gl_s_X10_open_r (goodIn_app gl_s_X7_clear (goodIn_app gl_s_X8_readCause (goodIn_n))))))
set_option maxRecDepth 20000 in
set_option maxHeartbeats 4000000 in
theorem gl_s_X11_rules3 : GoodIn lw_tbl u_s_X11_rules3 := goodIn_ca (z_gr2 gs_all _ [(13, 42), (1, 36), (5, 52), (5, 53), (5, 54), (0, 1), (1, 41), (13, 43), (13, 44), (13, 45), (0, 22), (2, 44), (2, 45)] rfl) (goodIn_app ig_X11 (goodIn_app ig_X8 (goodIn_app ig_X7 (goodIn_app gl_s_X10_hasFedA (goodIn_app gl_s_X8_read3 (goodIn_n))))))
set_option maxRecDepth 20000 in
set_option maxHeartbeats 4000000 in
theorem gl_s_X12_isSmall : GoodIn lw_tbl u_s_X12_isSmall := goodIn_ca (z_gr2 gs_all _ [(13, 46), (1, 3), (0, 23)] rfl) (goodIn_app ig_X12 (goodIn_n))
set_option maxRecDepth 20000 in
set_option maxHeartbeats 4000000 in
theorem gl_s_X12_wordAt : GoodIn lw_tbl u_s_X12_wordAt := goodIn_ca (z_gr2 gs_all _ [(5, 55), (3, 35), (0, 23)] rfl) (goodIn_app ig_X12 (goodIn_n))
set_option maxRecDepth 20000 in
set_option maxHeartbeats 4000000 in
theorem gl_s_X12_isDigit : GoodIn lw_tbl u_s_X12_isDigit := goodIn_ca (z_gr2 gs_all _ [(13, 47), (1, 3), (0, 23)] rfl) (goodIn_app ig_X12 (goodIn_n))
set_option maxRecDepth 20000 in
set_option maxHeartbeats 4000000 in
theorem gl_s_X12_digits : GoodIn lw_tbl u_s_X12_digits := goodIn_ca (z_gr2 gs_all _ [(5, 56), (0, 35), (0, 40), (2, 46), (2, 47), (2, 48), (0, 0), (2, 49), (0, 23)] rfl) (goodIn_app ig_X12 (goodIn_app gl_s_X12_isDigit (goodIn_n)))
set_option maxRecDepth 20000 in
set_option maxHeartbeats 4000000 in
theorem gl_s_X12_isAt : GoodIn lw_tbl u_s_X12_isAt := goodIn_ca (z_gr2 gs_all _ [(13, 48), (1, 3), (0, 23)] rfl) (goodIn_app ig_X12 (goodIn_n))
set_option maxRecDepth 20000 in
set_option maxHeartbeats 4000000 in
theorem gl_s_X12_signOf : GoodIn lw_tbl u_s_X12_signOf := goodIn_ca (z_gr2 gs_all _ [(5, 57), (0, 40), (5, 58), (5, 59), (6, 0), (0, 0)] rfl) (goodIn_app ig_X12 (goodIn_app gl_s_X12_isAt (goodIn_n)))
set_option maxRecDepth 20000 in
set_option maxHeartbeats 4000000 in
theorem gl_s_X12_take_r : GoodIn lw_tbl u_s_X12_take_r := goodIn_ca (z_gr2 gs_all _ [(6, 1), (0, 40), (1, 3), (1, 54), (6, 2), (6, 3), (6, 4), (0, 0), (6, 5), (6, 6), (6, 7), (0, 35), (0, 36), (2, 46), (2, 47), (2, 48), (6, 8), (6, 9), (6, 10), (0, 23), (6, 11), (6, 12), (6, 13)] rfl) (goodIn_app ig_X12 (goodIn_app gl_s_X12_isSmall (goodIn_app gl_s_X12_wordAt (goodIn_app gl_s_X12_isDigit (goodIn_app gl_s_X12_digits (goodIn_app gl_s_X12_signOf (goodIn_n)))))))
set_option maxRecDepth 20000 in
set_option maxHeartbeats 4000000 in
theorem gl_s_X12_begins_r : GoodIn lw_tbl u_s_X12_begins_r := goodIn_ca (z_gr2 gs_all _ [(6, 14), (1, 3), (1, 45), (2, 50), (1, 42), (0, 40), (0, 44), (0, 45), (0, 46), (0, 0)] rfl) (goodIn_app ig_X12 (goodIn_app gl_s_X12_take_r (goodIn_n)))
set_option maxRecDepth 20000 in
set_option maxHeartbeats 4000000 in
theorem gl_s_X12_wrong : GoodIn lw_tbl u_s_X12_wrong := goodIn_ca (z_gr2 gs_all _ [(13, 49), (2, 50), (1, 54), (1, 42)] rfl) (goodIn_app ig_X12 (goodIn_n))
set_option maxRecDepth 20000 in
set_option maxHeartbeats 4000000 in
theorem gl_s_X12_isTold : GoodIn lw_tbl u_s_X12_isTold := goodIn_ca (z_gr2 gs_all _ [(13, 50), (3, 59), (3, 41), (0, 40), (1, 54), (3, 40), (0, 23)] rfl) (goodIn_app ig_X12 (goodIn_n))
set_option maxRecDepth 20000 in
set_option maxHeartbeats 4000000 in
theorem gl_s_X12_isSign : GoodIn lw_tbl u_s_X12_isSign := goodIn_ca (z_gr2 gs_all _ [(6, 15), (0, 36), (0, 35)] rfl) (goodIn_app ig_X12 (goodIn_n))
set_option maxRecDepth 20000 in
set_option maxHeartbeats 4000000 in
theorem gl_s_X12_signNow : GoodIn lw_tbl u_s_X12_signNow := goodIn_ca (z_gr2 gs_all _ [(13, 51), (0, 36), (0, 35)] rfl) (goodIn_app ig_X12 (goodIn_n))
set_option maxRecDepth 20000 in
set_option maxHeartbeats 4000000 in
theorem gl_s_X12_weight : GoodIn lw_tbl u_s_X12_weight := goodIn_ca (z_gr2 gs_all _ [(13, 52)] rfl) (goodIn_n)
set_option maxRecDepth 20000 in
set_option maxHeartbeats 4000000 in
theorem gl_s_X12_drop : GoodIn lw_tbl u_s_X12_drop := goodIn_ca (z_gr2 gs_all _ [(13, 53), (4, 0), (3, 44)] rfl) (goodIn_app ig_X12 (goodIn_n))
set_option maxRecDepth 20000 in
set_option maxHeartbeats 4000000 in
theorem gl_s_X12_done : GoodIn lw_tbl u_s_X12_done := goodIn_ca (z_gr2 gs_all _ [(13, 54), (2, 38), (4, 1), (3, 44), (4, 0)] rfl) (goodIn_app ig_X12 (goodIn_n))
