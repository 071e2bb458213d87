theorem goodIn_n {big : List Cond} : GoodIn big [] := fun _ h => absurd h List.not_mem_nil
set_option maxRecDepth 20000 in
set_option maxHeartbeats 4000000 in
theorem gl_s_X10_hasRoom : GoodIn lw_tbl u_s_X10_hasRoom := goodIn_ca (z_gr2 gs_all _ [(11, 20), (1, 8)] rfl) (goodIn_app ig_X10 (goodIn_n))
set_option maxRecDepth 20000 in
set_option maxHeartbeats 4000000 in
theorem gl_s_X10_put : GoodIn lw_tbl u_s_X10_put := goodIn_ca (z_gr2 gs_all _ [(11, 21), (1, 8), (2, 4)] rfl) (goodIn_app ig_X10 (goodIn_n))
set_option maxRecDepth 20000 in
set_option maxHeartbeats 4000000 in
theorem gl_s_X11_feed : GoodIn lw_tbl u_s_X11_feed := goodIn_ca (z_gr2 gs_all _ [(11, 22), (1, 28), (11, 23), (11, 24), (11, 25), (0, 1), (11, 26), (11, 27), (11, 28), (11, 29)] rfl) (goodIn_app ig_X11 (goodIn_app ig_X10 (goodIn_app gl_s_X10_hasRoom (goodIn_app gl_s_X10_put (goodIn_n)))))
set_option maxRecDepth 20000 in
set_option maxHeartbeats 4000000 in
theorem gl_s_X12_feed : GoodIn lw_tbl u_s_X12_feed := goodIn_ca (z_gr2 gs_all _ [(11, 30), (0, 3), (1, 42), (0, 29)] rfl) (goodIn_app ig_X12 (goodIn_n))
set_option maxRecDepth 20000 in
set_option maxHeartbeats 4000000 in
theorem gl_s_X10_hasFed : GoodIn lw_tbl u_s_X10_hasFed := goodIn_ca (z_gr2 gs_all _ [(11, 31), (1, 8)] rfl) (goodIn_app ig_X10 (goodIn_n))
set_option maxRecDepth 20000 in
set_option maxHeartbeats 4000000 in
theorem gl_s_X10_byteAt : GoodIn lw_tbl u_s_X10_byteAt := goodIn_ca (z_gr2 gs_all _ [(5, 16), (0, 27), (2, 4)] rfl) (goodIn_app ig_X10 (goodIn_n))
set_option maxRecDepth 20000 in
set_option maxHeartbeats 4000000 in
theorem gl_s_X10_isLetter : GoodIn lw_tbl u_s_X10_isLetter := goodIn_ca (z_gr2 gs_all _ [(5, 17)] rfl) (goodIn_n)
set_option maxRecDepth 20000 in
set_option maxHeartbeats 4000000 in
theorem gl_s_X10_isDigit : GoodIn lw_tbl u_s_X10_isDigit := goodIn_ca (z_gr2 gs_all _ [(11, 32)] rfl) (goodIn_n)
set_option maxRecDepth 20000 in
set_option maxHeartbeats 4000000 in
theorem gl_s_X10_passDigits : GoodIn lw_tbl u_s_X10_passDigits := goodIn_ca (z_gr2 gs_all _ [(5, 18), (0, 28), (0, 27), (0, 20), (0, 21), (0, 22), (0, 1), (1, 43), (1, 44)] rfl) (goodIn_app ig_X10 (goodIn_app gl_s_X10_byteAt (goodIn_app gl_s_X10_isDigit (goodIn_n))))
set_option maxRecDepth 20000 in
set_option maxHeartbeats 4000000 in
theorem gl_s_X10_passSign : GoodIn lw_tbl u_s_X10_passSign := goodIn_ca (z_gr2 gs_all _ [(5, 19), (0, 28), (0, 20), (0, 21), (0, 22), (0, 1), (1, 27)] rfl) (goodIn_app ig_X10 (goodIn_app gl_s_X10_byteAt (goodIn_n)))
set_option maxRecDepth 20000 in
set_option maxHeartbeats 4000000 in
theorem gl_s_X10_passLetters : GoodIn lw_tbl u_s_X10_passLetters := goodIn_ca (z_gr2 gs_all _ [(5, 20), (0, 28), (0, 27), (0, 20), (0, 21), (0, 22), (0, 1), (2, 33), (2, 34)] rfl) (goodIn_app ig_X10 (goodIn_app gl_s_X10_byteAt (goodIn_app gl_s_X10_isLetter (goodIn_n))))
set_option maxRecDepth 20000 in
set_option maxHeartbeats 4000000 in
theorem gl_s_X10_next : GoodIn lw_tbl u_s_X10_next := goodIn_ca (z_gr2 gs_all _ [(5, 21), (0, 28), (0, 27), (0, 50), (1, 27), (0, 20), (0, 21), (0, 22), (0, 1), (2, 33), (2, 34), (1, 43), (1, 44), (1, 26), (5, 22), (5, 23), (5, 24), (0, 44), (5, 25), (5, 26), (5, 27), (5, 28), (5, 29), (5, 30), (1, 25)] rfl) (goodIn_app ig_X10 (goodIn_app gl_s_X10_byteAt (goodIn_app gl_s_X10_isLetter (goodIn_app gl_s_X10_isDigit (goodIn_app gl_s_X10_passDigits (goodIn_app gl_s_X10_passSign (goodIn_app gl_s_X10_passLetters (goodIn_n))))))))
set_option maxRecDepth 20000 in
set_option maxHeartbeats 4000000 in
theorem gl_s_X10_open_r : GoodIn lw_tbl u_s_X10_open_r := goodIn_ca (z_gr2 gs_all _ [(5, 31), (0, 27), (1, 25), (1, 8), (0, 28), (2, 5), (2, 6), (5, 32), (0, 30), (0, 31), (0, 1)] rfl) (goodIn_app ig_X10 (goodIn_app gl_s_X10_next (goodIn_n)))
set_option maxRecDepth 20000 in
set_option maxHeartbeats 4000000 in
theorem gl_s_X7_clear : GoodIn lw_tbl u_s_X7_clear := goodIn_ca (z_gr2 gs_all _ [(11, 33), (2, 21), (3, 14), (5, 6)] rfl) (goodIn_app ig_X7 (goodIn_n))
set_option maxRecDepth 20000 in
set_option maxHeartbeats 4000000 in
theorem gl_s_J0_coder_7d493 : GoodIn lw_tbl u_s_J0_coder_7d493 := goodIn_ca (z_gr2 gs_all _ [(11, 34), (5, 33), (5, 34)] rfl) (goodIn_n)
set_option maxRecDepth 20000 in
set_option maxHeartbeats 4000000 in
theorem gl_s_J0_length_8abf5 : GoodIn lw_tbl u_s_J0_length_8abf5 := goodIn_ca (z_gr2 gs_all _ [(11, 35), (5, 35), (11, 36), (11, 37), (11, 38), (2, 35)] rfl) (goodIn_app gl_s_J0_coder_7d493 (goodIn_n))
set_option maxRecDepth 20000 in
set_option maxHeartbeats 4000000 in
theorem gl_s_J0_isLatin1_aae02 : GoodIn lw_tbl u_s_J0_isLatin1_aae02 := goodIn_ca (z_gr2 gs_all _ [(11, 39), (5, 33), (5, 34)] rfl) (goodIn_n)
set_option maxRecDepth 20000 in
set_option maxHeartbeats 4000000 in
theorem gl_s_J3_checkIndex_w : GoodIn lw_tbl u_s_J3_checkIndex_w := goodIn_ca (z_gr2 gs_all _ [(11, 40)] rfl) (goodIn_n)
set_option maxRecDepth 20000 in
set_option maxHeartbeats 4000000 in
theorem gl_s_J0_checkIndex_df160 : GoodIn lw_tbl u_s_J0_checkIndex_df160 := goodIn_ca (z_gr2 gs_all _ [(11, 41), (11, 42), (11, 43), (11, 44), (11, 45)] rfl) (goodIn_app gl_s_J3_checkIndex_w (goodIn_n))
set_option maxRecDepth 20000 in
set_option maxHeartbeats 4000000 in
theorem gl_s_J1_charAt_3b067 : GoodIn lw_tbl u_s_J1_charAt_3b067 := goodIn_ca (z_gr2 gs_all _ [(11, 46), (11, 47), (11, 48), (2, 35)] rfl) (goodIn_app gl_s_J0_checkIndex_df160 (goodIn_n))
set_option maxRecDepth 20000 in
set_option maxHeartbeats 4000000 in
theorem gl_s_J0_charAt_5068e : GoodIn lw_tbl u_s_J0_charAt_5068e := goodIn_ca (z_gr2 gs_all _ [(11, 49), (11, 50), (11, 51), (11, 52), (2, 35), (5, 35), (11, 53), (11, 54), (11, 55)] rfl) (goodIn_app gl_s_J0_isLatin1_aae02 (goodIn_app gl_s_J1_charAt_3b067 (goodIn_n)))
set_option maxRecDepth 20000 in
set_option maxHeartbeats 4000000 in
theorem gl_s_X10_wordIn : GoodIn lw_tbl u_s_X10_wordIn := goodIn_ca (z_gr2 gs_all _ [(11, 56), (1, 26), (0, 50), (11, 57), (11, 58), (11, 59), (2, 35), (0, 44), (12, 0), (12, 1), (12, 2), (0, 20), (0, 21), (0, 22), (0, 1)] rfl) (goodIn_app ig_X10 (goodIn_app gl_s_J0_length_8abf5 (goodIn_app gl_s_J0_charAt_5068e (goodIn_app gl_s_X10_byteAt (goodIn_n)))))
set_option maxRecDepth 20000 in
set_option maxHeartbeats 4000000 in
theorem gl_s_X10_fail : GoodIn lw_tbl u_s_X10_fail := goodIn_ca (z_gr2 gs_all _ [(12, 3), (2, 5), (0, 50), (2, 6)] rfl) (goodIn_app ig_X10 (goodIn_n))
set_option maxRecDepth 20000 in
set_option maxHeartbeats 4000000 in
theorem gl_s_X10_isInHandAt : GoodIn lw_tbl u_s_X10_isInHandAt := goodIn_ca (z_gr2 gs_all _ [(12, 4), (0, 44), (0, 50), (0, 20), (0, 21), (0, 22), (0, 1)] rfl) (goodIn_app ig_X10 (goodIn_app gl_s_X10_byteAt (goodIn_n)))
set_option maxRecDepth 20000 in
set_option maxHeartbeats 4000000 in
theorem gl_s_X8_readTitle : GoodIn lw_tbl u_s_X8_readTitle := goodIn_ca (z_gr2 gs_all _ [(12, 5), (0, 17), (12, 6), (5, 36), (3, 39), (0, 34), (0, 9), (0, 10), (0, 1), (1, 45), (1, 15), (1, 16), (0, 46), (5, 37), (5, 1), (5, 2), (2, 36), (0, 30), (0, 31), (12, 7), (12, 8), (12, 9)] rfl) (goodIn_app ig_X8 (goodIn_app ig_X10 (goodIn_app ig_X7 (goodIn_app gl_s_X10_fail (goodIn_app gl_s_X10_wordIn (goodIn_app gl_s_X10_next (goodIn_app gl_s_X10_isInHandAt (goodIn_n))))))))
set_option maxRecDepth 20000 in
set_option maxHeartbeats 4000000 in
theorem gl_s_X8_tieKnot : GoodIn lw_tbl u_s_X8_tieKnot := goodIn_ca (z_gr2 gs_all _ [(12, 10), (0, 46), (12, 11), (0, 17), (0, 34), (0, 9), (0, 10), (0, 1)] rfl) (goodIn_app ig_X8 (goodIn_app ig_X7 (goodIn_app gl_s_X10_fail (goodIn_n))))
set_option maxRecDepth 20000 in
set_option maxHeartbeats 4000000 in
theorem gl_s_X7_add : GoodIn lw_tbl u_s_X7_add := goodIn_ca (z_gr2 gs_all _ [(12, 12), (2, 21), (5, 3), (5, 4)] rfl) (goodIn_app ig_X7 (goodIn_n))
set_option maxRecDepth 20000 in
set_option maxHeartbeats 4000000 in
theorem gl_s_X8_takeName : GoodIn lw_tbl u_s_X8_takeName := goodIn_ca (z_gr2 gs_all _ [(12, 13), (0, 17), (1, 45), (1, 15), (1, 16), (0, 1), (1, 46), (1, 47), (1, 48), (0, 19), (0, 46), (3, 40), (3, 41), (3, 42), (1, 13), (1, 33), (0, 34), (0, 9), (0, 10)] rfl) (goodIn_app ig_X8 (goodIn_app gl_s_X10_wordIn (goodIn_app gl_s_X8_tieKnot (goodIn_app gl_s_X7_add (goodIn_app gl_s_X10_fail (goodIn_n))))))
set_option maxRecDepth 20000 in
set_option maxHeartbeats 4000000 in
theorem gl_s_X8_lastWaiting : GoodIn lw_tbl u_s_X8_lastWaiting := goodIn_ca (z_gr2 gs_all _ [(12, 14), (1, 12), (3, 13)] rfl) (goodIn_app ig_X8 (goodIn_n))
set_option maxRecDepth 20000 in
set_option maxHeartbeats 4000000 in
theorem gl_s_X8_tightness : GoodIn lw_tbl u_s_X8_tightness := goodIn_ca (z_gr2 gs_all _ [(12, 15)] rfl) (goodIn_n)
set_option maxRecDepth 20000 in
set_option maxHeartbeats 4000000 in
theorem gl_s_X8_await : GoodIn lw_tbl u_s_X8_await := goodIn_ca (z_gr2 gs_all _ [(12, 16), (1, 12), (3, 13)] rfl) (goodIn_app ig_X8 (goodIn_n))
set_option maxRecDepth 20000 in
set_option maxHeartbeats 4000000 in
theorem gl_s_X8_takeNot : GoodIn lw_tbl u_s_X8_takeNot := goodIn_ca (z_gr2 gs_all _ [(12, 17), (3, 43), (3, 44), (3, 45), (0, 19), (1, 49), (1, 50), (1, 46), (1, 47), (1, 48), (3, 46), (3, 47), (3, 48), (0, 17), (0, 34), (0, 9), (0, 10), (0, 1)] rfl) (goodIn_app ig_X8 (goodIn_app gl_s_X8_lastWaiting (goodIn_app gl_s_X8_tightness (goodIn_app gl_s_X8_tieKnot (goodIn_app gl_s_X8_await (goodIn_app gl_s_X10_fail (goodIn_n)))))))
set_option maxRecDepth 20000 in
set_option maxHeartbeats 4000000 in
theorem gl_s_X10_numberFrom : GoodIn lw_tbl u_s_X10_numberFrom := goodIn_ca (z_gr2 gs_all _ [(5, 38), (0, 44), (0, 20), (0, 21), (0, 22), (0, 1), (5, 39), (5, 40), (0, 56), (0, 32), (0, 57)] rfl) (goodIn_app ig_X10 (goodIn_app gl_s_X10_byteAt (goodIn_n)))
set_option maxRecDepth 20000 in
set_option maxHeartbeats 4000000 in
theorem gl_s_X8_takeNumber : GoodIn lw_tbl u_s_X8_takeNumber := goodIn_ca (z_gr2 gs_all _ [(12, 18), (0, 17), (5, 36), (12, 19), (3, 49), (3, 50), (0, 1), (12, 20), (1, 46), (1, 47), (1, 48), (0, 19), (0, 46), (3, 40), (3, 41), (3, 42), (1, 13), (1, 33), (0, 34), (0, 9), (0, 10)] rfl) (goodIn_app ig_X8 (goodIn_app ig_X10 (goodIn_app gl_s_X10_numberFrom (goodIn_app gl_s_X8_tieKnot (goodIn_app gl_s_X7_add (goodIn_app gl_s_X10_fail (goodIn_n)))))))
set_option maxRecDepth 20000 in
set_option maxHeartbeats 4000000 in
theorem gl_s_X8_takeOpen : GoodIn lw_tbl u_s_X8_takeOpen := goodIn_ca (z_gr2 gs_all _ [(12, 21), (2, 20), (3, 46), (3, 47), (3, 48), (0, 19), (0, 17), (0, 34), (0, 9), (0, 10), (0, 1)] rfl) (goodIn_app ig_X8 (goodIn_app gl_s_X8_await (goodIn_app gl_s_X10_fail (goodIn_n))))
set_option maxRecDepth 20000 in
set_option maxHeartbeats 4000000 in
theorem gl_s_X8_takePart : GoodIn lw_tbl u_s_X8_takePart := goodIn_ca (z_gr2 gs_all _ [(12, 22), (0, 17), (1, 51), (3, 39), (1, 45), (1, 15), (1, 16), (0, 1), (1, 46), (1, 47), (1, 48), (0, 19), (2, 36), (0, 30), (0, 31), (12, 23), (12, 24), (12, 25), (12, 26), (12, 27), (12, 28), (12, 29), (12, 30), (12, 31), (12, 32), (12, 33), (12, 34)] rfl) (goodIn_app ig_X8 (goodIn_app ig_X10 (goodIn_app gl_s_X10_wordIn (goodIn_app gl_s_X8_tieKnot (goodIn_app gl_s_X10_next (goodIn_app gl_s_X8_takeName (goodIn_app gl_s_X8_takeNot (goodIn_app gl_s_X8_takeNumber (goodIn_app gl_s_X8_takeOpen (goodIn_n))))))))))
set_option maxRecDepth 20000 in
set_option maxHeartbeats 4000000 in
theorem gl_s_X8_joinInHand : GoodIn lw_tbl u_s_X8_joinInHand := goodIn_ca (z_gr2 gs_all _ [(12, 35), (0, 17), (1, 45), (1, 15), (1, 16), (0, 1), (1, 51)] rfl) (goodIn_app ig_X8 (goodIn_app ig_X10 (goodIn_app gl_s_X10_wordIn (goodIn_n))))
set_option maxRecDepth 20000 in
set_option maxHeartbeats 4000000 in
theorem gl_s_X8_settle : GoodIn lw_tbl u_s_X8_settle := goodIn_ca (z_gr2 gs_all _ [(12, 36), (1, 12), (3, 43), (3, 44), (3, 45), (0, 19), (1, 49), (1, 50), (0, 46), (3, 40), (3, 41), (3, 42), (1, 13)] rfl) (goodIn_app ig_X8 (goodIn_app gl_s_X8_lastWaiting (goodIn_app gl_s_X8_tightness (goodIn_app gl_s_X7_add (goodIn_n)))))
set_option maxRecDepth 20000 in
set_option maxHeartbeats 4000000 in
theorem gl_s_X8_takeClose : GoodIn lw_tbl u_s_X8_takeClose := goodIn_ca (z_gr2 gs_all _ [(12, 37), (2, 20), (1, 49), (1, 50), (0, 19), (3, 51), (3, 52), (3, 53), (1, 12), (12, 38), (1, 17), (0, 32), (1, 18), (0, 17), (0, 34), (0, 9), (0, 10), (0, 1)] rfl) (goodIn_app ig_X8 (goodIn_app gl_s_X8_tightness (goodIn_app gl_s_X8_settle (goodIn_app gl_s_X10_fail (goodIn_n)))))
set_option maxRecDepth 20000 in
set_option maxHeartbeats 4000000 in
theorem gl_s_X8_takeJoin : GoodIn lw_tbl u_s_X8_takeJoin := goodIn_ca (z_gr2 gs_all _ [(12, 39), (0, 17), (1, 51), (12, 40), (12, 41), (12, 42), (0, 19), (1, 49), (1, 50), (3, 51), (3, 52), (3, 53), (1, 46), (1, 47), (1, 48), (3, 46), (3, 47), (3, 48), (1, 33), (3, 43), (3, 44), (3, 45), (0, 34), (0, 9), (0, 10), (0, 1), (12, 43), (12, 44), (12, 45)] rfl) (goodIn_app ig_X8 (goodIn_app ig_X10 (goodIn_app gl_s_X8_joinInHand (goodIn_app gl_s_X8_tightness (goodIn_app gl_s_X8_settle (goodIn_app gl_s_X8_tieKnot (goodIn_app gl_s_X8_await (goodIn_app gl_s_X8_lastWaiting (goodIn_app gl_s_X10_fail (goodIn_app gl_s_X8_takeClose (goodIn_n)))))))))))
set_option maxRecDepth 20000 in
set_option maxHeartbeats 4000000 in
theorem gl_s_X8_readBody : GoodIn lw_tbl u_s_X8_readBody := goodIn_ca (z_gr2 gs_all _ [(12, 46), (1, 12), (2, 20), (1, 33), (0, 17), (0, 34), (0, 9), (0, 10), (0, 1), (12, 47), (12, 48), (12, 49), (0, 19), (2, 36), (0, 30), (0, 31), (12, 50), (12, 51), (12, 52), (1, 51), (1, 49), (1, 50), (3, 51), (3, 52), (3, 53)] rfl) (goodIn_app ig_X8 (goodIn_app ig_X10 (goodIn_app gl_s_X10_fail (goodIn_app gl_s_X8_takePart (goodIn_app gl_s_X10_next (goodIn_app gl_s_X8_takeJoin (goodIn_app gl_s_X8_tightness (goodIn_app gl_s_X8_settle (goodIn_n)))))))))
set_option maxRecDepth 20000 in
set_option maxHeartbeats 4000000 in
theorem gl_s_X7_endCause : GoodIn lw_tbl u_s_X7_endCause := goodIn_ca (z_gr2 gs_all _ [(12, 53), (3, 14), (5, 5), (2, 21)] rfl) (goodIn_app ig_X7 (goodIn_n))
set_option maxRecDepth 20000 in
set_option maxHeartbeats 4000000 in
theorem gl_s_X8_readCause : GoodIn lw_tbl u_s_X8_readCause := goodIn_ca (z_gr2 gs_all _ [(12, 54), (0, 17), (1, 45), (1, 15), (1, 16), (0, 1), (0, 46), (5, 37), (2, 36), (0, 30), (0, 31), (12, 55), (12, 56), (12, 57), (0, 19), (1, 51), (12, 58), (12, 59), (13, 0), (13, 1), (13, 2), (13, 3), (1, 13), (0, 34), (0, 9), (0, 10)] rfl) (goodIn_app ig_X8 (goodIn_app ig_X7 (goodIn_app ig_X10 (goodIn_app gl_s_X10_wordIn (goodIn_app gl_s_X10_next (goodIn_app gl_s_X8_readTitle (goodIn_app gl_s_X8_readBody (goodIn_app gl_s_X7_endCause (goodIn_app gl_s_X10_fail (goodIn_n))))))))))
set_option maxRecDepth 20000 in
set_option maxHeartbeats 4000000 in
theorem gl_s_X8_read : GoodIn lw_tbl u_s_X8_read := goodIn_ca (z_gr2 gs_all _ [(13, 4), (0, 17), (13, 5), (5, 41), (5, 42), (0, 1), (0, 46), (13, 6), (13, 7), (13, 8), (1, 13), (5, 7), (3, 39), (13, 9), (13, 10), (13, 11), (0, 19)] rfl) (goodIn_app ig_X8 (goodIn_app ig_X10 (goodIn_app gl_s_X10_open_r (goodIn_app gl_s_X7_clear (goodIn_app gl_s_X8_readCause (goodIn_n))))))
set_option maxRecDepth 20000 in
set_option maxHeartbeats 4000000 in
theorem gl_s_X11_rules : GoodIn lw_tbl u_s_X11_rules := goodIn_ca (z_gr2 gs_all _ [(13, 12), (1, 28), (5, 43), (5, 44), (5, 45), (0, 1), (1, 34), (13, 13), (13, 14), (13, 15), (0, 19), (2, 37), (2, 38)] rfl) (goodIn_app ig_X11 (goodIn_app ig_X8 (goodIn_app ig_X7 (goodIn_app gl_s_X10_hasFed (goodIn_app gl_s_X8_read (goodIn_n))))))
set_option maxRecDepth 20000 in
set_option maxHeartbeats 4000000 in
theorem gl_s_X12_isSmall : GoodIn lw_tbl u_s_X12_isSmall := goodIn_ca (z_gr2 gs_all _ [(13, 16), (0, 58), (0, 29)] rfl) (goodIn_app ig_X12 (goodIn_n))
set_option maxRecDepth 20000 in
set_option maxHeartbeats 4000000 in
theorem gl_s_X12_wordAt : GoodIn lw_tbl u_s_X12_wordAt := goodIn_ca (z_gr2 gs_all _ [(13, 17), (5, 13), (0, 29)] rfl) (goodIn_app ig_X12 (goodIn_n))
set_option maxRecDepth 20000 in
set_option maxHeartbeats 4000000 in
theorem gl_s_X12_isDigit : GoodIn lw_tbl u_s_X12_isDigit := goodIn_ca (z_gr2 gs_all _ [(13, 18), (0, 58), (0, 29)] rfl) (goodIn_app ig_X12 (goodIn_n))
set_option maxRecDepth 20000 in
set_option maxHeartbeats 4000000 in
theorem gl_s_X12_digits : GoodIn lw_tbl u_s_X12_digits := goodIn_ca (z_gr2 gs_all _ [(13, 19), (0, 37), (0, 49), (3, 54), (3, 55), (3, 56), (0, 0), (3, 57), (0, 29)] rfl) (goodIn_app ig_X12 (goodIn_app gl_s_X12_isDigit (goodIn_n)))
set_option maxRecDepth 20000 in
set_option maxHeartbeats 4000000 in
theorem gl_s_X12_isAt : GoodIn lw_tbl u_s_X12_isAt := goodIn_ca (z_gr2 gs_all _ [(13, 20), (0, 58), (0, 29)] rfl) (goodIn_app ig_X12 (goodIn_n))
set_option maxRecDepth 20000 in
set_option maxHeartbeats 4000000 in
theorem gl_s_X12_signOf : GoodIn lw_tbl u_s_X12_signOf := goodIn_ca (z_gr2 gs_all _ [(13, 21), (0, 49), (13, 22), (13, 23), (13, 24), (0, 0)] rfl) (goodIn_app ig_X12 (goodIn_app gl_s_X12_isAt (goodIn_n)))
set_option maxRecDepth 20000 in
set_option maxHeartbeats 4000000 in
theorem gl_s_X12_take_r : GoodIn lw_tbl u_s_X12_take_r := goodIn_ca (z_gr2 gs_all _ [(5, 46), (0, 49), (0, 58), (1, 52), (5, 47), (5, 48), (5, 49), (0, 0), (5, 50), (5, 51), (5, 52), (0, 37), (0, 35), (3, 54), (3, 55), (3, 56), (5, 53), (5, 54), (5, 55), (0, 29), (5, 56), (5, 57), (5, 58)] rfl) (goodIn_app ig_X12 (goodIn_app gl_s_X12_isSmall (goodIn_app gl_s_X12_wordAt (goodIn_app gl_s_X12_isDigit (goodIn_app gl_s_X12_digits (goodIn_app gl_s_X12_signOf (goodIn_n)))))))
set_option maxRecDepth 20000 in
set_option maxHeartbeats 4000000 in
theorem gl_s_X12_begins_r : GoodIn lw_tbl u_s_X12_begins_r := goodIn_ca (z_gr2 gs_all _ [(5, 59), (0, 58), (1, 42), (2, 39), (1, 39), (0, 49), (0, 38), (0, 39), (0, 40), (0, 0)] rfl) (goodIn_app ig_X12 (goodIn_app gl_s_X12_take_r (goodIn_n)))
set_option maxRecDepth 20000 in
set_option maxHeartbeats 4000000 in
theorem gl_s_X12_wrong : GoodIn lw_tbl u_s_X12_wrong := goodIn_ca (z_gr2 gs_all _ [(13, 25), (2, 39), (1, 52), (1, 39)] rfl) (goodIn_app ig_X12 (goodIn_n))
set_option maxRecDepth 20000 in
set_option maxHeartbeats 4000000 in
theorem gl_s_X12_isTold : GoodIn lw_tbl u_s_X12_isTold := goodIn_ca (z_gr2 gs_all _ [(13, 26), (3, 58), (3, 34), (0, 49), (1, 52), (3, 33), (0, 29)] rfl) (goodIn_app ig_X12 (goodIn_n))
set_option maxRecDepth 20000 in
set_option maxHeartbeats 4000000 in
theorem gl_s_X12_isSign : GoodIn lw_tbl u_s_X12_isSign := goodIn_ca (z_gr2 gs_all _ [(13, 27), (0, 35), (0, 37)] rfl) (goodIn_app ig_X12 (goodIn_n))
set_option maxRecDepth 20000 in
set_option maxHeartbeats 4000000 in
theorem gl_s_X12_signNow : GoodIn lw_tbl u_s_X12_signNow := goodIn_ca (z_gr2 gs_all _ [(13, 28), (0, 35), (0, 37)] rfl) (goodIn_app ig_X12 (goodIn_n))
set_option maxRecDepth 20000 in
set_option maxHeartbeats 4000000 in
theorem gl_s_X12_weight : GoodIn lw_tbl u_s_X12_weight := goodIn_ca (z_gr2 gs_all _ [(13, 29)] rfl) (goodIn_n)
set_option maxRecDepth 20000 in
set_option maxHeartbeats 4000000 in
theorem gl_s_X12_drop : GoodIn lw_tbl u_s_X12_drop := goodIn_ca (z_gr2 gs_all _ [(13, 30), (3, 59), (3, 37)] rfl) (goodIn_app ig_X12 (goodIn_n))
set_option maxRecDepth 20000 in
set_option maxHeartbeats 4000000 in
theorem gl_s_X12_done : GoodIn lw_tbl u_s_X12_done := goodIn_ca (z_gr2 gs_all _ [(13, 31), (2, 32), (4, 0), (3, 37), (3, 59)] rfl) (goodIn_app ig_X12 (goodIn_n))
