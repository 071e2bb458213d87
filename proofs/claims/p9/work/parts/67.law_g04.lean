theorem goodIn_n {big : List Cond} : GoodIn big [] := fun _ h => absurd h List.not_mem_nil
set_option maxRecDepth 20000 in
set_option maxHeartbeats 4000000 in
theorem gl_s_X10_hasRoomA : GoodIn lw_tbl u_s_X10_hasRoomA := goodIn_ca (z_gr2 gs_all _ [(13, 1), (1, 23)] rfl) (goodIn_app ig_X10 (goodIn_n))
set_option maxRecDepth 20000 in
set_option maxHeartbeats 4000000 in
theorem gl_s_X10_put3 : GoodIn lw_tbl u_s_X10_put3 := goodIn_ca (z_gr2 gs_all _ [(13, 2), (1, 23), (3, 31)] rfl) (goodIn_app ig_X10 (goodIn_n))
set_option maxRecDepth 20000 in
set_option maxHeartbeats 4000000 in
theorem gl_s_X11_feed3 : GoodIn lw_tbl u_s_X11_feed3 := goodIn_ca (z_gr2 gs_all _ [(13, 3), (1, 49), (13, 4), (13, 5), (13, 6), (0, 1), (13, 7), (13, 8), (13, 9), (13, 10)] rfl) (goodIn_app ig_X11 (goodIn_app ig_X10 (goodIn_app gl_s_X10_hasRoomA (goodIn_app gl_s_X10_put3 (goodIn_n)))))
set_option maxRecDepth 20000 in
set_option maxHeartbeats 4000000 in
theorem gl_s_X12_feed3 : GoodIn lw_tbl u_s_X12_feed3 := goodIn_ca (z_gr2 gs_all _ [(13, 11), (0, 4), (2, 14), (0, 21)] rfl) (goodIn_app ig_X12 (goodIn_n))
set_option maxRecDepth 20000 in
set_option maxHeartbeats 4000000 in
theorem gl_s_X10_hasFedA : GoodIn lw_tbl u_s_X10_hasFedA := goodIn_ca (z_gr2 gs_all _ [(13, 12), (1, 23)] rfl) (goodIn_app ig_X10 (goodIn_n))
set_option maxRecDepth 20000 in
set_option maxHeartbeats 4000000 in
theorem gl_s_X10_byteAt4 : GoodIn lw_tbl u_s_X10_byteAt4 := goodIn_ca (z_gr2 gs_all _ [(13, 13), (0, 51), (3, 31)] rfl) (goodIn_app ig_X10 (goodIn_n))
set_option maxRecDepth 20000 in
set_option maxHeartbeats 4000000 in
theorem gl_s_X10_isLetter3 : GoodIn lw_tbl u_s_X10_isLetter3 := goodIn_ca (z_gr2 gs_all _ [(13, 14)] rfl) (goodIn_n)
set_option maxRecDepth 20000 in
set_option maxHeartbeats 4000000 in
theorem gl_s_X10_passLetters3 : GoodIn lw_tbl u_s_X10_passLetters3 := goodIn_ca (z_gr2 gs_all _ [(13, 15), (0, 39), (0, 51), (0, 29), (0, 30), (0, 31), (0, 1), (4, 1), (4, 2)] rfl) (goodIn_app ig_X10 (goodIn_app gl_s_X10_byteAt4 (goodIn_app gl_s_X10_isLetter3 (goodIn_n))))
set_option maxRecDepth 20000 in
set_option maxHeartbeats 4000000 in
theorem gl_s_X10_isDigit3 : GoodIn lw_tbl u_s_X10_isDigit3 := goodIn_ca (z_gr2 gs_all _ [(13, 16)] rfl) (goodIn_n)
set_option maxRecDepth 20000 in
set_option maxHeartbeats 4000000 in
theorem gl_s_X10_passDigits3 : GoodIn lw_tbl u_s_X10_passDigits3 := goodIn_ca (z_gr2 gs_all _ [(13, 17), (0, 39), (0, 51), (0, 29), (0, 30), (0, 31), (0, 1), (2, 15), (2, 16)] rfl) (goodIn_app ig_X10 (goodIn_app gl_s_X10_byteAt4 (goodIn_app gl_s_X10_isDigit3 (goodIn_n))))
set_option maxRecDepth 20000 in
set_option maxHeartbeats 4000000 in
theorem gl_s_X10_passSignR : GoodIn lw_tbl u_s_X10_passSignR := goodIn_ca (z_gr2 gs_all _ [(5, 34), (0, 39), (0, 29), (0, 30), (0, 31), (0, 1), (1, 48)] rfl) (goodIn_app ig_X10 (goodIn_app gl_s_X10_byteAt4 (goodIn_n)))
set_option maxRecDepth 20000 in
set_option maxHeartbeats 4000000 in
theorem gl_s_X10_nextR : GoodIn lw_tbl u_s_X10_nextR := goodIn_ca (z_gr2 gs_all _ [(5, 35), (0, 39), (0, 51), (0, 40), (1, 48), (0, 29), (0, 30), (0, 31), (0, 1), (4, 1), (4, 2), (1, 4), (5, 36), (5, 37), (5, 38), (1, 47), (0, 41), (2, 15), (2, 16), (5, 39), (5, 40), (5, 41), (5, 42), (5, 43), (5, 44)] rfl) (goodIn_app ig_X10 (goodIn_app gl_s_X10_byteAt4 (goodIn_app gl_s_X10_isLetter3 (goodIn_app gl_s_X10_passLetters3 (goodIn_app gl_s_X10_isDigit3 (goodIn_app gl_s_X10_passDigits3 (goodIn_app gl_s_X10_passSignR (goodIn_n))))))))
set_option maxRecDepth 20000 in
set_option maxHeartbeats 4000000 in
theorem gl_s_X10_openR : GoodIn lw_tbl u_s_X10_openR := goodIn_ca (z_gr2 gs_all _ [(5, 45), (0, 51), (1, 47), (1, 23), (0, 39), (2, 30), (2, 31), (5, 46), (0, 32), (0, 33), (0, 1)] rfl) (goodIn_app ig_X10 (goodIn_app gl_s_X10_nextR (goodIn_n)))
set_option maxRecDepth 20000 in
set_option maxHeartbeats 4000000 in
theorem gl_s_X7_clearR : GoodIn lw_tbl u_s_X7_clearR := goodIn_ca (z_gr2 gs_all _ [(13, 18), (2, 47), (3, 46), (5, 26)] rfl) (goodIn_app ig_X7 (goodIn_n))
set_option maxRecDepth 20000 in
set_option maxHeartbeats 4000000 in
theorem gl_s_J0_coder_7d493 : GoodIn lw_tbl u_s_J0_coder_7d493 := goodIn_ca (z_gr2 gs_all _ [(13, 19), (5, 47), (5, 48)] rfl) (goodIn_n)
set_option maxRecDepth 20000 in
set_option maxHeartbeats 4000000 in
theorem gl_s_J0_length_8abf5 : GoodIn lw_tbl u_s_J0_length_8abf5 := goodIn_ca (z_gr2 gs_all _ [(13, 20), (5, 49), (13, 21), (13, 22), (13, 23), (2, 17)] rfl) (goodIn_app gl_s_J0_coder_7d493 (goodIn_n))
set_option maxRecDepth 20000 in
set_option maxHeartbeats 4000000 in
theorem gl_s_J0_isLatin1_aae02 : GoodIn lw_tbl u_s_J0_isLatin1_aae02 := goodIn_ca (z_gr2 gs_all _ [(13, 24), (5, 47), (5, 48)] rfl) (goodIn_n)
set_option maxRecDepth 20000 in
set_option maxHeartbeats 4000000 in
theorem gl_s_J3_checkIndex_w : GoodIn lw_tbl u_s_J3_checkIndex_w := goodIn_ca (z_gr2 gs_all _ [(13, 25)] rfl) (goodIn_n)
set_option maxRecDepth 20000 in
set_option maxHeartbeats 4000000 in
theorem gl_s_J0_checkIndex_df160 : GoodIn lw_tbl u_s_J0_checkIndex_df160 := goodIn_ca (z_gr2 gs_all _ [(13, 26), (13, 27), (13, 28), (13, 29), (13, 30)] rfl) (goodIn_app gl_s_J3_checkIndex_w (goodIn_n))
set_option maxRecDepth 20000 in
set_option maxHeartbeats 4000000 in
theorem gl_s_J1_charAt_3b067 : GoodIn lw_tbl u_s_J1_charAt_3b067 := goodIn_ca (z_gr2 gs_all _ [(13, 31), (13, 32), (13, 33), (2, 17)] rfl) (goodIn_app gl_s_J0_checkIndex_df160 (goodIn_n))
set_option maxRecDepth 20000 in
set_option maxHeartbeats 4000000 in
theorem gl_s_J0_charAt_5068e : GoodIn lw_tbl u_s_J0_charAt_5068e := goodIn_ca (z_gr2 gs_all _ [(13, 34), (13, 35), (13, 36), (13, 37), (2, 17), (5, 49), (13, 38), (13, 39), (13, 40)] rfl) (goodIn_app gl_s_J0_isLatin1_aae02 (goodIn_app gl_s_J1_charAt_3b067 (goodIn_n)))
set_option maxRecDepth 20000 in
set_option maxHeartbeats 4000000 in
theorem gl_s_X10_wordInR : GoodIn lw_tbl u_s_X10_wordInR := goodIn_ca (z_gr2 gs_all _ [(5, 50), (1, 4), (0, 40), (5, 51), (5, 52), (5, 53), (2, 17), (0, 41), (5, 54), (5, 55), (5, 56), (0, 29), (0, 30), (0, 31), (0, 1)] rfl) (goodIn_app ig_X10 (goodIn_app gl_s_J0_length_8abf5 (goodIn_app gl_s_J0_charAt_5068e (goodIn_app gl_s_X10_byteAt4 (goodIn_n)))))
set_option maxRecDepth 20000 in
set_option maxHeartbeats 4000000 in
theorem gl_s_X10_fail : GoodIn lw_tbl u_s_X10_fail := goodIn_ca (z_gr2 gs_all _ [(13, 41), (2, 30), (0, 40), (2, 31)] rfl) (goodIn_app ig_X10 (goodIn_n))
set_option maxRecDepth 20000 in
set_option maxHeartbeats 4000000 in
theorem gl_s_X10_isInHandAtR : GoodIn lw_tbl u_s_X10_isInHandAtR := goodIn_ca (z_gr2 gs_all _ [(13, 42), (0, 41), (0, 40), (0, 29), (0, 30), (0, 31), (0, 1)] rfl) (goodIn_app ig_X10 (goodIn_app gl_s_X10_byteAt4 (goodIn_n)))
set_option maxRecDepth 20000 in
set_option maxHeartbeats 4000000 in
theorem gl_s_X8_readTitleO : GoodIn lw_tbl u_s_X8_readTitleO := goodIn_ca (z_gr2 gs_all _ [(13, 43), (0, 9), (13, 44), (5, 57), (4, 3), (0, 37), (0, 10), (0, 11), (0, 1), (1, 35), (1, 12), (1, 13), (0, 43), (5, 58), (5, 21), (5, 22), (3, 4), (0, 32), (0, 33), (13, 45), (13, 46), (13, 47)] rfl) (goodIn_app ig_X8 (goodIn_app ig_X10 (goodIn_app ig_X7 (goodIn_app gl_s_X10_fail (goodIn_app gl_s_X10_wordInR (goodIn_app gl_s_X10_nextR (goodIn_app gl_s_X10_isInHandAtR (goodIn_n))))))))
set_option maxRecDepth 20000 in
set_option maxHeartbeats 4000000 in
theorem gl_s_X8_tieKnotR : GoodIn lw_tbl u_s_X8_tieKnotR := goodIn_ca (z_gr2 gs_all _ [(13, 48), (0, 43), (13, 49), (0, 9), (0, 37), (0, 10), (0, 11), (0, 1)] rfl) (goodIn_app ig_X8 (goodIn_app ig_X7 (goodIn_app gl_s_X10_fail (goodIn_n))))
set_option maxRecDepth 20000 in
set_option maxHeartbeats 4000000 in
theorem gl_s_X7_addO : GoodIn lw_tbl u_s_X7_addO := goodIn_ca (z_gr2 gs_all _ [(13, 50), (2, 47), (5, 23), (5, 24)] rfl) (goodIn_app ig_X7 (goodIn_n))
set_option maxRecDepth 20000 in
set_option maxHeartbeats 4000000 in
theorem gl_s_X8_takeName_3O : GoodIn lw_tbl u_s_X8_takeName_3O := goodIn_ca (z_gr2 gs_all _ [(5, 59), (0, 9), (1, 35), (1, 12), (1, 13), (0, 1), (1, 36), (1, 37), (1, 38), (0, 19), (0, 43), (3, 5), (3, 6), (3, 7), (1, 9), (1, 31), (0, 37), (0, 10), (0, 11)] rfl) (goodIn_app ig_X8 (goodIn_app gl_s_X10_wordInR (goodIn_app gl_s_X8_tieKnotR (goodIn_app gl_s_X7_addO (goodIn_app gl_s_X10_fail (goodIn_n))))))
set_option maxRecDepth 20000 in
set_option maxHeartbeats 4000000 in
theorem gl_s_X8_takeName_2O : GoodIn lw_tbl u_s_X8_takeName_2O := goodIn_ca (z_gr2 gs_all _ [(5, 59), (0, 9), (1, 35), (1, 12), (1, 13), (0, 1), (1, 36), (1, 37), (1, 38), (0, 19), (0, 43), (3, 5), (3, 6), (3, 7), (1, 9), (1, 31), (0, 37), (0, 10), (0, 11)] rfl) (goodIn_app ig_X8 (goodIn_app gl_s_X10_wordInR (goodIn_app gl_s_X8_tieKnotR (goodIn_app gl_s_X7_addO (goodIn_app gl_s_X10_fail (goodIn_n))))))
set_option maxRecDepth 20000 in
set_option maxHeartbeats 4000000 in
theorem gl_s_X8_lastWaitingR : GoodIn lw_tbl u_s_X8_lastWaitingR := goodIn_ca (z_gr2 gs_all _ [(13, 51), (1, 30), (3, 45)] rfl) (goodIn_app ig_X8 (goodIn_n))
set_option maxRecDepth 20000 in
set_option maxHeartbeats 4000000 in
theorem gl_s_X8_tightnessR : GoodIn lw_tbl u_s_X8_tightnessR := goodIn_ca (z_gr2 gs_all _ [(13, 52)] rfl) (goodIn_n)
set_option maxRecDepth 20000 in
set_option maxHeartbeats 4000000 in
theorem gl_s_X8_awaitR : GoodIn lw_tbl u_s_X8_awaitR := goodIn_ca (z_gr2 gs_all _ [(13, 53), (1, 30), (3, 45)] rfl) (goodIn_app ig_X8 (goodIn_n))
set_option maxRecDepth 20000 in
set_option maxHeartbeats 4000000 in
theorem gl_s_X8_takeNotO : GoodIn lw_tbl u_s_X8_takeNotO := goodIn_ca (z_gr2 gs_all _ [(13, 54), (4, 4), (4, 5), (4, 6), (0, 19), (2, 18), (2, 19), (1, 36), (1, 37), (1, 38), (4, 7), (4, 8), (4, 9), (0, 9), (0, 37), (0, 10), (0, 11), (0, 1)] rfl) (goodIn_app ig_X8 (goodIn_app gl_s_X8_lastWaitingR (goodIn_app gl_s_X8_tightnessR (goodIn_app gl_s_X8_tieKnotR (goodIn_app gl_s_X8_awaitR (goodIn_app gl_s_X10_fail (goodIn_n)))))))
set_option maxRecDepth 20000 in
set_option maxHeartbeats 4000000 in
theorem gl_s_X10_numberFrom3 : GoodIn lw_tbl u_s_X10_numberFrom3 := goodIn_ca (z_gr2 gs_all _ [(13, 55), (0, 41), (0, 29), (0, 30), (0, 31), (0, 1), (13, 56), (13, 57), (0, 56), (0, 22), (0, 57)] rfl) (goodIn_app ig_X10 (goodIn_app gl_s_X10_byteAt4 (goodIn_n)))
set_option maxRecDepth 20000 in
set_option maxHeartbeats 4000000 in
theorem gl_s_X8_takeNumberO : GoodIn lw_tbl u_s_X8_takeNumberO := goodIn_ca (z_gr2 gs_all _ [(13, 58), (0, 9), (5, 57), (13, 59), (3, 8), (3, 9), (0, 1), (14, 0), (1, 36), (1, 37), (1, 38), (0, 19), (0, 43), (3, 5), (3, 6), (3, 7), (1, 9), (1, 31), (0, 37), (0, 10), (0, 11)] rfl) (goodIn_app ig_X8 (goodIn_app ig_X10 (goodIn_app gl_s_X10_numberFrom3 (goodIn_app gl_s_X8_tieKnotR (goodIn_app gl_s_X7_addO (goodIn_app gl_s_X10_fail (goodIn_n)))))))
set_option maxRecDepth 20000 in
set_option maxHeartbeats 4000000 in
theorem gl_s_X8_takeOpenO : GoodIn lw_tbl u_s_X8_takeOpenO := goodIn_ca (z_gr2 gs_all _ [(14, 1), (2, 46), (4, 7), (4, 8), (4, 9), (0, 19), (0, 9), (0, 37), (0, 10), (0, 11), (0, 1)] rfl) (goodIn_app ig_X8 (goodIn_app gl_s_X8_awaitR (goodIn_app gl_s_X10_fail (goodIn_n))))
set_option maxRecDepth 20000 in
set_option maxHeartbeats 4000000 in
theorem gl_s_X8_takePartO : GoodIn lw_tbl u_s_X8_takePartO := goodIn_ca (z_gr2 gs_all _ [(14, 2), (0, 9), (2, 20), (4, 3), (1, 35), (1, 12), (1, 13), (0, 1), (1, 36), (1, 37), (1, 38), (0, 19), (3, 4), (0, 32), (0, 33), (14, 3), (14, 4), (14, 5), (14, 6), (14, 7), (14, 8), (14, 9), (14, 10), (14, 11), (14, 12), (14, 13), (14, 14)] rfl) (goodIn_app ig_X8 (goodIn_app ig_X10 (goodIn_app gl_s_X10_wordInR (goodIn_app gl_s_X8_tieKnotR (goodIn_app gl_s_X10_nextR (goodIn_app gl_s_X8_takeName_3O (goodIn_app gl_s_X8_takeName_2O (goodIn_app gl_s_X8_takeNotO (goodIn_app gl_s_X8_takeNumberO (goodIn_app gl_s_X8_takeOpenO (goodIn_n)))))))))))
set_option maxRecDepth 20000 in
set_option maxHeartbeats 4000000 in
theorem gl_s_X8_joinInHandR : GoodIn lw_tbl u_s_X8_joinInHandR := goodIn_ca (z_gr2 gs_all _ [(14, 15), (0, 9), (1, 35), (1, 12), (1, 13), (0, 1), (2, 20)] rfl) (goodIn_app ig_X8 (goodIn_app ig_X10 (goodIn_app gl_s_X10_wordInR (goodIn_n))))
set_option maxRecDepth 20000 in
set_option maxHeartbeats 4000000 in
theorem gl_s_X8_settleO : GoodIn lw_tbl u_s_X8_settleO := goodIn_ca (z_gr2 gs_all _ [(14, 16), (1, 30), (4, 4), (4, 5), (4, 6), (0, 19), (2, 18), (2, 19), (0, 43), (3, 5), (3, 6), (3, 7), (1, 9)] rfl) (goodIn_app ig_X8 (goodIn_app gl_s_X8_lastWaitingR (goodIn_app gl_s_X8_tightnessR (goodIn_app gl_s_X7_addO (goodIn_n)))))
set_option maxRecDepth 20000 in
set_option maxHeartbeats 4000000 in
theorem gl_s_X8_takeCloseO : GoodIn lw_tbl u_s_X8_takeCloseO := goodIn_ca (z_gr2 gs_all _ [(14, 17), (2, 46), (2, 18), (2, 19), (0, 19), (4, 10), (4, 11), (4, 12), (1, 30), (14, 18), (1, 14), (0, 22), (1, 15), (0, 9), (0, 37), (0, 10), (0, 11), (0, 1)] rfl) (goodIn_app ig_X8 (goodIn_app gl_s_X8_tightnessR (goodIn_app gl_s_X8_settleO (goodIn_app gl_s_X10_fail (goodIn_n)))))
set_option maxRecDepth 20000 in
set_option maxHeartbeats 4000000 in
theorem gl_s_X8_takeJoinO : GoodIn lw_tbl u_s_X8_takeJoinO := goodIn_ca (z_gr2 gs_all _ [(14, 19), (0, 9), (2, 20), (14, 20), (14, 21), (14, 22), (0, 19), (2, 18), (2, 19), (4, 10), (4, 11), (4, 12), (1, 36), (1, 37), (1, 38), (4, 7), (4, 8), (4, 9), (1, 31), (4, 4), (4, 5), (4, 6), (0, 37), (0, 10), (0, 11), (0, 1), (14, 23), (14, 24), (14, 25)] rfl) (goodIn_app ig_X8 (goodIn_app ig_X10 (goodIn_app gl_s_X8_joinInHandR (goodIn_app gl_s_X8_tightnessR (goodIn_app gl_s_X8_settleO (goodIn_app gl_s_X8_tieKnotR (goodIn_app gl_s_X8_awaitR (goodIn_app gl_s_X8_lastWaitingR (goodIn_app gl_s_X10_fail (goodIn_app gl_s_X8_takeCloseO (goodIn_n)))))))))))
set_option maxRecDepth 20000 in
set_option maxHeartbeats 4000000 in
theorem gl_s_X8_readBodyO : GoodIn lw_tbl u_s_X8_readBodyO := goodIn_ca (z_gr2 gs_all _ [(14, 26), (1, 30), (2, 46), (1, 31), (14, 27), (14, 28), (14, 29), (0, 19), (0, 9), (3, 4), (0, 32), (0, 33), (0, 1), (14, 30), (14, 31), (14, 32), (2, 20), (2, 18), (2, 19), (4, 10), (4, 11), (4, 12)] rfl) (goodIn_app ig_X8 (goodIn_app ig_X10 (goodIn_app gl_s_X8_takePartO (goodIn_app gl_s_X10_nextR (goodIn_app gl_s_X8_takeJoinO (goodIn_app gl_s_X8_tightnessR (goodIn_app gl_s_X8_settleO (goodIn_n))))))))
set_option maxRecDepth 20000 in
set_option maxHeartbeats 4000000 in
theorem gl_s_X7_endCauseO : GoodIn lw_tbl u_s_X7_endCauseO := goodIn_ca (z_gr2 gs_all _ [(14, 33), (3, 46), (5, 25), (2, 47)] rfl) (goodIn_app ig_X7 (goodIn_n))
set_option maxRecDepth 20000 in
set_option maxHeartbeats 4000000 in
theorem gl_s_X8_readCauseO : GoodIn lw_tbl u_s_X8_readCauseO := goodIn_ca (z_gr2 gs_all _ [(14, 34), (0, 9), (1, 35), (1, 12), (1, 13), (0, 1), (0, 43), (5, 58), (3, 4), (0, 32), (0, 33), (14, 35), (14, 36), (14, 37), (0, 19), (2, 20), (14, 38), (14, 39), (14, 40), (14, 41), (14, 42), (14, 43), (1, 9), (0, 37), (0, 10), (0, 11)] rfl) (goodIn_app ig_X8 (goodIn_app ig_X7 (goodIn_app ig_X10 (goodIn_app gl_s_X10_wordInR (goodIn_app gl_s_X10_nextR (goodIn_app gl_s_X8_readTitleO (goodIn_app gl_s_X8_readBodyO (goodIn_app gl_s_X7_endCauseO (goodIn_app gl_s_X10_fail (goodIn_n))))))))))
set_option maxRecDepth 20000 in
set_option maxHeartbeats 4000000 in
theorem gl_s_X8_readO : GoodIn lw_tbl u_s_X8_readO := goodIn_ca (z_gr2 gs_all _ [(14, 44), (0, 9), (14, 45), (6, 0), (6, 1), (0, 1), (0, 43), (14, 46), (14, 47), (14, 48), (1, 9), (5, 27), (4, 3), (14, 49), (14, 50), (14, 51), (0, 19)] rfl) (goodIn_app ig_X8 (goodIn_app ig_X10 (goodIn_app gl_s_X10_openR (goodIn_app gl_s_X7_clearR (goodIn_app gl_s_X8_readCauseO (goodIn_n))))))
set_option maxRecDepth 20000 in
set_option maxHeartbeats 4000000 in
theorem gl_s_X11_rulesO : GoodIn lw_tbl u_s_X11_rulesO := goodIn_ca (z_gr2 gs_all _ [(14, 52), (1, 49), (6, 2), (6, 3), (6, 4), (0, 1), (2, 4), (14, 53), (14, 54), (14, 55), (0, 19), (3, 10), (3, 11)] rfl) (goodIn_app ig_X11 (goodIn_app ig_X8 (goodIn_app ig_X7 (goodIn_app gl_s_X10_hasFedA (goodIn_app gl_s_X8_readO (goodIn_n))))))
set_option maxRecDepth 20000 in
set_option maxHeartbeats 4000000 in
theorem gl_s_X12_isSmall : GoodIn lw_tbl u_s_X12_isSmall := goodIn_ca (z_gr2 gs_all _ [(14, 56), (0, 58), (0, 21)] rfl) (goodIn_app ig_X12 (goodIn_n))
set_option maxRecDepth 20000 in
set_option maxHeartbeats 4000000 in
theorem gl_s_X12_wordAtR : GoodIn lw_tbl u_s_X12_wordAtR := goodIn_ca (z_gr2 gs_all _ [(6, 5), (3, 53), (0, 21)] rfl) (goodIn_app ig_X12 (goodIn_n))
set_option maxRecDepth 20000 in
set_option maxHeartbeats 4000000 in
theorem gl_s_X12_isDigit : GoodIn lw_tbl u_s_X12_isDigit := goodIn_ca (z_gr2 gs_all _ [(14, 57), (0, 58), (0, 21)] rfl) (goodIn_app ig_X12 (goodIn_n))
set_option maxRecDepth 20000 in
set_option maxHeartbeats 4000000 in
theorem gl_s_X12_digits3 : GoodIn lw_tbl u_s_X12_digits3 := goodIn_ca (z_gr2 gs_all _ [(14, 58), (0, 38), (0, 45), (4, 13), (4, 14), (4, 15), (0, 0), (4, 16), (0, 21)] rfl) (goodIn_app ig_X12 (goodIn_app gl_s_X12_isDigit (goodIn_n)))
set_option maxRecDepth 20000 in
set_option maxHeartbeats 4000000 in
theorem gl_s_X12_isAtR : GoodIn lw_tbl u_s_X12_isAtR := goodIn_ca (z_gr2 gs_all _ [(6, 6), (0, 58), (0, 21)] rfl) (goodIn_app ig_X12 (goodIn_n))
set_option maxRecDepth 20000 in
set_option maxHeartbeats 4000000 in
theorem gl_s_X12_signOfR : GoodIn lw_tbl u_s_X12_signOfR := goodIn_ca (z_gr2 gs_all _ [(6, 7), (0, 45), (6, 8), (6, 9), (6, 10), (0, 0)] rfl) (goodIn_app ig_X12 (goodIn_app gl_s_X12_isAtR (goodIn_n)))
set_option maxRecDepth 20000 in
set_option maxHeartbeats 4000000 in
theorem gl_s_X12_takeR : GoodIn lw_tbl u_s_X12_takeR := goodIn_ca (z_gr2 gs_all _ [(6, 11), (0, 45), (0, 58), (2, 21), (6, 12), (6, 13), (6, 14), (0, 0), (6, 15), (6, 16), (6, 17), (0, 38), (0, 34), (4, 13), (4, 14), (4, 15), (6, 18), (6, 19), (6, 20), (0, 21), (6, 21), (6, 22), (6, 23)] rfl) (goodIn_app ig_X12 (goodIn_app gl_s_X12_isSmall (goodIn_app gl_s_X12_wordAtR (goodIn_app gl_s_X12_isDigit (goodIn_app gl_s_X12_digits3 (goodIn_app gl_s_X12_signOfR (goodIn_n)))))))
set_option maxRecDepth 20000 in
set_option maxHeartbeats 4000000 in
theorem gl_s_X12_beginsR : GoodIn lw_tbl u_s_X12_beginsR := goodIn_ca (z_gr2 gs_all _ [(6, 24), (0, 58), (2, 14), (3, 12), (2, 9), (0, 45), (0, 46), (0, 47), (0, 48), (0, 0)] rfl) (goodIn_app ig_X12 (goodIn_app gl_s_X12_takeR (goodIn_n)))
set_option maxRecDepth 20000 in
set_option maxHeartbeats 4000000 in
theorem gl_s_X12_wrong : GoodIn lw_tbl u_s_X12_wrong := goodIn_ca (z_gr2 gs_all _ [(14, 59), (3, 12), (2, 21), (2, 9)] rfl) (goodIn_app ig_X12 (goodIn_n))
set_option maxRecDepth 20000 in
set_option maxHeartbeats 4000000 in
theorem gl_s_X12_isToldR : GoodIn lw_tbl u_s_X12_isToldR := goodIn_ca (z_gr2 gs_all _ [(15, 0), (4, 17), (3, 56), (0, 45), (2, 21), (3, 55), (0, 21)] rfl) (goodIn_app ig_X12 (goodIn_n))
set_option maxRecDepth 20000 in
set_option maxHeartbeats 4000000 in
theorem gl_s_X12_isSignR : GoodIn lw_tbl u_s_X12_isSignR := goodIn_ca (z_gr2 gs_all _ [(6, 25), (0, 34), (0, 38)] rfl) (goodIn_app ig_X12 (goodIn_n))
set_option maxRecDepth 20000 in
set_option maxHeartbeats 4000000 in
theorem gl_s_X12_signNowR : GoodIn lw_tbl u_s_X12_signNowR := goodIn_ca (z_gr2 gs_all _ [(15, 1), (0, 34), (0, 38)] rfl) (goodIn_app ig_X12 (goodIn_n))
set_option maxRecDepth 20000 in
set_option maxHeartbeats 4000000 in
theorem gl_s_X12_weightR : GoodIn lw_tbl u_s_X12_weightR := goodIn_ca (z_gr2 gs_all _ [(15, 2)] rfl) (goodIn_n)
set_option maxRecDepth 20000 in
set_option maxHeartbeats 4000000 in
theorem gl_s_X12_drop : GoodIn lw_tbl u_s_X12_drop := goodIn_ca (z_gr2 gs_all _ [(15, 3), (4, 18), (3, 59)] rfl) (goodIn_app ig_X12 (goodIn_n))
