theorem dX0_hasFirst_0 : decode cX0_hasFirst 0 = .ok (.iload_n 1, 1) := by decide +kernel
theorem dX0_hasFirst_1 : decode cX0_hasFirst 1 = .ok (.ifCond .lt 15, 3) := by decide +kernel
theorem dX0_hasFirst_4 : decode cX0_hasFirst 4 = .ok (.iload_n 1, 1) := by decide +kernel
theorem dX0_hasFirst_5 : decode cX0_hasFirst 5 = .ok (.aload_n 0, 1) := by decide +kernel
theorem dX0_hasFirst_6 : decode cX0_hasFirst 6 = .ok (.getfield 24, 3) := by decide +kernel
theorem dX0_hasFirst_9 : decode cX0_hasFirst 9 = .ok (.if_icmp .gt 7, 3) := by decide +kernel
theorem dX0_hasFirst_12 : decode cX0_hasFirst 12 = .ok (.iconst 1, 1) := by decide +kernel
theorem dX0_hasFirst_13 : decode cX0_hasFirst 13 = .ok (.goto 4, 3) := by decide +kernel
theorem dX0_hasFirst_16 : decode cX0_hasFirst 16 = .ok (.iconst 0, 1) := by decide +kernel
theorem dX0_hasFirst_17 : decode cX0_hasFirst 17 = .ok (.ireturn, 1) := by decide +kernel
theorem dX0_hasLayer_0 : decode cX0_hasLayer 0 = .ok (.iload_n 1, 1) := by decide +kernel
theorem dX0_hasLayer_1 : decode cX0_hasLayer 1 = .ok (.ifCond .lt 15, 3) := by decide +kernel
theorem dX0_hasLayer_4 : decode cX0_hasLayer 4 = .ok (.iload_n 1, 1) := by decide +kernel
theorem dX0_hasLayer_5 : decode cX0_hasLayer 5 = .ok (.aload_n 0, 1) := by decide +kernel
theorem dX0_hasLayer_6 : decode cX0_hasLayer 6 = .ok (.getfield 28, 3) := by decide +kernel
theorem dX0_hasLayer_9 : decode cX0_hasLayer 9 = .ok (.if_icmp .ge 7, 3) := by decide +kernel
theorem dX0_hasLayer_16 : decode cX0_hasLayer 16 = .ok (.iconst 0, 1) := by decide +kernel
theorem dX0_hasLayer_17 : decode cX0_hasLayer 17 = .ok (.ireturn, 1) := by decide +kernel
theorem dX10_hasFed_0 : decode cX10_hasFed 0 = .ok (.iload_n 1, 1) := by decide +kernel
theorem dX10_hasFed_1 : decode cX10_hasFed 1 = .ok (.ifCond .lt 15, 3) := by decide +kernel
theorem dX10_hasFed_4 : decode cX10_hasFed 4 = .ok (.iload_n 1, 1) := by decide +kernel
theorem dX10_hasFed_5 : decode cX10_hasFed 5 = .ok (.aload_n 0, 1) := by decide +kernel
theorem dX10_hasFed_6 : decode cX10_hasFed 6 = .ok (.getfield 26, 3) := by decide +kernel
theorem dX10_hasFed_9 : decode cX10_hasFed 9 = .ok (.if_icmp .gt 7, 3) := by decide +kernel
theorem dX10_hasFed_12 : decode cX10_hasFed 12 = .ok (.iconst 1, 1) := by decide +kernel
theorem dX10_hasFed_13 : decode cX10_hasFed 13 = .ok (.goto 4, 3) := by decide +kernel
theorem dX10_hasFed_16 : decode cX10_hasFed 16 = .ok (.iconst 0, 1) := by decide +kernel
theorem dX10_hasFed_17 : decode cX10_hasFed 17 = .ok (.ireturn, 1) := by decide +kernel
theorem dX10_hasRoom_0 : decode cX10_hasRoom 0 = .ok (.aload_n 0, 1) := by decide +kernel
theorem dX10_hasRoom_1 : decode cX10_hasRoom 1 = .ok (.getfield 26, 3) := by decide +kernel
theorem dX10_hasRoom_4 : decode cX10_hasRoom 4 = .ok (.bipush 20, 2) := by decide +kernel
theorem dX10_hasRoom_6 : decode cX10_hasRoom 6 = .ok (.iadd, 1) := by decide +kernel
theorem dX10_hasRoom_7 : decode cX10_hasRoom 7 = .ok (.sipush 700, 3) := by decide +kernel
theorem dX10_hasRoom_10 : decode cX10_hasRoom 10 = .ok (.if_icmp .gt 7, 3) := by decide +kernel
theorem dX10_hasRoom_13 : decode cX10_hasRoom 13 = .ok (.iconst 1, 1) := by decide +kernel
theorem dX10_hasRoom_14 : decode cX10_hasRoom 14 = .ok (.goto 4, 3) := by decide +kernel
theorem dX10_hasRoom_18 : decode cX10_hasRoom 18 = .ok (.ireturn, 1) := by decide +kernel
theorem dX10_put_0 : decode cX10_put 0 = .ok (.bipush 24, 2) := by decide +kernel
theorem dX10_put_2 : decode cX10_put 2 = .ok (.istore_n 2, 1) := by decide +kernel
theorem dX10_put_3 : decode cX10_put 3 = .ok (.iload_n 2, 1) := by decide +kernel
theorem dX10_put_4 : decode cX10_put 4 = .ok (.ifCond .lt 45, 3) := by decide +kernel
theorem dX10_put_7 : decode cX10_put 7 = .ok (.aload_n 0, 1) := by decide +kernel
theorem dX10_put_8 : decode cX10_put 8 = .ok (.getfield 26, 3) := by decide +kernel
theorem dX10_put_11 : decode cX10_put 11 = .ok (.sipush 700, 3) := by decide +kernel
theorem dX10_put_14 : decode cX10_put 14 = .ok (.if_icmp .ge 35, 3) := by decide +kernel
theorem dX10_put_17 : decode cX10_put 17 = .ok (.aload_n 0, 1) := by decide +kernel
theorem dX10_put_18 : decode cX10_put 18 = .ok (.getfield 11, 3) := by decide +kernel
theorem dX10_put_21 : decode cX10_put 21 = .ok (.aload_n 0, 1) := by decide +kernel
theorem dX10_put_22 : decode cX10_put 22 = .ok (.getfield 26, 3) := by decide +kernel
theorem dX10_put_25 : decode cX10_put 25 = .ok (.iload_n 1, 1) := by decide +kernel
theorem dX10_put_26 : decode cX10_put 26 = .ok (.iload_n 2, 1) := by decide +kernel
theorem dX10_put_27 : decode cX10_put 27 = .ok (.iushr, 1) := by decide +kernel
theorem dX10_put_28 : decode cX10_put 28 = .ok (.sipush 255, 3) := by decide +kernel
theorem dX10_put_31 : decode cX10_put 31 = .ok (.iand, 1) := by decide +kernel
theorem dX10_put_32 : decode cX10_put 32 = .ok (.iastore, 1) := by decide +kernel
theorem dX10_put_33 : decode cX10_put 33 = .ok (.aload_n 0, 1) := by decide +kernel
theorem dX10_put_34 : decode cX10_put 34 = .ok (.dup, 1) := by decide +kernel
theorem dX10_put_35 : decode cX10_put 35 = .ok (.getfield 26, 3) := by decide +kernel
theorem dX10_put_38 : decode cX10_put 38 = .ok (.iconst 1, 1) := by decide +kernel
theorem dX10_put_39 : decode cX10_put 39 = .ok (.iadd, 1) := by decide +kernel
theorem dX10_put_40 : decode cX10_put 40 = .ok (.putfield 26, 3) := by decide +kernel
theorem dX10_put_43 : decode cX10_put 43 = .ok (.iinc 2 (-8), 3) := by decide +kernel
theorem dX10_put_46 : decode cX10_put 46 = .ok (.goto (-43), 3) := by decide +kernel
theorem dX10_put_49 : decode cX10_put 49 = .ok (.return_, 1) := by decide +kernel
theorem dX11_bed_0 : decode cX11_bed 0 = .ok (.aload_n 0, 1) := by decide +kernel
theorem dX11_bed_1 : decode cX11_bed 1 = .ok (.getfield 19, 3) := by decide +kernel
theorem dX11_bed_4 : decode cX11_bed 4 = .ok (.iload_n 1, 1) := by decide +kernel
theorem dX11_bed_5 : decode cX11_bed 5 = .ok (.invokevirtual 140, 3) := by decide +kernel
theorem dX11_bed_8 : decode cX11_bed 8 = .ok (.ifCond .eq 23, 3) := by decide +kernel
theorem dX11_bed_11 : decode cX11_bed 11 = .ok (.aload_n 0, 1) := by decide +kernel
theorem dX11_bed_12 : decode cX11_bed 12 = .ok (.getfield 19, 3) := by decide +kernel
theorem dX11_bed_15 : decode cX11_bed 15 = .ok (.iload_n 2, 1) := by decide +kernel
theorem dX11_bed_16 : decode cX11_bed 16 = .ok (.invokevirtual 115, 3) := by decide +kernel
theorem dX11_bed_19 : decode cX11_bed 19 = .ok (.ifCond .eq 12, 3) := by decide +kernel
theorem dX11_bed_31 : decode cX11_bed 31 = .ok (.bipush (-2), 2) := by decide +kernel
theorem dX11_bed_33 : decode cX11_bed 33 = .ok (.ireturn, 1) := by decide +kernel
theorem dX11_cause_0 : decode cX11_cause 0 = .ok (.iload_n 1, 1) := by decide +kernel
theorem dX11_cause_1 : decode cX11_cause 1 = .ok (.ifCond .lt 28, 3) := by decide +kernel
theorem dX11_cause_4 : decode cX11_cause 4 = .ok (.iload_n 1, 1) := by decide +kernel
theorem dX11_cause_5 : decode cX11_cause 5 = .ok (.aload_n 0, 1) := by decide +kernel
theorem dX11_cause_6 : decode cX11_cause 6 = .ok (.getfield 74, 3) := by decide +kernel
theorem dX11_cause_9 : decode cX11_cause 9 = .ok (.getfield 106, 3) := by decide +kernel
theorem dX11_cause_12 : decode cX11_cause 12 = .ok (.getfield 110, 3) := by decide +kernel
theorem dX11_cause_15 : decode cX11_cause 15 = .ok (.if_icmp .ge 14, 3) := by decide +kernel
theorem dX11_cause_29 : decode cX11_cause 29 = .ok (.ldc2_w 272, 3) := by decide +kernel
theorem dX11_cause_32 : decode cX11_cause 32 = .ok (.lreturn, 1) := by decide +kernel
theorem dX11_days_0 : decode cX11_days 0 = .ok (.aload_n 0, 1) := by decide +kernel
theorem dX11_days_1 : decode cX11_days 1 = .ok (.getfield 19, 3) := by decide +kernel
theorem dX11_days_4 : decode cX11_days 4 = .ok (.iload_n 1, 1) := by decide +kernel
theorem dX11_days_5 : decode cX11_days 5 = .ok (.invokevirtual 115, 3) := by decide +kernel
theorem dX11_days_8 : decode cX11_days 8 = .ok (.ifCond .eq 25, 3) := by decide +kernel
theorem dX11_days_33 : decode cX11_days 33 = .ok (.ldc2_w 209, 3) := by decide +kernel
theorem dX11_days_36 : decode cX11_days 36 = .ok (.lreturn, 1) := by decide +kernel
theorem dX11_eaten_0 : decode cX11_eaten 0 = .ok (.aload_n 0, 1) := by decide +kernel
theorem dX11_eaten_1 : decode cX11_eaten 1 = .ok (.getfield 19, 3) := by decide +kernel
theorem dX11_eaten_4 : decode cX11_eaten 4 = .ok (.iload_n 1, 1) := by decide +kernel
theorem dX11_eaten_5 : decode cX11_eaten 5 = .ok (.invokevirtual 115, 3) := by decide +kernel
theorem dX11_eaten_8 : decode cX11_eaten 8 = .ok (.ifCond .eq 28, 3) := by decide +kernel
theorem dX11_eaten_36 : decode cX11_eaten 36 = .ok (.ldc2_w 209, 3) := by decide +kernel
theorem dX11_eaten_39 : decode cX11_eaten 39 = .ok (.lreturn, 1) := by decide +kernel
theorem dX11_fault_0 : decode cX11_fault 0 = .ok (.iload_n 1, 1) := by decide +kernel
theorem dX11_fault_1 : decode cX11_fault 1 = .ok (.ifCond .ne 11, 3) := by decide +kernel
theorem dX11_fault_4 : decode cX11_fault 4 = .ok (.aload_n 0, 1) := by decide +kernel
theorem dX11_fault_5 : decode cX11_fault 5 = .ok (.getfield 10, 3) := by decide +kernel
theorem dX11_fault_8 : decode cX11_fault 8 = .ok (.getfield 131, 3) := by decide +kernel
theorem dX11_fault_11 : decode cX11_fault 11 = .ok (.ireturn, 1) := by decide +kernel
theorem dX11_fault_12 : decode cX11_fault 12 = .ok (.iload_n 1, 1) := by decide +kernel
theorem dX11_fault_13 : decode cX11_fault 13 = .ok (.iconst 1, 1) := by decide +kernel
theorem dX11_fault_14 : decode cX11_fault 14 = .ok (.if_icmp .ne 13, 3) := by decide +kernel
theorem dX11_fault_17 : decode cX11_fault 17 = .ok (.aload_n 0, 1) := by decide +kernel
theorem dX11_fault_18 : decode cX11_fault 18 = .ok (.getfield 10, 3) := by decide +kernel
theorem dX11_fault_21 : decode cX11_fault 21 = .ok (.getfield 134, 3) := by decide +kernel
theorem dX11_fault_24 : decode cX11_fault 24 = .ok (.goto 4, 3) := by decide +kernel
theorem dX11_fault_27 : decode cX11_fault 27 = .ok (.iconst (-1), 1) := by decide +kernel
theorem dX11_fault_28 : decode cX11_fault 28 = .ok (.ireturn, 1) := by decide +kernel
theorem dX11_feed_0 : decode cX11_feed 0 = .ok (.aload_n 0, 1) := by decide +kernel
theorem dX11_feed_1 : decode cX11_feed 1 = .ok (.getfield 10, 3) := by decide +kernel
theorem dX11_feed_4 : decode cX11_feed 4 = .ok (.invokevirtual 87, 3) := by decide +kernel
theorem dX11_feed_7 : decode cX11_feed 7 = .ok (.ifCond .ne 5, 3) := by decide +kernel
theorem dX11_feed_12 : decode cX11_feed 12 = .ok (.aload_n 0, 1) := by decide +kernel
theorem dX11_feed_13 : decode cX11_feed 13 = .ok (.getfield 10, 3) := by decide +kernel
theorem dX11_feed_16 : decode cX11_feed 16 = .ok (.iload_n 1, 1) := by decide +kernel
theorem dX11_feed_17 : decode cX11_feed 17 = .ok (.invokevirtual 91, 3) := by decide +kernel
theorem dX11_feed_20 : decode cX11_feed 20 = .ok (.aload_n 0, 1) := by decide +kernel
theorem dX11_feed_21 : decode cX11_feed 21 = .ok (.getfield 10, 3) := by decide +kernel
theorem dX11_feed_24 : decode cX11_feed 24 = .ok (.iload_n 2, 1) := by decide +kernel
theorem dX11_feed_25 : decode cX11_feed 25 = .ok (.invokevirtual 91, 3) := by decide +kernel
theorem dX11_feed_28 : decode cX11_feed 28 = .ok (.aload_n 0, 1) := by decide +kernel
theorem dX11_feed_29 : decode cX11_feed 29 = .ok (.getfield 10, 3) := by decide +kernel
theorem dX11_feed_32 : decode cX11_feed 32 = .ok (.iload_n 3, 1) := by decide +kernel
theorem dX11_feed_33 : decode cX11_feed 33 = .ok (.invokevirtual 91, 3) := by decide +kernel
theorem dX11_feed_36 : decode cX11_feed 36 = .ok (.aload_n 0, 1) := by decide +kernel
theorem dX11_feed_37 : decode cX11_feed 37 = .ok (.getfield 10, 3) := by decide +kernel
theorem dX11_feed_40 : decode cX11_feed 40 = .ok (.iload 4, 2) := by decide +kernel
theorem dX11_feed_42 : decode cX11_feed 42 = .ok (.invokevirtual 91, 3) := by decide +kernel
theorem dX11_feed_45 : decode cX11_feed 45 = .ok (.aload_n 0, 1) := by decide +kernel
theorem dX11_feed_46 : decode cX11_feed 46 = .ok (.getfield 10, 3) := by decide +kernel
theorem dX11_feed_49 : decode cX11_feed 49 = .ok (.iload 5, 2) := by decide +kernel
theorem dX11_feed_51 : decode cX11_feed 51 = .ok (.invokevirtual 91, 3) := by decide +kernel
theorem dX11_feed_54 : decode cX11_feed 54 = .ok (.aload_n 0, 1) := by decide +kernel
theorem dX11_feed_55 : decode cX11_feed 55 = .ok (.getfield 10, 3) := by decide +kernel
theorem dX11_feed_58 : decode cX11_feed 58 = .ok (.getfield 95, 3) := by decide +kernel
theorem dX11_feed_61 : decode cX11_feed 61 = .ok (.ireturn, 1) := by decide +kernel
theorem dX11_finds_0 : decode cX11_finds 0 = .ok (.aload_n 0, 1) := by decide +kernel
theorem dX11_finds_1 : decode cX11_finds 1 = .ok (.getfield 10, 3) := by decide +kernel
theorem dX11_finds_4 : decode cX11_finds 4 = .ok (.iload_n 1, 1) := by decide +kernel
theorem dX11_finds_5 : decode cX11_finds 5 = .ok (.invokevirtual 99, 3) := by decide +kernel
theorem dX11_finds_8 : decode cX11_finds 8 = .ok (.ifCond .eq 24, 3) := by decide +kernel
theorem dX11_finds_11 : decode cX11_finds 11 = .ok (.aload_n 0, 1) := by decide +kernel
theorem dX11_finds_12 : decode cX11_finds 12 = .ok (.getfield 19, 3) := by decide +kernel
theorem dX11_finds_15 : decode cX11_finds 15 = .ok (.iload_n 2, 1) := by decide +kernel
theorem dX11_finds_16 : decode cX11_finds 16 = .ok (.invokevirtual 115, 3) := by decide +kernel
theorem dX11_finds_19 : decode cX11_finds 19 = .ok (.ifCond .eq 13, 3) := by decide +kernel
theorem dX11_finds_32 : decode cX11_finds 32 = .ok (.bipush (-2), 2) := by decide +kernel
theorem dX11_finds_34 : decode cX11_finds 34 = .ok (.ireturn, 1) := by decide +kernel
theorem dX11_holds_0 : decode cX11_holds 0 = .ok (.aload_n 0, 1) := by decide +kernel
theorem dX11_holds_1 : decode cX11_holds 1 = .ok (.getfield 19, 3) := by decide +kernel
theorem dX11_holds_4 : decode cX11_holds 4 = .ok (.iload_n 1, 1) := by decide +kernel
theorem dX11_holds_5 : decode cX11_holds 5 = .ok (.invokevirtual 115, 3) := by decide +kernel
theorem dX11_holds_8 : decode cX11_holds 8 = .ok (.ifCond .eq 22, 3) := by decide +kernel
theorem dX11_holds_30 : decode cX11_holds 30 = .ok (.iconst (-1), 1) := by decide +kernel
theorem dX11_holds_31 : decode cX11_holds 31 = .ok (.ireturn, 1) := by decide +kernel
theorem dX11_kept_0 : decode cX11_kept 0 = .ok (.aload_n 0, 1) := by decide +kernel
theorem dX11_kept_1 : decode cX11_kept 1 = .ok (.getfield 42, 3) := by decide +kernel
theorem dX11_kept_4 : decode cX11_kept 4 = .ok (.iload_n 1, 1) := by decide +kernel
theorem dX11_kept_5 : decode cX11_kept 5 = .ok (.invokevirtual 203, 3) := by decide +kernel
theorem dX11_kept_8 : decode cX11_kept 8 = .ok (.ifCond .eq 23, 3) := by decide +kernel
theorem dX11_kept_31 : decode cX11_kept 31 = .ok (.iconst 0, 1) := by decide +kernel
theorem dX11_kept_32 : decode cX11_kept 32 = .ok (.ireturn, 1) := by decide +kernel
theorem dX11_layer_0 : decode cX11_layer 0 = .ok (.aload_n 0, 1) := by decide +kernel
theorem dX11_layer_1 : decode cX11_layer 1 = .ok (.getfield 19, 3) := by decide +kernel
theorem dX11_layer_4 : decode cX11_layer 4 = .ok (.getfield 137, 3) := by decide +kernel
theorem dX11_layer_7 : decode cX11_layer 7 = .ok (.bipush 12, 2) := by decide +kernel
theorem dX11_layer_9 : decode cX11_layer 9 = .ok (.if_icmp .lt 5, 3) := by decide +kernel
theorem dX11_layer_14 : decode cX11_layer 14 = .ok (.aload_n 0, 1) := by decide +kernel
theorem dX11_layer_15 : decode cX11_layer 15 = .ok (.getfield 19, 3) := by decide +kernel
theorem dX11_layer_18 : decode cX11_layer 18 = .ok (.dup, 1) := by decide +kernel
theorem dX11_layer_19 : decode cX11_layer 19 = .ok (.getfield 137, 3) := by decide +kernel
theorem dX11_layer_22 : decode cX11_layer 22 = .ok (.iconst 1, 1) := by decide +kernel
theorem dX11_layer_23 : decode cX11_layer 23 = .ok (.iadd, 1) := by decide +kernel
theorem dX11_layer_24 : decode cX11_layer 24 = .ok (.putfield 137, 3) := by decide +kernel
theorem dX11_layer_27 : decode cX11_layer 27 = .ok (.aload_n 0, 1) := by decide +kernel
theorem dX11_layer_28 : decode cX11_layer 28 = .ok (.getfield 19, 3) := by decide +kernel
theorem dX11_layer_31 : decode cX11_layer 31 = .ok (.getfield 137, 3) := by decide +kernel
theorem dX11_layer_34 : decode cX11_layer 34 = .ok (.iconst 1, 1) := by decide +kernel
theorem dX11_layer_35 : decode cX11_layer 35 = .ok (.isub, 1) := by decide +kernel
theorem dX11_layer_36 : decode cX11_layer 36 = .ok (.ireturn, 1) := by decide +kernel
theorem dX11_measure_0 : decode cX11_measure 0 = .ok (.aload_n 0, 1) := by decide +kernel
theorem dX11_measure_1 : decode cX11_measure 1 = .ok (.getfield 19, 3) := by decide +kernel
theorem dX11_measure_4 : decode cX11_measure 4 = .ok (.iload_n 1, 1) := by decide +kernel
theorem dX11_measure_5 : decode cX11_measure 5 = .ok (.invokevirtual 115, 3) := by decide +kernel
theorem dX11_measure_8 : decode cX11_measure 8 = .ok (.ifCond .eq 18, 3) := by decide +kernel
theorem dX11_measure_26 : decode cX11_measure 26 = .ok (.iconst (-1), 1) := by decide +kernel
theorem dX11_measure_27 : decode cX11_measure 27 = .ok (.ireturn, 1) := by decide +kernel
theorem dX11_middle_0 : decode cX11_middle 0 = .ok (.aload_n 0, 1) := by decide +kernel
theorem dX11_middle_1 : decode cX11_middle 1 = .ok (.getfield 19, 3) := by decide +kernel
theorem dX11_middle_4 : decode cX11_middle 4 = .ok (.iload_n 1, 1) := by decide +kernel
theorem dX11_middle_5 : decode cX11_middle 5 = .ok (.invokevirtual 115, 3) := by decide +kernel
theorem dX11_middle_8 : decode cX11_middle 8 = .ok (.ifCond .eq 12, 3) := by decide +kernel
theorem dX11_middle_20 : decode cX11_middle 20 = .ok (.bipush (-2), 2) := by decide +kernel
theorem dX11_middle_22 : decode cX11_middle 22 = .ok (.ireturn, 1) := by decide +kernel
theorem dX11_note_0 : decode cX11_note 0 = .ok (.aload_n 0, 1) := by decide +kernel
theorem dX11_note_1 : decode cX11_note 1 = .ok (.getfield 19, 3) := by decide +kernel
theorem dX11_note_4 : decode cX11_note 4 = .ok (.iload_n 2, 1) := by decide +kernel
theorem dX11_note_5 : decode cX11_note 5 = .ok (.invokevirtual 115, 3) := by decide +kernel
theorem dX11_note_8 : decode cX11_note 8 = .ok (.ifCond .ne 5, 3) := by decide +kernel
theorem dX11_note_11 : decode cX11_note 11 = .ok (.iconst (-1), 1) := by decide +kernel
theorem dX11_note_12 : decode cX11_note 12 = .ok (.ireturn, 1) := by decide +kernel
theorem dX11_order_0 : decode cX11_order 0 = .ok (.aload_n 0, 1) := by decide +kernel
theorem dX11_order_1 : decode cX11_order 1 = .ok (.getfield 19, 3) := by decide +kernel
theorem dX11_order_4 : decode cX11_order 4 = .ok (.iload_n 1, 1) := by decide +kernel
theorem dX11_order_5 : decode cX11_order 5 = .ok (.invokevirtual 140, 3) := by decide +kernel
theorem dX11_order_8 : decode cX11_order 8 = .ok (.ifCond .eq 25, 3) := by decide +kernel
theorem dX11_order_11 : decode cX11_order 11 = .ok (.aload_n 0, 1) := by decide +kernel
theorem dX11_order_12 : decode cX11_order 12 = .ok (.getfield 19, 3) := by decide +kernel
theorem dX11_order_15 : decode cX11_order 15 = .ok (.iload_n 2, 1) := by decide +kernel
theorem dX11_order_16 : decode cX11_order 16 = .ok (.invokevirtual 115, 3) := by decide +kernel
theorem dX11_order_19 : decode cX11_order 19 = .ok (.ifCond .eq 14, 3) := by decide +kernel
theorem dX11_order_33 : decode cX11_order 33 = .ok (.iconst (-1), 1) := by decide +kernel
theorem dX11_order_34 : decode cX11_order 34 = .ok (.ireturn, 1) := by decide +kernel
theorem dX11_readings_0 : decode cX11_readings 0 = .ok (.aload_n 0, 1) := by decide +kernel
theorem dX11_readings_1 : decode cX11_readings 1 = .ok (.getfield 19, 3) := by decide +kernel
theorem dX11_readings_4 : decode cX11_readings 4 = .ok (.iload_n 1, 1) := by decide +kernel
theorem dX11_readings_5 : decode cX11_readings 5 = .ok (.invokevirtual 115, 3) := by decide +kernel
theorem dX11_readings_8 : decode cX11_readings 8 = .ok (.ifCond .eq 25, 3) := by decide +kernel
theorem dX11_readings_33 : decode cX11_readings 33 = .ok (.iconst (-1), 1) := by decide +kernel
theorem dX11_readings_34 : decode cX11_readings 34 = .ok (.ireturn, 1) := by decide +kernel
theorem dX11_season_0 : decode cX11_season 0 = .ok (.aload_n 0, 1) := by decide +kernel
theorem dX11_season_1 : decode cX11_season 1 = .ok (.getfield 19, 3) := by decide +kernel
theorem dX11_season_4 : decode cX11_season 4 = .ok (.iload_n 1, 1) := by decide +kernel
theorem dX11_season_5 : decode cX11_season 5 = .ok (.invokevirtual 115, 3) := by decide +kernel
theorem dX11_season_8 : decode cX11_season 8 = .ok (.ifCond .eq 19, 3) := by decide +kernel
theorem dX11_season_27 : decode cX11_season 27 = .ok (.iconst (-1), 1) := by decide +kernel
theorem dX11_season_28 : decode cX11_season 28 = .ok (.ireturn, 1) := by decide +kernel
theorem dX11_stay_0 : decode cX11_stay 0 = .ok (.aload_n 0, 1) := by decide +kernel
theorem dX11_stay_1 : decode cX11_stay 1 = .ok (.getfield 19, 3) := by decide +kernel
theorem dX11_stay_4 : decode cX11_stay 4 = .ok (.iload_n 1, 1) := by decide +kernel
theorem dX11_stay_5 : decode cX11_stay 5 = .ok (.invokevirtual 115, 3) := by decide +kernel
theorem dX11_stay_8 : decode cX11_stay 8 = .ok (.ifCond .eq 18, 3) := by decide +kernel
theorem dX11_stay_26 : decode cX11_stay 26 = .ok (.iconst (-1), 1) := by decide +kernel
theorem dX11_stay_27 : decode cX11_stay 27 = .ok (.ireturn, 1) := by decide +kernel
theorem dX11_strike_0 : decode cX11_strike 0 = .ok (.iload_n 1, 1) := by decide +kernel
theorem dX11_strike_1 : decode cX11_strike 1 = .ok (.ifCond .lt 28, 3) := by decide +kernel
theorem dX11_strike_4 : decode cX11_strike 4 = .ok (.iload_n 1, 1) := by decide +kernel
theorem dX11_strike_5 : decode cX11_strike 5 = .ok (.aload_n 0, 1) := by decide +kernel
theorem dX11_strike_6 : decode cX11_strike 6 = .ok (.getfield 19, 3) := by decide +kernel
theorem dX11_strike_9 : decode cX11_strike 9 = .ok (.getfield 121, 3) := by decide +kernel
theorem dX11_strike_12 : decode cX11_strike 12 = .ok (.if_icmp .ge 17, 3) := by decide +kernel
theorem dX11_strike_29 : decode cX11_strike 29 = .ok (.iconst (-1), 1) := by decide +kernel
theorem dX11_strike_30 : decode cX11_strike 30 = .ok (.ireturn, 1) := by decide +kernel
theorem dX11_thick_0 : decode cX11_thick 0 = .ok (.iload_n 1, 1) := by decide +kernel
theorem dX11_thick_1 : decode cX11_thick 1 = .ok (.ifCond .lt 36, 3) := by decide +kernel
theorem dX11_thick_4 : decode cX11_thick 4 = .ok (.iload_n 1, 1) := by decide +kernel
theorem dX11_thick_5 : decode cX11_thick 5 = .ok (.aload_n 0, 1) := by decide +kernel
theorem dX11_thick_6 : decode cX11_thick 6 = .ok (.getfield 35, 3) := by decide +kernel
theorem dX11_thick_9 : decode cX11_thick 9 = .ok (.getfield 181, 3) := by decide +kernel
theorem dX11_thick_12 : decode cX11_thick 12 = .ok (.if_icmp .ge 25, 3) := by decide +kernel
theorem dX11_thick_37 : decode cX11_thick 37 = .ok (.iconst 0, 1) := by decide +kernel
theorem dX11_thick_38 : decode cX11_thick 38 = .ok (.ireturn, 1) := by decide +kernel
theorem dX11_why_0 : decode cX11_why 0 = .ok (.aload_n 0, 1) := by decide +kernel
theorem dX11_why_1 : decode cX11_why 1 = .ok (.getfield 19, 3) := by decide +kernel
theorem dX11_why_4 : decode cX11_why 4 = .ok (.iload_n 1, 1) := by decide +kernel
theorem dX11_why_5 : decode cX11_why 5 = .ok (.invokevirtual 115, 3) := by decide +kernel
theorem dX11_why_8 : decode cX11_why 8 = .ok (.ifCond .ne 5, 3) := by decide +kernel
theorem dX11_why_11 : decode cX11_why 11 = .ok (.iconst (-1), 1) := by decide +kernel
theorem dX11_why_12 : decode cX11_why 12 = .ok (.ireturn, 1) := by decide +kernel
theorem dX5_hasKind_0 : decode cX5_hasKind 0 = .ok (.iload_n 1, 1) := by decide +kernel
theorem dX5_hasKind_1 : decode cX5_hasKind 1 = .ok (.ifCond .lt 15, 3) := by decide +kernel
theorem dX5_hasKind_4 : decode cX5_hasKind 4 = .ok (.iload_n 1, 1) := by decide +kernel
theorem dX5_hasKind_5 : decode cX5_hasKind 5 = .ok (.aload_n 0, 1) := by decide +kernel
theorem dX5_hasKind_6 : decode cX5_hasKind 6 = .ok (.getfield 41, 3) := by decide +kernel
theorem dX5_hasKind_9 : decode cX5_hasKind 9 = .ok (.if_icmp .ge 7, 3) := by decide +kernel
theorem dX5_hasKind_16 : decode cX5_hasKind 16 = .ok (.iconst 0, 1) := by decide +kernel
theorem dX5_hasKind_17 : decode cX5_hasKind 17 = .ok (.ireturn, 1) := by decide +kernel
