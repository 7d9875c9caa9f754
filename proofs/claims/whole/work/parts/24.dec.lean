theorem dX11_scale_1 : decode cX11_scale 1 = .ok (.iconst 0, 1) := by decide +kernel
theorem dX11_scale_2 : decode cX11_scale 2 = .ok (.bipush 11, 2) := by decide +kernel
theorem dX11_scale_4 : decode cX11_scale 4 = .ok (.invokestatic 45, 3) := by decide +kernel
theorem dX11_scale_7 : decode cX11_scale 7 = .ok (.aload_n 0, 1) := by decide +kernel
theorem dX11_scale_8 : decode cX11_scale 8 = .ok (.getfield 41, 3) := by decide +kernel
theorem dX11_scale_11 : decode cX11_scale 11 = .ok (.getfield 439, 3) := by decide +kernel
theorem dX11_scale_14 : decode cX11_scale 14 = .ok (.istore_n 3, 1) := by decide +kernel
theorem dX11_scale_15 : decode cX11_scale 15 = .ok (.aload_n 0, 1) := by decide +kernel
theorem dX11_scale_16 : decode cX11_scale 16 = .ok (.getfield 41, 3) := by decide +kernel
theorem dX11_scale_19 : decode cX11_scale 19 = .ok (.iload_n 1, 1) := by decide +kernel
theorem dX11_scale_20 : decode cX11_scale 20 = .ok (.iload_n 2, 1) := by decide +kernel
theorem dX11_scale_21 : decode cX11_scale 21 = .ok (.invokevirtual 442, 3) := by decide +kernel
theorem dX11_scale_24 : decode cX11_scale 24 = .ok (.iload_n 3, 1) := by decide +kernel
theorem dX11_scale_25 : decode cX11_scale 25 = .ok (.ireturn, 1) := by decide +kernel
theorem dX11_realise_0 : decode cX11_realise 0 = .ok (.iconst 0, 1) := by decide +kernel
theorem dX11_realise_1 : decode cX11_realise 1 = .ok (.iload_n 1, 1) := by decide +kernel
theorem dX11_realise_2 : decode cX11_realise 2 = .ok (.invokestatic 171, 3) := by decide +kernel
theorem dX11_realise_5 : decode cX11_realise 5 = .ok (.iload_n 2, 1) := by decide +kernel
theorem dX11_realise_6 : decode cX11_realise 6 = .ok (.invokestatic 446, 3) := by decide +kernel
theorem dX11_realise_9 : decode cX11_realise 9 = .ok (.astore_n 3, 1) := by decide +kernel
theorem dX11_realise_10 : decode cX11_realise 10 = .ok (.aload_n 3, 1) := by decide +kernel
theorem dX11_realise_11 : decode cX11_realise 11 = .ok (.arraylength, 1) := by decide +kernel
theorem dX11_realise_12 : decode cX11_realise 12 = .ok (.ifCond .ne 14, 3) := by decide +kernel
theorem dX11_realise_15 : decode cX11_realise 15 = .ok (.new 130, 3) := by decide +kernel
theorem dX11_realise_18 : decode cX11_realise 18 = .ok (.dup, 1) := by decide +kernel
theorem dX11_realise_19 : decode cX11_realise 19 = .ok (.ldc_w 450, 3) := by decide +kernel
theorem dX11_realise_22 : decode cX11_realise 22 = .ok (.invokespecial 134, 3) := by decide +kernel
theorem dX11_realise_25 : decode cX11_realise 25 = .ok (.athrow, 1) := by decide +kernel
theorem dX11_realise_26 : decode cX11_realise 26 = .ok (.aload_n 0, 1) := by decide +kernel
theorem dX11_realise_27 : decode cX11_realise 27 = .ok (.getfield 41, 3) := by decide +kernel
theorem dX11_realise_30 : decode cX11_realise 30 = .ok (.iload_n 1, 1) := by decide +kernel
theorem dX11_realise_31 : decode cX11_realise 31 = .ok (.invokevirtual 452, 3) := by decide +kernel
theorem dX11_realise_34 : decode cX11_realise 34 = .ok (.ifCond .ge 14, 3) := by decide +kernel
theorem dX11_realise_37 : decode cX11_realise 37 = .ok (.new 455, 3) := by decide +kernel
theorem dX11_realise_40 : decode cX11_realise 40 = .ok (.dup, 1) := by decide +kernel
theorem dX11_realise_41 : decode cX11_realise 41 = .ok (.ldc_w 457, 3) := by decide +kernel
theorem dX11_realise_44 : decode cX11_realise 44 = .ok (.invokespecial 459, 3) := by decide +kernel
theorem dX11_realise_47 : decode cX11_realise 47 = .ok (.athrow, 1) := by decide +kernel
theorem dX11_realise_48 : decode cX11_realise 48 = .ok (.aload_n 0, 1) := by decide +kernel
theorem dX11_realise_49 : decode cX11_realise 49 = .ok (.getfield 41, 3) := by decide +kernel
theorem dX11_realise_52 : decode cX11_realise 52 = .ok (.iload_n 1, 1) := by decide +kernel
theorem dX11_realise_53 : decode cX11_realise 53 = .ok (.aload_n 3, 1) := by decide +kernel
theorem dX11_realise_54 : decode cX11_realise 54 = .ok (.invokevirtual 460, 3) := by decide +kernel
theorem dX11_realise_57 : decode cX11_realise 57 = .ok (.istore 4, 2) := by decide +kernel
theorem dX11_realise_59 : decode cX11_realise 59 = .ok (.aload_n 0, 1) := by decide +kernel
theorem dX11_realise_60 : decode cX11_realise 60 = .ok (.getfield 12, 3) := by decide +kernel
theorem dX11_realise_63 : decode cX11_realise 63 = .ok (.aload_n 0, 1) := by decide +kernel
theorem dX11_realise_64 : decode cX11_realise 64 = .ok (.getfield 41, 3) := by decide +kernel
theorem dX11_realise_67 : decode cX11_realise 67 = .ok (.invokevirtual 464, 3) := by decide +kernel
theorem dX11_realise_70 : decode cX11_realise 70 = .ok (.iload 4, 2) := by decide +kernel
theorem dX11_realise_72 : decode cX11_realise 72 = .ok (.ireturn, 1) := by decide +kernel
theorem dX11_speakingShare_0 : decode cX11_speakingShare 0 = .ok (.aload_n 0, 1) := by decide +kernel
theorem dX11_speakingShare_1 : decode cX11_speakingShare 1 = .ok (.getfield 12, 3) := by decide +kernel
theorem dX11_speakingShare_4 : decode cX11_speakingShare 4 = .ok (.invokevirtual 468, 3) := by decide +kernel
theorem dX11_speakingShare_7 : decode cX11_speakingShare 7 = .ok (.istore_n 1, 1) := by decide +kernel
theorem dX11_speakingShare_8 : decode cX11_speakingShare 8 = .ok (.iload_n 1, 1) := by decide +kernel
theorem dX11_speakingShare_9 : decode cX11_speakingShare 9 = .ok (.ifCond .ne 14, 3) := by decide +kernel
theorem dX11_speakingShare_12 : decode cX11_speakingShare 12 = .ok (.new 471, 3) := by decide +kernel
theorem dX11_speakingShare_15 : decode cX11_speakingShare 15 = .ok (.dup, 1) := by decide +kernel
theorem dX11_speakingShare_16 : decode cX11_speakingShare 16 = .ok (.ldc_w 473, 3) := by decide +kernel
theorem dX11_speakingShare_19 : decode cX11_speakingShare 19 = .ok (.invokespecial 475, 3) := by decide +kernel
theorem dX11_speakingShare_22 : decode cX11_speakingShare 22 = .ok (.athrow, 1) := by decide +kernel
theorem dX11_speakingShare_23 : decode cX11_speakingShare 23 = .ok (.aload_n 0, 1) := by decide +kernel
theorem dX11_speakingShare_24 : decode cX11_speakingShare 24 = .ok (.getfield 12, 3) := by decide +kernel
theorem dX11_speakingShare_27 : decode cX11_speakingShare 27 = .ok (.getfield 212, 3) := by decide +kernel
theorem dX11_speakingShare_30 : decode cX11_speakingShare 30 = .ok (.i2f, 1) := by decide +kernel
theorem dX11_speakingShare_31 : decode cX11_speakingShare 31 = .ok (.iload_n 1, 1) := by decide +kernel
theorem dX11_speakingShare_32 : decode cX11_speakingShare 32 = .ok (.i2f, 1) := by decide +kernel
theorem dX11_speakingShare_33 : decode cX11_speakingShare 33 = .ok (.fdiv, 1) := by decide +kernel
theorem dX11_speakingShare_34 : decode cX11_speakingShare 34 = .ok (.freturn, 1) := by decide +kernel
theorem dX11_meanPitch_0 : decode cX11_meanPitch 0 = .ok (.aload_n 0, 1) := by decide +kernel
theorem dX11_meanPitch_1 : decode cX11_meanPitch 1 = .ok (.getfield 12, 3) := by decide +kernel
theorem dX11_meanPitch_4 : decode cX11_meanPitch 4 = .ok (.getfield 212, 3) := by decide +kernel
theorem dX11_meanPitch_7 : decode cX11_meanPitch 7 = .ok (.istore_n 1, 1) := by decide +kernel
theorem dX11_meanPitch_8 : decode cX11_meanPitch 8 = .ok (.iload_n 1, 1) := by decide +kernel
theorem dX11_meanPitch_9 : decode cX11_meanPitch 9 = .ok (.ifCond .ne 14, 3) := by decide +kernel
theorem dX11_meanPitch_12 : decode cX11_meanPitch 12 = .ok (.new 471, 3) := by decide +kernel
theorem dX11_meanPitch_15 : decode cX11_meanPitch 15 = .ok (.dup, 1) := by decide +kernel
theorem dX11_meanPitch_16 : decode cX11_meanPitch 16 = .ok (.ldc_w 476, 3) := by decide +kernel
theorem dX11_meanPitch_19 : decode cX11_meanPitch 19 = .ok (.invokespecial 475, 3) := by decide +kernel
theorem dX11_meanPitch_22 : decode cX11_meanPitch 22 = .ok (.athrow, 1) := by decide +kernel
theorem dX11_meanPitch_23 : decode cX11_meanPitch 23 = .ok (.aload_n 0, 1) := by decide +kernel
theorem dX11_meanPitch_24 : decode cX11_meanPitch 24 = .ok (.getfield 12, 3) := by decide +kernel
theorem dX11_meanPitch_27 : decode cX11_meanPitch 27 = .ok (.invokevirtual 478, 3) := by decide +kernel
theorem dX11_meanPitch_30 : decode cX11_meanPitch 30 = .ok (.i2d, 1) := by decide +kernel
theorem dX11_meanPitch_31 : decode cX11_meanPitch 31 = .ok (.iload_n 1, 1) := by decide +kernel
theorem dX11_meanPitch_32 : decode cX11_meanPitch 32 = .ok (.i2d, 1) := by decide +kernel
theorem dX11_meanPitch_33 : decode cX11_meanPitch 33 = .ok (.ddiv, 1) := by decide +kernel
theorem dX11_meanPitch_34 : decode cX11_meanPitch 34 = .ok (.dreturn, 1) := by decide +kernel
theorem dX11_isTrue_0 : decode cX11_isTrue 0 = .ok (.aload_n 0, 1) := by decide +kernel
theorem dX11_isTrue_1 : decode cX11_isTrue 1 = .ok (.getfield 12, 3) := by decide +kernel
theorem dX11_isTrue_4 : decode cX11_isTrue 4 = .ok (.invokevirtual 481, 3) := by decide +kernel
theorem dX11_isTrue_7 : decode cX11_isTrue 7 = .ok (.ireturn, 1) := by decide +kernel
theorem dX11_isDivision_0 : decode cX11_isDivision 0 = .ok (.iload_n 0, 1) := by decide +kernel
theorem dX11_isDivision_1 : decode cX11_isDivision 1 = .ok (.ifCond .lt 12, 3) := by decide +kernel
theorem dX11_isDivision_4 : decode cX11_isDivision 4 = .ok (.iload_n 0, 1) := by decide +kernel
theorem dX11_isDivision_5 : decode cX11_isDivision 5 = .ok (.iconst 3, 1) := by decide +kernel
theorem dX11_isDivision_6 : decode cX11_isDivision 6 = .ok (.if_icmp .ge 7, 3) := by decide +kernel
theorem dX11_isDivision_9 : decode cX11_isDivision 9 = .ok (.iconst 1, 1) := by decide +kernel
theorem dX11_isDivision_10 : decode cX11_isDivision 10 = .ok (.goto 4, 3) := by decide +kernel
theorem dX11_isDivision_13 : decode cX11_isDivision 13 = .ok (.iconst 0, 1) := by decide +kernel
theorem dX11_isDivision_14 : decode cX11_isDivision 14 = .ok (.ireturn, 1) := by decide +kernel
theorem dX11_needDivision_0 : decode cX11_needDivision 0 = .ok (.iload_n 0, 1) := by decide +kernel
theorem dX11_needDivision_1 : decode cX11_needDivision 1 = .ok (.invokestatic 484, 3) := by decide +kernel
theorem dX11_needDivision_4 : decode cX11_needDivision 4 = .ok (.ifCond .ne 14, 3) := by decide +kernel
theorem dX11_needDivision_7 : decode cX11_needDivision 7 = .ok (.new 355, 3) := by decide +kernel
theorem dX11_needDivision_10 : decode cX11_needDivision 10 = .ok (.dup, 1) := by decide +kernel
theorem dX11_needDivision_11 : decode cX11_needDivision 11 = .ok (.ldc_w 487, 3) := by decide +kernel
theorem dX11_needDivision_14 : decode cX11_needDivision 14 = .ok (.invokespecial 359, 3) := by decide +kernel
theorem dX11_needDivision_17 : decode cX11_needDivision 17 = .ok (.athrow, 1) := by decide +kernel
theorem dX11_needDivision_18 : decode cX11_needDivision 18 = .ok (.return_, 1) := by decide +kernel
theorem dX11_needKey_0 : decode cX11_needKey 0 = .ok (.iload_n 0, 1) := by decide +kernel
theorem dX11_needKey_1 : decode cX11_needKey 1 = .ok (.iload_n 1, 1) := by decide +kernel
theorem dX11_needKey_2 : decode cX11_needKey 2 = .ok (.invokestatic 489, 3) := by decide +kernel
theorem dX11_needKey_5 : decode cX11_needKey 5 = .ok (.ifCond .ge 14, 3) := by decide +kernel
theorem dX11_needKey_8 : decode cX11_needKey 8 = .ok (.new 355, 3) := by decide +kernel
theorem dX11_needKey_11 : decode cX11_needKey 11 = .ok (.dup, 1) := by decide +kernel
theorem dX11_needKey_12 : decode cX11_needKey 12 = .ok (.ldc_w 492, 3) := by decide +kernel
theorem dX11_needKey_15 : decode cX11_needKey 15 = .ok (.invokespecial 359, 3) := by decide +kernel
theorem dX11_needKey_18 : decode cX11_needKey 18 = .ok (.athrow, 1) := by decide +kernel
theorem dX11_needKey_19 : decode cX11_needKey 19 = .ok (.return_, 1) := by decide +kernel
theorem dX11_needRange_0 : decode cX11_needRange 0 = .ok (.iload_n 0, 1) := by decide +kernel
theorem dX11_needRange_1 : decode cX11_needRange 1 = .ok (.iload_n 1, 1) := by decide +kernel
theorem dX11_needRange_2 : decode cX11_needRange 2 = .ok (.if_icmp .lt 8, 3) := by decide +kernel
theorem dX11_needRange_5 : decode cX11_needRange 5 = .ok (.iload_n 0, 1) := by decide +kernel
theorem dX11_needRange_6 : decode cX11_needRange 6 = .ok (.iload_n 2, 1) := by decide +kernel
theorem dX11_needRange_7 : decode cX11_needRange 7 = .ok (.if_icmp .le 14, 3) := by decide +kernel
theorem dX11_needRange_10 : decode cX11_needRange 10 = .ok (.new 130, 3) := by decide +kernel
theorem dX11_needRange_13 : decode cX11_needRange 13 = .ok (.dup, 1) := by decide +kernel
theorem dX11_needRange_14 : decode cX11_needRange 14 = .ok (.ldc_w 494, 3) := by decide +kernel
theorem dX11_needRange_17 : decode cX11_needRange 17 = .ok (.invokespecial 134, 3) := by decide +kernel
theorem dX11_needRange_20 : decode cX11_needRange 20 = .ok (.athrow, 1) := by decide +kernel
theorem dX11_needRange_21 : decode cX11_needRange 21 = .ok (.return_, 1) := by decide +kernel
theorem dX11_needRelay_0 : decode cX11_needRelay 0 = .ok (.iload_n 0, 1) := by decide +kernel
theorem dX11_needRelay_1 : decode cX11_needRelay 1 = .ok (.ifCond .lt 9, 3) := by decide +kernel
theorem dX11_needRelay_4 : decode cX11_needRelay 4 = .ok (.iload_n 0, 1) := by decide +kernel
theorem dX11_needRelay_5 : decode cX11_needRelay 5 = .ok (.bipush 16, 2) := by decide +kernel
theorem dX11_needRelay_7 : decode cX11_needRelay 7 = .ok (.if_icmp .lt 14, 3) := by decide +kernel
theorem dX11_needRelay_10 : decode cX11_needRelay 10 = .ok (.new 355, 3) := by decide +kernel
theorem dX11_needRelay_13 : decode cX11_needRelay 13 = .ok (.dup, 1) := by decide +kernel
theorem dX11_needRelay_14 : decode cX11_needRelay 14 = .ok (.ldc_w 496, 3) := by decide +kernel
theorem dX11_needRelay_17 : decode cX11_needRelay 17 = .ok (.invokespecial 359, 3) := by decide +kernel
theorem dX11_needRelay_20 : decode cX11_needRelay 20 = .ok (.athrow, 1) := by decide +kernel
theorem dX11_needRelay_21 : decode cX11_needRelay 21 = .ok (.return_, 1) := by decide +kernel
theorem dX11_needReversible_0 : decode cX11_needReversible 0 = .ok (.iload_n 0, 1) := by decide +kernel
theorem dX11_needReversible_1 : decode cX11_needReversible 1 = .ok (.ifCond .lt 8, 3) := by decide +kernel
theorem dX11_needReversible_4 : decode cX11_needReversible 4 = .ok (.iload_n 0, 1) := by decide +kernel
theorem dX11_needReversible_5 : decode cX11_needReversible 5 = .ok (.iconst 4, 1) := by decide +kernel
theorem dX11_needReversible_6 : decode cX11_needReversible 6 = .ok (.if_icmp .lt 14, 3) := by decide +kernel
theorem dX11_needReversible_9 : decode cX11_needReversible 9 = .ok (.new 355, 3) := by decide +kernel
theorem dX11_needReversible_12 : decode cX11_needReversible 12 = .ok (.dup, 1) := by decide +kernel
theorem dX11_needReversible_13 : decode cX11_needReversible 13 = .ok (.ldc_w 498, 3) := by decide +kernel
theorem dX11_needReversible_16 : decode cX11_needReversible 16 = .ok (.invokespecial 359, 3) := by decide +kernel
theorem dX11_needReversible_19 : decode cX11_needReversible 19 = .ok (.athrow, 1) := by decide +kernel
theorem dX11_needReversible_20 : decode cX11_needReversible 20 = .ok (.return_, 1) := by decide +kernel
theorem dX11_needPiston_0 : decode cX11_needPiston 0 = .ok (.iload_n 0, 1) := by decide +kernel
theorem dX11_needPiston_1 : decode cX11_needPiston 1 = .ok (.iload_n 1, 1) := by decide +kernel
theorem dX11_needPiston_2 : decode cX11_needPiston 2 = .ok (.invokestatic 349, 3) := by decide +kernel
theorem dX11_needPiston_5 : decode cX11_needPiston 5 = .ok (.istore_n 2, 1) := by decide +kernel
theorem dX11_needPiston_6 : decode cX11_needPiston 6 = .ok (.iload_n 2, 1) := by decide +kernel
theorem dX11_needPiston_7 : decode cX11_needPiston 7 = .ok (.ifCond .ge 14, 3) := by decide +kernel
theorem dX11_needPiston_10 : decode cX11_needPiston 10 = .ok (.new 355, 3) := by decide +kernel
theorem dX11_needPiston_13 : decode cX11_needPiston 13 = .ok (.dup, 1) := by decide +kernel
theorem dX11_needPiston_14 : decode cX11_needPiston 14 = .ok (.ldc_w 500, 3) := by decide +kernel
theorem dX11_needPiston_17 : decode cX11_needPiston 17 = .ok (.invokespecial 359, 3) := by decide +kernel
theorem dX11_needPiston_20 : decode cX11_needPiston 20 = .ok (.athrow, 1) := by decide +kernel
theorem dX11_needPiston_21 : decode cX11_needPiston 21 = .ok (.iload_n 2, 1) := by decide +kernel
theorem dX11_needPiston_22 : decode cX11_needPiston 22 = .ok (.ireturn, 1) := by decide +kernel
theorem dX11_needFrame_0 : decode cX11_needFrame 0 = .ok (.iload_n 1, 1) := by decide +kernel
theorem dX11_needFrame_1 : decode cX11_needFrame 1 = .ok (.ifCond .lt 14, 3) := by decide +kernel
theorem dX11_needFrame_4 : decode cX11_needFrame 4 = .ok (.iload_n 1, 1) := by decide +kernel
theorem dX11_needFrame_5 : decode cX11_needFrame 5 = .ok (.aload_n 0, 1) := by decide +kernel
theorem dX11_needFrame_6 : decode cX11_needFrame 6 = .ok (.getfield 34, 3) := by decide +kernel
theorem dX11_needFrame_9 : decode cX11_needFrame 9 = .ok (.invokevirtual 352, 3) := by decide +kernel
theorem dX11_needFrame_12 : decode cX11_needFrame 12 = .ok (.if_icmp .lt 14, 3) := by decide +kernel
theorem dX11_needFrame_15 : decode cX11_needFrame 15 = .ok (.new 355, 3) := by decide +kernel
theorem dX11_needFrame_18 : decode cX11_needFrame 18 = .ok (.dup, 1) := by decide +kernel
theorem dX11_needFrame_19 : decode cX11_needFrame 19 = .ok (.ldc_w 502, 3) := by decide +kernel
theorem dX11_needFrame_22 : decode cX11_needFrame 22 = .ok (.invokespecial 359, 3) := by decide +kernel
theorem dX11_needFrame_25 : decode cX11_needFrame 25 = .ok (.athrow, 1) := by decide +kernel
theorem dX11_needFrame_26 : decode cX11_needFrame 26 = .ok (.return_, 1) := by decide +kernel
theorem dX11_needOwnLevel_0 : decode cX11_needOwnLevel 0 = .ok (.aload_n 0, 1) := by decide +kernel
theorem dX11_needOwnLevel_1 : decode cX11_needOwnLevel 1 = .ok (.getfield 34, 3) := by decide +kernel
theorem dX11_needOwnLevel_4 : decode cX11_needOwnLevel 4 = .ok (.invokevirtual 504, 3) := by decide +kernel
theorem dX11_needOwnLevel_7 : decode cX11_needOwnLevel 7 = .ok (.ifCond .eq 14, 3) := by decide +kernel
theorem dX11_needOwnLevel_10 : decode cX11_needOwnLevel 10 = .ok (.new 455, 3) := by decide +kernel
theorem dX11_needOwnLevel_13 : decode cX11_needOwnLevel 13 = .ok (.dup, 1) := by decide +kernel
theorem dX11_needOwnLevel_14 : decode cX11_needOwnLevel 14 = .ok (.ldc_w 507, 3) := by decide +kernel
theorem dX11_needOwnLevel_17 : decode cX11_needOwnLevel 17 = .ok (.invokespecial 459, 3) := by decide +kernel
theorem dX11_needOwnLevel_20 : decode cX11_needOwnLevel 20 = .ok (.athrow, 1) := by decide +kernel
theorem dX11_needOwnLevel_21 : decode cX11_needOwnLevel 21 = .ok (.return_, 1) := by decide +kernel
theorem dX11_needRoomForKnob_0 : decode cX11_needRoomForKnob 0 = .ok (.aload_n 0, 1) := by decide +kernel
theorem dX11_needRoomForKnob_1 : decode cX11_needRoomForKnob 1 = .ok (.getfield 25, 3) := by decide +kernel
theorem dX11_needRoomForKnob_4 : decode cX11_needRoomForKnob 4 = .ok (.getfield 509, 3) := by decide +kernel
theorem dX11_needRoomForKnob_7 : decode cX11_needRoomForKnob 7 = .ok (.invokevirtual 53, 3) := by decide +kernel
theorem dX11_needRoomForKnob_10 : decode cX11_needRoomForKnob 10 = .ok (.bipush 40, 2) := by decide +kernel
theorem dX11_needRoomForKnob_12 : decode cX11_needRoomForKnob 12 = .ok (.if_icmp .lt 14, 3) := by decide +kernel
theorem dX11_needRoomForKnob_15 : decode cX11_needRoomForKnob 15 = .ok (.new 59, 3) := by decide +kernel
theorem dX11_needRoomForKnob_18 : decode cX11_needRoomForKnob 18 = .ok (.dup, 1) := by decide +kernel
theorem dX11_needRoomForKnob_19 : decode cX11_needRoomForKnob 19 = .ok (.ldc_w 512, 3) := by decide +kernel
theorem dX11_needRoomForKnob_22 : decode cX11_needRoomForKnob 22 = .ok (.invokespecial 63, 3) := by decide +kernel
theorem dX11_needRoomForKnob_25 : decode cX11_needRoomForKnob 25 = .ok (.athrow, 1) := by decide +kernel
theorem dX11_needRoomForKnob_26 : decode cX11_needRoomForKnob 26 = .ok (.return_, 1) := by decide +kernel
theorem dX11_needKnob_0 : decode cX11_needKnob 0 = .ok (.aload_n 0, 1) := by decide +kernel
theorem dX11_needKnob_1 : decode cX11_needKnob 1 = .ok (.getfield 25, 3) := by decide +kernel
theorem dX11_needKnob_4 : decode cX11_needKnob 4 = .ok (.iload_n 1, 1) := by decide +kernel
theorem dX11_needKnob_5 : decode cX11_needKnob 5 = .ok (.invokevirtual 341, 3) := by decide +kernel
theorem dX11_needKnob_8 : decode cX11_needKnob 8 = .ok (.astore_n 2, 1) := by decide +kernel
theorem dX11_needKnob_9 : decode cX11_needKnob 9 = .ok (.aload_n 2, 1) := by decide +kernel
theorem dX11_needKnob_10 : decode cX11_needKnob 10 = .ok (.ifnonnull 14, 3) := by decide +kernel
theorem dX11_needKnob_13 : decode cX11_needKnob 13 = .ok (.new 355, 3) := by decide +kernel
theorem dX11_needKnob_16 : decode cX11_needKnob 16 = .ok (.dup, 1) := by decide +kernel
theorem dX11_needKnob_17 : decode cX11_needKnob 17 = .ok (.ldc_w 514, 3) := by decide +kernel
theorem dX11_needKnob_20 : decode cX11_needKnob 20 = .ok (.invokespecial 359, 3) := by decide +kernel
theorem dX11_needKnob_23 : decode cX11_needKnob 23 = .ok (.athrow, 1) := by decide +kernel
theorem dX11_needKnob_24 : decode cX11_needKnob 24 = .ok (.aload_n 2, 1) := by decide +kernel
theorem dX11_needKnob_25 : decode cX11_needKnob 25 = .ok (.areturn, 1) := by decide +kernel
theorem dX11_needStop_0 : decode cX11_needStop 0 = .ok (.aload_n 0, 1) := by decide +kernel
theorem dX11_needStop_1 : decode cX11_needStop 1 = .ok (.getfield 516, 3) := by decide +kernel
theorem dX11_needStop_4 : decode cX11_needStop 4 = .ok (.ifnonnull 14, 3) := by decide +kernel
theorem dX11_needStop_7 : decode cX11_needStop 7 = .ok (.new 455, 3) := by decide +kernel
theorem dX11_needStop_10 : decode cX11_needStop 10 = .ok (.dup, 1) := by decide +kernel
theorem dX11_needStop_11 : decode cX11_needStop 11 = .ok (.ldc_w 520, 3) := by decide +kernel
theorem dX11_needStop_14 : decode cX11_needStop 14 = .ok (.invokespecial 459, 3) := by decide +kernel
theorem dX11_needStop_17 : decode cX11_needStop 17 = .ok (.athrow, 1) := by decide +kernel
theorem dX11_needStop_18 : decode cX11_needStop 18 = .ok (.aload_n 0, 1) := by decide +kernel
theorem dX11_needStop_19 : decode cX11_needStop 19 = .ok (.getfield 516, 3) := by decide +kernel
theorem dX11_needStop_22 : decode cX11_needStop 22 = .ok (.areturn, 1) := by decide +kernel
theorem dX11_needRank_0 : decode cX11_needRank 0 = .ok (.aload_n 0, 1) := by decide +kernel
theorem dX11_needRank_1 : decode cX11_needRank 1 = .ok (.getfield 12, 3) := by decide +kernel
theorem dX11_needRank_4 : decode cX11_needRank 4 = .ok (.iload_n 1, 1) := by decide +kernel
theorem dX11_needRank_5 : decode cX11_needRank 5 = .ok (.invokevirtual 522, 3) := by decide +kernel
theorem dX11_needRank_8 : decode cX11_needRank 8 = .ok (.astore_n 2, 1) := by decide +kernel
theorem dX11_needRank_9 : decode cX11_needRank 9 = .ok (.aload_n 2, 1) := by decide +kernel
theorem dX11_needRank_10 : decode cX11_needRank 10 = .ok (.ifnonnull 14, 3) := by decide +kernel
theorem dX11_needRank_13 : decode cX11_needRank 13 = .ok (.new 355, 3) := by decide +kernel
theorem dX11_needRank_16 : decode cX11_needRank 16 = .ok (.dup, 1) := by decide +kernel
theorem dX11_needRank_17 : decode cX11_needRank 17 = .ok (.ldc_w 525, 3) := by decide +kernel
theorem dX11_needRank_20 : decode cX11_needRank 20 = .ok (.invokespecial 359, 3) := by decide +kernel
theorem dX11_needRank_23 : decode cX11_needRank 23 = .ok (.athrow, 1) := by decide +kernel
theorem dX11_needRank_24 : decode cX11_needRank 24 = .ok (.aload_n 2, 1) := by decide +kernel
theorem dX11_needRank_25 : decode cX11_needRank 25 = .ok (.areturn, 1) := by decide +kernel
theorem dX11_needPipe_0 : decode cX11_needPipe 0 = .ok (.aload_n 0, 1) := by decide +kernel
theorem dX11_needPipe_1 : decode cX11_needPipe 1 = .ok (.getfield 12, 3) := by decide +kernel
theorem dX11_needPipe_4 : decode cX11_needPipe 4 = .ok (.iload_n 1, 1) := by decide +kernel
theorem dX11_needPipe_5 : decode cX11_needPipe 5 = .ok (.iload_n 2, 1) := by decide +kernel
theorem dX11_needPipe_6 : decode cX11_needPipe 6 = .ok (.invokevirtual 527, 3) := by decide +kernel
theorem dX11_needPipe_9 : decode cX11_needPipe 9 = .ok (.astore_n 3, 1) := by decide +kernel
theorem dX11_needPipe_10 : decode cX11_needPipe 10 = .ok (.aload_n 3, 1) := by decide +kernel
theorem dX11_needPipe_11 : decode cX11_needPipe 11 = .ok (.ifnonnull 14, 3) := by decide +kernel
theorem dX11_needPipe_14 : decode cX11_needPipe 14 = .ok (.new 355, 3) := by decide +kernel
theorem dX11_needPipe_17 : decode cX11_needPipe 17 = .ok (.dup, 1) := by decide +kernel
theorem dX11_needPipe_18 : decode cX11_needPipe 18 = .ok (.ldc_w 530, 3) := by decide +kernel
theorem dX11_needPipe_21 : decode cX11_needPipe 21 = .ok (.invokespecial 359, 3) := by decide +kernel
theorem dX11_needPipe_24 : decode cX11_needPipe 24 = .ok (.athrow, 1) := by decide +kernel
theorem dX11_needPipe_25 : decode cX11_needPipe 25 = .ok (.aload_n 3, 1) := by decide +kernel
theorem dX11_needPipe_26 : decode cX11_needPipe 26 = .ok (.areturn, 1) := by decide +kernel
theorem dX11_addKnob_0 : decode cX11_addKnob 0 = .ok (.aload_n 0, 1) := by decide +kernel
theorem dX11_addKnob_1 : decode cX11_addKnob 1 = .ok (.getfield 25, 3) := by decide +kernel
theorem dX11_addKnob_4 : decode cX11_addKnob 4 = .ok (.getfield 509, 3) := by decide +kernel
theorem dX11_addKnob_7 : decode cX11_addKnob 7 = .ok (.aload_n 1, 1) := by decide +kernel
theorem dX11_addKnob_8 : decode cX11_addKnob 8 = .ok (.invokevirtual 83, 3) := by decide +kernel
theorem dX11_addKnob_11 : decode cX11_addKnob 11 = .ok (.pop, 1) := by decide +kernel
theorem dX11_addKnob_12 : decode cX11_addKnob 12 = .ok (.aload_n 0, 1) := by decide +kernel
theorem dX11_addKnob_13 : decode cX11_addKnob 13 = .ok (.getfield 12, 3) := by decide +kernel
theorem dX11_addKnob_16 : decode cX11_addKnob 16 = .ok (.invokevirtual 87, 3) := by decide +kernel
theorem dX11_addKnob_19 : decode cX11_addKnob 19 = .ok (.aload_n 0, 1) := by decide +kernel
theorem dX11_addKnob_20 : decode cX11_addKnob 20 = .ok (.getfield 25, 3) := by decide +kernel
theorem dX11_addKnob_23 : decode cX11_addKnob 23 = .ok (.getfield 509, 3) := by decide +kernel
theorem dX11_addKnob_26 : decode cX11_addKnob 26 = .ok (.invokevirtual 53, 3) := by decide +kernel
theorem dX11_addKnob_29 : decode cX11_addKnob 29 = .ok (.iconst 1, 1) := by decide +kernel
theorem dX11_addKnob_30 : decode cX11_addKnob 30 = .ok (.isub, 1) := by decide +kernel
theorem dX11_addKnob_31 : decode cX11_addKnob 31 = .ok (.ireturn, 1) := by decide +kernel
theorem dX11_moveKnobs_0 : decode cX11_moveKnobs 0 = .ok (.aload_n 0, 1) := by decide +kernel
theorem dX11_moveKnobs_1 : decode cX11_moveKnobs 1 = .ok (.getfield 25, 3) := by decide +kernel
theorem dX11_moveKnobs_4 : decode cX11_moveKnobs 4 = .ok (.lload_n 1, 1) := by decide +kernel
theorem dX11_moveKnobs_5 : decode cX11_moveKnobs 5 = .ok (.lload_n 3, 1) := by decide +kernel
theorem dX11_moveKnobs_6 : decode cX11_moveKnobs 6 = .ok (.invokevirtual 532, 3) := by decide +kernel
theorem dX11_moveKnobs_9 : decode cX11_moveKnobs 9 = .ok (.istore 5, 2) := by decide +kernel
theorem dX11_moveKnobs_11 : decode cX11_moveKnobs 11 = .ok (.aload_n 0, 1) := by decide +kernel
theorem dX11_moveKnobs_12 : decode cX11_moveKnobs 12 = .ok (.getfield 12, 3) := by decide +kernel
theorem dX11_moveKnobs_15 : decode cX11_moveKnobs 15 = .ok (.invokevirtual 87, 3) := by decide +kernel
theorem dX11_moveKnobs_18 : decode cX11_moveKnobs 18 = .ok (.iload 5, 2) := by decide +kernel
theorem dX11_moveKnobs_20 : decode cX11_moveKnobs 20 = .ok (.ireturn, 1) := by decide +kernel
theorem dX12_init_0 : decode cX12_init 0 = .ok (.aload_n 0, 1) := by decide +kernel
theorem dX12_init_1 : decode cX12_init 1 = .ok (.invokespecial 1, 3) := by decide +kernel
theorem dX12_init_4 : decode cX12_init 4 = .ok (.return_, 1) := by decide +kernel
theorem dX13_init_0 : decode cX13_init 0 = .ok (.aload_n 0, 1) := by decide +kernel
theorem dX13_init_1 : decode cX13_init 1 = .ok (.invokespecial 1, 3) := by decide +kernel
theorem dX13_init_4 : decode cX13_init 4 = .ok (.aload_n 0, 1) := by decide +kernel
theorem dX13_init_5 : decode cX13_init 5 = .ok (.iload_n 1, 1) := by decide +kernel
theorem dX13_init_6 : decode cX13_init 6 = .ok (.putfield 7, 3) := by decide +kernel
theorem dX13_init_9 : decode cX13_init 9 = .ok (.aload_n 0, 1) := by decide +kernel
theorem dX13_init_10 : decode cX13_init 10 = .ok (.iload_n 2, 1) := by decide +kernel
theorem dX13_init_11 : decode cX13_init 11 = .ok (.putfield 13, 3) := by decide +kernel
theorem dX13_init_14 : decode cX13_init 14 = .ok (.aload_n 0, 1) := by decide +kernel
theorem dX13_init_15 : decode cX13_init 15 = .ok (.iload_n 3, 1) := by decide +kernel
theorem dX13_init_16 : decode cX13_init 16 = .ok (.putfield 16, 3) := by decide +kernel
theorem dX13_init_19 : decode cX13_init 19 = .ok (.aload_n 0, 1) := by decide +kernel
theorem dX13_init_20 : decode cX13_init 20 = .ok (.iload 4, 2) := by decide +kernel
theorem dX13_init_22 : decode cX13_init 22 = .ok (.putfield 20, 3) := by decide +kernel
theorem dX13_init_25 : decode cX13_init 25 = .ok (.return_, 1) := by decide +kernel
theorem dX14_init_0 : decode cX14_init 0 = .ok (.aload_n 0, 1) := by decide +kernel
theorem dX14_init_1 : decode cX14_init 1 = .ok (.invokespecial 3, 3) := by decide +kernel
theorem dX14_init_4 : decode cX14_init 4 = .ok (.aload_n 0, 1) := by decide +kernel
theorem dX14_init_5 : decode cX14_init 5 = .ok (.bipush 61, 2) := by decide +kernel
theorem dX14_init_7 : decode cX14_init 7 = .ok (.newarray .int, 2) := by decide +kernel
theorem dX14_init_9 : decode cX14_init 9 = .ok (.putfield 9, 3) := by decide +kernel
theorem dX14_init_12 : decode cX14_init 12 = .ok (.aload_n 0, 1) := by decide +kernel
theorem dX14_init_13 : decode cX14_init 13 = .ok (.iconst 4, 1) := by decide +kernel
theorem dX14_init_14 : decode cX14_init 14 = .ok (.newarray .int, 2) := by decide +kernel
theorem dX14_init_16 : decode cX14_init 16 = .ok (.putfield 15, 3) := by decide +kernel
theorem dX14_init_19 : decode cX14_init 19 = .ok (.aload_n 0, 1) := by decide +kernel
theorem dX14_init_20 : decode cX14_init 20 = .ok (.iconst 4, 1) := by decide +kernel
theorem dX14_init_21 : decode cX14_init 21 = .ok (.newarray .int, 2) := by decide +kernel
theorem dX14_init_23 : decode cX14_init 23 = .ok (.putfield 18, 3) := by decide +kernel
theorem dX14_init_26 : decode cX14_init 26 = .ok (.aload_n 0, 1) := by decide +kernel
theorem dX14_init_27 : decode cX14_init 27 = .ok (.iconst 4, 1) := by decide +kernel
theorem dX14_init_28 : decode cX14_init 28 = .ok (.newarray .int, 2) := by decide +kernel
theorem dX14_init_30 : decode cX14_init 30 = .ok (.putfield 21, 3) := by decide +kernel
theorem dX14_init_33 : decode cX14_init 33 = .ok (.aload_n 0, 1) := by decide +kernel
theorem dX14_init_34 : decode cX14_init 34 = .ok (.iconst 4, 1) := by decide +kernel
theorem dX14_init_35 : decode cX14_init 35 = .ok (.newarray .int, 2) := by decide +kernel
theorem dX14_init_37 : decode cX14_init 37 = .ok (.putfield 24, 3) := by decide +kernel
theorem dX14_init_40 : decode cX14_init 40 = .ok (.aload_n 0, 1) := by decide +kernel
theorem dX14_init_41 : decode cX14_init 41 = .ok (.iconst 1, 1) := by decide +kernel
theorem dX14_init_42 : decode cX14_init 42 = .ok (.putfield 27, 3) := by decide +kernel
theorem dX14_init_45 : decode cX14_init 45 = .ok (.aload_n 0, 1) := by decide +kernel
theorem dX14_init_46 : decode cX14_init 46 = .ok (.iconst (-1), 1) := by decide +kernel
theorem dX14_init_47 : decode cX14_init 47 = .ok (.putfield 31, 3) := by decide +kernel
theorem dX14_init_50 : decode cX14_init 50 = .ok (.aload_n 0, 1) := by decide +kernel
theorem dX14_init_51 : decode cX14_init 51 = .ok (.iload_n 1, 1) := by decide +kernel
theorem dX14_init_52 : decode cX14_init 52 = .ok (.putfield 35, 3) := by decide +kernel
theorem dX14_init_55 : decode cX14_init 55 = .ok (.aload_n 0, 1) := by decide +kernel
theorem dX14_init_56 : decode cX14_init 56 = .ok (.iload_n 2, 1) := by decide +kernel
theorem dX14_init_57 : decode cX14_init 57 = .ok (.putfield 39, 3) := by decide +kernel
theorem dX14_init_60 : decode cX14_init 60 = .ok (.aload_n 0, 1) := by decide +kernel
theorem dX14_init_61 : decode cX14_init 61 = .ok (.iload_n 3, 1) := by decide +kernel
theorem dX14_init_62 : decode cX14_init 62 = .ok (.putfield 42, 3) := by decide +kernel
theorem dX14_init_65 : decode cX14_init 65 = .ok (.aload_n 0, 1) := by decide +kernel
theorem dX14_init_66 : decode cX14_init 66 = .ok (.iload 4, 2) := by decide +kernel
theorem dX14_init_68 : decode cX14_init 68 = .ok (.putfield 45, 3) := by decide +kernel
theorem dX14_init_71 : decode cX14_init 71 = .ok (.aload_n 0, 1) := by decide +kernel
theorem dX14_init_72 : decode cX14_init 72 = .ok (.iload 5, 2) := by decide +kernel
theorem dX14_init_74 : decode cX14_init 74 = .ok (.putfield 48, 3) := by decide +kernel
theorem dX14_init_77 : decode cX14_init 77 = .ok (.iconst 0, 1) := by decide +kernel
theorem dX14_init_78 : decode cX14_init 78 = .ok (.istore 6, 2) := by decide +kernel
theorem dX14_init_80 : decode cX14_init 80 = .ok (.iload 6, 2) := by decide +kernel
theorem dX14_init_82 : decode cX14_init 82 = .ok (.bipush 61, 2) := by decide +kernel
theorem dX14_init_84 : decode cX14_init 84 = .ok (.if_icmp .ge 18, 3) := by decide +kernel
theorem dX14_init_87 : decode cX14_init 87 = .ok (.aload_n 0, 1) := by decide +kernel
theorem dX14_init_88 : decode cX14_init 88 = .ok (.getfield 9, 3) := by decide +kernel
theorem dX14_init_91 : decode cX14_init 91 = .ok (.iload 6, 2) := by decide +kernel
theorem dX14_init_93 : decode cX14_init 93 = .ok (.iload 6, 2) := by decide +kernel
theorem dX14_init_95 : decode cX14_init 95 = .ok (.iastore, 1) := by decide +kernel
theorem dX14_init_96 : decode cX14_init 96 = .ok (.iinc 6 1, 3) := by decide +kernel
theorem dX14_init_99 : decode cX14_init 99 = .ok (.goto (-19), 3) := by decide +kernel
theorem dX14_init_102 : decode cX14_init 102 = .ok (.return_, 1) := by decide +kernel
theorem dX15_init_0 : decode cX15_init 0 = .ok (.aload_n 0, 1) := by decide +kernel
theorem dX15_init_1 : decode cX15_init 1 = .ok (.invokespecial 1, 3) := by decide +kernel
theorem dX15_init_4 : decode cX15_init 4 = .ok (.aload_n 0, 1) := by decide +kernel
theorem dX15_init_5 : decode cX15_init 5 = .ok (.iload_n 1, 1) := by decide +kernel
theorem dX15_init_6 : decode cX15_init 6 = .ok (.putfield 7, 3) := by decide +kernel
theorem dX15_init_9 : decode cX15_init 9 = .ok (.aload_n 0, 1) := by decide +kernel
theorem dX15_init_10 : decode cX15_init 10 = .ok (.iload_n 2, 1) := by decide +kernel
theorem dX15_init_11 : decode cX15_init 11 = .ok (.putfield 13, 3) := by decide +kernel
theorem dX15_init_14 : decode cX15_init 14 = .ok (.aload_n 0, 1) := by decide +kernel
theorem dX15_init_15 : decode cX15_init 15 = .ok (.iload_n 3, 1) := by decide +kernel
theorem dX15_init_16 : decode cX15_init 16 = .ok (.putfield 16, 3) := by decide +kernel
theorem dX15_init_19 : decode cX15_init 19 = .ok (.aload_n 0, 1) := by decide +kernel
theorem dX15_init_20 : decode cX15_init 20 = .ok (.iload 4, 2) := by decide +kernel
theorem dX15_init_22 : decode cX15_init 22 = .ok (.putfield 19, 3) := by decide +kernel
theorem dX15_init_25 : decode cX15_init 25 = .ok (.aload_n 0, 1) := by decide +kernel
theorem dX15_init_26 : decode cX15_init 26 = .ok (.iload 5, 2) := by decide +kernel
theorem dX15_init_28 : decode cX15_init 28 = .ok (.putfield 22, 3) := by decide +kernel
theorem dX15_init_31 : decode cX15_init 31 = .ok (.aload_n 0, 1) := by decide +kernel
theorem dX15_init_32 : decode cX15_init 32 = .ok (.iload 6, 2) := by decide +kernel
theorem dX15_init_34 : decode cX15_init 34 = .ok (.putfield 25, 3) := by decide +kernel
theorem dX15_init_37 : decode cX15_init 37 = .ok (.aload_n 0, 1) := by decide +kernel
theorem dX15_init_38 : decode cX15_init 38 = .ok (.iload 7, 2) := by decide +kernel
theorem dX15_init_40 : decode cX15_init 40 = .ok (.putfield 28, 3) := by decide +kernel
theorem dX15_init_43 : decode cX15_init 43 = .ok (.aload_n 0, 1) := by decide +kernel
theorem dX15_init_44 : decode cX15_init 44 = .ok (.iload 8, 2) := by decide +kernel
theorem dX15_init_46 : decode cX15_init 46 = .ok (.putfield 31, 3) := by decide +kernel
theorem dX15_init_49 : decode cX15_init 49 = .ok (.return_, 1) := by decide +kernel
theorem dX15_pipes_0 : decode cX15_pipes 0 = .ok (.aload_n 0, 1) := by decide +kernel
theorem dX15_pipes_1 : decode cX15_pipes 1 = .ok (.getfield 13, 3) := by decide +kernel
theorem dX15_pipes_4 : decode cX15_pipes 4 = .ok (.aload_n 0, 1) := by decide +kernel
theorem dX15_pipes_5 : decode cX15_pipes 5 = .ok (.getfield 7, 3) := by decide +kernel
theorem dX15_pipes_8 : decode cX15_pipes 8 = .ok (.isub, 1) := by decide +kernel
theorem dX15_pipes_9 : decode cX15_pipes 9 = .ok (.iconst 1, 1) := by decide +kernel
theorem dX15_pipes_10 : decode cX15_pipes 10 = .ok (.iadd, 1) := by decide +kernel
theorem dX15_pipes_11 : decode cX15_pipes 11 = .ok (.ireturn, 1) := by decide +kernel
theorem dX16_init_0 : decode cX16_init 0 = .ok (.aload_n 0, 1) := by decide +kernel
theorem dX16_init_1 : decode cX16_init 1 = .ok (.invokespecial 1, 3) := by decide +kernel
theorem dX16_init_4 : decode cX16_init 4 = .ok (.aload_n 0, 1) := by decide +kernel
theorem dX16_init_5 : decode cX16_init 5 = .ok (.new 7, 3) := by decide +kernel
theorem dX16_init_8 : decode cX16_init 8 = .ok (.dup, 1) := by decide +kernel
theorem dX16_init_9 : decode cX16_init 9 = .ok (.invokespecial 9, 3) := by decide +kernel
theorem dX16_init_12 : decode cX16_init 12 = .ok (.putfield 10, 3) := by decide +kernel
theorem dX16_init_15 : decode cX16_init 15 = .ok (.aload_n 0, 1) := by decide +kernel
theorem dX16_init_16 : decode cX16_init 16 = .ok (.new 7, 3) := by decide +kernel
theorem dX16_init_19 : decode cX16_init 19 = .ok (.dup, 1) := by decide +kernel
theorem dX16_init_20 : decode cX16_init 20 = .ok (.invokespecial 9, 3) := by decide +kernel
theorem dX16_init_23 : decode cX16_init 23 = .ok (.putfield 16, 3) := by decide +kernel
theorem dX16_init_26 : decode cX16_init 26 = .ok (.aload_n 0, 1) := by decide +kernel
theorem dX16_init_27 : decode cX16_init 27 = .ok (.new 7, 3) := by decide +kernel
theorem dX16_init_30 : decode cX16_init 30 = .ok (.dup, 1) := by decide +kernel
theorem dX16_init_31 : decode cX16_init 31 = .ok (.invokespecial 9, 3) := by decide +kernel
theorem dX16_init_34 : decode cX16_init 34 = .ok (.putfield 19, 3) := by decide +kernel
theorem dX16_init_37 : decode cX16_init 37 = .ok (.aload_n 0, 1) := by decide +kernel
theorem dX16_init_38 : decode cX16_init 38 = .ok (.new 7, 3) := by decide +kernel
theorem dX16_init_41 : decode cX16_init 41 = .ok (.dup, 1) := by decide +kernel
theorem dX16_init_42 : decode cX16_init 42 = .ok (.invokespecial 9, 3) := by decide +kernel
theorem dX16_init_45 : decode cX16_init 45 = .ok (.putfield 22, 3) := by decide +kernel
theorem dX16_init_48 : decode cX16_init 48 = .ok (.aload_n 0, 1) := by decide +kernel
theorem dX16_init_49 : decode cX16_init 49 = .ok (.new 7, 3) := by decide +kernel
theorem dX16_init_52 : decode cX16_init 52 = .ok (.dup, 1) := by decide +kernel
theorem dX16_init_53 : decode cX16_init 53 = .ok (.invokespecial 9, 3) := by decide +kernel
theorem dX16_init_56 : decode cX16_init 56 = .ok (.putfield 25, 3) := by decide +kernel
theorem dX16_init_59 : decode cX16_init 59 = .ok (.aload_n 0, 1) := by decide +kernel
theorem dX16_init_60 : decode cX16_init 60 = .ok (.new 7, 3) := by decide +kernel
theorem dX16_init_63 : decode cX16_init 63 = .ok (.dup, 1) := by decide +kernel
theorem dX16_init_64 : decode cX16_init 64 = .ok (.invokespecial 9, 3) := by decide +kernel
theorem dX16_init_67 : decode cX16_init 67 = .ok (.putfield 28, 3) := by decide +kernel
theorem dX16_init_70 : decode cX16_init 70 = .ok (.aload_n 0, 1) := by decide +kernel
theorem dX16_init_71 : decode cX16_init 71 = .ok (.sipush 183, 3) := by decide +kernel
theorem dX16_init_74 : decode cX16_init 74 = .ok (.newarray .boolean, 2) := by decide +kernel
theorem dX16_init_76 : decode cX16_init 76 = .ok (.putfield 31, 3) := by decide +kernel
theorem dX16_init_79 : decode cX16_init 79 = .ok (.aload_n 0, 1) := by decide +kernel
theorem dX16_init_80 : decode cX16_init 80 = .ok (.sipush 1280, 3) := by decide +kernel
theorem dX16_init_83 : decode cX16_init 83 = .ok (.newarray .boolean, 2) := by decide +kernel
theorem dX16_init_85 : decode cX16_init 85 = .ok (.putfield 35, 3) := by decide +kernel
theorem dX16_init_88 : decode cX16_init 88 = .ok (.aload_n 0, 1) := by decide +kernel
theorem dX16_init_89 : decode cX16_init 89 = .ok (.sipush 1280, 3) := by decide +kernel
theorem dX16_init_92 : decode cX16_init 92 = .ok (.newarray .boolean, 2) := by decide +kernel
theorem dX16_init_94 : decode cX16_init 94 = .ok (.putfield 38, 3) := by decide +kernel
theorem dX16_init_97 : decode cX16_init 97 = .ok (.aload_n 0, 1) := by decide +kernel
theorem dX16_init_98 : decode cX16_init 98 = .ok (.sipush 1280, 3) := by decide +kernel
theorem dX16_init_101 : decode cX16_init 101 = .ok (.newarray .boolean, 2) := by decide +kernel
theorem dX16_init_103 : decode cX16_init 103 = .ok (.putfield 41, 3) := by decide +kernel
theorem dX16_init_106 : decode cX16_init 106 = .ok (.aload_n 0, 1) := by decide +kernel
theorem dX16_init_107 : decode cX16_init 107 = .ok (.sipush 1280, 3) := by decide +kernel
theorem dX16_init_110 : decode cX16_init 110 = .ok (.newarray .boolean, 2) := by decide +kernel
theorem dX16_init_112 : decode cX16_init 112 = .ok (.putfield 44, 3) := by decide +kernel
theorem dX16_init_115 : decode cX16_init 115 = .ok (.aload_n 0, 1) := by decide +kernel
theorem dX16_init_116 : decode cX16_init 116 = .ok (.sipush 1280, 3) := by decide +kernel
theorem dX16_init_119 : decode cX16_init 119 = .ok (.newarray .boolean, 2) := by decide +kernel
theorem dX16_init_121 : decode cX16_init 121 = .ok (.putfield 47, 3) := by decide +kernel
theorem dX16_init_124 : decode cX16_init 124 = .ok (.aload_n 0, 1) := by decide +kernel
theorem dX16_init_125 : decode cX16_init 125 = .ok (.sipush 183, 3) := by decide +kernel
theorem dX16_init_128 : decode cX16_init 128 = .ok (.newarray .int, 2) := by decide +kernel
theorem dX16_init_130 : decode cX16_init 130 = .ok (.putfield 50, 3) := by decide +kernel
theorem dX16_init_133 : decode cX16_init 133 = .ok (.aload_n 0, 1) := by decide +kernel
theorem dX16_init_134 : decode cX16_init 134 = .ok (.sipush 1280, 3) := by decide +kernel
theorem dX16_init_137 : decode cX16_init 137 = .ok (.newarray .int, 2) := by decide +kernel
theorem dX16_init_139 : decode cX16_init 139 = .ok (.putfield 54, 3) := by decide +kernel
theorem dX16_init_142 : decode cX16_init 142 = .ok (.aload_n 0, 1) := by decide +kernel
theorem dX16_init_143 : decode cX16_init 143 = .ok (.sipush 1280, 3) := by decide +kernel
theorem dX16_init_146 : decode cX16_init 146 = .ok (.newarray .int, 2) := by decide +kernel
theorem dX16_init_148 : decode cX16_init 148 = .ok (.putfield 57, 3) := by decide +kernel
theorem dX16_init_151 : decode cX16_init 151 = .ok (.aload_n 0, 1) := by decide +kernel
theorem dX16_init_152 : decode cX16_init 152 = .ok (.sipush 1280, 3) := by decide +kernel
theorem dX16_init_155 : decode cX16_init 155 = .ok (.newarray .int, 2) := by decide +kernel
theorem dX16_init_157 : decode cX16_init 157 = .ok (.putfield 60, 3) := by decide +kernel
theorem dX16_init_160 : decode cX16_init 160 = .ok (.aload_n 0, 1) := by decide +kernel
theorem dX16_init_161 : decode cX16_init 161 = .ok (.sipush 1280, 3) := by decide +kernel
theorem dX16_init_164 : decode cX16_init 164 = .ok (.newarray .int, 2) := by decide +kernel
theorem dX16_init_166 : decode cX16_init 166 = .ok (.putfield 63, 3) := by decide +kernel
theorem dX16_init_169 : decode cX16_init 169 = .ok (.aload_n 0, 1) := by decide +kernel
theorem dX16_init_170 : decode cX16_init 170 = .ok (.sipush 1280, 3) := by decide +kernel
theorem dX16_init_173 : decode cX16_init 173 = .ok (.newarray .int, 2) := by decide +kernel
theorem dX16_init_175 : decode cX16_init 175 = .ok (.putfield 66, 3) := by decide +kernel
theorem dX16_init_178 : decode cX16_init 178 = .ok (.aload_n 0, 1) := by decide +kernel
theorem dX16_init_179 : decode cX16_init 179 = .ok (.sipush 1280, 3) := by decide +kernel
theorem dX16_init_182 : decode cX16_init 182 = .ok (.newarray .int, 2) := by decide +kernel
theorem dX16_init_184 : decode cX16_init 184 = .ok (.putfield 69, 3) := by decide +kernel
theorem dX16_init_187 : decode cX16_init 187 = .ok (.aload_n 0, 1) := by decide +kernel
theorem dX16_init_188 : decode cX16_init 188 = .ok (.sipush 1280, 3) := by decide +kernel
theorem dX16_init_191 : decode cX16_init 191 = .ok (.newarray .char, 2) := by decide +kernel
theorem dX16_init_193 : decode cX16_init 193 = .ok (.putfield 72, 3) := by decide +kernel
theorem dX16_init_196 : decode cX16_init 196 = .ok (.aload_n 0, 1) := by decide +kernel
theorem dX16_init_197 : decode cX16_init 197 = .ok (.iconst 3, 1) := by decide +kernel
theorem dX16_init_198 : decode cX16_init 198 = .ok (.newarray .int, 2) := by decide +kernel
theorem dX16_init_200 : decode cX16_init 200 = .ok (.dup, 1) := by decide +kernel
theorem dX16_init_201 : decode cX16_init 201 = .ok (.iconst 0, 1) := by decide +kernel
theorem dX16_init_202 : decode cX16_init 202 = .ok (.bipush 50, 2) := by decide +kernel
theorem dX16_init_204 : decode cX16_init 204 = .ok (.iastore, 1) := by decide +kernel
theorem dX16_init_205 : decode cX16_init 205 = .ok (.dup, 1) := by decide +kernel
theorem dX16_init_206 : decode cX16_init 206 = .ok (.iconst 1, 1) := by decide +kernel
theorem dX16_init_207 : decode cX16_init 207 = .ok (.bipush 50, 2) := by decide +kernel
theorem dX16_init_209 : decode cX16_init 209 = .ok (.iastore, 1) := by decide +kernel
theorem dX16_init_210 : decode cX16_init 210 = .ok (.dup, 1) := by decide +kernel
theorem dX16_init_211 : decode cX16_init 211 = .ok (.iconst 2, 1) := by decide +kernel
theorem dX16_init_212 : decode cX16_init 212 = .ok (.bipush 50, 2) := by decide +kernel
theorem dX16_init_214 : decode cX16_init 214 = .ok (.iastore, 1) := by decide +kernel
theorem dX16_init_215 : decode cX16_init 215 = .ok (.putfield 76, 3) := by decide +kernel
theorem dX16_init_218 : decode cX16_init 218 = .ok (.aload_n 0, 1) := by decide +kernel
theorem dX16_init_219 : decode cX16_init 219 = .ok (.iconst 3, 1) := by decide +kernel
theorem dX16_init_220 : decode cX16_init 220 = .ok (.newarray .int, 2) := by decide +kernel
theorem dX16_init_222 : decode cX16_init 222 = .ok (.dup, 1) := by decide +kernel
theorem dX16_init_223 : decode cX16_init 223 = .ok (.iconst 0, 1) := by decide +kernel
theorem dX16_init_224 : decode cX16_init 224 = .ok (.bipush 10, 2) := by decide +kernel
theorem dX16_init_226 : decode cX16_init 226 = .ok (.iastore, 1) := by decide +kernel
theorem dX16_init_227 : decode cX16_init 227 = .ok (.dup, 1) := by decide +kernel
theorem dX16_init_228 : decode cX16_init 228 = .ok (.iconst 1, 1) := by decide +kernel
theorem dX16_init_229 : decode cX16_init 229 = .ok (.bipush 10, 2) := by decide +kernel
theorem dX16_init_231 : decode cX16_init 231 = .ok (.iastore, 1) := by decide +kernel
theorem dX16_init_232 : decode cX16_init 232 = .ok (.dup, 1) := by decide +kernel
theorem dX16_init_233 : decode cX16_init 233 = .ok (.iconst 2, 1) := by decide +kernel
theorem dX16_init_234 : decode cX16_init 234 = .ok (.bipush 10, 2) := by decide +kernel
theorem dX16_init_236 : decode cX16_init 236 = .ok (.iastore, 1) := by decide +kernel
theorem dX16_init_237 : decode cX16_init 237 = .ok (.putfield 79, 3) := by decide +kernel
theorem dX16_init_240 : decode cX16_init 240 = .ok (.aload_n 0, 1) := by decide +kernel
theorem dX16_init_241 : decode cX16_init 241 = .ok (.bipush 12, 2) := by decide +kernel
theorem dX16_init_243 : decode cX16_init 243 = .ok (.newarray .int, 2) := by decide +kernel
theorem dX16_init_245 : decode cX16_init 245 = .ok (.putfield 82, 3) := by decide +kernel
theorem dX16_init_248 : decode cX16_init 248 = .ok (.aload_n 0, 1) := by decide +kernel
theorem dX16_init_249 : decode cX16_init 249 = .ok (.iconst 3, 1) := by decide +kernel
theorem dX16_init_250 : decode cX16_init 250 = .ok (.newarray .int, 2) := by decide +kernel
theorem dX16_init_252 : decode cX16_init 252 = .ok (.putfield 85, 3) := by decide +kernel
theorem dX16_init_255 : decode cX16_init 255 = .ok (.aload_n 0, 1) := by decide +kernel
theorem dX16_init_256 : decode cX16_init 256 = .ok (.iconst 4, 1) := by decide +kernel
theorem dX16_init_257 : decode cX16_init 257 = .ok (.newarray .int, 2) := by decide +kernel
theorem dX16_init_259 : decode cX16_init 259 = .ok (.dup, 1) := by decide +kernel
theorem dX16_init_260 : decode cX16_init 260 = .ok (.iconst 0, 1) := by decide +kernel
theorem dX16_init_261 : decode cX16_init 261 = .ok (.iconst (-1), 1) := by decide +kernel
theorem dX16_init_262 : decode cX16_init 262 = .ok (.iastore, 1) := by decide +kernel
theorem dX16_init_263 : decode cX16_init 263 = .ok (.dup, 1) := by decide +kernel
theorem dX16_init_264 : decode cX16_init 264 = .ok (.iconst 1, 1) := by decide +kernel
theorem dX16_init_265 : decode cX16_init 265 = .ok (.iconst (-1), 1) := by decide +kernel
theorem dX16_init_266 : decode cX16_init 266 = .ok (.iastore, 1) := by decide +kernel
theorem dX16_init_267 : decode cX16_init 267 = .ok (.dup, 1) := by decide +kernel
theorem dX16_init_268 : decode cX16_init 268 = .ok (.iconst 2, 1) := by decide +kernel
theorem dX16_init_269 : decode cX16_init 269 = .ok (.iconst (-1), 1) := by decide +kernel
theorem dX16_init_270 : decode cX16_init 270 = .ok (.iastore, 1) := by decide +kernel
theorem dX16_init_271 : decode cX16_init 271 = .ok (.dup, 1) := by decide +kernel
theorem dX16_init_272 : decode cX16_init 272 = .ok (.iconst 3, 1) := by decide +kernel
theorem dX16_init_273 : decode cX16_init 273 = .ok (.iconst (-1), 1) := by decide +kernel
theorem dX16_init_274 : decode cX16_init 274 = .ok (.iastore, 1) := by decide +kernel
theorem dX16_init_275 : decode cX16_init 275 = .ok (.putfield 88, 3) := by decide +kernel
theorem dX16_init_278 : decode cX16_init 278 = .ok (.aload_n 0, 1) := by decide +kernel
theorem dX16_init_279 : decode cX16_init 279 = .ok (.bipush 16, 2) := by decide +kernel
theorem dX16_init_281 : decode cX16_init 281 = .ok (.newarray .int, 2) := by decide +kernel
theorem dX16_init_283 : decode cX16_init 283 = .ok (.putfield 91, 3) := by decide +kernel
theorem dX16_init_286 : decode cX16_init 286 = .ok (.aload_n 0, 1) := by decide +kernel
theorem dX16_init_287 : decode cX16_init 287 = .ok (.bipush 16, 2) := by decide +kernel
theorem dX16_init_289 : decode cX16_init 289 = .ok (.newarray .char, 2) := by decide +kernel
theorem dX16_init_291 : decode cX16_init 291 = .ok (.putfield 94, 3) := by decide +kernel
theorem dX16_init_294 : decode cX16_init 294 = .ok (.aload_n 0, 1) := by decide +kernel
theorem dX16_init_295 : decode cX16_init 295 = .ok (.bipush 16, 2) := by decide +kernel
theorem dX16_init_297 : decode cX16_init 297 = .ok (.newarray .int, 2) := by decide +kernel
theorem dX16_init_299 : decode cX16_init 299 = .ok (.putfield 97, 3) := by decide +kernel
theorem dX16_init_302 : decode cX16_init 302 = .ok (.aload_n 0, 1) := by decide +kernel
theorem dX16_init_303 : decode cX16_init 303 = .ok (.bipush 16, 2) := by decide +kernel
theorem dX16_init_305 : decode cX16_init 305 = .ok (.newarray .int, 2) := by decide +kernel
theorem dX16_init_307 : decode cX16_init 307 = .ok (.putfield 100, 3) := by decide +kernel
theorem dX16_init_310 : decode cX16_init 310 = .ok (.aload_n 0, 1) := by decide +kernel
theorem dX16_init_311 : decode cX16_init 311 = .ok (.iconst 4, 1) := by decide +kernel
theorem dX16_init_312 : decode cX16_init 312 = .ok (.newarray .int, 2) := by decide +kernel
theorem dX16_init_314 : decode cX16_init 314 = .ok (.putfield 103, 3) := by decide +kernel
theorem dX16_init_317 : decode cX16_init 317 = .ok (.aload_n 0, 1) := by decide +kernel
theorem dX16_init_318 : decode cX16_init 318 = .ok (.bipush 7, 2) := by decide +kernel
theorem dX16_init_320 : decode cX16_init 320 = .ok (.newarray .int, 2) := by decide +kernel
theorem dX16_init_322 : decode cX16_init 322 = .ok (.putfield 106, 3) := by decide +kernel
theorem dX16_init_325 : decode cX16_init 325 = .ok (.aload_n 0, 1) := by decide +kernel
theorem dX16_init_326 : decode cX16_init 326 = .ok (.iconst 3, 1) := by decide +kernel
theorem dX16_init_327 : decode cX16_init 327 = .ok (.newarray .int, 2) := by decide +kernel
theorem dX16_init_329 : decode cX16_init 329 = .ok (.putfield 109, 3) := by decide +kernel
theorem dX16_init_332 : decode cX16_init 332 = .ok (.aload_n 0, 1) := by decide +kernel
theorem dX16_init_333 : decode cX16_init 333 = .ok (.bipush 16, 2) := by decide +kernel
theorem dX16_init_335 : decode cX16_init 335 = .ok (.newarray .boolean, 2) := by decide +kernel
theorem dX16_init_337 : decode cX16_init 337 = .ok (.putfield 112, 3) := by decide +kernel
theorem dX16_init_340 : decode cX16_init 340 = .ok (.aload_n 0, 1) := by decide +kernel
theorem dX16_init_341 : decode cX16_init 341 = .ok (.bipush 45, 2) := by decide +kernel
theorem dX16_init_343 : decode cX16_init 343 = .ok (.putfield 115, 3) := by decide +kernel
theorem dX16_init_346 : decode cX16_init 346 = .ok (.aload_n 0, 1) := by decide +kernel
theorem dX16_init_347 : decode cX16_init 347 = .ok (.bipush 45, 2) := by decide +kernel
theorem dX16_init_349 : decode cX16_init 349 = .ok (.putfield 119, 3) := by decide +kernel
theorem dX16_init_352 : decode cX16_init 352 = .ok (.aload_n 0, 1) := by decide +kernel
theorem dX16_init_353 : decode cX16_init 353 = .ok (.iconst 1, 1) := by decide +kernel
theorem dX16_init_354 : decode cX16_init 354 = .ok (.putfield 122, 3) := by decide +kernel
theorem dX16_init_357 : decode cX16_init 357 = .ok (.iconst 0, 1) := by decide +kernel
theorem dX16_init_358 : decode cX16_init 358 = .ok (.istore_n 1, 1) := by decide +kernel
theorem dX16_init_359 : decode cX16_init 359 = .ok (.iload_n 1, 1) := by decide +kernel
theorem dX16_init_360 : decode cX16_init 360 = .ok (.iconst 3, 1) := by decide +kernel
theorem dX16_init_361 : decode cX16_init 361 = .ok (.if_icmp .ge 31, 3) := by decide +kernel
theorem dX16_init_364 : decode cX16_init 364 = .ok (.aload_n 0, 1) := by decide +kernel
theorem dX16_init_365 : decode cX16_init 365 = .ok (.getfield 16, 3) := by decide +kernel
theorem dX16_init_368 : decode cX16_init 368 = .ok (.new 126, 3) := by decide +kernel
theorem dX16_init_371 : decode cX16_init 371 = .ok (.dup, 1) := by decide +kernel
theorem dX16_init_372 : decode cX16_init 372 = .ok (.bipush 117, 2) := by decide +kernel
theorem dX16_init_374 : decode cX16_init 374 = .ok (.iload_n 1, 1) := by decide +kernel
theorem dX16_init_375 : decode cX16_init 375 = .ok (.iload_n 1, 1) := by decide +kernel
theorem dX16_init_376 : decode cX16_init 376 = .ok (.iconst 0, 1) := by decide +kernel
theorem dX16_init_377 : decode cX16_init 377 = .ok (.bipush 45, 2) := by decide +kernel
theorem dX16_init_379 : decode cX16_init 379 = .ok (.invokespecial 128, 3) := by decide +kernel
theorem dX16_init_382 : decode cX16_init 382 = .ok (.invokevirtual 131, 3) := by decide +kernel
theorem dX16_init_385 : decode cX16_init 385 = .ok (.pop, 1) := by decide +kernel
theorem dX16_init_386 : decode cX16_init 386 = .ok (.iinc 1 1, 3) := by decide +kernel
theorem dX16_init_389 : decode cX16_init 389 = .ok (.goto (-30), 3) := by decide +kernel
theorem dX16_init_392 : decode cX16_init 392 = .ok (.iconst 0, 1) := by decide +kernel
theorem dX16_init_393 : decode cX16_init 393 = .ok (.istore_n 1, 1) := by decide +kernel
theorem dX16_init_394 : decode cX16_init 394 = .ok (.iload_n 1, 1) := by decide +kernel
theorem dX16_init_395 : decode cX16_init 395 = .ok (.iconst 4, 1) := by decide +kernel
theorem dX16_init_396 : decode cX16_init 396 = .ok (.if_icmp .ge 24, 3) := by decide +kernel
theorem dX16_init_399 : decode cX16_init 399 = .ok (.aload_n 0, 1) := by decide +kernel
theorem dX16_init_400 : decode cX16_init 400 = .ok (.getfield 22, 3) := by decide +kernel
theorem dX16_init_403 : decode cX16_init 403 = .ok (.new 7, 3) := by decide +kernel
theorem dX16_init_406 : decode cX16_init 406 = .ok (.dup, 1) := by decide +kernel
theorem dX16_init_407 : decode cX16_init 407 = .ok (.invokespecial 9, 3) := by decide +kernel
theorem dX16_init_410 : decode cX16_init 410 = .ok (.invokevirtual 131, 3) := by decide +kernel
theorem dX16_init_413 : decode cX16_init 413 = .ok (.pop, 1) := by decide +kernel
theorem dX16_init_414 : decode cX16_init 414 = .ok (.iinc 1 1, 3) := by decide +kernel
theorem dX16_init_417 : decode cX16_init 417 = .ok (.goto (-23), 3) := by decide +kernel
theorem dX16_init_420 : decode cX16_init 420 = .ok (.iconst 0, 1) := by decide +kernel
theorem dX16_init_421 : decode cX16_init 421 = .ok (.istore_n 1, 1) := by decide +kernel
theorem dX16_init_422 : decode cX16_init 422 = .ok (.iload_n 1, 1) := by decide +kernel
theorem dX16_init_423 : decode cX16_init 423 = .ok (.bipush 32, 2) := by decide +kernel
theorem dX16_init_425 : decode cX16_init 425 = .ok (.if_icmp .ge 24, 3) := by decide +kernel
theorem dX16_init_428 : decode cX16_init 428 = .ok (.aload_n 0, 1) := by decide +kernel
theorem dX16_init_429 : decode cX16_init 429 = .ok (.getfield 25, 3) := by decide +kernel
theorem dX16_init_432 : decode cX16_init 432 = .ok (.new 135, 3) := by decide +kernel
theorem dX16_init_435 : decode cX16_init 435 = .ok (.dup, 1) := by decide +kernel
theorem dX16_init_436 : decode cX16_init 436 = .ok (.invokespecial 137, 3) := by decide +kernel
theorem dX16_init_439 : decode cX16_init 439 = .ok (.invokevirtual 131, 3) := by decide +kernel
theorem dX16_init_442 : decode cX16_init 442 = .ok (.pop, 1) := by decide +kernel
theorem dX16_init_443 : decode cX16_init 443 = .ok (.iinc 1 1, 3) := by decide +kernel
theorem dX16_init_446 : decode cX16_init 446 = .ok (.goto (-24), 3) := by decide +kernel
theorem dX16_init_449 : decode cX16_init 449 = .ok (.iconst 0, 1) := by decide +kernel
theorem dX16_init_450 : decode cX16_init 450 = .ok (.istore_n 1, 1) := by decide +kernel
theorem dX16_init_451 : decode cX16_init 451 = .ok (.iload_n 1, 1) := by decide +kernel
theorem dX16_init_452 : decode cX16_init 452 = .ok (.bipush 48, 2) := by decide +kernel
theorem dX16_init_454 : decode cX16_init 454 = .ok (.if_icmp .ge 24, 3) := by decide +kernel
theorem dX16_init_457 : decode cX16_init 457 = .ok (.aload_n 0, 1) := by decide +kernel
theorem dX16_init_458 : decode cX16_init 458 = .ok (.getfield 28, 3) := by decide +kernel
theorem dX16_init_461 : decode cX16_init 461 = .ok (.new 135, 3) := by decide +kernel
theorem dX16_init_464 : decode cX16_init 464 = .ok (.dup, 1) := by decide +kernel
theorem dX16_init_465 : decode cX16_init 465 = .ok (.invokespecial 137, 3) := by decide +kernel
theorem dX16_init_468 : decode cX16_init 468 = .ok (.invokevirtual 131, 3) := by decide +kernel
theorem dX16_init_471 : decode cX16_init 471 = .ok (.pop, 1) := by decide +kernel
theorem dX16_init_472 : decode cX16_init 472 = .ok (.iinc 1 1, 3) := by decide +kernel
theorem dX16_init_475 : decode cX16_init 475 = .ok (.goto (-24), 3) := by decide +kernel
theorem dX16_init_478 : decode cX16_init 478 = .ok (.iconst 0, 1) := by decide +kernel
theorem dX16_init_479 : decode cX16_init 479 = .ok (.istore_n 1, 1) := by decide +kernel
theorem dX16_init_480 : decode cX16_init 480 = .ok (.iload_n 1, 1) := by decide +kernel
theorem dX16_init_481 : decode cX16_init 481 = .ok (.bipush 16, 2) := by decide +kernel
theorem dX16_init_483 : decode cX16_init 483 = .ok (.if_icmp .ge 24, 3) := by decide +kernel
theorem dX16_init_486 : decode cX16_init 486 = .ok (.aload_n 0, 1) := by decide +kernel
theorem dX16_init_487 : decode cX16_init 487 = .ok (.getfield 91, 3) := by decide +kernel
theorem dX16_init_490 : decode cX16_init 490 = .ok (.iload_n 1, 1) := by decide +kernel
theorem dX16_init_491 : decode cX16_init 491 = .ok (.iconst (-1), 1) := by decide +kernel
theorem dX16_init_492 : decode cX16_init 492 = .ok (.iastore, 1) := by decide +kernel
theorem dX16_init_493 : decode cX16_init 493 = .ok (.aload_n 0, 1) := by decide +kernel
theorem dX16_init_494 : decode cX16_init 494 = .ok (.getfield 94, 3) := by decide +kernel
theorem dX16_init_497 : decode cX16_init 497 = .ok (.iload_n 1, 1) := by decide +kernel
theorem dX16_init_498 : decode cX16_init 498 = .ok (.bipush 45, 2) := by decide +kernel
theorem dX16_init_500 : decode cX16_init 500 = .ok (.castore, 1) := by decide +kernel
theorem dX16_init_501 : decode cX16_init 501 = .ok (.iinc 1 1, 3) := by decide +kernel
theorem dX16_init_504 : decode cX16_init 504 = .ok (.goto (-24), 3) := by decide +kernel
theorem dX16_init_507 : decode cX16_init 507 = .ok (.iconst 0, 1) := by decide +kernel
theorem dX16_init_508 : decode cX16_init 508 = .ok (.istore_n 1, 1) := by decide +kernel
theorem dX16_init_509 : decode cX16_init 509 = .ok (.iload_n 1, 1) := by decide +kernel
theorem dX16_init_510 : decode cX16_init 510 = .ok (.sipush 1280, 3) := by decide +kernel
theorem dX16_init_513 : decode cX16_init 513 = .ok (.if_icmp .ge 25, 3) := by decide +kernel
theorem dX16_init_516 : decode cX16_init 516 = .ok (.aload_n 0, 1) := by decide +kernel
theorem dX16_init_517 : decode cX16_init 517 = .ok (.getfield 72, 3) := by decide +kernel
theorem dX16_init_520 : decode cX16_init 520 = .ok (.iload_n 1, 1) := by decide +kernel
theorem dX16_init_521 : decode cX16_init 521 = .ok (.bipush 45, 2) := by decide +kernel
theorem dX16_init_523 : decode cX16_init 523 = .ok (.castore, 1) := by decide +kernel
theorem dX16_init_524 : decode cX16_init 524 = .ok (.aload_n 0, 1) := by decide +kernel
theorem dX16_init_525 : decode cX16_init 525 = .ok (.getfield 60, 3) := by decide +kernel
theorem dX16_init_528 : decode cX16_init 528 = .ok (.iload_n 1, 1) := by decide +kernel
theorem dX16_init_529 : decode cX16_init 529 = .ok (.ldc 138, 2) := by decide +kernel
theorem dX16_init_531 : decode cX16_init 531 = .ok (.iastore, 1) := by decide +kernel
theorem dX16_init_532 : decode cX16_init 532 = .ok (.iinc 1 1, 3) := by decide +kernel
theorem dX16_init_535 : decode cX16_init 535 = .ok (.goto (-26), 3) := by decide +kernel
theorem dX16_init_538 : decode cX16_init 538 = .ok (.return_, 1) := by decide +kernel
theorem dX16_thrown_0 : decode cX16_thrown 0 = .ok (.aload_n 0, 1) := by decide +kernel
theorem dX16_thrown_1 : decode cX16_thrown 1 = .ok (.getfield 139, 3) := by decide +kernel
theorem dX16_thrown_4 : decode cX16_thrown 4 = .ok (.ireturn, 1) := by decide +kernel
theorem dX16_fails_0 : decode cX16_fails 0 = .ok (.aload_n 0, 1) := by decide +kernel
theorem dX16_fails_1 : decode cX16_fails 1 = .ok (.iload_n 1, 1) := by decide +kernel
theorem dX16_fails_2 : decode cX16_fails 2 = .ok (.putfield 139, 3) := by decide +kernel
theorem dX16_fails_5 : decode cX16_fails 5 = .ok (.iconst 0, 1) := by decide +kernel
theorem dX16_fails_6 : decode cX16_fails 6 = .ok (.ireturn, 1) := by decide +kernel
theorem dX16_answer_0 : decode cX16_answer 0 = .ok (.aload_n 0, 1) := by decide +kernel
theorem dX16_answer_1 : decode cX16_answer 1 = .ok (.iconst 0, 1) := by decide +kernel
theorem dX16_answer_2 : decode cX16_answer 2 = .ok (.putfield 139, 3) := by decide +kernel
theorem dX16_answer_5 : decode cX16_answer 5 = .ok (.iload_n 1, 1) := by decide +kernel
theorem dX16_answer_6 : decode cX16_answer 6 = .ok (.ireturn, 1) := by decide +kernel
theorem dX16_refuses_0 : decode cX16_refuses 0 = .ok (.aload_n 0, 1) := by decide +kernel
theorem dX16_refuses_1 : decode cX16_refuses 1 = .ok (.iload_n 1, 1) := by decide +kernel
theorem dX16_refuses_2 : decode cX16_refuses 2 = .ok (.putfield 139, 3) := by decide +kernel
theorem dX16_refuses_5 : decode cX16_refuses 5 = .ok (.iconst 0, 1) := by decide +kernel
theorem dX16_refuses_6 : decode cX16_refuses 6 = .ok (.ireturn, 1) := by decide +kernel
theorem dX16_says_0 : decode cX16_says 0 = .ok (.aload_n 0, 1) := by decide +kernel
theorem dX16_says_1 : decode cX16_says 1 = .ok (.iconst 0, 1) := by decide +kernel
theorem dX16_says_2 : decode cX16_says 2 = .ok (.putfield 139, 3) := by decide +kernel
theorem dX16_says_5 : decode cX16_says 5 = .ok (.iload_n 1, 1) := by decide +kernel
theorem dX16_says_6 : decode cX16_says 6 = .ok (.ireturn, 1) := by decide +kernel
theorem dX16_in_0 : decode cX16_in 0 = .ok (.iload_n 0, 1) := by decide +kernel
theorem dX16_in_1 : decode cX16_in 1 = .ok (.iload_n 1, 1) := by decide +kernel
theorem dX16_in_2 : decode cX16_in 2 = .ok (.if_icmp .lt 12, 3) := by decide +kernel
theorem dX16_in_5 : decode cX16_in 5 = .ok (.iload_n 0, 1) := by decide +kernel
theorem dX16_in_6 : decode cX16_in 6 = .ok (.iload_n 2, 1) := by decide +kernel
theorem dX16_in_7 : decode cX16_in 7 = .ok (.if_icmp .gt 7, 3) := by decide +kernel
theorem dX16_in_10 : decode cX16_in 10 = .ok (.iconst 1, 1) := by decide +kernel
theorem dX16_in_11 : decode cX16_in 11 = .ok (.goto 4, 3) := by decide +kernel
theorem dX16_in_14 : decode cX16_in 14 = .ok (.iconst 0, 1) := by decide +kernel
theorem dX16_in_15 : decode cX16_in 15 = .ok (.ireturn, 1) := by decide +kernel
theorem dX16_isDivision_0 : decode cX16_isDivision 0 = .ok (.iload_n 0, 1) := by decide +kernel
theorem dX16_isDivision_1 : decode cX16_isDivision 1 = .ok (.iconst 0, 1) := by decide +kernel
theorem dX16_isDivision_2 : decode cX16_isDivision 2 = .ok (.iconst 2, 1) := by decide +kernel
theorem dX16_isDivision_3 : decode cX16_isDivision 3 = .ok (.invokestatic 143, 3) := by decide +kernel
theorem dX16_isDivision_6 : decode cX16_isDivision 6 = .ok (.ireturn, 1) := by decide +kernel
theorem dX16_keys_0 : decode cX16_keys 0 = .ok (.iload_n 0, 1) := by decide +kernel
theorem dX16_keys_1 : decode cX16_keys 1 = .ok (.ifCond .ne 8, 3) := by decide +kernel
theorem dX16_keys_4 : decode cX16_keys 4 = .ok (.bipush 32, 2) := by decide +kernel
theorem dX16_keys_6 : decode cX16_keys 6 = .ok (.goto 5, 3) := by decide +kernel
theorem dX16_keys_9 : decode cX16_keys 9 = .ok (.bipush 61, 2) := by decide +kernel
theorem dX16_keys_11 : decode cX16_keys 11 = .ok (.ireturn, 1) := by decide +kernel
theorem dX16_isKey_0 : decode cX16_isKey 0 = .ok (.iload_n 0, 1) := by decide +kernel
theorem dX16_isKey_1 : decode cX16_isKey 1 = .ok (.invokestatic 147, 3) := by decide +kernel
theorem dX16_isKey_4 : decode cX16_isKey 4 = .ok (.ifCond .eq 21, 3) := by decide +kernel
theorem dX16_isKey_7 : decode cX16_isKey 7 = .ok (.iload_n 1, 1) := by decide +kernel
theorem dX16_isKey_8 : decode cX16_isKey 8 = .ok (.iconst 0, 1) := by decide +kernel
theorem dX16_isKey_9 : decode cX16_isKey 9 = .ok (.iload_n 0, 1) := by decide +kernel
theorem dX16_isKey_10 : decode cX16_isKey 10 = .ok (.invokestatic 151, 3) := by decide +kernel
theorem dX16_isKey_13 : decode cX16_isKey 13 = .ok (.iconst 1, 1) := by decide +kernel
theorem dX16_isKey_14 : decode cX16_isKey 14 = .ok (.isub, 1) := by decide +kernel
theorem dX16_isKey_15 : decode cX16_isKey 15 = .ok (.invokestatic 143, 3) := by decide +kernel
theorem dX16_isKey_18 : decode cX16_isKey 18 = .ok (.ifCond .eq 7, 3) := by decide +kernel
theorem dX16_isKey_21 : decode cX16_isKey 21 = .ok (.iconst 1, 1) := by decide +kernel
theorem dX16_isKey_22 : decode cX16_isKey 22 = .ok (.goto 4, 3) := by decide +kernel
theorem dX16_isKey_25 : decode cX16_isKey 25 = .ok (.iconst 0, 1) := by decide +kernel
theorem dX16_isKey_26 : decode cX16_isKey 26 = .ok (.ireturn, 1) := by decide +kernel
theorem dX16_spot_0 : decode cX16_spot 0 = .ok (.bipush 61, 2) := by decide +kernel
theorem dX16_spot_2 : decode cX16_spot 2 = .ok (.iload_n 0, 1) := by decide +kernel
theorem dX16_spot_3 : decode cX16_spot 3 = .ok (.imul, 1) := by decide +kernel
theorem dX16_spot_4 : decode cX16_spot 4 = .ok (.iload_n 1, 1) := by decide +kernel
theorem dX16_spot_5 : decode cX16_spot 5 = .ok (.iadd, 1) := by decide +kernel
theorem dX16_spot_6 : decode cX16_spot 6 = .ok (.ireturn, 1) := by decide +kernel
theorem dX16_isRank_0 : decode cX16_isRank 0 = .ok (.iload_n 1, 1) := by decide +kernel
theorem dX16_isRank_1 : decode cX16_isRank 1 = .ok (.iconst 0, 1) := by decide +kernel
theorem dX16_isRank_2 : decode cX16_isRank 2 = .ok (.aload_n 0, 1) := by decide +kernel
theorem dX16_isRank_3 : decode cX16_isRank 3 = .ok (.getfield 10, 3) := by decide +kernel
theorem dX16_isRank_6 : decode cX16_isRank 6 = .ok (.invokevirtual 155, 3) := by decide +kernel
theorem dX16_isRank_9 : decode cX16_isRank 9 = .ok (.iconst 1, 1) := by decide +kernel
theorem dX16_isRank_10 : decode cX16_isRank 10 = .ok (.isub, 1) := by decide +kernel
theorem dX16_isRank_11 : decode cX16_isRank 11 = .ok (.invokestatic 143, 3) := by decide +kernel
theorem dX16_isRank_14 : decode cX16_isRank 14 = .ok (.ireturn, 1) := by decide +kernel
theorem dX16_isPipe_0 : decode cX16_isPipe 0 = .ok (.aload_n 0, 1) := by decide +kernel
theorem dX16_isPipe_1 : decode cX16_isPipe 1 = .ok (.iload_n 1, 1) := by decide +kernel
theorem dX16_isPipe_2 : decode cX16_isPipe 2 = .ok (.invokevirtual 159, 3) := by decide +kernel
theorem dX16_isPipe_5 : decode cX16_isPipe 5 = .ok (.ifCond .eq 42, 3) := by decide +kernel
theorem dX16_isPipe_8 : decode cX16_isPipe 8 = .ok (.iload_n 2, 1) := by decide +kernel
theorem dX16_isPipe_9 : decode cX16_isPipe 9 = .ok (.aload_n 0, 1) := by decide +kernel
theorem dX16_isPipe_10 : decode cX16_isPipe 10 = .ok (.getfield 10, 3) := by decide +kernel
theorem dX16_isPipe_13 : decode cX16_isPipe 13 = .ok (.iload_n 1, 1) := by decide +kernel
theorem dX16_isPipe_14 : decode cX16_isPipe 14 = .ok (.invokevirtual 162, 3) := by decide +kernel
theorem dX16_isPipe_17 : decode cX16_isPipe 17 = .ok (.checkcast 166, 3) := by decide +kernel
theorem dX16_isPipe_20 : decode cX16_isPipe 20 = .ok (.getfield 168, 3) := by decide +kernel
theorem dX16_isPipe_23 : decode cX16_isPipe 23 = .ok (.aload_n 0, 1) := by decide +kernel
theorem dX16_isPipe_24 : decode cX16_isPipe 24 = .ok (.getfield 10, 3) := by decide +kernel
theorem dX16_isPipe_27 : decode cX16_isPipe 27 = .ok (.iload_n 1, 1) := by decide +kernel
theorem dX16_isPipe_28 : decode cX16_isPipe 28 = .ok (.invokevirtual 162, 3) := by decide +kernel
theorem dX16_isPipe_31 : decode cX16_isPipe 31 = .ok (.checkcast 166, 3) := by decide +kernel
theorem dX16_isPipe_34 : decode cX16_isPipe 34 = .ok (.getfield 171, 3) := by decide +kernel
theorem dX16_isPipe_37 : decode cX16_isPipe 37 = .ok (.invokestatic 143, 3) := by decide +kernel
theorem dX16_isPipe_40 : decode cX16_isPipe 40 = .ok (.ifCond .eq 7, 3) := by decide +kernel
theorem dX16_isPipe_43 : decode cX16_isPipe 43 = .ok (.iconst 1, 1) := by decide +kernel
theorem dX16_isPipe_44 : decode cX16_isPipe 44 = .ok (.goto 4, 3) := by decide +kernel
theorem dX16_isPipe_47 : decode cX16_isPipe 47 = .ok (.iconst 0, 1) := by decide +kernel
theorem dX16_isPipe_48 : decode cX16_isPipe 48 = .ok (.ireturn, 1) := by decide +kernel
theorem dX16_pipe_0 : decode cX16_pipe 0 = .ok (.aload_n 0, 1) := by decide +kernel
theorem dX16_pipe_1 : decode cX16_pipe 1 = .ok (.getfield 10, 3) := by decide +kernel
theorem dX16_pipe_4 : decode cX16_pipe 4 = .ok (.iload_n 1, 1) := by decide +kernel
theorem dX16_pipe_5 : decode cX16_pipe 5 = .ok (.invokevirtual 162, 3) := by decide +kernel
theorem dX16_pipe_8 : decode cX16_pipe 8 = .ok (.checkcast 166, 3) := by decide +kernel
theorem dX16_pipe_11 : decode cX16_pipe 11 = .ok (.getfield 174, 3) := by decide +kernel
theorem dX16_pipe_14 : decode cX16_pipe 14 = .ok (.iload_n 2, 1) := by decide +kernel
theorem dX16_pipe_15 : decode cX16_pipe 15 = .ok (.iadd, 1) := by decide +kernel
theorem dX16_pipe_16 : decode cX16_pipe 16 = .ok (.aload_n 0, 1) := by decide +kernel
theorem dX16_pipe_17 : decode cX16_pipe 17 = .ok (.getfield 10, 3) := by decide +kernel
theorem dX16_pipe_20 : decode cX16_pipe 20 = .ok (.iload_n 1, 1) := by decide +kernel
theorem dX16_pipe_21 : decode cX16_pipe 21 = .ok (.invokevirtual 162, 3) := by decide +kernel
theorem dX16_pipe_24 : decode cX16_pipe 24 = .ok (.checkcast 166, 3) := by decide +kernel
theorem dX16_pipe_27 : decode cX16_pipe 27 = .ok (.getfield 168, 3) := by decide +kernel
theorem dX16_pipe_30 : decode cX16_pipe 30 = .ok (.isub, 1) := by decide +kernel
theorem dX16_pipe_31 : decode cX16_pipe 31 = .ok (.ireturn, 1) := by decide +kernel
theorem dX16_isKnob_0 : decode cX16_isKnob 0 = .ok (.iload_n 1, 1) := by decide +kernel
theorem dX16_isKnob_1 : decode cX16_isKnob 1 = .ok (.iconst 0, 1) := by decide +kernel
theorem dX16_isKnob_2 : decode cX16_isKnob 2 = .ok (.aload_n 0, 1) := by decide +kernel
theorem dX16_isKnob_3 : decode cX16_isKnob 3 = .ok (.getfield 16, 3) := by decide +kernel
theorem dX16_isKnob_6 : decode cX16_isKnob 6 = .ok (.invokevirtual 155, 3) := by decide +kernel
theorem dX16_isKnob_9 : decode cX16_isKnob 9 = .ok (.iconst 1, 1) := by decide +kernel
theorem dX16_isKnob_10 : decode cX16_isKnob 10 = .ok (.isub, 1) := by decide +kernel
theorem dX16_isKnob_11 : decode cX16_isKnob 11 = .ok (.invokestatic 143, 3) := by decide +kernel
theorem dX16_isKnob_14 : decode cX16_isKnob 14 = .ok (.ireturn, 1) := by decide +kernel
theorem dX16_isStop_0 : decode cX16_isStop 0 = .ok (.aload_n 0, 1) := by decide +kernel
theorem dX16_isStop_1 : decode cX16_isStop 1 = .ok (.getfield 16, 3) := by decide +kernel
theorem dX16_isStop_4 : decode cX16_isStop 4 = .ok (.iload_n 1, 1) := by decide +kernel
theorem dX16_isStop_5 : decode cX16_isStop 5 = .ok (.invokevirtual 162, 3) := by decide +kernel
theorem dX16_isStop_8 : decode cX16_isStop 8 = .ok (.checkcast 126, 3) := by decide +kernel
theorem dX16_isStop_11 : decode cX16_isStop 11 = .ok (.getfield 177, 3) := by decide +kernel
theorem dX16_isStop_14 : decode cX16_isStop 14 = .ok (.bipush 115, 2) := by decide +kernel
theorem dX16_isStop_16 : decode cX16_isStop 16 = .ok (.if_icmp .ne 7, 3) := by decide +kernel
theorem dX16_isStop_19 : decode cX16_isStop 19 = .ok (.iconst 1, 1) := by decide +kernel
theorem dX16_isStop_20 : decode cX16_isStop 20 = .ok (.goto 4, 3) := by decide +kernel
theorem dX16_isStop_23 : decode cX16_isStop 23 = .ok (.iconst 0, 1) := by decide +kernel
theorem dX16_isStop_24 : decode cX16_isStop 24 = .ok (.ireturn, 1) := by decide +kernel
theorem dX16_source_0 : decode cX16_source 0 = .ok (.iload_n 1, 1) := by decide +kernel
theorem dX16_source_1 : decode cX16_source 1 = .ok (.bipush 100, 2) := by decide +kernel
theorem dX16_source_3 : decode cX16_source 3 = .ok (.if_icmp .ge 34, 3) := by decide +kernel
theorem dX16_source_6 : decode cX16_source 6 = .ok (.aload_n 0, 1) := by decide +kernel
theorem dX16_source_7 : decode cX16_source 7 = .ok (.iload_n 1, 1) := by decide +kernel
theorem dX16_source_8 : decode cX16_source 8 = .ok (.invokevirtual 180, 3) := by decide +kernel
theorem dX16_source_11 : decode cX16_source 11 = .ok (.ifCond .eq 24, 3) := by decide +kernel
theorem dX16_source_14 : decode cX16_source 14 = .ok (.aload_n 0, 1) := by decide +kernel
theorem dX16_source_15 : decode cX16_source 15 = .ok (.getfield 16, 3) := by decide +kernel
theorem dX16_source_18 : decode cX16_source 18 = .ok (.iload_n 1, 1) := by decide +kernel
theorem dX16_source_19 : decode cX16_source 19 = .ok (.invokevirtual 162, 3) := by decide +kernel
theorem dX16_source_22 : decode cX16_source 22 = .ok (.checkcast 126, 3) := by decide +kernel
theorem dX16_source_25 : decode cX16_source 25 = .ok (.getfield 183, 3) := by decide +kernel
theorem dX16_source_28 : decode cX16_source 28 = .ok (.ifCond .eq 7, 3) := by decide +kernel
theorem dX16_source_31 : decode cX16_source 31 = .ok (.iconst 1, 1) := by decide +kernel
theorem dX16_source_32 : decode cX16_source 32 = .ok (.goto 4, 3) := by decide +kernel
theorem dX16_source_35 : decode cX16_source 35 = .ok (.iconst 0, 1) := by decide +kernel
theorem dX16_source_36 : decode cX16_source 36 = .ok (.ireturn, 1) := by decide +kernel
theorem dX16_source_37 : decode cX16_source 37 = .ok (.iload_n 1, 1) := by decide +kernel
theorem dX16_source_38 : decode cX16_source 38 = .ok (.sipush 400, 3) := by decide +kernel
theorem dX16_source_41 : decode cX16_source 41 = .ok (.if_icmp .ge 22, 3) := by decide +kernel
theorem dX16_source_44 : decode cX16_source 44 = .ok (.aload_n 0, 1) := by decide +kernel
theorem dX16_source_45 : decode cX16_source 45 = .ok (.getfield 31, 3) := by decide +kernel
theorem dX16_source_48 : decode cX16_source 48 = .ok (.iload_n 1, 1) := by decide +kernel
theorem dX16_source_49 : decode cX16_source 49 = .ok (.bipush 100, 2) := by decide +kernel
theorem dX16_source_51 : decode cX16_source 51 = .ok (.idiv, 1) := by decide +kernel
theorem dX16_source_52 : decode cX16_source 52 = .ok (.iconst 1, 1) := by decide +kernel
theorem dX16_source_53 : decode cX16_source 53 = .ok (.isub, 1) := by decide +kernel
theorem dX16_source_54 : decode cX16_source 54 = .ok (.iload_n 1, 1) := by decide +kernel
theorem dX16_source_55 : decode cX16_source 55 = .ok (.bipush 100, 2) := by decide +kernel
theorem dX16_source_57 : decode cX16_source 57 = .ok (.irem, 1) := by decide +kernel
theorem dX16_source_58 : decode cX16_source 58 = .ok (.invokestatic 186, 3) := by decide +kernel
theorem dX16_source_61 : decode cX16_source 61 = .ok (.baload, 1) := by decide +kernel
theorem dX16_source_62 : decode cX16_source 62 = .ok (.ireturn, 1) := by decide +kernel
theorem dX16_source_63 : decode cX16_source 63 = .ok (.aload_n 0, 1) := by decide +kernel
theorem dX16_source_64 : decode cX16_source 64 = .ok (.getfield 112, 3) := by decide +kernel
theorem dX16_source_67 : decode cX16_source 67 = .ok (.iload_n 1, 1) := by decide +kernel
theorem dX16_source_68 : decode cX16_source 68 = .ok (.sipush 400, 3) := by decide +kernel
theorem dX16_source_71 : decode cX16_source 71 = .ok (.isub, 1) := by decide +kernel
theorem dX16_source_72 : decode cX16_source 72 = .ok (.baload, 1) := by decide +kernel
theorem dX16_source_73 : decode cX16_source 73 = .ok (.ireturn, 1) := by decide +kernel
theorem dX16_relays_0 : decode cX16_relays 0 = .ok (.iconst 0, 1) := by decide +kernel
theorem dX16_relays_1 : decode cX16_relays 1 = .ok (.istore_n 1, 1) := by decide +kernel
theorem dX16_relays_2 : decode cX16_relays 2 = .ok (.iload_n 1, 1) := by decide +kernel
theorem dX16_relays_3 : decode cX16_relays 3 = .ok (.bipush 16, 2) := by decide +kernel
theorem dX16_relays_5 : decode cX16_relays 5 = .ok (.if_icmp .ge 157, 3) := by decide +kernel
theorem dX16_relays_8 : decode cX16_relays 8 = .ok (.aload_n 0, 1) := by decide +kernel
theorem dX16_relays_9 : decode cX16_relays 9 = .ok (.getfield 94, 3) := by decide +kernel
theorem dX16_relays_12 : decode cX16_relays 12 = .ok (.iload_n 1, 1) := by decide +kernel
theorem dX16_relays_13 : decode cX16_relays 13 = .ok (.caload, 1) := by decide +kernel
theorem dX16_relays_14 : decode cX16_relays 14 = .ok (.bipush 45, 2) := by decide +kernel
theorem dX16_relays_16 : decode cX16_relays 16 = .ok (.if_icmp .ne 6, 3) := by decide +kernel
theorem dX16_relays_19 : decode cX16_relays 19 = .ok (.goto 137, 3) := by decide +kernel
theorem dX16_relays_22 : decode cX16_relays 22 = .ok (.aload_n 0, 1) := by decide +kernel
theorem dX16_relays_23 : decode cX16_relays 23 = .ok (.aload_n 0, 1) := by decide +kernel
theorem dX16_relays_24 : decode cX16_relays 24 = .ok (.getfield 97, 3) := by decide +kernel
theorem dX16_relays_27 : decode cX16_relays 27 = .ok (.iload_n 1, 1) := by decide +kernel
theorem dX16_relays_28 : decode cX16_relays 28 = .ok (.iaload, 1) := by decide +kernel
theorem dX16_relays_29 : decode cX16_relays 29 = .ok (.invokevirtual 190, 3) := by decide +kernel
theorem dX16_relays_32 : decode cX16_relays 32 = .ok (.istore_n 2, 1) := by decide +kernel
theorem dX16_relays_33 : decode cX16_relays 33 = .ok (.aload_n 0, 1) := by decide +kernel
theorem dX16_relays_34 : decode cX16_relays 34 = .ok (.getfield 94, 3) := by decide +kernel
theorem dX16_relays_37 : decode cX16_relays 37 = .ok (.iload_n 1, 1) := by decide +kernel
theorem dX16_relays_38 : decode cX16_relays 38 = .ok (.caload, 1) := by decide +kernel
theorem dX16_relays_39 : decode cX16_relays 39 = .ok (.bipush 33, 2) := by decide +kernel
theorem dX16_relays_41 : decode cX16_relays 41 = .ok (.if_icmp .eq 20, 3) := by decide +kernel
theorem dX16_relays_44 : decode cX16_relays 44 = .ok (.aload_n 0, 1) := by decide +kernel
theorem dX16_relays_45 : decode cX16_relays 45 = .ok (.aload_n 0, 1) := by decide +kernel
theorem dX16_relays_46 : decode cX16_relays 46 = .ok (.getfield 100, 3) := by decide +kernel
theorem dX16_relays_49 : decode cX16_relays 49 = .ok (.iload_n 1, 1) := by decide +kernel
theorem dX16_relays_50 : decode cX16_relays 50 = .ok (.iaload, 1) := by decide +kernel
theorem dX16_relays_51 : decode cX16_relays 51 = .ok (.invokevirtual 190, 3) := by decide +kernel
theorem dX16_relays_54 : decode cX16_relays 54 = .ok (.ifCond .eq 7, 3) := by decide +kernel
theorem dX16_relays_57 : decode cX16_relays 57 = .ok (.iconst 1, 1) := by decide +kernel
theorem dX16_relays_58 : decode cX16_relays 58 = .ok (.goto 4, 3) := by decide +kernel
theorem dX16_relays_61 : decode cX16_relays 61 = .ok (.iconst 0, 1) := by decide +kernel
theorem dX16_relays_62 : decode cX16_relays 62 = .ok (.istore_n 3, 1) := by decide +kernel
theorem dX16_relays_63 : decode cX16_relays 63 = .ok (.aload_n 0, 1) := by decide +kernel
theorem dX16_relays_64 : decode cX16_relays 64 = .ok (.getfield 112, 3) := by decide +kernel
theorem dX16_relays_67 : decode cX16_relays 67 = .ok (.iload_n 1, 1) := by decide +kernel
theorem dX16_relays_68 : decode cX16_relays 68 = .ok (.aload_n 0, 1) := by decide +kernel
theorem dX16_relays_69 : decode cX16_relays 69 = .ok (.getfield 94, 3) := by decide +kernel
theorem dX16_relays_72 : decode cX16_relays 72 = .ok (.iload_n 1, 1) := by decide +kernel
theorem dX16_relays_73 : decode cX16_relays 73 = .ok (.caload, 1) := by decide +kernel
theorem dX16_relays_74 : decode cX16_relays 74 = .ok (.bipush 38, 2) := by decide +kernel
theorem dX16_relays_76 : decode cX16_relays 76 = .ok (.if_icmp .ne 19, 3) := by decide +kernel
theorem dX16_relays_79 : decode cX16_relays 79 = .ok (.iload_n 2, 1) := by decide +kernel
theorem dX16_relays_80 : decode cX16_relays 80 = .ok (.ifCond .eq 11, 3) := by decide +kernel
theorem dX16_relays_83 : decode cX16_relays 83 = .ok (.iload_n 3, 1) := by decide +kernel
theorem dX16_relays_84 : decode cX16_relays 84 = .ok (.ifCond .eq 7, 3) := by decide +kernel
theorem dX16_relays_87 : decode cX16_relays 87 = .ok (.iconst 1, 1) := by decide +kernel
theorem dX16_relays_88 : decode cX16_relays 88 = .ok (.goto 67, 3) := by decide +kernel
theorem dX16_relays_91 : decode cX16_relays 91 = .ok (.iconst 0, 1) := by decide +kernel
theorem dX16_relays_92 : decode cX16_relays 92 = .ok (.goto 63, 3) := by decide +kernel
theorem dX16_relays_95 : decode cX16_relays 95 = .ok (.aload_n 0, 1) := by decide +kernel
theorem dX16_relays_96 : decode cX16_relays 96 = .ok (.getfield 94, 3) := by decide +kernel
theorem dX16_relays_99 : decode cX16_relays 99 = .ok (.iload_n 1, 1) := by decide +kernel
theorem dX16_relays_100 : decode cX16_relays 100 = .ok (.caload, 1) := by decide +kernel
theorem dX16_relays_101 : decode cX16_relays 101 = .ok (.bipush 124, 2) := by decide +kernel
theorem dX16_relays_103 : decode cX16_relays 103 = .ok (.if_icmp .ne 19, 3) := by decide +kernel
theorem dX16_relays_106 : decode cX16_relays 106 = .ok (.iload_n 2, 1) := by decide +kernel
theorem dX16_relays_107 : decode cX16_relays 107 = .ok (.ifCond .ne 7, 3) := by decide +kernel
theorem dX16_relays_110 : decode cX16_relays 110 = .ok (.iload_n 3, 1) := by decide +kernel
theorem dX16_relays_111 : decode cX16_relays 111 = .ok (.ifCond .eq 7, 3) := by decide +kernel
theorem dX16_relays_114 : decode cX16_relays 114 = .ok (.iconst 1, 1) := by decide +kernel
theorem dX16_relays_115 : decode cX16_relays 115 = .ok (.goto 40, 3) := by decide +kernel
theorem dX16_relays_118 : decode cX16_relays 118 = .ok (.iconst 0, 1) := by decide +kernel
theorem dX16_relays_119 : decode cX16_relays 119 = .ok (.goto 36, 3) := by decide +kernel
theorem dX16_relays_122 : decode cX16_relays 122 = .ok (.aload_n 0, 1) := by decide +kernel
theorem dX16_relays_123 : decode cX16_relays 123 = .ok (.getfield 94, 3) := by decide +kernel
theorem dX16_relays_126 : decode cX16_relays 126 = .ok (.iload_n 1, 1) := by decide +kernel
theorem dX16_relays_127 : decode cX16_relays 127 = .ok (.caload, 1) := by decide +kernel
theorem dX16_relays_128 : decode cX16_relays 128 = .ok (.bipush 94, 2) := by decide +kernel
theorem dX16_relays_130 : decode cX16_relays 130 = .ok (.if_icmp .ne 16, 3) := by decide +kernel
theorem dX16_relays_133 : decode cX16_relays 133 = .ok (.iload_n 2, 1) := by decide +kernel
theorem dX16_relays_134 : decode cX16_relays 134 = .ok (.iload_n 3, 1) := by decide +kernel
theorem dX16_relays_135 : decode cX16_relays 135 = .ok (.if_icmp .eq 7, 3) := by decide +kernel
theorem dX16_relays_138 : decode cX16_relays 138 = .ok (.iconst 1, 1) := by decide +kernel
theorem dX16_relays_139 : decode cX16_relays 139 = .ok (.goto 16, 3) := by decide +kernel
theorem dX16_relays_142 : decode cX16_relays 142 = .ok (.iconst 0, 1) := by decide +kernel
theorem dX16_relays_143 : decode cX16_relays 143 = .ok (.goto 12, 3) := by decide +kernel
theorem dX16_relays_146 : decode cX16_relays 146 = .ok (.iload_n 2, 1) := by decide +kernel
theorem dX16_relays_147 : decode cX16_relays 147 = .ok (.ifCond .ne 7, 3) := by decide +kernel
theorem dX16_relays_150 : decode cX16_relays 150 = .ok (.iconst 1, 1) := by decide +kernel
theorem dX16_relays_151 : decode cX16_relays 151 = .ok (.goto 4, 3) := by decide +kernel
theorem dX16_relays_154 : decode cX16_relays 154 = .ok (.iconst 0, 1) := by decide +kernel
theorem dX16_relays_155 : decode cX16_relays 155 = .ok (.bastore, 1) := by decide +kernel
theorem dX16_relays_156 : decode cX16_relays 156 = .ok (.iinc 1 1, 3) := by decide +kernel
theorem dX16_relays_159 : decode cX16_relays 159 = .ok (.goto (-157), 3) := by decide +kernel
theorem dX16_relays_162 : decode cX16_relays 162 = .ok (.return_, 1) := by decide +kernel
theorem dX16_counts_0 : decode cX16_counts 0 = .ok (.aload_n 1, 1) := by decide +kernel
theorem dX16_counts_1 : decode cX16_counts 1 = .ok (.getfield 183, 3) := by decide +kernel
theorem dX16_counts_4 : decode cX16_counts 4 = .ok (.ifCond .ne 23, 3) := by decide +kernel
theorem dX16_counts_7 : decode cX16_counts 7 = .ok (.aload_n 1, 1) := by decide +kernel
theorem dX16_counts_8 : decode cX16_counts 8 = .ok (.getfield 193, 3) := by decide +kernel
theorem dX16_counts_11 : decode cX16_counts 11 = .ok (.iconst (-1), 1) := by decide +kernel
theorem dX16_counts_12 : decode cX16_counts 12 = .ok (.if_icmp .eq 19, 3) := by decide +kernel
theorem dX16_counts_15 : decode cX16_counts 15 = .ok (.aload_n 0, 1) := by decide +kernel
theorem dX16_counts_16 : decode cX16_counts 16 = .ok (.getfield 112, 3) := by decide +kernel
theorem dX16_counts_19 : decode cX16_counts 19 = .ok (.aload_n 1, 1) := by decide +kernel
theorem dX16_counts_20 : decode cX16_counts 20 = .ok (.getfield 193, 3) := by decide +kernel
theorem dX16_counts_23 : decode cX16_counts 23 = .ok (.baload, 1) := by decide +kernel
theorem dX16_counts_24 : decode cX16_counts 24 = .ok (.ifCond .eq 7, 3) := by decide +kernel
theorem dX16_counts_27 : decode cX16_counts 27 = .ok (.iconst 1, 1) := by decide +kernel
theorem dX16_counts_28 : decode cX16_counts 28 = .ok (.goto 4, 3) := by decide +kernel
theorem dX16_counts_31 : decode cX16_counts 31 = .ok (.iconst 0, 1) := by decide +kernel
theorem dX16_counts_32 : decode cX16_counts 32 = .ok (.ireturn, 1) := by decide +kernel
theorem dX16_sounds_0 : decode cX16_sounds 0 = .ok (.aload_n 0, 1) := by decide +kernel
theorem dX16_sounds_1 : decode cX16_sounds 1 = .ok (.aload_n 1, 1) := by decide +kernel
theorem dX16_sounds_2 : decode cX16_sounds 2 = .ok (.invokevirtual 196, 3) := by decide +kernel
theorem dX16_sounds_5 : decode cX16_sounds 5 = .ok (.ifCond .ne 28, 3) := by decide +kernel
theorem dX16_sounds_8 : decode cX16_sounds 8 = .ok (.aload_n 0, 1) := by decide +kernel
theorem dX16_sounds_9 : decode cX16_sounds 9 = .ok (.getfield 199, 3) := by decide +kernel
theorem dX16_sounds_12 : decode cX16_sounds 12 = .ok (.ifCond .ne 21, 3) := by decide +kernel
theorem dX16_sounds_15 : decode cX16_sounds 15 = .ok (.aload_n 1, 1) := by decide +kernel
theorem dX16_sounds_16 : decode cX16_sounds 16 = .ok (.getfield 202, 3) := by decide +kernel
theorem dX16_sounds_19 : decode cX16_sounds 19 = .ok (.ifCond .le 18, 3) := by decide +kernel
theorem dX16_sounds_22 : decode cX16_sounds 22 = .ok (.aload_n 0, 1) := by decide +kernel
theorem dX16_sounds_23 : decode cX16_sounds 23 = .ok (.getfield 205, 3) := by decide +kernel
theorem dX16_sounds_26 : decode cX16_sounds 26 = .ok (.aload_n 1, 1) := by decide +kernel
theorem dX16_sounds_27 : decode cX16_sounds 27 = .ok (.getfield 202, 3) := by decide +kernel
theorem dX16_sounds_30 : decode cX16_sounds 30 = .ok (.if_icmp .lt 7, 3) := by decide +kernel
theorem dX16_sounds_33 : decode cX16_sounds 33 = .ok (.iconst 1, 1) := by decide +kernel
theorem dX16_sounds_34 : decode cX16_sounds 34 = .ok (.goto 4, 3) := by decide +kernel
theorem dX16_sounds_37 : decode cX16_sounds 37 = .ok (.iconst 0, 1) := by decide +kernel
theorem dX16_sounds_38 : decode cX16_sounds 38 = .ok (.ireturn, 1) := by decide +kernel
theorem dX16_edge_0 : decode cX16_edge 0 = .ok (.iconst (-1), 1) := by decide +kernel
theorem dX16_edge_1 : decode cX16_edge 1 = .ok (.istore_n 3, 1) := by decide +kernel
theorem dX16_edge_2 : decode cX16_edge 2 = .ok (.iconst 0, 1) := by decide +kernel
theorem dX16_edge_3 : decode cX16_edge 3 = .ok (.istore 4, 2) := by decide +kernel
theorem dX16_edge_5 : decode cX16_edge 5 = .ok (.iload 4, 2) := by decide +kernel
theorem dX16_edge_7 : decode cX16_edge 7 = .ok (.iload_n 1, 1) := by decide +kernel
theorem dX16_edge_8 : decode cX16_edge 8 = .ok (.invokestatic 151, 3) := by decide +kernel
theorem dX16_edge_11 : decode cX16_edge 11 = .ok (.if_icmp .ge 35, 3) := by decide +kernel
theorem dX16_edge_14 : decode cX16_edge 14 = .ok (.aload_n 0, 1) := by decide +kernel
theorem dX16_edge_15 : decode cX16_edge 15 = .ok (.getfield 31, 3) := by decide +kernel
theorem dX16_edge_18 : decode cX16_edge 18 = .ok (.iload_n 1, 1) := by decide +kernel
theorem dX16_edge_19 : decode cX16_edge 19 = .ok (.iload 4, 2) := by decide +kernel
theorem dX16_edge_21 : decode cX16_edge 21 = .ok (.invokestatic 186, 3) := by decide +kernel
theorem dX16_edge_24 : decode cX16_edge 24 = .ok (.baload, 1) := by decide +kernel
theorem dX16_edge_25 : decode cX16_edge 25 = .ok (.ifCond .eq 15, 3) := by decide +kernel
theorem dX16_edge_28 : decode cX16_edge 28 = .ok (.iload_n 3, 1) := by decide +kernel
theorem dX16_edge_29 : decode cX16_edge 29 = .ok (.iconst (-1), 1) := by decide +kernel
theorem dX16_edge_30 : decode cX16_edge 30 = .ok (.if_icmp .eq 7, 3) := by decide +kernel
theorem dX16_edge_33 : decode cX16_edge 33 = .ok (.iload_n 2, 1) := by decide +kernel
theorem dX16_edge_34 : decode cX16_edge 34 = .ok (.ifCond .eq 6, 3) := by decide +kernel
theorem dX16_edge_37 : decode cX16_edge 37 = .ok (.iload 4, 2) := by decide +kernel
theorem dX16_edge_39 : decode cX16_edge 39 = .ok (.istore_n 3, 1) := by decide +kernel
theorem dX16_edge_40 : decode cX16_edge 40 = .ok (.iinc 4 1, 3) := by decide +kernel
theorem dX16_edge_43 : decode cX16_edge 43 = .ok (.goto (-38), 3) := by decide +kernel
theorem dX16_edge_46 : decode cX16_edge 46 = .ok (.iload_n 3, 1) := by decide +kernel
theorem dX16_edge_47 : decode cX16_edge 47 = .ok (.ireturn, 1) := by decide +kernel
theorem dX16_takes_0 : decode cX16_takes 0 = .ok (.aload_n 1, 1) := by decide +kernel
theorem dX16_takes_1 : decode cX16_takes 1 = .ok (.getfield 208, 3) := by decide +kernel
theorem dX16_takes_4 : decode cX16_takes 4 = .ok (.lookupswitch 76 #[(97, 36), (98, 57), (109, 38)], 36) := by decide +kernel
theorem dX16_takes_40 : decode cX16_takes 40 = .ok (.iconst 1, 1) := by decide +kernel
theorem dX16_takes_41 : decode cX16_takes 41 = .ok (.ireturn, 1) := by decide +kernel
theorem dX16_takes_42 : decode cX16_takes 42 = .ok (.aload_n 0, 1) := by decide +kernel
theorem dX16_takes_43 : decode cX16_takes 43 = .ok (.aload_n 1, 1) := by decide +kernel
theorem dX16_takes_44 : decode cX16_takes 44 = .ok (.getfield 211, 3) := by decide +kernel
theorem dX16_takes_47 : decode cX16_takes 47 = .ok (.iconst 1, 1) := by decide +kernel
theorem dX16_takes_48 : decode cX16_takes 48 = .ok (.invokevirtual 214, 3) := by decide +kernel
theorem dX16_takes_51 : decode cX16_takes 51 = .ok (.iload_n 2, 1) := by decide +kernel
theorem dX16_takes_52 : decode cX16_takes 52 = .ok (.if_icmp .ne 7, 3) := by decide +kernel
theorem dX16_takes_55 : decode cX16_takes 55 = .ok (.iconst 1, 1) := by decide +kernel
theorem dX16_takes_56 : decode cX16_takes 56 = .ok (.goto 4, 3) := by decide +kernel
theorem dX16_takes_59 : decode cX16_takes 59 = .ok (.iconst 0, 1) := by decide +kernel
theorem dX16_takes_60 : decode cX16_takes 60 = .ok (.ireturn, 1) := by decide +kernel
theorem dX16_takes_61 : decode cX16_takes 61 = .ok (.aload_n 0, 1) := by decide +kernel
theorem dX16_takes_62 : decode cX16_takes 62 = .ok (.aload_n 1, 1) := by decide +kernel
theorem dX16_takes_63 : decode cX16_takes 63 = .ok (.getfield 211, 3) := by decide +kernel
theorem dX16_takes_66 : decode cX16_takes 66 = .ok (.iconst 0, 1) := by decide +kernel
theorem dX16_takes_67 : decode cX16_takes 67 = .ok (.invokevirtual 214, 3) := by decide +kernel
theorem dX16_takes_70 : decode cX16_takes 70 = .ok (.iload_n 2, 1) := by decide +kernel
theorem dX16_takes_71 : decode cX16_takes 71 = .ok (.if_icmp .ne 7, 3) := by decide +kernel
theorem dX16_takes_74 : decode cX16_takes 74 = .ok (.iconst 1, 1) := by decide +kernel
theorem dX16_takes_75 : decode cX16_takes 75 = .ok (.goto 4, 3) := by decide +kernel
theorem dX16_takes_78 : decode cX16_takes 78 = .ok (.iconst 0, 1) := by decide +kernel
theorem dX16_takes_79 : decode cX16_takes 79 = .ok (.ireturn, 1) := by decide +kernel
theorem dX16_takes_80 : decode cX16_takes 80 = .ok (.aload_n 0, 1) := by decide +kernel
theorem dX16_takes_81 : decode cX16_takes 81 = .ok (.getfield 50, 3) := by decide +kernel
theorem dX16_takes_84 : decode cX16_takes 84 = .ok (.aload_n 1, 1) := by decide +kernel
theorem dX16_takes_85 : decode cX16_takes 85 = .ok (.getfield 211, 3) := by decide +kernel
theorem dX16_takes_88 : decode cX16_takes 88 = .ok (.iload_n 2, 1) := by decide +kernel
theorem dX16_takes_89 : decode cX16_takes 89 = .ok (.invokestatic 186, 3) := by decide +kernel
theorem dX16_takes_92 : decode cX16_takes 92 = .ok (.iaload, 1) := by decide +kernel
theorem dX16_takes_93 : decode cX16_takes 93 = .ok (.aload_n 0, 1) := by decide +kernel
theorem dX16_takes_94 : decode cX16_takes 94 = .ok (.getfield 218, 3) := by decide +kernel
theorem dX16_takes_97 : decode cX16_takes 97 = .ok (.if_icmp .ne 7, 3) := by decide +kernel
theorem dX16_takes_100 : decode cX16_takes 100 = .ok (.iconst 1, 1) := by decide +kernel
theorem dX16_takes_101 : decode cX16_takes 101 = .ok (.goto 4, 3) := by decide +kernel
theorem dX16_takes_104 : decode cX16_takes 104 = .ok (.iconst 0, 1) := by decide +kernel
theorem dX16_takes_105 : decode cX16_takes 105 = .ok (.ireturn, 1) := by decide +kernel
theorem dX16_plays_0 : decode cX16_plays 0 = .ok (.iconst 0, 1) := by decide +kernel
theorem dX16_plays_1 : decode cX16_plays 1 = .ok (.istore_n 3, 1) := by decide +kernel
theorem dX16_plays_2 : decode cX16_plays 2 = .ok (.iload_n 3, 1) := by decide +kernel
theorem dX16_plays_3 : decode cX16_plays 3 = .ok (.aload_n 0, 1) := by decide +kernel
theorem dX16_plays_4 : decode cX16_plays 4 = .ok (.getfield 16, 3) := by decide +kernel
theorem dX16_plays_7 : decode cX16_plays 7 = .ok (.invokevirtual 155, 3) := by decide +kernel
theorem dX16_plays_10 : decode cX16_plays 10 = .ok (.if_icmp .ge 161, 3) := by decide +kernel
theorem dX16_plays_13 : decode cX16_plays 13 = .ok (.aload_n 0, 1) := by decide +kernel
theorem dX16_plays_14 : decode cX16_plays 14 = .ok (.getfield 16, 3) := by decide +kernel
theorem dX16_plays_17 : decode cX16_plays 17 = .ok (.iload_n 3, 1) := by decide +kernel
theorem dX16_plays_18 : decode cX16_plays 18 = .ok (.invokevirtual 162, 3) := by decide +kernel
theorem dX16_plays_21 : decode cX16_plays 21 = .ok (.checkcast 126, 3) := by decide +kernel
theorem dX16_plays_24 : decode cX16_plays 24 = .ok (.astore 4, 2) := by decide +kernel
theorem dX16_plays_26 : decode cX16_plays 26 = .ok (.aload 4, 2) := by decide +kernel
theorem dX16_plays_28 : decode cX16_plays 28 = .ok (.getfield 177, 3) := by decide +kernel
theorem dX16_plays_31 : decode cX16_plays 31 = .ok (.bipush 115, 2) := by decide +kernel
theorem dX16_plays_33 : decode cX16_plays 33 = .ok (.if_icmp .ne 132, 3) := by decide +kernel
theorem dX16_plays_36 : decode cX16_plays 36 = .ok (.aload 4, 2) := by decide +kernel
theorem dX16_plays_38 : decode cX16_plays 38 = .ok (.getfield 211, 3) := by decide +kernel
theorem dX16_plays_41 : decode cX16_plays 41 = .ok (.iload_n 1, 1) := by decide +kernel
theorem dX16_plays_42 : decode cX16_plays 42 = .ok (.if_icmp .ne 123, 3) := by decide +kernel
theorem dX16_plays_45 : decode cX16_plays 45 = .ok (.aload_n 0, 1) := by decide +kernel
theorem dX16_plays_46 : decode cX16_plays 46 = .ok (.aload 4, 2) := by decide +kernel
theorem dX16_plays_48 : decode cX16_plays 48 = .ok (.invokevirtual 221, 3) := by decide +kernel
theorem dX16_plays_51 : decode cX16_plays 51 = .ok (.ifCond .ne 6, 3) := by decide +kernel
theorem dX16_plays_54 : decode cX16_plays 54 = .ok (.goto 111, 3) := by decide +kernel
theorem dX16_plays_57 : decode cX16_plays 57 = .ok (.aload 4, 2) := by decide +kernel
theorem dX16_plays_59 : decode cX16_plays 59 = .ok (.getfield 224, 3) := by decide +kernel
theorem dX16_plays_62 : decode cX16_plays 62 = .ok (.iload_n 2, 1) := by decide +kernel
theorem dX16_plays_63 : decode cX16_plays 63 = .ok (.iaload, 1) := by decide +kernel
theorem dX16_plays_64 : decode cX16_plays 64 = .ok (.istore 5, 2) := by decide +kernel
theorem dX16_plays_66 : decode cX16_plays 66 = .ok (.iconst 0, 1) := by decide +kernel
theorem dX16_plays_67 : decode cX16_plays 67 = .ok (.istore 6, 2) := by decide +kernel
theorem dX16_plays_69 : decode cX16_plays 69 = .ok (.iload 6, 2) := by decide +kernel
theorem dX16_plays_71 : decode cX16_plays 71 = .ok (.aload 4, 2) := by decide +kernel
theorem dX16_plays_73 : decode cX16_plays 73 = .ok (.getfield 227, 3) := by decide +kernel
theorem dX16_plays_76 : decode cX16_plays 76 = .ok (.if_icmp .ge 89, 3) := by decide +kernel
theorem dX16_plays_79 : decode cX16_plays 79 = .ok (.bipush 36, 2) := by decide +kernel
theorem dX16_plays_81 : decode cX16_plays 81 = .ok (.iload 5, 2) := by decide +kernel
theorem dX16_plays_83 : decode cX16_plays 83 = .ok (.iadd, 1) := by decide +kernel
theorem dX16_plays_84 : decode cX16_plays 84 = .ok (.aload 4, 2) := by decide +kernel
theorem dX16_plays_86 : decode cX16_plays 86 = .ok (.getfield 230, 3) := by decide +kernel
theorem dX16_plays_89 : decode cX16_plays 89 = .ok (.iload 6, 2) := by decide +kernel
theorem dX16_plays_91 : decode cX16_plays 91 = .ok (.iaload, 1) := by decide +kernel
theorem dX16_plays_92 : decode cX16_plays 92 = .ok (.iadd, 1) := by decide +kernel
theorem dX16_plays_93 : decode cX16_plays 93 = .ok (.istore 7, 2) := by decide +kernel
theorem dX16_plays_95 : decode cX16_plays 95 = .ok (.iload 5, 2) := by decide +kernel
theorem dX16_plays_97 : decode cX16_plays 97 = .ok (.aload 4, 2) := by decide +kernel
theorem dX16_plays_99 : decode cX16_plays 99 = .ok (.getfield 233, 3) := by decide +kernel
theorem dX16_plays_102 : decode cX16_plays 102 = .ok (.iload 6, 2) := by decide +kernel
theorem dX16_plays_104 : decode cX16_plays 104 = .ok (.iaload, 1) := by decide +kernel
theorem dX16_plays_105 : decode cX16_plays 105 = .ok (.aload 4, 2) := by decide +kernel
theorem dX16_plays_107 : decode cX16_plays 107 = .ok (.getfield 236, 3) := by decide +kernel
theorem dX16_plays_110 : decode cX16_plays 110 = .ok (.iload 6, 2) := by decide +kernel
theorem dX16_plays_112 : decode cX16_plays 112 = .ok (.iaload, 1) := by decide +kernel
theorem dX16_plays_113 : decode cX16_plays 113 = .ok (.invokestatic 143, 3) := by decide +kernel
theorem dX16_plays_116 : decode cX16_plays 116 = .ok (.ifCond .eq 43, 3) := by decide +kernel
theorem dX16_plays_119 : decode cX16_plays 119 = .ok (.aload_n 0, 1) := by decide +kernel
theorem dX16_plays_120 : decode cX16_plays 120 = .ok (.aload 4, 2) := by decide +kernel
theorem dX16_plays_122 : decode cX16_plays 122 = .ok (.getfield 239, 3) := by decide +kernel
theorem dX16_plays_125 : decode cX16_plays 125 = .ok (.iload 6, 2) := by decide +kernel
theorem dX16_plays_127 : decode cX16_plays 127 = .ok (.iaload, 1) := by decide +kernel
theorem dX16_plays_128 : decode cX16_plays 128 = .ok (.iload 7, 2) := by decide +kernel
theorem dX16_plays_130 : decode cX16_plays 130 = .ok (.invokevirtual 241, 3) := by decide +kernel
theorem dX16_plays_133 : decode cX16_plays 133 = .ok (.ifCond .eq 26, 3) := by decide +kernel
theorem dX16_plays_136 : decode cX16_plays 136 = .ok (.aload_n 0, 1) := by decide +kernel
theorem dX16_plays_137 : decode cX16_plays 137 = .ok (.getfield 54, 3) := by decide +kernel
theorem dX16_plays_140 : decode cX16_plays 140 = .ok (.aload_n 0, 1) := by decide +kernel
theorem dX16_plays_141 : decode cX16_plays 141 = .ok (.aload 4, 2) := by decide +kernel
theorem dX16_plays_143 : decode cX16_plays 143 = .ok (.getfield 239, 3) := by decide +kernel
theorem dX16_plays_146 : decode cX16_plays 146 = .ok (.iload 6, 2) := by decide +kernel
theorem dX16_plays_148 : decode cX16_plays 148 = .ok (.iaload, 1) := by decide +kernel
theorem dX16_plays_149 : decode cX16_plays 149 = .ok (.iload 7, 2) := by decide +kernel
theorem dX16_plays_151 : decode cX16_plays 151 = .ok (.invokevirtual 245, 3) := by decide +kernel
theorem dX16_plays_154 : decode cX16_plays 154 = .ok (.dup2, 1) := by decide +kernel
theorem dX16_plays_155 : decode cX16_plays 155 = .ok (.iaload, 1) := by decide +kernel
theorem dX16_plays_156 : decode cX16_plays 156 = .ok (.iconst 1, 1) := by decide +kernel
theorem dX16_plays_157 : decode cX16_plays 157 = .ok (.iadd, 1) := by decide +kernel
theorem dX16_plays_158 : decode cX16_plays 158 = .ok (.iastore, 1) := by decide +kernel
theorem dX16_plays_159 : decode cX16_plays 159 = .ok (.iinc 6 1, 3) := by decide +kernel
theorem dX16_plays_162 : decode cX16_plays 162 = .ok (.goto (-93), 3) := by decide +kernel
theorem dX16_plays_165 : decode cX16_plays 165 = .ok (.iinc 3 1, 3) := by decide +kernel
theorem dX16_plays_168 : decode cX16_plays 168 = .ok (.goto (-166), 3) := by decide +kernel
theorem dX16_plays_171 : decode cX16_plays 171 = .ok (.return_, 1) := by decide +kernel
theorem dX16_reckons_0 : decode cX16_reckons 0 = .ok (.aload_n 0, 1) := by decide +kernel
theorem dX16_reckons_1 : decode cX16_reckons 1 = .ok (.invokevirtual 248, 3) := by decide +kernel
theorem dX16_reckons_4 : decode cX16_reckons 4 = .ok (.iconst 0, 1) := by decide +kernel
theorem dX16_reckons_5 : decode cX16_reckons 5 = .ok (.istore_n 1, 1) := by decide +kernel
theorem dX16_reckons_6 : decode cX16_reckons 6 = .ok (.iload_n 1, 1) := by decide +kernel
theorem dX16_reckons_7 : decode cX16_reckons 7 = .ok (.aload_n 0, 1) := by decide +kernel
theorem dX16_reckons_8 : decode cX16_reckons 8 = .ok (.getfield 251, 3) := by decide +kernel
theorem dX16_reckons_11 : decode cX16_reckons 11 = .ok (.if_icmp .ge 16, 3) := by decide +kernel
theorem dX16_reckons_14 : decode cX16_reckons 14 = .ok (.aload_n 0, 1) := by decide +kernel
theorem dX16_reckons_15 : decode cX16_reckons 15 = .ok (.getfield 54, 3) := by decide +kernel
theorem dX16_reckons_18 : decode cX16_reckons 18 = .ok (.iload_n 1, 1) := by decide +kernel
theorem dX16_reckons_19 : decode cX16_reckons 19 = .ok (.iconst 0, 1) := by decide +kernel
theorem dX16_reckons_20 : decode cX16_reckons 20 = .ok (.iastore, 1) := by decide +kernel
theorem dX16_reckons_21 : decode cX16_reckons 21 = .ok (.iinc 1 1, 3) := by decide +kernel
theorem dX16_reckons_24 : decode cX16_reckons 24 = .ok (.goto (-18), 3) := by decide +kernel
theorem dX16_reckons_27 : decode cX16_reckons 27 = .ok (.iconst 0, 1) := by decide +kernel
theorem dX16_reckons_28 : decode cX16_reckons 28 = .ok (.istore_n 1, 1) := by decide +kernel
theorem dX16_reckons_29 : decode cX16_reckons 29 = .ok (.iload_n 1, 1) := by decide +kernel
theorem dX16_reckons_30 : decode cX16_reckons 30 = .ok (.iconst 3, 1) := by decide +kernel
theorem dX16_reckons_31 : decode cX16_reckons 31 = .ok (.if_icmp .ge 172, 3) := by decide +kernel
theorem dX16_reckons_34 : decode cX16_reckons 34 = .ok (.iconst 0, 1) := by decide +kernel
theorem dX16_reckons_35 : decode cX16_reckons 35 = .ok (.istore_n 2, 1) := by decide +kernel
theorem dX16_reckons_36 : decode cX16_reckons 36 = .ok (.iload_n 2, 1) := by decide +kernel
theorem dX16_reckons_37 : decode cX16_reckons 37 = .ok (.iload_n 1, 1) := by decide +kernel
theorem dX16_reckons_38 : decode cX16_reckons 38 = .ok (.invokestatic 151, 3) := by decide +kernel
theorem dX16_reckons_41 : decode cX16_reckons 41 = .ok (.if_icmp .ge 156, 3) := by decide +kernel
theorem dX16_reckons_44 : decode cX16_reckons 44 = .ok (.aload_n 0, 1) := by decide +kernel
theorem dX16_reckons_45 : decode cX16_reckons 45 = .ok (.getfield 31, 3) := by decide +kernel
theorem dX16_reckons_48 : decode cX16_reckons 48 = .ok (.iload_n 1, 1) := by decide +kernel
theorem dX16_reckons_49 : decode cX16_reckons 49 = .ok (.iload_n 2, 1) := by decide +kernel
theorem dX16_reckons_50 : decode cX16_reckons 50 = .ok (.invokestatic 186, 3) := by decide +kernel
theorem dX16_reckons_53 : decode cX16_reckons 53 = .ok (.baload, 1) := by decide +kernel
theorem dX16_reckons_54 : decode cX16_reckons 54 = .ok (.ifCond .ne 6, 3) := by decide +kernel
theorem dX16_reckons_57 : decode cX16_reckons 57 = .ok (.goto 134, 3) := by decide +kernel
theorem dX16_reckons_60 : decode cX16_reckons 60 = .ok (.aload_n 0, 1) := by decide +kernel
theorem dX16_reckons_61 : decode cX16_reckons 61 = .ok (.aload_n 0, 1) := by decide +kernel
theorem dX16_reckons_62 : decode cX16_reckons 62 = .ok (.getfield 16, 3) := by decide +kernel
theorem dX16_reckons_65 : decode cX16_reckons 65 = .ok (.iload_n 1, 1) := by decide +kernel
theorem dX16_reckons_66 : decode cX16_reckons 66 = .ok (.invokevirtual 162, 3) := by decide +kernel
theorem dX16_reckons_69 : decode cX16_reckons 69 = .ok (.checkcast 126, 3) := by decide +kernel
theorem dX16_reckons_72 : decode cX16_reckons 72 = .ok (.invokevirtual 196, 3) := by decide +kernel
theorem dX16_reckons_75 : decode cX16_reckons 75 = .ok (.ifCond .ne 9, 3) := by decide +kernel
theorem dX16_reckons_78 : decode cX16_reckons 78 = .ok (.aload_n 0, 1) := by decide +kernel
theorem dX16_reckons_79 : decode cX16_reckons 79 = .ok (.iload_n 1, 1) := by decide +kernel
theorem dX16_reckons_80 : decode cX16_reckons 80 = .ok (.iload_n 2, 1) := by decide +kernel
theorem dX16_reckons_81 : decode cX16_reckons 81 = .ok (.invokevirtual 254, 3) := by decide +kernel
theorem dX16_reckons_84 : decode cX16_reckons 84 = .ok (.iconst 0, 1) := by decide +kernel
theorem dX16_reckons_85 : decode cX16_reckons 85 = .ok (.istore_n 3, 1) := by decide +kernel
theorem dX16_reckons_86 : decode cX16_reckons 86 = .ok (.iload_n 3, 1) := by decide +kernel
theorem dX16_reckons_87 : decode cX16_reckons 87 = .ok (.aload_n 0, 1) := by decide +kernel
theorem dX16_reckons_88 : decode cX16_reckons 88 = .ok (.getfield 16, 3) := by decide +kernel
theorem dX16_reckons_91 : decode cX16_reckons 91 = .ok (.invokevirtual 155, 3) := by decide +kernel
theorem dX16_reckons_94 : decode cX16_reckons 94 = .ok (.if_icmp .ge 97, 3) := by decide +kernel
theorem dX16_reckons_97 : decode cX16_reckons 97 = .ok (.aload_n 0, 1) := by decide +kernel
theorem dX16_reckons_98 : decode cX16_reckons 98 = .ok (.getfield 16, 3) := by decide +kernel
theorem dX16_reckons_101 : decode cX16_reckons 101 = .ok (.iload_n 3, 1) := by decide +kernel
theorem dX16_reckons_102 : decode cX16_reckons 102 = .ok (.invokevirtual 162, 3) := by decide +kernel
theorem dX16_reckons_105 : decode cX16_reckons 105 = .ok (.checkcast 126, 3) := by decide +kernel
theorem dX16_reckons_108 : decode cX16_reckons 108 = .ok (.astore 4, 2) := by decide +kernel
theorem dX16_reckons_110 : decode cX16_reckons 110 = .ok (.aload 4, 2) := by decide +kernel
theorem dX16_reckons_112 : decode cX16_reckons 112 = .ok (.getfield 177, 3) := by decide +kernel
theorem dX16_reckons_115 : decode cX16_reckons 115 = .ok (.bipush 99, 2) := by decide +kernel
theorem dX16_reckons_117 : decode cX16_reckons 117 = .ok (.if_icmp .ne 68, 3) := by decide +kernel
theorem dX16_reckons_120 : decode cX16_reckons 120 = .ok (.aload 4, 2) := by decide +kernel
theorem dX16_reckons_122 : decode cX16_reckons 122 = .ok (.getfield 211, 3) := by decide +kernel
theorem dX16_reckons_125 : decode cX16_reckons 125 = .ok (.iload_n 1, 1) := by decide +kernel
theorem dX16_reckons_126 : decode cX16_reckons 126 = .ok (.if_icmp .ne 59, 3) := by decide +kernel
theorem dX16_reckons_129 : decode cX16_reckons 129 = .ok (.aload_n 0, 1) := by decide +kernel
theorem dX16_reckons_130 : decode cX16_reckons 130 = .ok (.aload 4, 2) := by decide +kernel
theorem dX16_reckons_132 : decode cX16_reckons 132 = .ok (.invokevirtual 196, 3) := by decide +kernel
theorem dX16_reckons_135 : decode cX16_reckons 135 = .ok (.ifCond .eq 50, 3) := by decide +kernel
theorem dX16_reckons_138 : decode cX16_reckons 138 = .ok (.aload_n 0, 1) := by decide +kernel
theorem dX16_reckons_139 : decode cX16_reckons 139 = .ok (.aload 4, 2) := by decide +kernel
theorem dX16_reckons_141 : decode cX16_reckons 141 = .ok (.iload_n 2, 1) := by decide +kernel
theorem dX16_reckons_142 : decode cX16_reckons 142 = .ok (.invokevirtual 258, 3) := by decide +kernel
theorem dX16_reckons_145 : decode cX16_reckons 145 = .ok (.ifCond .ne 6, 3) := by decide +kernel
theorem dX16_reckons_148 : decode cX16_reckons 148 = .ok (.goto 37, 3) := by decide +kernel
theorem dX16_reckons_151 : decode cX16_reckons 151 = .ok (.aload 4, 2) := by decide +kernel
theorem dX16_reckons_153 : decode cX16_reckons 153 = .ok (.getfield 262, 3) := by decide +kernel
theorem dX16_reckons_156 : decode cX16_reckons 156 = .ok (.iload_n 2, 1) := by decide +kernel
theorem dX16_reckons_157 : decode cX16_reckons 157 = .ok (.aload 4, 2) := by decide +kernel
theorem dX16_reckons_159 : decode cX16_reckons 159 = .ok (.getfield 265, 3) := by decide +kernel
theorem dX16_reckons_162 : decode cX16_reckons 162 = .ok (.iadd, 1) := by decide +kernel
theorem dX16_reckons_163 : decode cX16_reckons 163 = .ok (.invokestatic 268, 3) := by decide +kernel
theorem dX16_reckons_166 : decode cX16_reckons 166 = .ok (.ifCond .eq 19, 3) := by decide +kernel
theorem dX16_reckons_169 : decode cX16_reckons 169 = .ok (.aload_n 0, 1) := by decide +kernel
theorem dX16_reckons_170 : decode cX16_reckons 170 = .ok (.aload 4, 2) := by decide +kernel
theorem dX16_reckons_172 : decode cX16_reckons 172 = .ok (.getfield 262, 3) := by decide +kernel
theorem dX16_reckons_175 : decode cX16_reckons 175 = .ok (.iload_n 2, 1) := by decide +kernel
theorem dX16_reckons_176 : decode cX16_reckons 176 = .ok (.aload 4, 2) := by decide +kernel
theorem dX16_reckons_178 : decode cX16_reckons 178 = .ok (.getfield 265, 3) := by decide +kernel
theorem dX16_reckons_181 : decode cX16_reckons 181 = .ok (.iadd, 1) := by decide +kernel
theorem dX16_reckons_182 : decode cX16_reckons 182 = .ok (.invokevirtual 254, 3) := by decide +kernel
theorem dX16_reckons_185 : decode cX16_reckons 185 = .ok (.iinc 3 1, 3) := by decide +kernel
theorem dX16_reckons_188 : decode cX16_reckons 188 = .ok (.goto (-102), 3) := by decide +kernel
theorem dX16_reckons_191 : decode cX16_reckons 191 = .ok (.iinc 2 1, 3) := by decide +kernel
theorem dX16_reckons_194 : decode cX16_reckons 194 = .ok (.goto (-158), 3) := by decide +kernel
theorem dX16_reckons_197 : decode cX16_reckons 197 = .ok (.iinc 1 1, 3) := by decide +kernel
theorem dX16_reckons_200 : decode cX16_reckons 200 = .ok (.goto (-171), 3) := by decide +kernel
theorem dX16_reckons_203 : decode cX16_reckons 203 = .ok (.return_, 1) := by decide +kernel
theorem dX16_isBlown_0 : decode cX16_isBlown 0 = .ok (.aload_n 0, 1) := by decide +kernel
theorem dX16_isBlown_1 : decode cX16_isBlown 1 = .ok (.getfield 72, 3) := by decide +kernel
theorem dX16_isBlown_4 : decode cX16_isBlown 4 = .ok (.iload_n 1, 1) := by decide +kernel
theorem dX16_isBlown_5 : decode cX16_isBlown 5 = .ok (.caload, 1) := by decide +kernel
theorem dX16_isBlown_6 : decode cX16_isBlown 6 = .ok (.bipush 100, 2) := by decide +kernel
theorem dX16_isBlown_8 : decode cX16_isBlown 8 = .ok (.if_icmp .eq 27, 3) := by decide +kernel
theorem dX16_isBlown_11 : decode cX16_isBlown 11 = .ok (.aload_n 0, 1) := by decide +kernel
theorem dX16_isBlown_12 : decode cX16_isBlown 12 = .ok (.getfield 44, 3) := by decide +kernel
theorem dX16_isBlown_15 : decode cX16_isBlown 15 = .ok (.iload_n 1, 1) := by decide +kernel
theorem dX16_isBlown_16 : decode cX16_isBlown 16 = .ok (.baload, 1) := by decide +kernel
theorem dX16_isBlown_17 : decode cX16_isBlown 17 = .ok (.ifCond .ne 14, 3) := by decide +kernel
theorem dX16_isBlown_20 : decode cX16_isBlown 20 = .ok (.aload_n 0, 1) := by decide +kernel
theorem dX16_isBlown_21 : decode cX16_isBlown 21 = .ok (.getfield 72, 3) := by decide +kernel
theorem dX16_isBlown_24 : decode cX16_isBlown 24 = .ok (.iload_n 1, 1) := by decide +kernel
theorem dX16_isBlown_25 : decode cX16_isBlown 25 = .ok (.caload, 1) := by decide +kernel
theorem dX16_isBlown_26 : decode cX16_isBlown 26 = .ok (.bipush 99, 2) := by decide +kernel
theorem dX16_isBlown_28 : decode cX16_isBlown 28 = .ok (.if_icmp .ne 7, 3) := by decide +kernel
theorem dX16_isBlown_31 : decode cX16_isBlown 31 = .ok (.iconst 1, 1) := by decide +kernel
theorem dX16_isBlown_32 : decode cX16_isBlown 32 = .ok (.goto 4, 3) := by decide +kernel
theorem dX16_isBlown_35 : decode cX16_isBlown 35 = .ok (.iconst 0, 1) := by decide +kernel
theorem dX16_isBlown_36 : decode cX16_isBlown 36 = .ok (.ireturn, 1) := by decide +kernel
theorem dX16_trembles_0 : decode cX16_trembles 0 = .ok (.iconst 0, 1) := by decide +kernel
theorem dX16_trembles_1 : decode cX16_trembles 1 = .ok (.istore_n 2, 1) := by decide +kernel
theorem dX16_trembles_2 : decode cX16_trembles 2 = .ok (.iconst 0, 1) := by decide +kernel
theorem dX16_trembles_3 : decode cX16_trembles 3 = .ok (.istore_n 3, 1) := by decide +kernel
theorem dX16_trembles_4 : decode cX16_trembles 4 = .ok (.iload_n 3, 1) := by decide +kernel
theorem dX16_trembles_5 : decode cX16_trembles 5 = .ok (.aload_n 0, 1) := by decide +kernel
theorem dX16_trembles_6 : decode cX16_trembles 6 = .ok (.getfield 16, 3) := by decide +kernel
theorem dX16_trembles_9 : decode cX16_trembles 9 = .ok (.invokevirtual 155, 3) := by decide +kernel
theorem dX16_trembles_12 : decode cX16_trembles 12 = .ok (.if_icmp .ge 74, 3) := by decide +kernel
theorem dX16_trembles_15 : decode cX16_trembles 15 = .ok (.iload_n 2, 1) := by decide +kernel
theorem dX16_trembles_16 : decode cX16_trembles 16 = .ok (.ifCond .ne 58, 3) := by decide +kernel
theorem dX16_trembles_19 : decode cX16_trembles 19 = .ok (.aload_n 0, 1) := by decide +kernel
theorem dX16_trembles_20 : decode cX16_trembles 20 = .ok (.getfield 16, 3) := by decide +kernel
theorem dX16_trembles_23 : decode cX16_trembles 23 = .ok (.iload_n 3, 1) := by decide +kernel
theorem dX16_trembles_24 : decode cX16_trembles 24 = .ok (.invokevirtual 162, 3) := by decide +kernel
theorem dX16_trembles_27 : decode cX16_trembles 27 = .ok (.checkcast 126, 3) := by decide +kernel
theorem dX16_trembles_30 : decode cX16_trembles 30 = .ok (.getfield 177, 3) := by decide +kernel
theorem dX16_trembles_33 : decode cX16_trembles 33 = .ok (.bipush 116, 2) := by decide +kernel
theorem dX16_trembles_35 : decode cX16_trembles 35 = .ok (.if_icmp .ne 43, 3) := by decide +kernel
theorem dX16_trembles_38 : decode cX16_trembles 38 = .ok (.aload_n 0, 1) := by decide +kernel
theorem dX16_trembles_39 : decode cX16_trembles 39 = .ok (.getfield 16, 3) := by decide +kernel
theorem dX16_trembles_42 : decode cX16_trembles 42 = .ok (.iload_n 3, 1) := by decide +kernel
theorem dX16_trembles_43 : decode cX16_trembles 43 = .ok (.invokevirtual 162, 3) := by decide +kernel
theorem dX16_trembles_46 : decode cX16_trembles 46 = .ok (.checkcast 126, 3) := by decide +kernel
theorem dX16_trembles_49 : decode cX16_trembles 49 = .ok (.getfield 211, 3) := by decide +kernel
theorem dX16_trembles_52 : decode cX16_trembles 52 = .ok (.iload_n 1, 1) := by decide +kernel
theorem dX16_trembles_53 : decode cX16_trembles 53 = .ok (.if_icmp .ne 25, 3) := by decide +kernel
theorem dX16_trembles_56 : decode cX16_trembles 56 = .ok (.aload_n 0, 1) := by decide +kernel
theorem dX16_trembles_57 : decode cX16_trembles 57 = .ok (.aload_n 0, 1) := by decide +kernel
theorem dX16_trembles_58 : decode cX16_trembles 58 = .ok (.getfield 16, 3) := by decide +kernel
theorem dX16_trembles_61 : decode cX16_trembles 61 = .ok (.iload_n 3, 1) := by decide +kernel
theorem dX16_trembles_62 : decode cX16_trembles 62 = .ok (.invokevirtual 162, 3) := by decide +kernel
theorem dX16_trembles_65 : decode cX16_trembles 65 = .ok (.checkcast 126, 3) := by decide +kernel
theorem dX16_trembles_68 : decode cX16_trembles 68 = .ok (.invokevirtual 196, 3) := by decide +kernel
theorem dX16_trembles_71 : decode cX16_trembles 71 = .ok (.ifCond .eq 7, 3) := by decide +kernel
theorem dX16_trembles_74 : decode cX16_trembles 74 = .ok (.iconst 1, 1) := by decide +kernel
theorem dX16_trembles_75 : decode cX16_trembles 75 = .ok (.goto 4, 3) := by decide +kernel
theorem dX16_trembles_78 : decode cX16_trembles 78 = .ok (.iconst 0, 1) := by decide +kernel
theorem dX16_trembles_79 : decode cX16_trembles 79 = .ok (.istore_n 2, 1) := by decide +kernel
theorem dX16_trembles_80 : decode cX16_trembles 80 = .ok (.iinc 3 1, 3) := by decide +kernel
theorem dX16_trembles_83 : decode cX16_trembles 83 = .ok (.goto (-79), 3) := by decide +kernel
theorem dX16_trembles_86 : decode cX16_trembles 86 = .ok (.iload_n 2, 1) := by decide +kernel
theorem dX16_trembles_87 : decode cX16_trembles 87 = .ok (.ifCond .eq 17, 3) := by decide +kernel
theorem dX16_trembles_90 : decode cX16_trembles 90 = .ok (.aload_n 0, 1) := by decide +kernel
theorem dX16_trembles_91 : decode cX16_trembles 91 = .ok (.getfield 218, 3) := by decide +kernel
theorem dX16_trembles_94 : decode cX16_trembles 94 = .ok (.iconst 4, 1) := by decide +kernel
theorem dX16_trembles_95 : decode cX16_trembles 95 = .ok (.irem, 1) := by decide +kernel
theorem dX16_trembles_96 : decode cX16_trembles 96 = .ok (.iconst 1, 1) := by decide +kernel
theorem dX16_trembles_97 : decode cX16_trembles 97 = .ok (.if_icmp .le 7, 3) := by decide +kernel
theorem dX16_trembles_100 : decode cX16_trembles 100 = .ok (.iconst 1, 1) := by decide +kernel
theorem dX16_trembles_101 : decode cX16_trembles 101 = .ok (.goto 4, 3) := by decide +kernel
theorem dX16_trembles_104 : decode cX16_trembles 104 = .ok (.iconst 0, 1) := by decide +kernel
theorem dX16_trembles_105 : decode cX16_trembles 105 = .ok (.ireturn, 1) := by decide +kernel
theorem dX16_blows_0 : decode cX16_blows 0 = .ok (.iconst 0, 1) := by decide +kernel
theorem dX16_blows_1 : decode cX16_blows 1 = .ok (.istore_n 1, 1) := by decide +kernel
theorem dX16_blows_2 : decode cX16_blows 2 = .ok (.iload_n 1, 1) := by decide +kernel
theorem dX16_blows_3 : decode cX16_blows 3 = .ok (.iconst 3, 1) := by decide +kernel
theorem dX16_blows_4 : decode cX16_blows 4 = .ok (.if_icmp .ge 130, 3) := by decide +kernel
theorem dX16_blows_7 : decode cX16_blows 7 = .ok (.iconst 0, 1) := by decide +kernel
theorem dX16_blows_8 : decode cX16_blows 8 = .ok (.istore_n 2, 1) := by decide +kernel
theorem dX16_blows_9 : decode cX16_blows 9 = .ok (.iconst 0, 1) := by decide +kernel
theorem dX16_blows_10 : decode cX16_blows 10 = .ok (.istore_n 3, 1) := by decide +kernel
theorem dX16_blows_11 : decode cX16_blows 11 = .ok (.iload_n 3, 1) := by decide +kernel
theorem dX16_blows_12 : decode cX16_blows 12 = .ok (.aload_n 0, 1) := by decide +kernel
theorem dX16_blows_13 : decode cX16_blows 13 = .ok (.getfield 251, 3) := by decide +kernel
theorem dX16_blows_16 : decode cX16_blows 16 = .ok (.if_icmp .ge 66, 3) := by decide +kernel
theorem dX16_blows_19 : decode cX16_blows 19 = .ok (.iload_n 2, 1) := by decide +kernel
theorem dX16_blows_20 : decode cX16_blows 20 = .ok (.aload_n 0, 1) := by decide +kernel
theorem dX16_blows_21 : decode cX16_blows 21 = .ok (.iload_n 3, 1) := by decide +kernel
theorem dX16_blows_22 : decode cX16_blows 22 = .ok (.invokevirtual 271, 3) := by decide +kernel
theorem dX16_blows_25 : decode cX16_blows 25 = .ok (.ifCond .eq 48, 3) := by decide +kernel
theorem dX16_blows_28 : decode cX16_blows 28 = .ok (.aload_n 0, 1) := by decide +kernel
theorem dX16_blows_29 : decode cX16_blows 29 = .ok (.getfield 10, 3) := by decide +kernel
theorem dX16_blows_32 : decode cX16_blows 32 = .ok (.aload_n 0, 1) := by decide +kernel
theorem dX16_blows_33 : decode cX16_blows 33 = .ok (.getfield 69, 3) := by decide +kernel
theorem dX16_blows_36 : decode cX16_blows 36 = .ok (.iload_n 3, 1) := by decide +kernel
theorem dX16_blows_37 : decode cX16_blows 37 = .ok (.iaload, 1) := by decide +kernel
theorem dX16_blows_38 : decode cX16_blows 38 = .ok (.invokevirtual 162, 3) := by decide +kernel
theorem dX16_blows_41 : decode cX16_blows 41 = .ok (.checkcast 166, 3) := by decide +kernel
theorem dX16_blows_44 : decode cX16_blows 44 = .ok (.getfield 274, 3) := by decide +kernel
theorem dX16_blows_47 : decode cX16_blows 47 = .ok (.iload_n 1, 1) := by decide +kernel
theorem dX16_blows_48 : decode cX16_blows 48 = .ok (.if_icmp .ne 25, 3) := by decide +kernel
theorem dX16_blows_51 : decode cX16_blows 51 = .ok (.aload_n 0, 1) := by decide +kernel
theorem dX16_blows_52 : decode cX16_blows 52 = .ok (.getfield 10, 3) := by decide +kernel
theorem dX16_blows_55 : decode cX16_blows 55 = .ok (.aload_n 0, 1) := by decide +kernel
theorem dX16_blows_56 : decode cX16_blows 56 = .ok (.getfield 69, 3) := by decide +kernel
theorem dX16_blows_59 : decode cX16_blows 59 = .ok (.iload_n 3, 1) := by decide +kernel
theorem dX16_blows_60 : decode cX16_blows 60 = .ok (.iaload, 1) := by decide +kernel
theorem dX16_blows_61 : decode cX16_blows 61 = .ok (.invokevirtual 162, 3) := by decide +kernel
theorem dX16_blows_64 : decode cX16_blows 64 = .ok (.checkcast 166, 3) := by decide +kernel
theorem dX16_blows_67 : decode cX16_blows 67 = .ok (.getfield 275, 3) := by decide +kernel
theorem dX16_blows_70 : decode cX16_blows 70 = .ok (.goto 4, 3) := by decide +kernel
theorem dX16_blows_73 : decode cX16_blows 73 = .ok (.iconst 0, 1) := by decide +kernel
theorem dX16_blows_74 : decode cX16_blows 74 = .ok (.iadd, 1) := by decide +kernel
theorem dX16_blows_75 : decode cX16_blows 75 = .ok (.istore_n 2, 1) := by decide +kernel
theorem dX16_blows_76 : decode cX16_blows 76 = .ok (.iinc 3 1, 3) := by decide +kernel
theorem dX16_blows_79 : decode cX16_blows 79 = .ok (.goto (-68), 3) := by decide +kernel
theorem dX16_blows_82 : decode cX16_blows 82 = .ok (.iconst 0, 1) := by decide +kernel
theorem dX16_blows_83 : decode cX16_blows 83 = .ok (.iload_n 2, 1) := by decide +kernel
theorem dX16_blows_84 : decode cX16_blows 84 = .ok (.aload_n 0, 1) := by decide +kernel
theorem dX16_blows_85 : decode cX16_blows 85 = .ok (.getfield 76, 3) := by decide +kernel
theorem dX16_blows_88 : decode cX16_blows 88 = .ok (.iload_n 1, 1) := by decide +kernel
theorem dX16_blows_89 : decode cX16_blows 89 = .ok (.iaload, 1) := by decide +kernel
theorem dX16_blows_90 : decode cX16_blows 90 = .ok (.isub, 1) := by decide +kernel
theorem dX16_blows_91 : decode cX16_blows 91 = .ok (.invokestatic 278, 3) := by decide +kernel
theorem dX16_blows_94 : decode cX16_blows 94 = .ok (.istore_n 3, 1) := by decide +kernel
theorem dX16_blows_95 : decode cX16_blows 95 = .ok (.aload_n 0, 1) := by decide +kernel
theorem dX16_blows_96 : decode cX16_blows 96 = .ok (.getfield 85, 3) := by decide +kernel
theorem dX16_blows_99 : decode cX16_blows 99 = .ok (.iload_n 1, 1) := by decide +kernel
theorem dX16_blows_100 : decode cX16_blows 100 = .ok (.iconst 0, 1) := by decide +kernel
theorem dX16_blows_101 : decode cX16_blows 101 = .ok (.bipush 100, 2) := by decide +kernel
theorem dX16_blows_103 : decode cX16_blows 103 = .ok (.iload_n 3, 1) := by decide +kernel
theorem dX16_blows_104 : decode cX16_blows 104 = .ok (.iconst 1, 1) := by decide +kernel
theorem dX16_blows_105 : decode cX16_blows 105 = .ok (.iadd, 1) := by decide +kernel
theorem dX16_blows_106 : decode cX16_blows 106 = .ok (.iconst 2, 1) := by decide +kernel
theorem dX16_blows_107 : decode cX16_blows 107 = .ok (.idiv, 1) := by decide +kernel
theorem dX16_blows_108 : decode cX16_blows 108 = .ok (.isub, 1) := by decide +kernel
theorem dX16_blows_109 : decode cX16_blows 109 = .ok (.aload_n 0, 1) := by decide +kernel
theorem dX16_blows_110 : decode cX16_blows 110 = .ok (.iload_n 1, 1) := by decide +kernel
theorem dX16_blows_111 : decode cX16_blows 111 = .ok (.invokevirtual 283, 3) := by decide +kernel
theorem dX16_blows_114 : decode cX16_blows 114 = .ok (.ifCond .eq 8, 3) := by decide +kernel
theorem dX16_blows_117 : decode cX16_blows 117 = .ok (.bipush 10, 2) := by decide +kernel
theorem dX16_blows_119 : decode cX16_blows 119 = .ok (.goto 4, 3) := by decide +kernel
theorem dX16_blows_122 : decode cX16_blows 122 = .ok (.iconst 0, 1) := by decide +kernel
theorem dX16_blows_123 : decode cX16_blows 123 = .ok (.isub, 1) := by decide +kernel
theorem dX16_blows_124 : decode cX16_blows 124 = .ok (.invokestatic 278, 3) := by decide +kernel
theorem dX16_blows_127 : decode cX16_blows 127 = .ok (.iastore, 1) := by decide +kernel
theorem dX16_blows_128 : decode cX16_blows 128 = .ok (.iinc 1 1, 3) := by decide +kernel
theorem dX16_blows_131 : decode cX16_blows 131 = .ok (.goto (-129), 3) := by decide +kernel
theorem dX16_blows_134 : decode cX16_blows 134 = .ok (.return_, 1) := by decide +kernel
theorem dX16_moves_0 : decode cX16_moves 0 = .ok (.aload_n 0, 1) := by decide +kernel
theorem dX16_moves_1 : decode cX16_moves 1 = .ok (.getfield 10, 3) := by decide +kernel
theorem dX16_moves_4 : decode cX16_moves 4 = .ok (.aload_n 0, 1) := by decide +kernel
theorem dX16_moves_5 : decode cX16_moves 5 = .ok (.getfield 69, 3) := by decide +kernel
theorem dX16_moves_8 : decode cX16_moves 8 = .ok (.iload_n 1, 1) := by decide +kernel
theorem dX16_moves_9 : decode cX16_moves 9 = .ok (.iaload, 1) := by decide +kernel
theorem dX16_moves_10 : decode cX16_moves 10 = .ok (.invokevirtual 162, 3) := by decide +kernel
theorem dX16_moves_13 : decode cX16_moves 13 = .ok (.checkcast 166, 3) := by decide +kernel
theorem dX16_moves_16 : decode cX16_moves 16 = .ok (.astore_n 2, 1) := by decide +kernel
theorem dX16_moves_17 : decode cX16_moves 17 = .ok (.aload_n 0, 1) := by decide +kernel
theorem dX16_moves_18 : decode cX16_moves 18 = .ok (.getfield 38, 3) := by decide +kernel
theorem dX16_moves_21 : decode cX16_moves 21 = .ok (.iload_n 1, 1) := by decide +kernel
theorem dX16_moves_22 : decode cX16_moves 22 = .ok (.baload, 1) := by decide +kernel
theorem dX16_moves_23 : decode cX16_moves 23 = .ok (.ifCond .eq 58, 3) := by decide +kernel
theorem dX16_moves_26 : decode cX16_moves 26 = .ok (.aload_n 0, 1) := by decide +kernel
theorem dX16_moves_27 : decode cX16_moves 27 = .ok (.getfield 44, 3) := by decide +kernel
theorem dX16_moves_30 : decode cX16_moves 30 = .ok (.iload_n 1, 1) := by decide +kernel
theorem dX16_moves_31 : decode cX16_moves 31 = .ok (.baload, 1) := by decide +kernel
theorem dX16_moves_32 : decode cX16_moves 32 = .ok (.ifCond .ne 49, 3) := by decide +kernel
theorem dX16_moves_35 : decode cX16_moves 35 = .ok (.aload_n 0, 1) := by decide +kernel
theorem dX16_moves_36 : decode cX16_moves 36 = .ok (.getfield 218, 3) := by decide +kernel
theorem dX16_moves_39 : decode cX16_moves 39 = .ok (.aload_n 0, 1) := by decide +kernel
theorem dX16_moves_40 : decode cX16_moves 40 = .ok (.getfield 57, 3) := by decide +kernel
theorem dX16_moves_43 : decode cX16_moves 43 = .ok (.iload_n 1, 1) := by decide +kernel
theorem dX16_moves_44 : decode cX16_moves 44 = .ok (.iaload, 1) := by decide +kernel
theorem dX16_moves_45 : decode cX16_moves 45 = .ok (.isub, 1) := by decide +kernel
theorem dX16_moves_46 : decode cX16_moves 46 = .ok (.aload_n 2, 1) := by decide +kernel
theorem dX16_moves_47 : decode cX16_moves 47 = .ok (.getfield 286, 3) := by decide +kernel
theorem dX16_moves_50 : decode cX16_moves 50 = .ok (.if_icmp .lt 31, 3) := by decide +kernel
theorem dX16_moves_53 : decode cX16_moves 53 = .ok (.aload_n 0, 1) := by decide +kernel
theorem dX16_moves_54 : decode cX16_moves 54 = .ok (.getfield 218, 3) := by decide +kernel
theorem dX16_moves_57 : decode cX16_moves 57 = .ok (.aload_n 0, 1) := by decide +kernel
theorem dX16_moves_58 : decode cX16_moves 58 = .ok (.getfield 60, 3) := by decide +kernel
theorem dX16_moves_61 : decode cX16_moves 61 = .ok (.iload_n 1, 1) := by decide +kernel
theorem dX16_moves_62 : decode cX16_moves 62 = .ok (.iaload, 1) := by decide +kernel
theorem dX16_moves_63 : decode cX16_moves 63 = .ok (.isub, 1) := by decide +kernel
theorem dX16_moves_64 : decode cX16_moves 64 = .ok (.aload_n 2, 1) := by decide +kernel
theorem dX16_moves_65 : decode cX16_moves 65 = .ok (.getfield 289, 3) := by decide +kernel
theorem dX16_moves_68 : decode cX16_moves 68 = .ok (.if_icmp .lt 13, 3) := by decide +kernel
theorem dX16_moves_71 : decode cX16_moves 71 = .ok (.aload_n 0, 1) := by decide +kernel
theorem dX16_moves_72 : decode cX16_moves 72 = .ok (.getfield 44, 3) := by decide +kernel
theorem dX16_moves_75 : decode cX16_moves 75 = .ok (.iload_n 1, 1) := by decide +kernel
theorem dX16_moves_76 : decode cX16_moves 76 = .ok (.iconst 1, 1) := by decide +kernel
theorem dX16_moves_77 : decode cX16_moves 77 = .ok (.bastore, 1) := by decide +kernel
theorem dX16_moves_78 : decode cX16_moves 78 = .ok (.goto 56, 3) := by decide +kernel
theorem dX16_moves_81 : decode cX16_moves 81 = .ok (.aload_n 0, 1) := by decide +kernel
theorem dX16_moves_82 : decode cX16_moves 82 = .ok (.getfield 38, 3) := by decide +kernel
theorem dX16_moves_85 : decode cX16_moves 85 = .ok (.iload_n 1, 1) := by decide +kernel
theorem dX16_moves_86 : decode cX16_moves 86 = .ok (.baload, 1) := by decide +kernel
theorem dX16_moves_87 : decode cX16_moves 87 = .ok (.ifCond .ne 47, 3) := by decide +kernel
theorem dX16_moves_90 : decode cX16_moves 90 = .ok (.aload_n 0, 1) := by decide +kernel
theorem dX16_moves_91 : decode cX16_moves 91 = .ok (.getfield 44, 3) := by decide +kernel
theorem dX16_moves_94 : decode cX16_moves 94 = .ok (.iload_n 1, 1) := by decide +kernel
theorem dX16_moves_95 : decode cX16_moves 95 = .ok (.baload, 1) := by decide +kernel
theorem dX16_moves_96 : decode cX16_moves 96 = .ok (.ifCond .eq 38, 3) := by decide +kernel
theorem dX16_moves_99 : decode cX16_moves 99 = .ok (.aload_n 0, 1) := by decide +kernel
theorem dX16_moves_100 : decode cX16_moves 100 = .ok (.getfield 218, 3) := by decide +kernel
theorem dX16_moves_103 : decode cX16_moves 103 = .ok (.aload_n 0, 1) := by decide +kernel
theorem dX16_moves_104 : decode cX16_moves 104 = .ok (.getfield 57, 3) := by decide +kernel
theorem dX16_moves_107 : decode cX16_moves 107 = .ok (.iload_n 1, 1) := by decide +kernel
theorem dX16_moves_108 : decode cX16_moves 108 = .ok (.iaload, 1) := by decide +kernel
theorem dX16_moves_109 : decode cX16_moves 109 = .ok (.isub, 1) := by decide +kernel
theorem dX16_moves_110 : decode cX16_moves 110 = .ok (.aload_n 2, 1) := by decide +kernel
theorem dX16_moves_111 : decode cX16_moves 111 = .ok (.getfield 286, 3) := by decide +kernel
theorem dX16_moves_114 : decode cX16_moves 114 = .ok (.if_icmp .lt 20, 3) := by decide +kernel
theorem dX16_moves_117 : decode cX16_moves 117 = .ok (.aload_n 0, 1) := by decide +kernel
theorem dX16_moves_118 : decode cX16_moves 118 = .ok (.getfield 44, 3) := by decide +kernel
theorem dX16_moves_121 : decode cX16_moves 121 = .ok (.iload_n 1, 1) := by decide +kernel
theorem dX16_moves_122 : decode cX16_moves 122 = .ok (.iconst 0, 1) := by decide +kernel
theorem dX16_moves_123 : decode cX16_moves 123 = .ok (.bastore, 1) := by decide +kernel
theorem dX16_moves_124 : decode cX16_moves 124 = .ok (.aload_n 0, 1) := by decide +kernel
theorem dX16_moves_125 : decode cX16_moves 125 = .ok (.getfield 60, 3) := by decide +kernel
theorem dX16_moves_128 : decode cX16_moves 128 = .ok (.iload_n 1, 1) := by decide +kernel
theorem dX16_moves_129 : decode cX16_moves 129 = .ok (.aload_n 0, 1) := by decide +kernel
theorem dX16_moves_130 : decode cX16_moves 130 = .ok (.getfield 218, 3) := by decide +kernel
theorem dX16_moves_133 : decode cX16_moves 133 = .ok (.iastore, 1) := by decide +kernel
theorem dX16_moves_134 : decode cX16_moves 134 = .ok (.return_, 1) := by decide +kernel
theorem dX16_settles_0 : decode cX16_settles 0 = .ok (.aload_n 0, 1) := by decide +kernel
theorem dX16_settles_1 : decode cX16_settles 1 = .ok (.invokevirtual 292, 3) := by decide +kernel
theorem dX16_settles_4 : decode cX16_settles 4 = .ok (.iconst 0, 1) := by decide +kernel
theorem dX16_settles_5 : decode cX16_settles 5 = .ok (.istore_n 1, 1) := by decide +kernel
theorem dX16_settles_6 : decode cX16_settles 6 = .ok (.iload_n 1, 1) := by decide +kernel
theorem dX16_settles_7 : decode cX16_settles 7 = .ok (.aload_n 0, 1) := by decide +kernel
theorem dX16_settles_8 : decode cX16_settles 8 = .ok (.getfield 251, 3) := by decide +kernel
theorem dX16_settles_11 : decode cX16_settles 11 = .ok (.if_icmp .ge 118, 3) := by decide +kernel
theorem dX16_settles_14 : decode cX16_settles 14 = .ok (.aload_n 0, 1) := by decide +kernel
theorem dX16_settles_15 : decode cX16_settles 15 = .ok (.getfield 54, 3) := by decide +kernel
theorem dX16_settles_18 : decode cX16_settles 18 = .ok (.iload_n 1, 1) := by decide +kernel
theorem dX16_settles_19 : decode cX16_settles 19 = .ok (.iaload, 1) := by decide +kernel
theorem dX16_settles_20 : decode cX16_settles 20 = .ok (.ifCond .le 7, 3) := by decide +kernel
theorem dX16_settles_23 : decode cX16_settles 23 = .ok (.iconst 1, 1) := by decide +kernel
theorem dX16_settles_24 : decode cX16_settles 24 = .ok (.goto 4, 3) := by decide +kernel
theorem dX16_settles_27 : decode cX16_settles 27 = .ok (.iconst 0, 1) := by decide +kernel
theorem dX16_settles_28 : decode cX16_settles 28 = .ok (.istore_n 2, 1) := by decide +kernel
theorem dX16_settles_29 : decode cX16_settles 29 = .ok (.iload_n 2, 1) := by decide +kernel
theorem dX16_settles_30 : decode cX16_settles 30 = .ok (.aload_n 0, 1) := by decide +kernel
theorem dX16_settles_31 : decode cX16_settles 31 = .ok (.getfield 41, 3) := by decide +kernel
theorem dX16_settles_34 : decode cX16_settles 34 = .ok (.iload_n 1, 1) := by decide +kernel
theorem dX16_settles_35 : decode cX16_settles 35 = .ok (.baload, 1) := by decide +kernel
theorem dX16_settles_36 : decode cX16_settles 36 = .ok (.if_icmp .eq 34, 3) := by decide +kernel
theorem dX16_settles_39 : decode cX16_settles 39 = .ok (.aload_n 0, 1) := by decide +kernel
theorem dX16_settles_40 : decode cX16_settles 40 = .ok (.getfield 115, 3) := by decide +kernel
theorem dX16_settles_43 : decode cX16_settles 43 = .ok (.bipush 114, 2) := by decide +kernel
theorem dX16_settles_45 : decode cX16_settles 45 = .ok (.if_icmp .ne 25, 3) := by decide +kernel
theorem dX16_settles_48 : decode cX16_settles 48 = .ok (.aload_n 0, 1) := by decide +kernel
theorem dX16_settles_49 : decode cX16_settles 49 = .ok (.getfield 19, 3) := by decide +kernel
theorem dX16_settles_52 : decode cX16_settles 52 = .ok (.new 295, 3) := by decide +kernel
theorem dX16_settles_55 : decode cX16_settles 55 = .ok (.dup, 1) := by decide +kernel
theorem dX16_settles_56 : decode cX16_settles 56 = .ok (.iconst (-1), 1) := by decide +kernel
theorem dX16_settles_57 : decode cX16_settles 57 = .ok (.iload_n 1, 1) := by decide +kernel
theorem dX16_settles_58 : decode cX16_settles 58 = .ok (.iload_n 2, 1) := by decide +kernel
theorem dX16_settles_59 : decode cX16_settles 59 = .ok (.aload_n 0, 1) := by decide +kernel
theorem dX16_settles_60 : decode cX16_settles 60 = .ok (.getfield 218, 3) := by decide +kernel
theorem dX16_settles_63 : decode cX16_settles 63 = .ok (.invokespecial 297, 3) := by decide +kernel
theorem dX16_settles_66 : decode cX16_settles 66 = .ok (.invokevirtual 131, 3) := by decide +kernel
theorem dX16_settles_69 : decode cX16_settles 69 = .ok (.pop, 1) := by decide +kernel
theorem dX16_settles_70 : decode cX16_settles 70 = .ok (.aload_n 0, 1) := by decide +kernel
theorem dX16_settles_71 : decode cX16_settles 71 = .ok (.getfield 41, 3) := by decide +kernel
theorem dX16_settles_74 : decode cX16_settles 74 = .ok (.iload_n 1, 1) := by decide +kernel
theorem dX16_settles_75 : decode cX16_settles 75 = .ok (.iload_n 2, 1) := by decide +kernel
theorem dX16_settles_76 : decode cX16_settles 76 = .ok (.bastore, 1) := by decide +kernel
theorem dX16_settles_77 : decode cX16_settles 77 = .ok (.iload_n 2, 1) := by decide +kernel
theorem dX16_settles_78 : decode cX16_settles 78 = .ok (.ifCond .ne 12, 3) := by decide +kernel
theorem dX16_settles_81 : decode cX16_settles 81 = .ok (.aload_n 0, 1) := by decide +kernel
theorem dX16_settles_82 : decode cX16_settles 82 = .ok (.getfield 35, 3) := by decide +kernel
theorem dX16_settles_85 : decode cX16_settles 85 = .ok (.iload_n 1, 1) := by decide +kernel
theorem dX16_settles_86 : decode cX16_settles 86 = .ok (.baload, 1) := by decide +kernel
theorem dX16_settles_87 : decode cX16_settles 87 = .ok (.ifCond .eq 7, 3) := by decide +kernel
theorem dX16_settles_90 : decode cX16_settles 90 = .ok (.iconst 1, 1) := by decide +kernel
theorem dX16_settles_91 : decode cX16_settles 91 = .ok (.goto 4, 3) := by decide +kernel
theorem dX16_settles_94 : decode cX16_settles 94 = .ok (.iconst 0, 1) := by decide +kernel
theorem dX16_settles_95 : decode cX16_settles 95 = .ok (.istore_n 3, 1) := by decide +kernel
theorem dX16_settles_96 : decode cX16_settles 96 = .ok (.iload_n 3, 1) := by decide +kernel
theorem dX16_settles_97 : decode cX16_settles 97 = .ok (.aload_n 0, 1) := by decide +kernel
theorem dX16_settles_98 : decode cX16_settles 98 = .ok (.getfield 38, 3) := by decide +kernel
theorem dX16_settles_101 : decode cX16_settles 101 = .ok (.iload_n 1, 1) := by decide +kernel
theorem dX16_settles_102 : decode cX16_settles 102 = .ok (.baload, 1) := by decide +kernel
theorem dX16_settles_103 : decode cX16_settles 103 = .ok (.if_icmp .eq 13, 3) := by decide +kernel
theorem dX16_settles_106 : decode cX16_settles 106 = .ok (.aload_n 0, 1) := by decide +kernel
theorem dX16_settles_107 : decode cX16_settles 107 = .ok (.getfield 57, 3) := by decide +kernel
theorem dX16_settles_110 : decode cX16_settles 110 = .ok (.iload_n 1, 1) := by decide +kernel
theorem dX16_settles_111 : decode cX16_settles 111 = .ok (.aload_n 0, 1) := by decide +kernel
theorem dX16_settles_112 : decode cX16_settles 112 = .ok (.getfield 218, 3) := by decide +kernel
theorem dX16_settles_115 : decode cX16_settles 115 = .ok (.iastore, 1) := by decide +kernel
theorem dX16_settles_116 : decode cX16_settles 116 = .ok (.aload_n 0, 1) := by decide +kernel
theorem dX16_settles_117 : decode cX16_settles 117 = .ok (.getfield 38, 3) := by decide +kernel
theorem dX16_settles_120 : decode cX16_settles 120 = .ok (.iload_n 1, 1) := by decide +kernel
theorem dX16_settles_121 : decode cX16_settles 121 = .ok (.iload_n 3, 1) := by decide +kernel
theorem dX16_settles_122 : decode cX16_settles 122 = .ok (.bastore, 1) := by decide +kernel
theorem dX16_settles_123 : decode cX16_settles 123 = .ok (.iinc 1 1, 3) := by decide +kernel
theorem dX16_settles_126 : decode cX16_settles 126 = .ok (.goto (-120), 3) := by decide +kernel
theorem dX16_settles_129 : decode cX16_settles 129 = .ok (.iconst 0, 1) := by decide +kernel
theorem dX16_settles_130 : decode cX16_settles 130 = .ok (.istore_n 1, 1) := by decide +kernel
theorem dX16_settles_131 : decode cX16_settles 131 = .ok (.iload_n 1, 1) := by decide +kernel
theorem dX16_settles_132 : decode cX16_settles 132 = .ok (.aload_n 0, 1) := by decide +kernel
theorem dX16_settles_133 : decode cX16_settles 133 = .ok (.getfield 251, 3) := by decide +kernel
theorem dX16_settles_136 : decode cX16_settles 136 = .ok (.if_icmp .ge 14, 3) := by decide +kernel
theorem dX16_settles_139 : decode cX16_settles 139 = .ok (.aload_n 0, 1) := by decide +kernel
theorem dX16_settles_140 : decode cX16_settles 140 = .ok (.iload_n 1, 1) := by decide +kernel
theorem dX16_settles_141 : decode cX16_settles 141 = .ok (.invokevirtual 300, 3) := by decide +kernel
theorem dX16_settles_144 : decode cX16_settles 144 = .ok (.iinc 1 1, 3) := by decide +kernel
theorem dX16_settles_147 : decode cX16_settles 147 = .ok (.goto (-16), 3) := by decide +kernel
theorem dX16_settles_150 : decode cX16_settles 150 = .ok (.aload_n 0, 1) := by decide +kernel
theorem dX16_settles_151 : decode cX16_settles 151 = .ok (.invokevirtual 304, 3) := by decide +kernel
theorem dX16_settles_154 : decode cX16_settles 154 = .ok (.iconst 0, 1) := by decide +kernel
theorem dX16_settles_155 : decode cX16_settles 155 = .ok (.istore_n 1, 1) := by decide +kernel
theorem dX16_settles_156 : decode cX16_settles 156 = .ok (.iload_n 1, 1) := by decide +kernel
theorem dX16_settles_157 : decode cX16_settles 157 = .ok (.aload_n 0, 1) := by decide +kernel
theorem dX16_settles_158 : decode cX16_settles 158 = .ok (.getfield 251, 3) := by decide +kernel
theorem dX16_settles_161 : decode cX16_settles 161 = .ok (.if_icmp .ge 138, 3) := by decide +kernel
theorem dX16_settles_164 : decode cX16_settles 164 = .ok (.aload_n 0, 1) := by decide +kernel
theorem dX16_settles_165 : decode cX16_settles 165 = .ok (.iload_n 1, 1) := by decide +kernel
theorem dX16_settles_166 : decode cX16_settles 166 = .ok (.invokevirtual 271, 3) := by decide +kernel
theorem dX16_settles_169 : decode cX16_settles 169 = .ok (.ifCond .eq 34, 3) := by decide +kernel
theorem dX16_settles_172 : decode cX16_settles 172 = .ok (.aload_n 0, 1) := by decide +kernel
theorem dX16_settles_173 : decode cX16_settles 173 = .ok (.getfield 85, 3) := by decide +kernel
theorem dX16_settles_176 : decode cX16_settles 176 = .ok (.aload_n 0, 1) := by decide +kernel
theorem dX16_settles_177 : decode cX16_settles 177 = .ok (.getfield 10, 3) := by decide +kernel
theorem dX16_settles_180 : decode cX16_settles 180 = .ok (.aload_n 0, 1) := by decide +kernel
theorem dX16_settles_181 : decode cX16_settles 181 = .ok (.getfield 69, 3) := by decide +kernel
theorem dX16_settles_184 : decode cX16_settles 184 = .ok (.iload_n 1, 1) := by decide +kernel
theorem dX16_settles_185 : decode cX16_settles 185 = .ok (.iaload, 1) := by decide +kernel
theorem dX16_settles_186 : decode cX16_settles 186 = .ok (.invokevirtual 162, 3) := by decide +kernel
theorem dX16_settles_189 : decode cX16_settles 189 = .ok (.checkcast 166, 3) := by decide +kernel
theorem dX16_settles_192 : decode cX16_settles 192 = .ok (.getfield 274, 3) := by decide +kernel
theorem dX16_settles_195 : decode cX16_settles 195 = .ok (.iaload, 1) := by decide +kernel
theorem dX16_settles_196 : decode cX16_settles 196 = .ok (.ifCond .le 7, 3) := by decide +kernel
theorem dX16_settles_199 : decode cX16_settles 199 = .ok (.iconst 1, 1) := by decide +kernel
theorem dX16_settles_200 : decode cX16_settles 200 = .ok (.goto 4, 3) := by decide +kernel
theorem dX16_settles_203 : decode cX16_settles 203 = .ok (.iconst 0, 1) := by decide +kernel
theorem dX16_settles_204 : decode cX16_settles 204 = .ok (.istore_n 2, 1) := by decide +kernel
theorem dX16_settles_205 : decode cX16_settles 205 = .ok (.aload_n 0, 1) := by decide +kernel
theorem dX16_settles_206 : decode cX16_settles 206 = .ok (.getfield 63, 3) := by decide +kernel
theorem dX16_settles_209 : decode cX16_settles 209 = .ok (.iload_n 1, 1) := by decide +kernel
theorem dX16_settles_210 : decode cX16_settles 210 = .ok (.dup2, 1) := by decide +kernel
theorem dX16_settles_211 : decode cX16_settles 211 = .ok (.iaload, 1) := by decide +kernel
theorem dX16_settles_212 : decode cX16_settles 212 = .ok (.iload_n 2, 1) := by decide +kernel
theorem dX16_settles_213 : decode cX16_settles 213 = .ok (.ifCond .eq 16, 3) := by decide +kernel
theorem dX16_settles_216 : decode cX16_settles 216 = .ok (.aload_n 0, 1) := by decide +kernel
theorem dX16_settles_217 : decode cX16_settles 217 = .ok (.getfield 47, 3) := by decide +kernel
theorem dX16_settles_220 : decode cX16_settles 220 = .ok (.iload_n 1, 1) := by decide +kernel
theorem dX16_settles_221 : decode cX16_settles 221 = .ok (.baload, 1) := by decide +kernel
theorem dX16_settles_222 : decode cX16_settles 222 = .ok (.ifCond .ne 7, 3) := by decide +kernel
theorem dX16_settles_225 : decode cX16_settles 225 = .ok (.iconst 1, 1) := by decide +kernel
theorem dX16_settles_226 : decode cX16_settles 226 = .ok (.goto 4, 3) := by decide +kernel
theorem dX16_settles_229 : decode cX16_settles 229 = .ok (.iconst 0, 1) := by decide +kernel
theorem dX16_settles_230 : decode cX16_settles 230 = .ok (.iadd, 1) := by decide +kernel
theorem dX16_settles_231 : decode cX16_settles 231 = .ok (.iastore, 1) := by decide +kernel
theorem dX16_settles_232 : decode cX16_settles 232 = .ok (.aload_n 0, 1) := by decide +kernel
theorem dX16_settles_233 : decode cX16_settles 233 = .ok (.dup, 1) := by decide +kernel
theorem dX16_settles_234 : decode cX16_settles 234 = .ok (.getfield 307, 3) := by decide +kernel
theorem dX16_settles_237 : decode cX16_settles 237 = .ok (.iload_n 2, 1) := by decide +kernel
theorem dX16_settles_238 : decode cX16_settles 238 = .ok (.ifCond .eq 16, 3) := by decide +kernel
theorem dX16_settles_241 : decode cX16_settles 241 = .ok (.aload_n 0, 1) := by decide +kernel
theorem dX16_settles_242 : decode cX16_settles 242 = .ok (.getfield 47, 3) := by decide +kernel
theorem dX16_settles_245 : decode cX16_settles 245 = .ok (.iload_n 1, 1) := by decide +kernel
theorem dX16_settles_246 : decode cX16_settles 246 = .ok (.baload, 1) := by decide +kernel
theorem dX16_settles_247 : decode cX16_settles 247 = .ok (.ifCond .ne 7, 3) := by decide +kernel
theorem dX16_settles_250 : decode cX16_settles 250 = .ok (.lconst 1, 1) := by decide +kernel
theorem dX16_settles_251 : decode cX16_settles 251 = .ok (.goto 4, 3) := by decide +kernel
theorem dX16_settles_254 : decode cX16_settles 254 = .ok (.lconst 0, 1) := by decide +kernel
theorem dX16_settles_255 : decode cX16_settles 255 = .ok (.ladd, 1) := by decide +kernel
theorem dX16_settles_256 : decode cX16_settles 256 = .ok (.putfield 307, 3) := by decide +kernel
theorem dX16_settles_259 : decode cX16_settles 259 = .ok (.aload_n 0, 1) := by decide +kernel
theorem dX16_settles_260 : decode cX16_settles 260 = .ok (.dup, 1) := by decide +kernel
theorem dX16_settles_261 : decode cX16_settles 261 = .ok (.getfield 311, 3) := by decide +kernel
theorem dX16_settles_264 : decode cX16_settles 264 = .ok (.iload_n 2, 1) := by decide +kernel
theorem dX16_settles_265 : decode cX16_settles 265 = .ok (.ifCond .ne 16, 3) := by decide +kernel
theorem dX16_settles_268 : decode cX16_settles 268 = .ok (.aload_n 0, 1) := by decide +kernel
theorem dX16_settles_269 : decode cX16_settles 269 = .ok (.getfield 47, 3) := by decide +kernel
theorem dX16_settles_272 : decode cX16_settles 272 = .ok (.iload_n 1, 1) := by decide +kernel
theorem dX16_settles_273 : decode cX16_settles 273 = .ok (.baload, 1) := by decide +kernel
theorem dX16_settles_274 : decode cX16_settles 274 = .ok (.ifCond .eq 7, 3) := by decide +kernel
theorem dX16_settles_277 : decode cX16_settles 277 = .ok (.lconst 1, 1) := by decide +kernel
theorem dX16_settles_278 : decode cX16_settles 278 = .ok (.goto 4, 3) := by decide +kernel
theorem dX16_settles_281 : decode cX16_settles 281 = .ok (.lconst 0, 1) := by decide +kernel
theorem dX16_settles_282 : decode cX16_settles 282 = .ok (.ladd, 1) := by decide +kernel
theorem dX16_settles_283 : decode cX16_settles 283 = .ok (.putfield 311, 3) := by decide +kernel
theorem dX16_settles_286 : decode cX16_settles 286 = .ok (.aload_n 0, 1) := by decide +kernel
theorem dX16_settles_287 : decode cX16_settles 287 = .ok (.getfield 47, 3) := by decide +kernel
theorem dX16_settles_290 : decode cX16_settles 290 = .ok (.iload_n 1, 1) := by decide +kernel
theorem dX16_settles_291 : decode cX16_settles 291 = .ok (.iload_n 2, 1) := by decide +kernel
theorem dX16_settles_292 : decode cX16_settles 292 = .ok (.bastore, 1) := by decide +kernel
theorem dX16_settles_293 : decode cX16_settles 293 = .ok (.iinc 1 1, 3) := by decide +kernel
theorem dX16_settles_296 : decode cX16_settles 296 = .ok (.goto (-140), 3) := by decide +kernel
theorem dX16_settles_299 : decode cX16_settles 299 = .ok (.return_, 1) := by decide +kernel
theorem dX16_settled_0 : decode cX16_settled 0 = .ok (.aload_n 0, 1) := by decide +kernel
theorem dX16_settled_1 : decode cX16_settled 1 = .ok (.invokevirtual 314, 3) := by decide +kernel
theorem dX16_settled_4 : decode cX16_settled 4 = .ok (.aload_n 0, 1) := by decide +kernel
theorem dX16_settled_5 : decode cX16_settled 5 = .ok (.iload_n 1, 1) := by decide +kernel
theorem dX16_settled_6 : decode cX16_settled 6 = .ok (.invokevirtual 317, 3) := by decide +kernel
theorem dX16_settled_9 : decode cX16_settled 9 = .ok (.ireturn, 1) := by decide +kernel
theorem dX16_settledSo_0 : decode cX16_settledSo 0 = .ok (.aload_n 0, 1) := by decide +kernel
theorem dX16_settledSo_1 : decode cX16_settledSo 1 = .ok (.invokevirtual 314, 3) := by decide +kernel
theorem dX16_settledSo_4 : decode cX16_settledSo 4 = .ok (.aload_n 0, 1) := by decide +kernel
theorem dX16_settledSo_5 : decode cX16_settledSo 5 = .ok (.iload_n 1, 1) := by decide +kernel
theorem dX16_settledSo_6 : decode cX16_settledSo 6 = .ok (.invokevirtual 320, 3) := by decide +kernel
theorem dX16_settledSo_9 : decode cX16_settledSo 9 = .ok (.ireturn, 1) := by decide +kernel
theorem dX16_rank_0 : decode cX16_rank 0 = .ok (.iload_n 1, 1) := by decide +kernel
theorem dX16_rank_1 : decode cX16_rank 1 = .ok (.iconst 0, 1) := by decide +kernel
theorem dX16_rank_2 : decode cX16_rank 2 = .ok (.bipush 127, 2) := by decide +kernel
theorem dX16_rank_4 : decode cX16_rank 4 = .ok (.invokestatic 143, 3) := by decide +kernel
theorem dX16_rank_7 : decode cX16_rank 7 = .ok (.ifCond .eq 66, 3) := by decide +kernel
theorem dX16_rank_10 : decode cX16_rank 10 = .ok (.iload_n 2, 1) := by decide +kernel
theorem dX16_rank_11 : decode cX16_rank 11 = .ok (.iload_n 1, 1) := by decide +kernel
theorem dX16_rank_12 : decode cX16_rank 12 = .ok (.bipush 127, 2) := by decide +kernel
theorem dX16_rank_14 : decode cX16_rank 14 = .ok (.invokestatic 143, 3) := by decide +kernel
theorem dX16_rank_17 : decode cX16_rank 17 = .ok (.ifCond .eq 56, 3) := by decide +kernel
theorem dX16_rank_20 : decode cX16_rank 20 = .ok (.iload_n 3, 1) := by decide +kernel
theorem dX16_rank_21 : decode cX16_rank 21 = .ok (.iconst 1, 1) := by decide +kernel
theorem dX16_rank_22 : decode cX16_rank 22 = .ok (.bipush 9, 2) := by decide +kernel
theorem dX16_rank_24 : decode cX16_rank 24 = .ok (.invokestatic 143, 3) := by decide +kernel
theorem dX16_rank_27 : decode cX16_rank 27 = .ok (.ifCond .eq 46, 3) := by decide +kernel
theorem dX16_rank_30 : decode cX16_rank 30 = .ok (.iload 4, 2) := by decide +kernel
theorem dX16_rank_32 : decode cX16_rank 32 = .ok (.invokestatic 147, 3) := by decide +kernel
theorem dX16_rank_35 : decode cX16_rank 35 = .ok (.ifCond .eq 38, 3) := by decide +kernel
theorem dX16_rank_38 : decode cX16_rank 38 = .ok (.iload 5, 2) := by decide +kernel
theorem dX16_rank_40 : decode cX16_rank 40 = .ok (.iconst 0, 1) := by decide +kernel
theorem dX16_rank_41 : decode cX16_rank 41 = .ok (.iconst 5, 1) := by decide +kernel
theorem dX16_rank_42 : decode cX16_rank 42 = .ok (.invokestatic 143, 3) := by decide +kernel
theorem dX16_rank_45 : decode cX16_rank 45 = .ok (.ifCond .eq 28, 3) := by decide +kernel
theorem dX16_rank_48 : decode cX16_rank 48 = .ok (.iload 6, 2) := by decide +kernel
theorem dX16_rank_50 : decode cX16_rank 50 = .ok (.iconst 0, 1) := by decide +kernel
theorem dX16_rank_51 : decode cX16_rank 51 = .ok (.iconst 5, 1) := by decide +kernel
theorem dX16_rank_52 : decode cX16_rank 52 = .ok (.invokestatic 143, 3) := by decide +kernel
theorem dX16_rank_55 : decode cX16_rank 55 = .ok (.ifCond .eq 18, 3) := by decide +kernel
theorem dX16_rank_58 : decode cX16_rank 58 = .ok (.iload 7, 2) := by decide +kernel
theorem dX16_rank_60 : decode cX16_rank 60 = .ok (.iconst 1, 1) := by decide +kernel
theorem dX16_rank_61 : decode cX16_rank 61 = .ok (.bipush 99, 2) := by decide +kernel
theorem dX16_rank_63 : decode cX16_rank 63 = .ok (.invokestatic 143, 3) := by decide +kernel
theorem dX16_rank_66 : decode cX16_rank 66 = .ok (.ifCond .eq 7, 3) := by decide +kernel
theorem dX16_rank_69 : decode cX16_rank 69 = .ok (.iconst 1, 1) := by decide +kernel
theorem dX16_rank_70 : decode cX16_rank 70 = .ok (.goto 4, 3) := by decide +kernel
theorem dX16_rank_73 : decode cX16_rank 73 = .ok (.iconst 0, 1) := by decide +kernel
theorem dX16_rank_74 : decode cX16_rank 74 = .ok (.istore 8, 2) := by decide +kernel
theorem dX16_rank_76 : decode cX16_rank 76 = .ok (.iload 8, 2) := by decide +kernel
theorem dX16_rank_78 : decode cX16_rank 78 = .ok (.ifCond .ne 9, 3) := by decide +kernel
theorem dX16_rank_81 : decode cX16_rank 81 = .ok (.aload_n 0, 1) := by decide +kernel
theorem dX16_rank_82 : decode cX16_rank 82 = .ok (.iconst 1, 1) := by decide +kernel
theorem dX16_rank_83 : decode cX16_rank 83 = .ok (.invokevirtual 324, 3) := by decide +kernel
theorem dX16_rank_86 : decode cX16_rank 86 = .ok (.ireturn, 1) := by decide +kernel
theorem dX16_rank_87 : decode cX16_rank 87 = .ok (.aload_n 0, 1) := by decide +kernel
theorem dX16_rank_88 : decode cX16_rank 88 = .ok (.getfield 10, 3) := by decide +kernel
theorem dX16_rank_91 : decode cX16_rank 91 = .ok (.invokevirtual 155, 3) := by decide +kernel
theorem dX16_rank_94 : decode cX16_rank 94 = .ok (.bipush 10, 2) := by decide +kernel
theorem dX16_rank_96 : decode cX16_rank 96 = .ok (.if_icmp .ne 9, 3) := by decide +kernel
theorem dX16_rank_99 : decode cX16_rank 99 = .ok (.aload_n 0, 1) := by decide +kernel
theorem dX16_rank_100 : decode cX16_rank 100 = .ok (.iconst 2, 1) := by decide +kernel
theorem dX16_rank_101 : decode cX16_rank 101 = .ok (.invokevirtual 324, 3) := by decide +kernel
theorem dX16_rank_104 : decode cX16_rank 104 = .ok (.ireturn, 1) := by decide +kernel
theorem dX16_rank_105 : decode cX16_rank 105 = .ok (.new 166, 3) := by decide +kernel
theorem dX16_rank_108 : decode cX16_rank 108 = .ok (.dup, 1) := by decide +kernel
theorem dX16_rank_109 : decode cX16_rank 109 = .ok (.iload_n 1, 1) := by decide +kernel
theorem dX16_rank_110 : decode cX16_rank 110 = .ok (.iload_n 2, 1) := by decide +kernel
theorem dX16_rank_111 : decode cX16_rank 111 = .ok (.iload_n 3, 1) := by decide +kernel
theorem dX16_rank_112 : decode cX16_rank 112 = .ok (.iload 4, 2) := by decide +kernel
theorem dX16_rank_114 : decode cX16_rank 114 = .ok (.iload 5, 2) := by decide +kernel
theorem dX16_rank_116 : decode cX16_rank 116 = .ok (.iload 6, 2) := by decide +kernel
theorem dX16_rank_118 : decode cX16_rank 118 = .ok (.iload 7, 2) := by decide +kernel
theorem dX16_rank_120 : decode cX16_rank 120 = .ok (.aload_n 0, 1) := by decide +kernel
theorem dX16_rank_121 : decode cX16_rank 121 = .ok (.getfield 251, 3) := by decide +kernel
theorem dX16_rank_124 : decode cX16_rank 124 = .ok (.invokespecial 327, 3) := by decide +kernel
theorem dX16_rank_127 : decode cX16_rank 127 = .ok (.astore 9, 2) := by decide +kernel
theorem dX16_rank_129 : decode cX16_rank 129 = .ok (.iconst 0, 1) := by decide +kernel
theorem dX16_rank_130 : decode cX16_rank 130 = .ok (.istore 10, 2) := by decide +kernel
theorem dX16_rank_132 : decode cX16_rank 132 = .ok (.iload 10, 2) := by decide +kernel
theorem dX16_rank_134 : decode cX16_rank 134 = .ok (.aload 9, 2) := by decide +kernel
theorem dX16_rank_136 : decode cX16_rank 136 = .ok (.invokevirtual 330, 3) := by decide +kernel
theorem dX16_rank_139 : decode cX16_rank 139 = .ok (.if_icmp .ge 28, 3) := by decide +kernel
theorem dX16_rank_142 : decode cX16_rank 142 = .ok (.aload_n 0, 1) := by decide +kernel
theorem dX16_rank_143 : decode cX16_rank 143 = .ok (.getfield 69, 3) := by decide +kernel
theorem dX16_rank_146 : decode cX16_rank 146 = .ok (.aload_n 0, 1) := by decide +kernel
theorem dX16_rank_147 : decode cX16_rank 147 = .ok (.getfield 251, 3) := by decide +kernel
theorem dX16_rank_150 : decode cX16_rank 150 = .ok (.iload 10, 2) := by decide +kernel
theorem dX16_rank_152 : decode cX16_rank 152 = .ok (.iadd, 1) := by decide +kernel
theorem dX16_rank_153 : decode cX16_rank 153 = .ok (.aload_n 0, 1) := by decide +kernel
theorem dX16_rank_154 : decode cX16_rank 154 = .ok (.getfield 10, 3) := by decide +kernel
theorem dX16_rank_157 : decode cX16_rank 157 = .ok (.invokevirtual 155, 3) := by decide +kernel
theorem dX16_rank_160 : decode cX16_rank 160 = .ok (.iastore, 1) := by decide +kernel
theorem dX16_rank_161 : decode cX16_rank 161 = .ok (.iinc 10 1, 3) := by decide +kernel
theorem dX16_rank_164 : decode cX16_rank 164 = .ok (.goto (-32), 3) := by decide +kernel
theorem dX16_rank_167 : decode cX16_rank 167 = .ok (.aload_n 0, 1) := by decide +kernel
theorem dX16_rank_168 : decode cX16_rank 168 = .ok (.dup, 1) := by decide +kernel
theorem dX16_rank_169 : decode cX16_rank 169 = .ok (.getfield 251, 3) := by decide +kernel
theorem dX16_rank_172 : decode cX16_rank 172 = .ok (.aload 9, 2) := by decide +kernel
theorem dX16_rank_174 : decode cX16_rank 174 = .ok (.invokevirtual 330, 3) := by decide +kernel
theorem dX16_rank_177 : decode cX16_rank 177 = .ok (.iadd, 1) := by decide +kernel
theorem dX16_rank_178 : decode cX16_rank 178 = .ok (.putfield 251, 3) := by decide +kernel
theorem dX16_rank_181 : decode cX16_rank 181 = .ok (.aload_n 0, 1) := by decide +kernel
theorem dX16_rank_182 : decode cX16_rank 182 = .ok (.getfield 10, 3) := by decide +kernel
theorem dX16_rank_185 : decode cX16_rank 185 = .ok (.aload 9, 2) := by decide +kernel
theorem dX16_rank_187 : decode cX16_rank 187 = .ok (.invokevirtual 131, 3) := by decide +kernel
theorem dX16_rank_190 : decode cX16_rank 190 = .ok (.pop, 1) := by decide +kernel
theorem dX16_rank_191 : decode cX16_rank 191 = .ok (.aload_n 0, 1) := by decide +kernel
theorem dX16_rank_192 : decode cX16_rank 192 = .ok (.aload_n 0, 1) := by decide +kernel
theorem dX16_rank_193 : decode cX16_rank 193 = .ok (.getfield 10, 3) := by decide +kernel
theorem dX16_rank_196 : decode cX16_rank 196 = .ok (.invokevirtual 155, 3) := by decide +kernel
theorem dX16_rank_199 : decode cX16_rank 199 = .ok (.iconst 1, 1) := by decide +kernel
theorem dX16_rank_200 : decode cX16_rank 200 = .ok (.isub, 1) := by decide +kernel
theorem dX16_rank_201 : decode cX16_rank 201 = .ok (.invokevirtual 332, 3) := by decide +kernel
theorem dX16_rank_204 : decode cX16_rank 204 = .ok (.ireturn, 1) := by decide +kernel
theorem dX16_adds_0 : decode cX16_adds 0 = .ok (.aload_n 0, 1) := by decide +kernel
theorem dX16_adds_1 : decode cX16_adds 1 = .ok (.getfield 16, 3) := by decide +kernel
theorem dX16_adds_4 : decode cX16_adds 4 = .ok (.invokevirtual 155, 3) := by decide +kernel
theorem dX16_adds_7 : decode cX16_adds 7 = .ok (.bipush 40, 2) := by decide +kernel
theorem dX16_adds_9 : decode cX16_adds 9 = .ok (.if_icmp .ne 9, 3) := by decide +kernel
theorem dX16_adds_12 : decode cX16_adds 12 = .ok (.aload_n 0, 1) := by decide +kernel
theorem dX16_adds_13 : decode cX16_adds 13 = .ok (.iload_n 2, 1) := by decide +kernel
theorem dX16_adds_14 : decode cX16_adds 14 = .ok (.invokevirtual 324, 3) := by decide +kernel
theorem dX16_adds_17 : decode cX16_adds 17 = .ok (.ireturn, 1) := by decide +kernel
theorem dX16_adds_18 : decode cX16_adds 18 = .ok (.aload_n 0, 1) := by decide +kernel
theorem dX16_adds_19 : decode cX16_adds 19 = .ok (.getfield 16, 3) := by decide +kernel
theorem dX16_adds_22 : decode cX16_adds 22 = .ok (.aload_n 1, 1) := by decide +kernel
theorem dX16_adds_23 : decode cX16_adds 23 = .ok (.invokevirtual 131, 3) := by decide +kernel
theorem dX16_adds_26 : decode cX16_adds 26 = .ok (.pop, 1) := by decide +kernel
theorem dX16_adds_27 : decode cX16_adds 27 = .ok (.aload_n 0, 1) := by decide +kernel
theorem dX16_adds_28 : decode cX16_adds 28 = .ok (.aload_n 0, 1) := by decide +kernel
theorem dX16_adds_29 : decode cX16_adds 29 = .ok (.getfield 16, 3) := by decide +kernel
theorem dX16_adds_32 : decode cX16_adds 32 = .ok (.invokevirtual 155, 3) := by decide +kernel
theorem dX16_adds_35 : decode cX16_adds 35 = .ok (.iconst 1, 1) := by decide +kernel
theorem dX16_adds_36 : decode cX16_adds 36 = .ok (.isub, 1) := by decide +kernel
theorem dX16_adds_37 : decode cX16_adds 37 = .ok (.invokevirtual 332, 3) := by decide +kernel
theorem dX16_adds_40 : decode cX16_adds 40 = .ok (.ireturn, 1) := by decide +kernel
theorem dX16_stop_0 : decode cX16_stop 0 = .ok (.iload_n 1, 1) := by decide +kernel
theorem dX16_stop_1 : decode cX16_stop 1 = .ok (.invokestatic 147, 3) := by decide +kernel
theorem dX16_stop_4 : decode cX16_stop 4 = .ok (.ifCond .eq 25, 3) := by decide +kernel
theorem dX16_stop_7 : decode cX16_stop 7 = .ok (.aload_n 0, 1) := by decide +kernel
theorem dX16_stop_8 : decode cX16_stop 8 = .ok (.new 126, 3) := by decide +kernel
theorem dX16_stop_11 : decode cX16_stop 11 = .ok (.dup, 1) := by decide +kernel
theorem dX16_stop_12 : decode cX16_stop 12 = .ok (.bipush 115, 2) := by decide +kernel
theorem dX16_stop_14 : decode cX16_stop 14 = .ok (.iload_n 1, 1) := by decide +kernel
theorem dX16_stop_15 : decode cX16_stop 15 = .ok (.iload_n 1, 1) := by decide +kernel
theorem dX16_stop_16 : decode cX16_stop 16 = .ok (.iconst 0, 1) := by decide +kernel
theorem dX16_stop_17 : decode cX16_stop 17 = .ok (.bipush 45, 2) := by decide +kernel
theorem dX16_stop_19 : decode cX16_stop 19 = .ok (.invokespecial 128, 3) := by decide +kernel
theorem dX16_stop_22 : decode cX16_stop 22 = .ok (.iconst 2, 1) := by decide +kernel
theorem dX16_stop_23 : decode cX16_stop 23 = .ok (.invokevirtual 335, 3) := by decide +kernel
theorem dX16_stop_26 : decode cX16_stop 26 = .ok (.goto 8, 3) := by decide +kernel
theorem dX16_stop_29 : decode cX16_stop 29 = .ok (.aload_n 0, 1) := by decide +kernel
theorem dX16_stop_30 : decode cX16_stop 30 = .ok (.iconst 1, 1) := by decide +kernel
theorem dX16_stop_31 : decode cX16_stop 31 = .ok (.invokevirtual 324, 3) := by decide +kernel
theorem dX16_stop_34 : decode cX16_stop 34 = .ok (.ireturn, 1) := by decide +kernel
theorem dX16_row_0 : decode cX16_row 0 = .ok (.aload_n 0, 1) := by decide +kernel
theorem dX16_row_1 : decode cX16_row 1 = .ok (.iload_n 1, 1) := by decide +kernel
theorem dX16_row_2 : decode cX16_row 2 = .ok (.invokevirtual 180, 3) := by decide +kernel
theorem dX16_row_5 : decode cX16_row 5 = .ok (.ifCond .eq 11, 3) := by decide +kernel
theorem dX16_row_8 : decode cX16_row 8 = .ok (.aload_n 0, 1) := by decide +kernel
theorem dX16_row_9 : decode cX16_row 9 = .ok (.iload_n 2, 1) := by decide +kernel
theorem dX16_row_10 : decode cX16_row 10 = .ok (.invokevirtual 159, 3) := by decide +kernel
theorem dX16_row_13 : decode cX16_row 13 = .ok (.ifCond .ne 9, 3) := by decide +kernel
theorem dX16_row_16 : decode cX16_row 16 = .ok (.aload_n 0, 1) := by decide +kernel
theorem dX16_row_17 : decode cX16_row 17 = .ok (.iconst 1, 1) := by decide +kernel
theorem dX16_row_18 : decode cX16_row 18 = .ok (.invokevirtual 324, 3) := by decide +kernel
theorem dX16_row_21 : decode cX16_row 21 = .ok (.ireturn, 1) := by decide +kernel
theorem dX16_row_22 : decode cX16_row 22 = .ok (.iload_n 3, 1) := by decide +kernel
theorem dX16_row_23 : decode cX16_row 23 = .ok (.bipush (-36), 2) := by decide +kernel
theorem dX16_row_25 : decode cX16_row 25 = .ok (.bipush 60, 2) := by decide +kernel
theorem dX16_row_27 : decode cX16_row 27 = .ok (.invokestatic 143, 3) := by decide +kernel
theorem dX16_row_30 : decode cX16_row 30 = .ok (.ifCond .eq 26, 3) := by decide +kernel
theorem dX16_row_33 : decode cX16_row 33 = .ok (.iload 4, 2) := by decide +kernel
theorem dX16_row_35 : decode cX16_row 35 = .ok (.iconst 0, 1) := by decide +kernel
theorem dX16_row_36 : decode cX16_row 36 = .ok (.bipush 60, 2) := by decide +kernel
theorem dX16_row_38 : decode cX16_row 38 = .ok (.invokestatic 143, 3) := by decide +kernel
theorem dX16_row_41 : decode cX16_row 41 = .ok (.ifCond .eq 15, 3) := by decide +kernel
theorem dX16_row_44 : decode cX16_row 44 = .ok (.iload 5, 2) := by decide +kernel
theorem dX16_row_46 : decode cX16_row 46 = .ok (.iload 4, 2) := by decide +kernel
theorem dX16_row_48 : decode cX16_row 48 = .ok (.bipush 60, 2) := by decide +kernel
theorem dX16_row_50 : decode cX16_row 50 = .ok (.invokestatic 143, 3) := by decide +kernel
theorem dX16_row_53 : decode cX16_row 53 = .ok (.ifCond .ne 9, 3) := by decide +kernel
theorem dX16_row_56 : decode cX16_row 56 = .ok (.aload_n 0, 1) := by decide +kernel
theorem dX16_row_57 : decode cX16_row 57 = .ok (.iconst 2, 1) := by decide +kernel
theorem dX16_row_58 : decode cX16_row 58 = .ok (.invokevirtual 324, 3) := by decide +kernel
theorem dX16_row_61 : decode cX16_row 61 = .ok (.ireturn, 1) := by decide +kernel
theorem dX16_row_62 : decode cX16_row 62 = .ok (.aload_n 0, 1) := by decide +kernel
theorem dX16_row_63 : decode cX16_row 63 = .ok (.iload_n 1, 1) := by decide +kernel
theorem dX16_row_64 : decode cX16_row 64 = .ok (.invokevirtual 339, 3) := by decide +kernel
theorem dX16_row_67 : decode cX16_row 67 = .ok (.ifCond .ne 9, 3) := by decide +kernel
theorem dX16_row_70 : decode cX16_row 70 = .ok (.aload_n 0, 1) := by decide +kernel
theorem dX16_row_71 : decode cX16_row 71 = .ok (.iconst 3, 1) := by decide +kernel
theorem dX16_row_72 : decode cX16_row 72 = .ok (.invokevirtual 324, 3) := by decide +kernel
theorem dX16_row_75 : decode cX16_row 75 = .ok (.ireturn, 1) := by decide +kernel
theorem dX16_row_76 : decode cX16_row 76 = .ok (.aload_n 0, 1) := by decide +kernel
theorem dX16_row_77 : decode cX16_row 77 = .ok (.getfield 16, 3) := by decide +kernel
theorem dX16_row_80 : decode cX16_row 80 = .ok (.iload_n 1, 1) := by decide +kernel
theorem dX16_row_81 : decode cX16_row 81 = .ok (.invokevirtual 162, 3) := by decide +kernel
theorem dX16_row_84 : decode cX16_row 84 = .ok (.checkcast 126, 3) := by decide +kernel
theorem dX16_row_87 : decode cX16_row 87 = .ok (.astore 6, 2) := by decide +kernel
theorem dX16_row_89 : decode cX16_row 89 = .ok (.aload 6, 2) := by decide +kernel
theorem dX16_row_91 : decode cX16_row 91 = .ok (.getfield 227, 3) := by decide +kernel
theorem dX16_row_94 : decode cX16_row 94 = .ok (.iconst 4, 1) := by decide +kernel
theorem dX16_row_95 : decode cX16_row 95 = .ok (.if_icmp .ne 9, 3) := by decide +kernel
theorem dX16_row_98 : decode cX16_row 98 = .ok (.aload_n 0, 1) := by decide +kernel
theorem dX16_row_99 : decode cX16_row 99 = .ok (.iconst 4, 1) := by decide +kernel
theorem dX16_row_100 : decode cX16_row 100 = .ok (.invokevirtual 324, 3) := by decide +kernel
theorem dX16_row_103 : decode cX16_row 103 = .ok (.ireturn, 1) := by decide +kernel
theorem dX16_row_104 : decode cX16_row 104 = .ok (.aload 6, 2) := by decide +kernel
theorem dX16_row_106 : decode cX16_row 106 = .ok (.getfield 239, 3) := by decide +kernel
theorem dX16_row_109 : decode cX16_row 109 = .ok (.aload 6, 2) := by decide +kernel
theorem dX16_row_111 : decode cX16_row 111 = .ok (.getfield 227, 3) := by decide +kernel
theorem dX16_row_114 : decode cX16_row 114 = .ok (.iload_n 2, 1) := by decide +kernel
theorem dX16_row_115 : decode cX16_row 115 = .ok (.iastore, 1) := by decide +kernel
theorem dX16_row_116 : decode cX16_row 116 = .ok (.aload 6, 2) := by decide +kernel
theorem dX16_row_118 : decode cX16_row 118 = .ok (.getfield 230, 3) := by decide +kernel
theorem dX16_row_121 : decode cX16_row 121 = .ok (.aload 6, 2) := by decide +kernel
theorem dX16_row_123 : decode cX16_row 123 = .ok (.getfield 227, 3) := by decide +kernel
theorem dX16_row_126 : decode cX16_row 126 = .ok (.iload_n 3, 1) := by decide +kernel
theorem dX16_row_127 : decode cX16_row 127 = .ok (.iastore, 1) := by decide +kernel
theorem dX16_row_128 : decode cX16_row 128 = .ok (.aload 6, 2) := by decide +kernel
theorem dX16_row_130 : decode cX16_row 130 = .ok (.getfield 233, 3) := by decide +kernel
theorem dX16_row_133 : decode cX16_row 133 = .ok (.aload 6, 2) := by decide +kernel
theorem dX16_row_135 : decode cX16_row 135 = .ok (.getfield 227, 3) := by decide +kernel
theorem dX16_row_138 : decode cX16_row 138 = .ok (.iload 4, 2) := by decide +kernel
theorem dX16_row_140 : decode cX16_row 140 = .ok (.iastore, 1) := by decide +kernel
theorem dX16_row_141 : decode cX16_row 141 = .ok (.aload 6, 2) := by decide +kernel
theorem dX16_row_143 : decode cX16_row 143 = .ok (.getfield 236, 3) := by decide +kernel
theorem dX16_row_146 : decode cX16_row 146 = .ok (.aload 6, 2) := by decide +kernel
theorem dX16_row_148 : decode cX16_row 148 = .ok (.getfield 227, 3) := by decide +kernel
theorem dX16_row_151 : decode cX16_row 151 = .ok (.iload 5, 2) := by decide +kernel
theorem dX16_row_153 : decode cX16_row 153 = .ok (.iastore, 1) := by decide +kernel
theorem dX16_row_154 : decode cX16_row 154 = .ok (.aload 6, 2) := by decide +kernel
theorem dX16_row_156 : decode cX16_row 156 = .ok (.dup, 1) := by decide +kernel
theorem dX16_row_157 : decode cX16_row 157 = .ok (.getfield 227, 3) := by decide +kernel
theorem dX16_row_160 : decode cX16_row 160 = .ok (.iconst 1, 1) := by decide +kernel
theorem dX16_row_161 : decode cX16_row 161 = .ok (.iadd, 1) := by decide +kernel
theorem dX16_row_162 : decode cX16_row 162 = .ok (.putfield 227, 3) := by decide +kernel
theorem dX16_row_165 : decode cX16_row 165 = .ok (.aload_n 0, 1) := by decide +kernel
theorem dX16_row_166 : decode cX16_row 166 = .ok (.aload 6, 2) := by decide +kernel
theorem dX16_row_168 : decode cX16_row 168 = .ok (.getfield 227, 3) := by decide +kernel
theorem dX16_row_171 : decode cX16_row 171 = .ok (.invokevirtual 332, 3) := by decide +kernel
theorem dX16_row_174 : decode cX16_row 174 = .ok (.ireturn, 1) := by decide +kernel
theorem dX16_cross_0 : decode cX16_cross 0 = .ok (.aload_n 0, 1) := by decide +kernel
theorem dX16_cross_1 : decode cX16_cross 1 = .ok (.iload_n 1, 1) := by decide +kernel
theorem dX16_cross_2 : decode cX16_cross 2 = .ok (.invokevirtual 180, 3) := by decide +kernel
theorem dX16_cross_5 : decode cX16_cross 5 = .ok (.ifCond .ne 9, 3) := by decide +kernel
theorem dX16_cross_8 : decode cX16_cross 8 = .ok (.aload_n 0, 1) := by decide +kernel
theorem dX16_cross_9 : decode cX16_cross 9 = .ok (.iconst 1, 1) := by decide +kernel
theorem dX16_cross_10 : decode cX16_cross 10 = .ok (.invokevirtual 324, 3) := by decide +kernel
theorem dX16_cross_13 : decode cX16_cross 13 = .ok (.ireturn, 1) := by decide +kernel
theorem dX16_cross_14 : decode cX16_cross 14 = .ok (.iload_n 2, 1) := by decide +kernel
theorem dX16_cross_15 : decode cX16_cross 15 = .ok (.iconst 0, 1) := by decide +kernel
theorem dX16_cross_16 : decode cX16_cross 16 = .ok (.bipush 60, 2) := by decide +kernel
theorem dX16_cross_18 : decode cX16_cross 18 = .ok (.invokestatic 143, 3) := by decide +kernel
theorem dX16_cross_21 : decode cX16_cross 21 = .ok (.ifCond .eq 18, 3) := by decide +kernel
theorem dX16_cross_24 : decode cX16_cross 24 = .ok (.iload_n 3, 1) := by decide +kernel
theorem dX16_cross_25 : decode cX16_cross 25 = .ok (.iconst 0, 1) := by decide +kernel
theorem dX16_cross_26 : decode cX16_cross 26 = .ok (.bipush 60, 2) := by decide +kernel
theorem dX16_cross_28 : decode cX16_cross 28 = .ok (.invokestatic 143, 3) := by decide +kernel
theorem dX16_cross_31 : decode cX16_cross 31 = .ok (.ifCond .eq 8, 3) := by decide +kernel
theorem dX16_cross_34 : decode cX16_cross 34 = .ok (.iload_n 2, 1) := by decide +kernel
theorem dX16_cross_35 : decode cX16_cross 35 = .ok (.iload_n 3, 1) := by decide +kernel
theorem dX16_cross_36 : decode cX16_cross 36 = .ok (.if_icmp .ne 9, 3) := by decide +kernel
theorem dX16_cross_39 : decode cX16_cross 39 = .ok (.aload_n 0, 1) := by decide +kernel
theorem dX16_cross_40 : decode cX16_cross 40 = .ok (.iconst 2, 1) := by decide +kernel
theorem dX16_cross_41 : decode cX16_cross 41 = .ok (.invokevirtual 324, 3) := by decide +kernel
theorem dX16_cross_44 : decode cX16_cross 44 = .ok (.ireturn, 1) := by decide +kernel
theorem dX16_cross_45 : decode cX16_cross 45 = .ok (.aload_n 0, 1) := by decide +kernel
theorem dX16_cross_46 : decode cX16_cross 46 = .ok (.iload_n 1, 1) := by decide +kernel
theorem dX16_cross_47 : decode cX16_cross 47 = .ok (.invokevirtual 339, 3) := by decide +kernel
theorem dX16_cross_50 : decode cX16_cross 50 = .ok (.ifCond .ne 9, 3) := by decide +kernel
theorem dX16_cross_53 : decode cX16_cross 53 = .ok (.aload_n 0, 1) := by decide +kernel
theorem dX16_cross_54 : decode cX16_cross 54 = .ok (.iconst 3, 1) := by decide +kernel
theorem dX16_cross_55 : decode cX16_cross 55 = .ok (.invokevirtual 324, 3) := by decide +kernel
theorem dX16_cross_58 : decode cX16_cross 58 = .ok (.ireturn, 1) := by decide +kernel
theorem dX16_cross_59 : decode cX16_cross 59 = .ok (.aload_n 0, 1) := by decide +kernel
theorem dX16_cross_60 : decode cX16_cross 60 = .ok (.getfield 16, 3) := by decide +kernel
theorem dX16_cross_63 : decode cX16_cross 63 = .ok (.iload_n 1, 1) := by decide +kernel
theorem dX16_cross_64 : decode cX16_cross 64 = .ok (.invokevirtual 162, 3) := by decide +kernel
theorem dX16_cross_67 : decode cX16_cross 67 = .ok (.checkcast 126, 3) := by decide +kernel
theorem dX16_cross_70 : decode cX16_cross 70 = .ok (.getfield 224, 3) := by decide +kernel
theorem dX16_cross_73 : decode cX16_cross 73 = .ok (.astore 4, 2) := by decide +kernel
theorem dX16_cross_75 : decode cX16_cross 75 = .ok (.aload 4, 2) := by decide +kernel
theorem dX16_cross_77 : decode cX16_cross 77 = .ok (.iload_n 2, 1) := by decide +kernel
theorem dX16_cross_78 : decode cX16_cross 78 = .ok (.iaload, 1) := by decide +kernel
theorem dX16_cross_79 : decode cX16_cross 79 = .ok (.istore 5, 2) := by decide +kernel
theorem dX16_cross_81 : decode cX16_cross 81 = .ok (.aload 4, 2) := by decide +kernel
theorem dX16_cross_83 : decode cX16_cross 83 = .ok (.iload_n 2, 1) := by decide +kernel
theorem dX16_cross_84 : decode cX16_cross 84 = .ok (.aload 4, 2) := by decide +kernel
theorem dX16_cross_86 : decode cX16_cross 86 = .ok (.iload_n 3, 1) := by decide +kernel
theorem dX16_cross_87 : decode cX16_cross 87 = .ok (.iaload, 1) := by decide +kernel
theorem dX16_cross_88 : decode cX16_cross 88 = .ok (.iastore, 1) := by decide +kernel
theorem dX16_cross_89 : decode cX16_cross 89 = .ok (.aload 4, 2) := by decide +kernel
theorem dX16_cross_91 : decode cX16_cross 91 = .ok (.iload_n 3, 1) := by decide +kernel
theorem dX16_cross_92 : decode cX16_cross 92 = .ok (.iload 5, 2) := by decide +kernel
theorem dX16_cross_94 : decode cX16_cross 94 = .ok (.iastore, 1) := by decide +kernel
theorem dX16_cross_95 : decode cX16_cross 95 = .ok (.iconst 0, 1) := by decide +kernel
theorem dX16_cross_96 : decode cX16_cross 96 = .ok (.istore 6, 2) := by decide +kernel
theorem dX16_cross_98 : decode cX16_cross 98 = .ok (.iconst 0, 1) := by decide +kernel
theorem dX16_cross_99 : decode cX16_cross 99 = .ok (.istore 7, 2) := by decide +kernel
theorem dX16_cross_101 : decode cX16_cross 101 = .ok (.iload 7, 2) := by decide +kernel
theorem dX16_cross_103 : decode cX16_cross 103 = .ok (.bipush 61, 2) := by decide +kernel
theorem dX16_cross_105 : decode cX16_cross 105 = .ok (.if_icmp .ge 29, 3) := by decide +kernel
theorem dX16_cross_108 : decode cX16_cross 108 = .ok (.iload 6, 2) := by decide +kernel
theorem dX16_cross_110 : decode cX16_cross 110 = .ok (.aload 4, 2) := by decide +kernel
theorem dX16_cross_112 : decode cX16_cross 112 = .ok (.iload 7, 2) := by decide +kernel
theorem dX16_cross_114 : decode cX16_cross 114 = .ok (.iaload, 1) := by decide +kernel
theorem dX16_cross_115 : decode cX16_cross 115 = .ok (.iload 7, 2) := by decide +kernel
theorem dX16_cross_117 : decode cX16_cross 117 = .ok (.if_icmp .ne 7, 3) := by decide +kernel
theorem dX16_cross_120 : decode cX16_cross 120 = .ok (.iconst 0, 1) := by decide +kernel
theorem dX16_cross_121 : decode cX16_cross 121 = .ok (.goto 4, 3) := by decide +kernel
theorem dX16_cross_124 : decode cX16_cross 124 = .ok (.iconst 1, 1) := by decide +kernel
theorem dX16_cross_125 : decode cX16_cross 125 = .ok (.iadd, 1) := by decide +kernel
theorem dX16_cross_126 : decode cX16_cross 126 = .ok (.istore 6, 2) := by decide +kernel
theorem dX16_cross_128 : decode cX16_cross 128 = .ok (.iinc 7 1, 3) := by decide +kernel
theorem dX16_cross_131 : decode cX16_cross 131 = .ok (.goto (-30), 3) := by decide +kernel
theorem dX16_cross_134 : decode cX16_cross 134 = .ok (.aload_n 0, 1) := by decide +kernel
theorem dX16_cross_135 : decode cX16_cross 135 = .ok (.iload 6, 2) := by decide +kernel
theorem dX16_cross_137 : decode cX16_cross 137 = .ok (.invokevirtual 332, 3) := by decide +kernel
theorem dX16_cross_140 : decode cX16_cross 140 = .ok (.ireturn, 1) := by decide +kernel
theorem dX16_coupler_0 : decode cX16_coupler 0 = .ok (.iload_n 1, 1) := by decide +kernel
theorem dX16_coupler_1 : decode cX16_coupler 1 = .ok (.invokestatic 147, 3) := by decide +kernel
theorem dX16_coupler_4 : decode cX16_coupler 4 = .ok (.ifCond .eq 10, 3) := by decide +kernel
theorem dX16_coupler_7 : decode cX16_coupler 7 = .ok (.iload_n 2, 1) := by decide +kernel
theorem dX16_coupler_8 : decode cX16_coupler 8 = .ok (.invokestatic 147, 3) := by decide +kernel
theorem dX16_coupler_11 : decode cX16_coupler 11 = .ok (.ifCond .ne 9, 3) := by decide +kernel
theorem dX16_coupler_14 : decode cX16_coupler 14 = .ok (.aload_n 0, 1) := by decide +kernel
theorem dX16_coupler_15 : decode cX16_coupler 15 = .ok (.iconst 1, 1) := by decide +kernel
theorem dX16_coupler_16 : decode cX16_coupler 16 = .ok (.invokevirtual 324, 3) := by decide +kernel
theorem dX16_coupler_19 : decode cX16_coupler 19 = .ok (.ireturn, 1) := by decide +kernel
theorem dX16_coupler_20 : decode cX16_coupler 20 = .ok (.iload_n 3, 1) := by decide +kernel
theorem dX16_coupler_21 : decode cX16_coupler 21 = .ok (.bipush (-12), 2) := by decide +kernel
theorem dX16_coupler_23 : decode cX16_coupler 23 = .ok (.if_icmp .eq 13, 3) := by decide +kernel
theorem dX16_coupler_26 : decode cX16_coupler 26 = .ok (.iload_n 3, 1) := by decide +kernel
theorem dX16_coupler_27 : decode cX16_coupler 27 = .ok (.ifCond .eq 9, 3) := by decide +kernel
theorem dX16_coupler_30 : decode cX16_coupler 30 = .ok (.iload_n 3, 1) := by decide +kernel
theorem dX16_coupler_31 : decode cX16_coupler 31 = .ok (.bipush 12, 2) := by decide +kernel
theorem dX16_coupler_33 : decode cX16_coupler 33 = .ok (.if_icmp .ne 7, 3) := by decide +kernel
theorem dX16_coupler_36 : decode cX16_coupler 36 = .ok (.iconst 1, 1) := by decide +kernel
theorem dX16_coupler_37 : decode cX16_coupler 37 = .ok (.goto 4, 3) := by decide +kernel
theorem dX16_coupler_40 : decode cX16_coupler 40 = .ok (.iconst 0, 1) := by decide +kernel
theorem dX16_coupler_41 : decode cX16_coupler 41 = .ok (.istore 5, 2) := by decide +kernel
theorem dX16_coupler_43 : decode cX16_coupler 43 = .ok (.iload 4, 2) := by decide +kernel
theorem dX16_coupler_45 : decode cX16_coupler 45 = .ok (.bipush 97, 2) := by decide +kernel
theorem dX16_coupler_47 : decode cX16_coupler 47 = .ok (.if_icmp .eq 24, 3) := by decide +kernel
theorem dX16_coupler_50 : decode cX16_coupler 50 = .ok (.iload 4, 2) := by decide +kernel
theorem dX16_coupler_52 : decode cX16_coupler 52 = .ok (.bipush 109, 2) := by decide +kernel
theorem dX16_coupler_54 : decode cX16_coupler 54 = .ok (.if_icmp .eq 17, 3) := by decide +kernel
theorem dX16_coupler_57 : decode cX16_coupler 57 = .ok (.iload 4, 2) := by decide +kernel
theorem dX16_coupler_59 : decode cX16_coupler 59 = .ok (.bipush 98, 2) := by decide +kernel
theorem dX16_coupler_61 : decode cX16_coupler 61 = .ok (.if_icmp .eq 10, 3) := by decide +kernel
theorem dX16_coupler_64 : decode cX16_coupler 64 = .ok (.iload 4, 2) := by decide +kernel
theorem dX16_coupler_66 : decode cX16_coupler 66 = .ok (.bipush 112, 2) := by decide +kernel
theorem dX16_coupler_68 : decode cX16_coupler 68 = .ok (.if_icmp .ne 7, 3) := by decide +kernel
theorem dX16_coupler_71 : decode cX16_coupler 71 = .ok (.iconst 1, 1) := by decide +kernel
theorem dX16_coupler_72 : decode cX16_coupler 72 = .ok (.goto 4, 3) := by decide +kernel
theorem dX16_coupler_75 : decode cX16_coupler 75 = .ok (.iconst 0, 1) := by decide +kernel
theorem dX16_coupler_76 : decode cX16_coupler 76 = .ok (.istore 6, 2) := by decide +kernel
theorem dX16_coupler_78 : decode cX16_coupler 78 = .ok (.iload 5, 2) := by decide +kernel
theorem dX16_coupler_80 : decode cX16_coupler 80 = .ok (.ifCond .eq 17, 3) := by decide +kernel
theorem dX16_coupler_83 : decode cX16_coupler 83 = .ok (.iload 6, 2) := by decide +kernel
theorem dX16_coupler_85 : decode cX16_coupler 85 = .ok (.ifCond .eq 12, 3) := by decide +kernel
theorem dX16_coupler_88 : decode cX16_coupler 88 = .ok (.iload_n 1, 1) := by decide +kernel
theorem dX16_coupler_89 : decode cX16_coupler 89 = .ok (.iload_n 2, 1) := by decide +kernel
theorem dX16_coupler_90 : decode cX16_coupler 90 = .ok (.if_icmp .ne 13, 3) := by decide +kernel
theorem dX16_coupler_93 : decode cX16_coupler 93 = .ok (.iload_n 3, 1) := by decide +kernel
theorem dX16_coupler_94 : decode cX16_coupler 94 = .ok (.ifCond .ne 9, 3) := by decide +kernel
theorem dX16_coupler_97 : decode cX16_coupler 97 = .ok (.aload_n 0, 1) := by decide +kernel
theorem dX16_coupler_98 : decode cX16_coupler 98 = .ok (.iconst 2, 1) := by decide +kernel
theorem dX16_coupler_99 : decode cX16_coupler 99 = .ok (.invokevirtual 324, 3) := by decide +kernel
theorem dX16_coupler_102 : decode cX16_coupler 102 = .ok (.ireturn, 1) := by decide +kernel
theorem dX16_coupler_103 : decode cX16_coupler 103 = .ok (.aload_n 0, 1) := by decide +kernel
theorem dX16_coupler_104 : decode cX16_coupler 104 = .ok (.new 126, 3) := by decide +kernel
theorem dX16_coupler_107 : decode cX16_coupler 107 = .ok (.dup, 1) := by decide +kernel
theorem dX16_coupler_108 : decode cX16_coupler 108 = .ok (.bipush 99, 2) := by decide +kernel
theorem dX16_coupler_110 : decode cX16_coupler 110 = .ok (.iload_n 1, 1) := by decide +kernel
theorem dX16_coupler_111 : decode cX16_coupler 111 = .ok (.iload_n 2, 1) := by decide +kernel
theorem dX16_coupler_112 : decode cX16_coupler 112 = .ok (.iload_n 3, 1) := by decide +kernel
theorem dX16_coupler_113 : decode cX16_coupler 113 = .ok (.iload 4, 2) := by decide +kernel
theorem dX16_coupler_115 : decode cX16_coupler 115 = .ok (.invokespecial 128, 3) := by decide +kernel
theorem dX16_coupler_118 : decode cX16_coupler 118 = .ok (.iconst 3, 1) := by decide +kernel
theorem dX16_coupler_119 : decode cX16_coupler 119 = .ok (.invokevirtual 335, 3) := by decide +kernel
theorem dX16_coupler_122 : decode cX16_coupler 122 = .ok (.ireturn, 1) := by decide +kernel
theorem dX16_tremulant_0 : decode cX16_tremulant 0 = .ok (.iload_n 1, 1) := by decide +kernel
theorem dX16_tremulant_1 : decode cX16_tremulant 1 = .ok (.invokestatic 147, 3) := by decide +kernel
theorem dX16_tremulant_4 : decode cX16_tremulant 4 = .ok (.ifCond .eq 25, 3) := by decide +kernel
theorem dX16_tremulant_7 : decode cX16_tremulant 7 = .ok (.aload_n 0, 1) := by decide +kernel
theorem dX16_tremulant_8 : decode cX16_tremulant 8 = .ok (.new 126, 3) := by decide +kernel
theorem dX16_tremulant_11 : decode cX16_tremulant 11 = .ok (.dup, 1) := by decide +kernel
theorem dX16_tremulant_12 : decode cX16_tremulant 12 = .ok (.bipush 116, 2) := by decide +kernel
theorem dX16_tremulant_14 : decode cX16_tremulant 14 = .ok (.iload_n 1, 1) := by decide +kernel
theorem dX16_tremulant_15 : decode cX16_tremulant 15 = .ok (.iload_n 1, 1) := by decide +kernel
theorem dX16_tremulant_16 : decode cX16_tremulant 16 = .ok (.iconst 0, 1) := by decide +kernel
theorem dX16_tremulant_17 : decode cX16_tremulant 17 = .ok (.bipush 45, 2) := by decide +kernel
theorem dX16_tremulant_19 : decode cX16_tremulant 19 = .ok (.invokespecial 128, 3) := by decide +kernel
theorem dX16_tremulant_22 : decode cX16_tremulant 22 = .ok (.iconst 2, 1) := by decide +kernel
theorem dX16_tremulant_23 : decode cX16_tremulant 23 = .ok (.invokevirtual 335, 3) := by decide +kernel
theorem dX16_tremulant_26 : decode cX16_tremulant 26 = .ok (.goto 8, 3) := by decide +kernel
theorem dX16_tremulant_29 : decode cX16_tremulant 29 = .ok (.aload_n 0, 1) := by decide +kernel
theorem dX16_tremulant_30 : decode cX16_tremulant 30 = .ok (.iconst 1, 1) := by decide +kernel
theorem dX16_tremulant_31 : decode cX16_tremulant 31 = .ok (.invokevirtual 324, 3) := by decide +kernel
theorem dX16_tremulant_34 : decode cX16_tremulant 34 = .ok (.ireturn, 1) := by decide +kernel
theorem dX16_draw_0 : decode cX16_draw 0 = .ok (.aload_n 0, 1) := by decide +kernel
theorem dX16_draw_1 : decode cX16_draw 1 = .ok (.iload_n 1, 1) := by decide +kernel
theorem dX16_draw_2 : decode cX16_draw 2 = .ok (.invokevirtual 180, 3) := by decide +kernel
theorem dX16_draw_5 : decode cX16_draw 5 = .ok (.ifCond .ne 9, 3) := by decide +kernel
theorem dX16_draw_8 : decode cX16_draw 8 = .ok (.aload_n 0, 1) := by decide +kernel
theorem dX16_draw_9 : decode cX16_draw 9 = .ok (.iconst 1, 1) := by decide +kernel
theorem dX16_draw_10 : decode cX16_draw 10 = .ok (.invokevirtual 342, 3) := by decide +kernel
theorem dX16_draw_13 : decode cX16_draw 13 = .ok (.ireturn, 1) := by decide +kernel
theorem dX16_draw_14 : decode cX16_draw 14 = .ok (.aload_n 0, 1) := by decide +kernel
theorem dX16_draw_15 : decode cX16_draw 15 = .ok (.getfield 16, 3) := by decide +kernel
theorem dX16_draw_18 : decode cX16_draw 18 = .ok (.iload_n 1, 1) := by decide +kernel
theorem dX16_draw_19 : decode cX16_draw 19 = .ok (.invokevirtual 162, 3) := by decide +kernel
theorem dX16_draw_22 : decode cX16_draw 22 = .ok (.checkcast 126, 3) := by decide +kernel
theorem dX16_draw_25 : decode cX16_draw 25 = .ok (.getfield 183, 3) := by decide +kernel
theorem dX16_draw_28 : decode cX16_draw 28 = .ok (.istore_n 3, 1) := by decide +kernel
theorem dX16_draw_29 : decode cX16_draw 29 = .ok (.aload_n 0, 1) := by decide +kernel
theorem dX16_draw_30 : decode cX16_draw 30 = .ok (.getfield 16, 3) := by decide +kernel
theorem dX16_draw_33 : decode cX16_draw 33 = .ok (.iload_n 1, 1) := by decide +kernel
theorem dX16_draw_34 : decode cX16_draw 34 = .ok (.invokevirtual 162, 3) := by decide +kernel
theorem dX16_draw_37 : decode cX16_draw 37 = .ok (.checkcast 126, 3) := by decide +kernel
theorem dX16_draw_40 : decode cX16_draw 40 = .ok (.iload_n 2, 1) := by decide +kernel
theorem dX16_draw_41 : decode cX16_draw 41 = .ok (.putfield 183, 3) := by decide +kernel
theorem dX16_draw_44 : decode cX16_draw 44 = .ok (.aload_n 0, 1) := by decide +kernel
theorem dX16_draw_45 : decode cX16_draw 45 = .ok (.iload_n 3, 1) := by decide +kernel
theorem dX16_draw_46 : decode cX16_draw 46 = .ok (.invokevirtual 345, 3) := by decide +kernel
theorem dX16_draw_49 : decode cX16_draw 49 = .ok (.ireturn, 1) := by decide +kernel
theorem dX16_isDrawn_0 : decode cX16_isDrawn 0 = .ok (.aload_n 0, 1) := by decide +kernel
theorem dX16_isDrawn_1 : decode cX16_isDrawn 1 = .ok (.iload_n 1, 1) := by decide +kernel
theorem dX16_isDrawn_2 : decode cX16_isDrawn 2 = .ok (.invokevirtual 180, 3) := by decide +kernel
theorem dX16_isDrawn_5 : decode cX16_isDrawn 5 = .ok (.ifCond .eq 24, 3) := by decide +kernel
theorem dX16_isDrawn_8 : decode cX16_isDrawn 8 = .ok (.aload_n 0, 1) := by decide +kernel
theorem dX16_isDrawn_9 : decode cX16_isDrawn 9 = .ok (.aload_n 0, 1) := by decide +kernel
theorem dX16_isDrawn_10 : decode cX16_isDrawn 10 = .ok (.getfield 16, 3) := by decide +kernel
theorem dX16_isDrawn_13 : decode cX16_isDrawn 13 = .ok (.iload_n 1, 1) := by decide +kernel
theorem dX16_isDrawn_14 : decode cX16_isDrawn 14 = .ok (.invokevirtual 162, 3) := by decide +kernel
theorem dX16_isDrawn_17 : decode cX16_isDrawn 17 = .ok (.checkcast 126, 3) := by decide +kernel
theorem dX16_isDrawn_20 : decode cX16_isDrawn 20 = .ok (.getfield 183, 3) := by decide +kernel
theorem dX16_isDrawn_23 : decode cX16_isDrawn 23 = .ok (.invokevirtual 320, 3) := by decide +kernel
theorem dX16_isDrawn_26 : decode cX16_isDrawn 26 = .ok (.goto 8, 3) := by decide +kernel
theorem dX16_isDrawn_29 : decode cX16_isDrawn 29 = .ok (.aload_n 0, 1) := by decide +kernel
theorem dX16_isDrawn_30 : decode cX16_isDrawn 30 = .ok (.iconst 1, 1) := by decide +kernel
theorem dX16_isDrawn_31 : decode cX16_isDrawn 31 = .ok (.invokevirtual 342, 3) := by decide +kernel
theorem dX16_isDrawn_34 : decode cX16_isDrawn 34 = .ok (.ireturn, 1) := by decide +kernel
theorem dX16_isOn_0 : decode cX16_isOn 0 = .ok (.aload_n 0, 1) := by decide +kernel
theorem dX16_isOn_1 : decode cX16_isOn 1 = .ok (.iload_n 1, 1) := by decide +kernel
theorem dX16_isOn_2 : decode cX16_isOn 2 = .ok (.invokevirtual 180, 3) := by decide +kernel
theorem dX16_isOn_5 : decode cX16_isOn 5 = .ok (.ifCond .ne 9, 3) := by decide +kernel
theorem dX16_isOn_8 : decode cX16_isOn 8 = .ok (.aload_n 0, 1) := by decide +kernel
theorem dX16_isOn_9 : decode cX16_isOn 9 = .ok (.iconst 1, 1) := by decide +kernel
theorem dX16_isOn_10 : decode cX16_isOn 10 = .ok (.invokevirtual 342, 3) := by decide +kernel
theorem dX16_isOn_13 : decode cX16_isOn 13 = .ok (.ireturn, 1) := by decide +kernel
theorem dX16_isOn_14 : decode cX16_isOn 14 = .ok (.aload_n 0, 1) := by decide +kernel
theorem dX16_isOn_15 : decode cX16_isOn 15 = .ok (.iload_n 1, 1) := by decide +kernel
theorem dX16_isOn_16 : decode cX16_isOn 16 = .ok (.invokevirtual 339, 3) := by decide +kernel
theorem dX16_isOn_19 : decode cX16_isOn 19 = .ok (.ifCond .ne 9, 3) := by decide +kernel
theorem dX16_isOn_22 : decode cX16_isOn 22 = .ok (.aload_n 0, 1) := by decide +kernel
theorem dX16_isOn_23 : decode cX16_isOn 23 = .ok (.iconst 2, 1) := by decide +kernel
theorem dX16_isOn_24 : decode cX16_isOn 24 = .ok (.invokevirtual 342, 3) := by decide +kernel
theorem dX16_isOn_27 : decode cX16_isOn 27 = .ok (.ireturn, 1) := by decide +kernel
theorem dX16_isOn_28 : decode cX16_isOn 28 = .ok (.aload_n 0, 1) := by decide +kernel
theorem dX16_isOn_29 : decode cX16_isOn 29 = .ok (.invokevirtual 248, 3) := by decide +kernel
theorem dX16_isOn_32 : decode cX16_isOn 32 = .ok (.aload_n 0, 1) := by decide +kernel
theorem dX16_isOn_33 : decode cX16_isOn 33 = .ok (.aload_n 0, 1) := by decide +kernel
theorem dX16_isOn_34 : decode cX16_isOn 34 = .ok (.aload_n 0, 1) := by decide +kernel
theorem dX16_isOn_35 : decode cX16_isOn 35 = .ok (.getfield 16, 3) := by decide +kernel
theorem dX16_isOn_38 : decode cX16_isOn 38 = .ok (.iload_n 1, 1) := by decide +kernel
theorem dX16_isOn_39 : decode cX16_isOn 39 = .ok (.invokevirtual 162, 3) := by decide +kernel
theorem dX16_isOn_42 : decode cX16_isOn 42 = .ok (.checkcast 126, 3) := by decide +kernel
theorem dX16_isOn_45 : decode cX16_isOn 45 = .ok (.invokevirtual 221, 3) := by decide +kernel
theorem dX16_isOn_48 : decode cX16_isOn 48 = .ok (.invokevirtual 320, 3) := by decide +kernel
theorem dX16_isOn_51 : decode cX16_isOn 51 = .ok (.ireturn, 1) := by decide +kernel
theorem dX16_lock_0 : decode cX16_lock 0 = .ok (.aload_n 0, 1) := by decide +kernel
theorem dX16_lock_1 : decode cX16_lock 1 = .ok (.iload_n 1, 1) := by decide +kernel
theorem dX16_lock_2 : decode cX16_lock 2 = .ok (.invokevirtual 180, 3) := by decide +kernel
theorem dX16_lock_5 : decode cX16_lock 5 = .ok (.ifCond .ne 9, 3) := by decide +kernel
theorem dX16_lock_8 : decode cX16_lock 8 = .ok (.aload_n 0, 1) := by decide +kernel
theorem dX16_lock_9 : decode cX16_lock 9 = .ok (.iconst 1, 1) := by decide +kernel
theorem dX16_lock_10 : decode cX16_lock 10 = .ok (.invokevirtual 342, 3) := by decide +kernel
theorem dX16_lock_13 : decode cX16_lock 13 = .ok (.ireturn, 1) := by decide +kernel
theorem dX16_lock_14 : decode cX16_lock 14 = .ok (.aload_n 0, 1) := by decide +kernel
theorem dX16_lock_15 : decode cX16_lock 15 = .ok (.getfield 16, 3) := by decide +kernel
theorem dX16_lock_18 : decode cX16_lock 18 = .ok (.iload_n 1, 1) := by decide +kernel
theorem dX16_lock_19 : decode cX16_lock 19 = .ok (.invokevirtual 162, 3) := by decide +kernel
theorem dX16_lock_22 : decode cX16_lock 22 = .ok (.checkcast 126, 3) := by decide +kernel
theorem dX16_lock_25 : decode cX16_lock 25 = .ok (.getfield 348, 3) := by decide +kernel
theorem dX16_lock_28 : decode cX16_lock 28 = .ok (.istore_n 3, 1) := by decide +kernel
theorem dX16_lock_29 : decode cX16_lock 29 = .ok (.aload_n 0, 1) := by decide +kernel
theorem dX16_lock_30 : decode cX16_lock 30 = .ok (.getfield 16, 3) := by decide +kernel
theorem dX16_lock_33 : decode cX16_lock 33 = .ok (.iload_n 1, 1) := by decide +kernel
theorem dX16_lock_34 : decode cX16_lock 34 = .ok (.invokevirtual 162, 3) := by decide +kernel
theorem dX16_lock_37 : decode cX16_lock 37 = .ok (.checkcast 126, 3) := by decide +kernel
theorem dX16_lock_40 : decode cX16_lock 40 = .ok (.iload_n 2, 1) := by decide +kernel
theorem dX16_lock_41 : decode cX16_lock 41 = .ok (.putfield 348, 3) := by decide +kernel
theorem dX16_lock_44 : decode cX16_lock 44 = .ok (.aload_n 0, 1) := by decide +kernel
theorem dX16_lock_45 : decode cX16_lock 45 = .ok (.iload_n 3, 1) := by decide +kernel
theorem dX16_lock_46 : decode cX16_lock 46 = .ok (.invokevirtual 345, 3) := by decide +kernel
theorem dX16_lock_49 : decode cX16_lock 49 = .ok (.ireturn, 1) := by decide +kernel
theorem dX16_stage_0 : decode cX16_stage 0 = .ok (.aload_n 0, 1) := by decide +kernel
theorem dX16_stage_1 : decode cX16_stage 1 = .ok (.iload_n 1, 1) := by decide +kernel
theorem dX16_stage_2 : decode cX16_stage 2 = .ok (.invokevirtual 180, 3) := by decide +kernel
theorem dX16_stage_5 : decode cX16_stage 5 = .ok (.ifCond .ne 9, 3) := by decide +kernel
theorem dX16_stage_8 : decode cX16_stage 8 = .ok (.aload_n 0, 1) := by decide +kernel
theorem dX16_stage_9 : decode cX16_stage 9 = .ok (.iconst 1, 1) := by decide +kernel
theorem dX16_stage_10 : decode cX16_stage 10 = .ok (.invokevirtual 324, 3) := by decide +kernel
theorem dX16_stage_13 : decode cX16_stage 13 = .ok (.ireturn, 1) := by decide +kernel
theorem dX16_stage_14 : decode cX16_stage 14 = .ok (.iload_n 2, 1) := by decide +kernel
theorem dX16_stage_15 : decode cX16_stage 15 = .ok (.iconst 0, 1) := by decide +kernel
theorem dX16_stage_16 : decode cX16_stage 16 = .ok (.bipush 9, 2) := by decide +kernel
theorem dX16_stage_18 : decode cX16_stage 18 = .ok (.invokestatic 143, 3) := by decide +kernel
theorem dX16_stage_21 : decode cX16_stage 21 = .ok (.ifCond .ne 9, 3) := by decide +kernel
theorem dX16_stage_24 : decode cX16_stage 24 = .ok (.aload_n 0, 1) := by decide +kernel
theorem dX16_stage_25 : decode cX16_stage 25 = .ok (.iconst 2, 1) := by decide +kernel
theorem dX16_stage_26 : decode cX16_stage 26 = .ok (.invokevirtual 324, 3) := by decide +kernel
theorem dX16_stage_29 : decode cX16_stage 29 = .ok (.ireturn, 1) := by decide +kernel
theorem dX16_stage_30 : decode cX16_stage 30 = .ok (.aload_n 0, 1) := by decide +kernel
theorem dX16_stage_31 : decode cX16_stage 31 = .ok (.iload_n 1, 1) := by decide +kernel
theorem dX16_stage_32 : decode cX16_stage 32 = .ok (.invokevirtual 339, 3) := by decide +kernel
theorem dX16_stage_35 : decode cX16_stage 35 = .ok (.ifCond .ne 9, 3) := by decide +kernel
theorem dX16_stage_38 : decode cX16_stage 38 = .ok (.aload_n 0, 1) := by decide +kernel
theorem dX16_stage_39 : decode cX16_stage 39 = .ok (.iconst 3, 1) := by decide +kernel
theorem dX16_stage_40 : decode cX16_stage 40 = .ok (.invokevirtual 324, 3) := by decide +kernel
theorem dX16_stage_43 : decode cX16_stage 43 = .ok (.ireturn, 1) := by decide +kernel
theorem dX16_stage_44 : decode cX16_stage 44 = .ok (.aload_n 0, 1) := by decide +kernel
theorem dX16_stage_45 : decode cX16_stage 45 = .ok (.getfield 16, 3) := by decide +kernel
theorem dX16_stage_48 : decode cX16_stage 48 = .ok (.iload_n 1, 1) := by decide +kernel
theorem dX16_stage_49 : decode cX16_stage 49 = .ok (.invokevirtual 162, 3) := by decide +kernel
theorem dX16_stage_52 : decode cX16_stage 52 = .ok (.checkcast 126, 3) := by decide +kernel
theorem dX16_stage_55 : decode cX16_stage 55 = .ok (.getfield 202, 3) := by decide +kernel
theorem dX16_stage_58 : decode cX16_stage 58 = .ok (.istore_n 3, 1) := by decide +kernel
theorem dX16_stage_59 : decode cX16_stage 59 = .ok (.aload_n 0, 1) := by decide +kernel
theorem dX16_stage_60 : decode cX16_stage 60 = .ok (.getfield 16, 3) := by decide +kernel
theorem dX16_stage_63 : decode cX16_stage 63 = .ok (.iload_n 1, 1) := by decide +kernel
theorem dX16_stage_64 : decode cX16_stage 64 = .ok (.invokevirtual 162, 3) := by decide +kernel
theorem dX16_stage_67 : decode cX16_stage 67 = .ok (.checkcast 126, 3) := by decide +kernel
theorem dX16_stage_70 : decode cX16_stage 70 = .ok (.iload_n 2, 1) := by decide +kernel
theorem dX16_stage_71 : decode cX16_stage 71 = .ok (.putfield 202, 3) := by decide +kernel
theorem dX16_stage_74 : decode cX16_stage 74 = .ok (.aload_n 0, 1) := by decide +kernel
theorem dX16_stage_75 : decode cX16_stage 75 = .ok (.iload_n 3, 1) := by decide +kernel
theorem dX16_stage_76 : decode cX16_stage 76 = .ok (.invokevirtual 332, 3) := by decide +kernel
theorem dX16_stage_79 : decode cX16_stage 79 = .ok (.ireturn, 1) := by decide +kernel
theorem dX16_crescendo_0 : decode cX16_crescendo 0 = .ok (.iload_n 1, 1) := by decide +kernel
theorem dX16_crescendo_1 : decode cX16_crescendo 1 = .ok (.iconst 0, 1) := by decide +kernel
theorem dX16_crescendo_2 : decode cX16_crescendo 2 = .ok (.bipush 9, 2) := by decide +kernel
theorem dX16_crescendo_4 : decode cX16_crescendo 4 = .ok (.invokestatic 143, 3) := by decide +kernel
theorem dX16_crescendo_7 : decode cX16_crescendo 7 = .ok (.ifCond .ne 9, 3) := by decide +kernel
theorem dX16_crescendo_10 : decode cX16_crescendo 10 = .ok (.aload_n 0, 1) := by decide +kernel
theorem dX16_crescendo_11 : decode cX16_crescendo 11 = .ok (.iconst 1, 1) := by decide +kernel
theorem dX16_crescendo_12 : decode cX16_crescendo 12 = .ok (.invokevirtual 324, 3) := by decide +kernel
theorem dX16_crescendo_15 : decode cX16_crescendo 15 = .ok (.ireturn, 1) := by decide +kernel
theorem dX16_crescendo_16 : decode cX16_crescendo 16 = .ok (.aload_n 0, 1) := by decide +kernel
theorem dX16_crescendo_17 : decode cX16_crescendo 17 = .ok (.getfield 205, 3) := by decide +kernel
theorem dX16_crescendo_20 : decode cX16_crescendo 20 = .ok (.istore_n 2, 1) := by decide +kernel
theorem dX16_crescendo_21 : decode cX16_crescendo 21 = .ok (.aload_n 0, 1) := by decide +kernel
theorem dX16_crescendo_22 : decode cX16_crescendo 22 = .ok (.iload_n 1, 1) := by decide +kernel
theorem dX16_crescendo_23 : decode cX16_crescendo 23 = .ok (.putfield 205, 3) := by decide +kernel
theorem dX16_crescendo_26 : decode cX16_crescendo 26 = .ok (.aload_n 0, 1) := by decide +kernel
theorem dX16_crescendo_27 : decode cX16_crescendo 27 = .ok (.iload_n 2, 1) := by decide +kernel
theorem dX16_crescendo_28 : decode cX16_crescendo 28 = .ok (.invokevirtual 332, 3) := by decide +kernel
theorem dX16_crescendo_31 : decode cX16_crescendo 31 = .ok (.ireturn, 1) := by decide +kernel
theorem dX16_tutti_0 : decode cX16_tutti 0 = .ok (.aload_n 0, 1) := by decide +kernel
theorem dX16_tutti_1 : decode cX16_tutti 1 = .ok (.getfield 199, 3) := by decide +kernel
theorem dX16_tutti_4 : decode cX16_tutti 4 = .ok (.istore_n 2, 1) := by decide +kernel
theorem dX16_tutti_5 : decode cX16_tutti 5 = .ok (.aload_n 0, 1) := by decide +kernel
theorem dX16_tutti_6 : decode cX16_tutti 6 = .ok (.iload_n 1, 1) := by decide +kernel
theorem dX16_tutti_7 : decode cX16_tutti 7 = .ok (.putfield 199, 3) := by decide +kernel
theorem dX16_tutti_10 : decode cX16_tutti 10 = .ok (.aload_n 0, 1) := by decide +kernel
theorem dX16_tutti_11 : decode cX16_tutti 11 = .ok (.iload_n 2, 1) := by decide +kernel
theorem dX16_tutti_12 : decode cX16_tutti 12 = .ok (.invokevirtual 345, 3) := by decide +kernel
theorem dX16_tutti_15 : decode cX16_tutti 15 = .ok (.ireturn, 1) := by decide +kernel
theorem dX16_moved_0 : decode cX16_moved 0 = .ok (.aload_n 0, 1) := by decide +kernel
theorem dX16_moved_1 : decode cX16_moved 1 = .ok (.getfield 31, 3) := by decide +kernel
theorem dX16_moved_4 : decode cX16_moved 4 = .ok (.iload_n 1, 1) := by decide +kernel
theorem dX16_moved_5 : decode cX16_moved 5 = .ok (.iload_n 2, 1) := by decide +kernel
theorem dX16_moved_6 : decode cX16_moved 6 = .ok (.invokestatic 186, 3) := by decide +kernel
theorem dX16_moved_9 : decode cX16_moved 9 = .ok (.baload, 1) := by decide +kernel
theorem dX16_moved_10 : decode cX16_moved 10 = .ok (.istore 4, 2) := by decide +kernel
theorem dX16_moved_12 : decode cX16_moved 12 = .ok (.iload 4, 2) := by decide +kernel
theorem dX16_moved_14 : decode cX16_moved 14 = .ok (.iload_n 3, 1) := by decide +kernel
theorem dX16_moved_15 : decode cX16_moved 15 = .ok (.if_icmp .ne 6, 3) := by decide +kernel
theorem dX16_moved_18 : decode cX16_moved 18 = .ok (.iload 4, 2) := by decide +kernel
theorem dX16_moved_20 : decode cX16_moved 20 = .ok (.ireturn, 1) := by decide +kernel
theorem dX16_moved_21 : decode cX16_moved 21 = .ok (.aload_n 0, 1) := by decide +kernel
theorem dX16_moved_22 : decode cX16_moved 22 = .ok (.getfield 31, 3) := by decide +kernel
theorem dX16_moved_25 : decode cX16_moved 25 = .ok (.iload_n 1, 1) := by decide +kernel
theorem dX16_moved_26 : decode cX16_moved 26 = .ok (.iload_n 2, 1) := by decide +kernel
theorem dX16_moved_27 : decode cX16_moved 27 = .ok (.invokestatic 186, 3) := by decide +kernel
theorem dX16_moved_30 : decode cX16_moved 30 = .ok (.iload_n 3, 1) := by decide +kernel
theorem dX16_moved_31 : decode cX16_moved 31 = .ok (.bastore, 1) := by decide +kernel
theorem dX16_moved_32 : decode cX16_moved 32 = .ok (.iload_n 3, 1) := by decide +kernel
theorem dX16_moved_33 : decode cX16_moved 33 = .ok (.ifCond .eq 17, 3) := by decide +kernel
theorem dX16_moved_36 : decode cX16_moved 36 = .ok (.aload_n 0, 1) := by decide +kernel
theorem dX16_moved_37 : decode cX16_moved 37 = .ok (.getfield 50, 3) := by decide +kernel
theorem dX16_moved_40 : decode cX16_moved 40 = .ok (.iload_n 1, 1) := by decide +kernel
theorem dX16_moved_41 : decode cX16_moved 41 = .ok (.iload_n 2, 1) := by decide +kernel
theorem dX16_moved_42 : decode cX16_moved 42 = .ok (.invokestatic 186, 3) := by decide +kernel
theorem dX16_moved_45 : decode cX16_moved 45 = .ok (.aload_n 0, 1) := by decide +kernel
theorem dX16_moved_46 : decode cX16_moved 46 = .ok (.getfield 218, 3) := by decide +kernel
theorem dX16_moved_49 : decode cX16_moved 49 = .ok (.iastore, 1) := by decide +kernel
theorem dX16_moved_50 : decode cX16_moved 50 = .ok (.aload_n 0, 1) := by decide +kernel
theorem dX16_moved_51 : decode cX16_moved 51 = .ok (.getfield 115, 3) := by decide +kernel
theorem dX16_moved_54 : decode cX16_moved 54 = .ok (.bipush 107, 2) := by decide +kernel
theorem dX16_moved_56 : decode cX16_moved 56 = .ok (.if_icmp .ne 25, 3) := by decide +kernel
theorem dX16_moved_59 : decode cX16_moved 59 = .ok (.aload_n 0, 1) := by decide +kernel
theorem dX16_moved_60 : decode cX16_moved 60 = .ok (.getfield 19, 3) := by decide +kernel
theorem dX16_moved_63 : decode cX16_moved 63 = .ok (.new 295, 3) := by decide +kernel
theorem dX16_moved_66 : decode cX16_moved 66 = .ok (.dup, 1) := by decide +kernel
theorem dX16_moved_67 : decode cX16_moved 67 = .ok (.iload_n 1, 1) := by decide +kernel
theorem dX16_moved_68 : decode cX16_moved 68 = .ok (.iload_n 2, 1) := by decide +kernel
theorem dX16_moved_69 : decode cX16_moved 69 = .ok (.iload_n 3, 1) := by decide +kernel
theorem dX16_moved_70 : decode cX16_moved 70 = .ok (.aload_n 0, 1) := by decide +kernel
theorem dX16_moved_71 : decode cX16_moved 71 = .ok (.getfield 218, 3) := by decide +kernel
theorem dX16_moved_74 : decode cX16_moved 74 = .ok (.invokespecial 297, 3) := by decide +kernel
theorem dX16_moved_77 : decode cX16_moved 77 = .ok (.invokevirtual 131, 3) := by decide +kernel
theorem dX16_moved_80 : decode cX16_moved 80 = .ok (.pop, 1) := by decide +kernel
theorem dX16_moved_81 : decode cX16_moved 81 = .ok (.iload 4, 2) := by decide +kernel
theorem dX16_moved_83 : decode cX16_moved 83 = .ok (.ireturn, 1) := by decide +kernel
theorem dX16_key_0 : decode cX16_key 0 = .ok (.iload_n 1, 1) := by decide +kernel
theorem dX16_key_1 : decode cX16_key 1 = .ok (.iload_n 2, 1) := by decide +kernel
theorem dX16_key_2 : decode cX16_key 2 = .ok (.invokestatic 268, 3) := by decide +kernel
theorem dX16_key_5 : decode cX16_key 5 = .ok (.ifCond .ne 9, 3) := by decide +kernel
theorem dX16_key_8 : decode cX16_key 8 = .ok (.aload_n 0, 1) := by decide +kernel
theorem dX16_key_9 : decode cX16_key 9 = .ok (.iconst 1, 1) := by decide +kernel
theorem dX16_key_10 : decode cX16_key 10 = .ok (.invokevirtual 342, 3) := by decide +kernel
theorem dX16_key_13 : decode cX16_key 13 = .ok (.ireturn, 1) := by decide +kernel
theorem dX16_key_14 : decode cX16_key 14 = .ok (.aload_n 0, 1) := by decide +kernel
theorem dX16_key_15 : decode cX16_key 15 = .ok (.iload_n 1, 1) := by decide +kernel
theorem dX16_key_16 : decode cX16_key 16 = .ok (.iload_n 2, 1) := by decide +kernel
theorem dX16_key_17 : decode cX16_key 17 = .ok (.iload_n 3, 1) := by decide +kernel
theorem dX16_key_18 : decode cX16_key 18 = .ok (.invokevirtual 351, 3) := by decide +kernel
theorem dX16_key_21 : decode cX16_key 21 = .ok (.istore 4, 2) := by decide +kernel
theorem dX16_key_23 : decode cX16_key 23 = .ok (.aload_n 0, 1) := by decide +kernel
theorem dX16_key_24 : decode cX16_key 24 = .ok (.iload 4, 2) := by decide +kernel
theorem dX16_key_26 : decode cX16_key 26 = .ok (.invokevirtual 345, 3) := by decide +kernel
theorem dX16_key_29 : decode cX16_key 29 = .ok (.ireturn, 1) := by decide +kernel
theorem dX16_isDown_0 : decode cX16_isDown 0 = .ok (.iload_n 1, 1) := by decide +kernel
theorem dX16_isDown_1 : decode cX16_isDown 1 = .ok (.iload_n 2, 1) := by decide +kernel
theorem dX16_isDown_2 : decode cX16_isDown 2 = .ok (.invokestatic 268, 3) := by decide +kernel
theorem dX16_isDown_5 : decode cX16_isDown 5 = .ok (.ifCond .eq 20, 3) := by decide +kernel
theorem dX16_isDown_8 : decode cX16_isDown 8 = .ok (.aload_n 0, 1) := by decide +kernel
theorem dX16_isDown_9 : decode cX16_isDown 9 = .ok (.aload_n 0, 1) := by decide +kernel
theorem dX16_isDown_10 : decode cX16_isDown 10 = .ok (.getfield 31, 3) := by decide +kernel
theorem dX16_isDown_13 : decode cX16_isDown 13 = .ok (.iload_n 1, 1) := by decide +kernel
theorem dX16_isDown_14 : decode cX16_isDown 14 = .ok (.iload_n 2, 1) := by decide +kernel
theorem dX16_isDown_15 : decode cX16_isDown 15 = .ok (.invokestatic 186, 3) := by decide +kernel
theorem dX16_isDown_18 : decode cX16_isDown 18 = .ok (.baload, 1) := by decide +kernel
theorem dX16_isDown_19 : decode cX16_isDown 19 = .ok (.invokevirtual 320, 3) := by decide +kernel
theorem dX16_isDown_22 : decode cX16_isDown 22 = .ok (.goto 8, 3) := by decide +kernel
theorem dX16_isDown_25 : decode cX16_isDown 25 = .ok (.aload_n 0, 1) := by decide +kernel
theorem dX16_isDown_26 : decode cX16_isDown 26 = .ok (.iconst 1, 1) := by decide +kernel
theorem dX16_isDown_27 : decode cX16_isDown 27 = .ok (.invokevirtual 342, 3) := by decide +kernel
theorem dX16_isDown_30 : decode cX16_isDown 30 = .ok (.ireturn, 1) := by decide +kernel
theorem dX16_lift_0 : decode cX16_lift 0 = .ok (.iconst 0, 1) := by decide +kernel
theorem dX16_lift_1 : decode cX16_lift 1 = .ok (.istore_n 1, 1) := by decide +kernel
theorem dX16_lift_2 : decode cX16_lift 2 = .ok (.iconst 0, 1) := by decide +kernel
theorem dX16_lift_3 : decode cX16_lift 3 = .ok (.istore_n 2, 1) := by decide +kernel
theorem dX16_lift_4 : decode cX16_lift 4 = .ok (.iload_n 2, 1) := by decide +kernel
theorem dX16_lift_5 : decode cX16_lift 5 = .ok (.iconst 3, 1) := by decide +kernel
theorem dX16_lift_6 : decode cX16_lift 6 = .ok (.if_icmp .ge 43, 3) := by decide +kernel
theorem dX16_lift_9 : decode cX16_lift 9 = .ok (.iconst 0, 1) := by decide +kernel
theorem dX16_lift_10 : decode cX16_lift 10 = .ok (.istore_n 3, 1) := by decide +kernel
theorem dX16_lift_11 : decode cX16_lift 11 = .ok (.iload_n 3, 1) := by decide +kernel
theorem dX16_lift_12 : decode cX16_lift 12 = .ok (.iload_n 2, 1) := by decide +kernel
theorem dX16_lift_13 : decode cX16_lift 13 = .ok (.invokestatic 151, 3) := by decide +kernel
theorem dX16_lift_16 : decode cX16_lift 16 = .ok (.if_icmp .ge 27, 3) := by decide +kernel
theorem dX16_lift_19 : decode cX16_lift 19 = .ok (.iload_n 1, 1) := by decide +kernel
theorem dX16_lift_20 : decode cX16_lift 20 = .ok (.aload_n 0, 1) := by decide +kernel
theorem dX16_lift_21 : decode cX16_lift 21 = .ok (.iload_n 2, 1) := by decide +kernel
theorem dX16_lift_22 : decode cX16_lift 22 = .ok (.iload_n 3, 1) := by decide +kernel
theorem dX16_lift_23 : decode cX16_lift 23 = .ok (.iconst 0, 1) := by decide +kernel
theorem dX16_lift_24 : decode cX16_lift 24 = .ok (.invokevirtual 351, 3) := by decide +kernel
theorem dX16_lift_27 : decode cX16_lift 27 = .ok (.ifCond .eq 7, 3) := by decide +kernel
theorem dX16_lift_30 : decode cX16_lift 30 = .ok (.iconst 1, 1) := by decide +kernel
theorem dX16_lift_31 : decode cX16_lift 31 = .ok (.goto 4, 3) := by decide +kernel
theorem dX16_lift_34 : decode cX16_lift 34 = .ok (.iconst 0, 1) := by decide +kernel
theorem dX16_lift_35 : decode cX16_lift 35 = .ok (.iadd, 1) := by decide +kernel
theorem dX16_lift_36 : decode cX16_lift 36 = .ok (.istore_n 1, 1) := by decide +kernel
theorem dX16_lift_37 : decode cX16_lift 37 = .ok (.iinc 3 1, 3) := by decide +kernel
theorem dX16_lift_40 : decode cX16_lift 40 = .ok (.goto (-29), 3) := by decide +kernel
theorem dX16_lift_43 : decode cX16_lift 43 = .ok (.iinc 2 1, 3) := by decide +kernel
theorem dX16_lift_46 : decode cX16_lift 46 = .ok (.goto (-42), 3) := by decide +kernel
theorem dX16_lift_49 : decode cX16_lift 49 = .ok (.aload_n 0, 1) := by decide +kernel
theorem dX16_lift_50 : decode cX16_lift 50 = .ok (.iload_n 1, 1) := by decide +kernel
theorem dX16_lift_51 : decode cX16_lift 51 = .ok (.invokevirtual 332, 3) := by decide +kernel
theorem dX16_lift_54 : decode cX16_lift 54 = .ok (.ireturn, 1) := by decide +kernel
theorem dX16_goesOn_0 : decode cX16_goesOn 0 = .ok (.iconst 0, 1) := by decide +kernel
theorem dX16_goesOn_1 : decode cX16_goesOn 1 = .ok (.istore_n 2, 1) := by decide +kernel
theorem dX16_goesOn_2 : decode cX16_goesOn 2 = .ok (.iload_n 2, 1) := by decide +kernel
theorem dX16_goesOn_3 : decode cX16_goesOn 3 = .ok (.iload_n 1, 1) := by decide +kernel
theorem dX16_goesOn_4 : decode cX16_goesOn 4 = .ok (.if_icmp .ge 23, 3) := by decide +kernel
theorem dX16_goesOn_7 : decode cX16_goesOn 7 = .ok (.aload_n 0, 1) := by decide +kernel
theorem dX16_goesOn_8 : decode cX16_goesOn 8 = .ok (.dup, 1) := by decide +kernel
theorem dX16_goesOn_9 : decode cX16_goesOn 9 = .ok (.getfield 218, 3) := by decide +kernel
theorem dX16_goesOn_12 : decode cX16_goesOn 12 = .ok (.iconst 1, 1) := by decide +kernel
theorem dX16_goesOn_13 : decode cX16_goesOn 13 = .ok (.iadd, 1) := by decide +kernel
theorem dX16_goesOn_14 : decode cX16_goesOn 14 = .ok (.putfield 218, 3) := by decide +kernel
theorem dX16_goesOn_17 : decode cX16_goesOn 17 = .ok (.aload_n 0, 1) := by decide +kernel
theorem dX16_goesOn_18 : decode cX16_goesOn 18 = .ok (.invokevirtual 314, 3) := by decide +kernel
theorem dX16_goesOn_21 : decode cX16_goesOn 21 = .ok (.iinc 2 1, 3) := by decide +kernel
theorem dX16_goesOn_24 : decode cX16_goesOn 24 = .ok (.goto (-22), 3) := by decide +kernel
theorem dX16_goesOn_27 : decode cX16_goesOn 27 = .ok (.return_, 1) := by decide +kernel
theorem dX16_pass_0 : decode cX16_pass 0 = .ok (.iload_n 1, 1) := by decide +kernel
theorem dX16_pass_1 : decode cX16_pass 1 = .ok (.iconst 1, 1) := by decide +kernel
theorem dX16_pass_2 : decode cX16_pass 2 = .ok (.bipush 40, 2) := by decide +kernel
theorem dX16_pass_4 : decode cX16_pass 4 = .ok (.invokestatic 143, 3) := by decide +kernel
theorem dX16_pass_7 : decode cX16_pass 7 = .ok (.ifCond .ne 9, 3) := by decide +kernel
theorem dX16_pass_10 : decode cX16_pass 10 = .ok (.aload_n 0, 1) := by decide +kernel
theorem dX16_pass_11 : decode cX16_pass 11 = .ok (.iconst 1, 1) := by decide +kernel
theorem dX16_pass_12 : decode cX16_pass 12 = .ok (.invokevirtual 324, 3) := by decide +kernel
theorem dX16_pass_15 : decode cX16_pass 15 = .ok (.ireturn, 1) := by decide +kernel
theorem dX16_pass_16 : decode cX16_pass 16 = .ok (.aload_n 0, 1) := by decide +kernel
theorem dX16_pass_17 : decode cX16_pass 17 = .ok (.iload_n 1, 1) := by decide +kernel
theorem dX16_pass_18 : decode cX16_pass 18 = .ok (.invokevirtual 355, 3) := by decide +kernel
theorem dX16_pass_21 : decode cX16_pass 21 = .ok (.aload_n 0, 1) := by decide +kernel
theorem dX16_pass_22 : decode cX16_pass 22 = .ok (.aload_n 0, 1) := by decide +kernel
theorem dX16_pass_23 : decode cX16_pass 23 = .ok (.getfield 218, 3) := by decide +kernel
theorem dX16_pass_26 : decode cX16_pass 26 = .ok (.invokevirtual 317, 3) := by decide +kernel
theorem dX16_pass_29 : decode cX16_pass 29 = .ok (.ireturn, 1) := by decide +kernel
theorem dX16_reasonsOf_0 : decode cX16_reasonsOf 0 = .ok (.aload_n 0, 1) := by decide +kernel
theorem dX16_reasonsOf_1 : decode cX16_reasonsOf 1 = .ok (.getfield 54, 3) := by decide +kernel
theorem dX16_reasonsOf_4 : decode cX16_reasonsOf 4 = .ok (.iload_n 1, 1) := by decide +kernel
theorem dX16_reasonsOf_5 : decode cX16_reasonsOf 5 = .ok (.iaload, 1) := by decide +kernel
theorem dX16_reasonsOf_6 : decode cX16_reasonsOf 6 = .ok (.aload_n 0, 1) := by decide +kernel
theorem dX16_reasonsOf_7 : decode cX16_reasonsOf 7 = .ok (.getfield 35, 3) := by decide +kernel
theorem dX16_reasonsOf_10 : decode cX16_reasonsOf 10 = .ok (.iload_n 1, 1) := by decide +kernel
theorem dX16_reasonsOf_11 : decode cX16_reasonsOf 11 = .ok (.baload, 1) := by decide +kernel
theorem dX16_reasonsOf_12 : decode cX16_reasonsOf 12 = .ok (.ifCond .eq 7, 3) := by decide +kernel
theorem dX16_reasonsOf_15 : decode cX16_reasonsOf 15 = .ok (.iconst 1, 1) := by decide +kernel
theorem dX16_reasonsOf_16 : decode cX16_reasonsOf 16 = .ok (.goto 4, 3) := by decide +kernel
theorem dX16_reasonsOf_19 : decode cX16_reasonsOf 19 = .ok (.iconst 0, 1) := by decide +kernel
theorem dX16_reasonsOf_20 : decode cX16_reasonsOf 20 = .ok (.iadd, 1) := by decide +kernel
theorem dX16_reasonsOf_21 : decode cX16_reasonsOf 21 = .ok (.ireturn, 1) := by decide +kernel
theorem dX16_reasons_0 : decode cX16_reasons 0 = .ok (.aload_n 0, 1) := by decide +kernel
theorem dX16_reasons_1 : decode cX16_reasons 1 = .ok (.iload_n 1, 1) := by decide +kernel
theorem dX16_reasons_2 : decode cX16_reasons 2 = .ok (.iload_n 2, 1) := by decide +kernel
theorem dX16_reasons_3 : decode cX16_reasons 3 = .ok (.invokevirtual 241, 3) := by decide +kernel
theorem dX16_reasons_6 : decode cX16_reasons 6 = .ok (.ifCond .eq 20, 3) := by decide +kernel
theorem dX16_reasons_9 : decode cX16_reasons 9 = .ok (.aload_n 0, 1) := by decide +kernel
theorem dX16_reasons_10 : decode cX16_reasons 10 = .ok (.aload_n 0, 1) := by decide +kernel
theorem dX16_reasons_11 : decode cX16_reasons 11 = .ok (.aload_n 0, 1) := by decide +kernel
theorem dX16_reasons_12 : decode cX16_reasons 12 = .ok (.iload_n 1, 1) := by decide +kernel
theorem dX16_reasons_13 : decode cX16_reasons 13 = .ok (.iload_n 2, 1) := by decide +kernel
theorem dX16_reasons_14 : decode cX16_reasons 14 = .ok (.invokevirtual 245, 3) := by decide +kernel
theorem dX16_reasons_17 : decode cX16_reasons 17 = .ok (.invokevirtual 358, 3) := by decide +kernel
theorem dX16_reasons_20 : decode cX16_reasons 20 = .ok (.invokevirtual 317, 3) := by decide +kernel
theorem dX16_reasons_23 : decode cX16_reasons 23 = .ok (.goto 8, 3) := by decide +kernel
theorem dX16_reasons_26 : decode cX16_reasons 26 = .ok (.aload_n 0, 1) := by decide +kernel
theorem dX16_reasons_27 : decode cX16_reasons 27 = .ok (.iconst 1, 1) := by decide +kernel
theorem dX16_reasons_28 : decode cX16_reasons 28 = .ok (.invokevirtual 324, 3) := by decide +kernel
theorem dX16_reasons_31 : decode cX16_reasons 31 = .ok (.ireturn, 1) := by decide +kernel
theorem dX16_reasonsAnew_0 : decode cX16_reasonsAnew 0 = .ok (.aload_n 0, 1) := by decide +kernel
theorem dX16_reasonsAnew_1 : decode cX16_reasonsAnew 1 = .ok (.iload_n 1, 1) := by decide +kernel
theorem dX16_reasonsAnew_2 : decode cX16_reasonsAnew 2 = .ok (.iload_n 2, 1) := by decide +kernel
theorem dX16_reasonsAnew_3 : decode cX16_reasonsAnew 3 = .ok (.invokevirtual 241, 3) := by decide +kernel
theorem dX16_reasonsAnew_6 : decode cX16_reasonsAnew 6 = .ok (.ifCond .ne 9, 3) := by decide +kernel
theorem dX16_reasonsAnew_9 : decode cX16_reasonsAnew 9 = .ok (.aload_n 0, 1) := by decide +kernel
theorem dX16_reasonsAnew_10 : decode cX16_reasonsAnew 10 = .ok (.iconst 1, 1) := by decide +kernel
theorem dX16_reasonsAnew_11 : decode cX16_reasonsAnew 11 = .ok (.invokevirtual 324, 3) := by decide +kernel
theorem dX16_reasonsAnew_14 : decode cX16_reasonsAnew 14 = .ok (.ireturn, 1) := by decide +kernel
theorem dX16_reasonsAnew_15 : decode cX16_reasonsAnew 15 = .ok (.aload_n 0, 1) := by decide +kernel
theorem dX16_reasonsAnew_16 : decode cX16_reasonsAnew 16 = .ok (.invokevirtual 292, 3) := by decide +kernel
theorem dX16_reasonsAnew_19 : decode cX16_reasonsAnew 19 = .ok (.aload_n 0, 1) := by decide +kernel
theorem dX16_reasonsAnew_20 : decode cX16_reasonsAnew 20 = .ok (.aload_n 0, 1) := by decide +kernel
theorem dX16_reasonsAnew_21 : decode cX16_reasonsAnew 21 = .ok (.aload_n 0, 1) := by decide +kernel
theorem dX16_reasonsAnew_22 : decode cX16_reasonsAnew 22 = .ok (.iload_n 1, 1) := by decide +kernel
theorem dX16_reasonsAnew_23 : decode cX16_reasonsAnew 23 = .ok (.iload_n 2, 1) := by decide +kernel
theorem dX16_reasonsAnew_24 : decode cX16_reasonsAnew 24 = .ok (.invokevirtual 245, 3) := by decide +kernel
theorem dX16_reasonsAnew_27 : decode cX16_reasonsAnew 27 = .ok (.invokevirtual 358, 3) := by decide +kernel
theorem dX16_reasonsAnew_30 : decode cX16_reasonsAnew 30 = .ok (.invokevirtual 317, 3) := by decide +kernel
theorem dX16_reasonsAnew_33 : decode cX16_reasonsAnew 33 = .ok (.ireturn, 1) := by decide +kernel
theorem dX16_isOpen_0 : decode cX16_isOpen 0 = .ok (.aload_n 0, 1) := by decide +kernel
theorem dX16_isOpen_1 : decode cX16_isOpen 1 = .ok (.iload_n 1, 1) := by decide +kernel
theorem dX16_isOpen_2 : decode cX16_isOpen 2 = .ok (.iload_n 2, 1) := by decide +kernel
theorem dX16_isOpen_3 : decode cX16_isOpen 3 = .ok (.invokevirtual 241, 3) := by decide +kernel
theorem dX16_isOpen_6 : decode cX16_isOpen 6 = .ok (.ifCond .eq 21, 3) := by decide +kernel
theorem dX16_isOpen_9 : decode cX16_isOpen 9 = .ok (.aload_n 0, 1) := by decide +kernel
theorem dX16_isOpen_10 : decode cX16_isOpen 10 = .ok (.aload_n 0, 1) := by decide +kernel
theorem dX16_isOpen_11 : decode cX16_isOpen 11 = .ok (.getfield 44, 3) := by decide +kernel
theorem dX16_isOpen_14 : decode cX16_isOpen 14 = .ok (.aload_n 0, 1) := by decide +kernel
theorem dX16_isOpen_15 : decode cX16_isOpen 15 = .ok (.iload_n 1, 1) := by decide +kernel
theorem dX16_isOpen_16 : decode cX16_isOpen 16 = .ok (.iload_n 2, 1) := by decide +kernel
theorem dX16_isOpen_17 : decode cX16_isOpen 17 = .ok (.invokevirtual 245, 3) := by decide +kernel
theorem dX16_isOpen_20 : decode cX16_isOpen 20 = .ok (.baload, 1) := by decide +kernel
theorem dX16_isOpen_21 : decode cX16_isOpen 21 = .ok (.invokevirtual 320, 3) := by decide +kernel
theorem dX16_isOpen_24 : decode cX16_isOpen 24 = .ok (.goto 8, 3) := by decide +kernel
theorem dX16_isOpen_27 : decode cX16_isOpen 27 = .ok (.aload_n 0, 1) := by decide +kernel
theorem dX16_isOpen_28 : decode cX16_isOpen 28 = .ok (.iconst 1, 1) := by decide +kernel
theorem dX16_isOpen_29 : decode cX16_isOpen 29 = .ok (.invokevirtual 342, 3) := by decide +kernel
theorem dX16_isOpen_32 : decode cX16_isOpen 32 = .ok (.ireturn, 1) := by decide +kernel
theorem dX16_speaks_0 : decode cX16_speaks 0 = .ok (.aload_n 0, 1) := by decide +kernel
theorem dX16_speaks_1 : decode cX16_speaks 1 = .ok (.iload_n 1, 1) := by decide +kernel
theorem dX16_speaks_2 : decode cX16_speaks 2 = .ok (.iload_n 2, 1) := by decide +kernel
theorem dX16_speaks_3 : decode cX16_speaks 3 = .ok (.invokevirtual 241, 3) := by decide +kernel
theorem dX16_speaks_6 : decode cX16_speaks 6 = .ok (.ifCond .eq 21, 3) := by decide +kernel
theorem dX16_speaks_9 : decode cX16_speaks 9 = .ok (.aload_n 0, 1) := by decide +kernel
theorem dX16_speaks_10 : decode cX16_speaks 10 = .ok (.aload_n 0, 1) := by decide +kernel
theorem dX16_speaks_11 : decode cX16_speaks 11 = .ok (.getfield 47, 3) := by decide +kernel
theorem dX16_speaks_14 : decode cX16_speaks 14 = .ok (.aload_n 0, 1) := by decide +kernel
theorem dX16_speaks_15 : decode cX16_speaks 15 = .ok (.iload_n 1, 1) := by decide +kernel
theorem dX16_speaks_16 : decode cX16_speaks 16 = .ok (.iload_n 2, 1) := by decide +kernel
theorem dX16_speaks_17 : decode cX16_speaks 17 = .ok (.invokevirtual 245, 3) := by decide +kernel
theorem dX16_speaks_20 : decode cX16_speaks 20 = .ok (.baload, 1) := by decide +kernel
theorem dX16_speaks_21 : decode cX16_speaks 21 = .ok (.invokevirtual 320, 3) := by decide +kernel
theorem dX16_speaks_24 : decode cX16_speaks 24 = .ok (.goto 8, 3) := by decide +kernel
theorem dX16_speaks_27 : decode cX16_speaks 27 = .ok (.aload_n 0, 1) := by decide +kernel
theorem dX16_speaks_28 : decode cX16_speaks 28 = .ok (.iconst 1, 1) := by decide +kernel
theorem dX16_speaks_29 : decode cX16_speaks 29 = .ok (.invokevirtual 342, 3) := by decide +kernel
theorem dX16_speaks_32 : decode cX16_speaks 32 = .ok (.ireturn, 1) := by decide +kernel
theorem dX16_allSpeaking_0 : decode cX16_allSpeaking 0 = .ok (.iconst 0, 1) := by decide +kernel
theorem dX16_allSpeaking_1 : decode cX16_allSpeaking 1 = .ok (.istore_n 1, 1) := by decide +kernel
theorem dX16_allSpeaking_2 : decode cX16_allSpeaking 2 = .ok (.iconst 0, 1) := by decide +kernel
theorem dX16_allSpeaking_3 : decode cX16_allSpeaking 3 = .ok (.istore_n 2, 1) := by decide +kernel
theorem dX16_allSpeaking_4 : decode cX16_allSpeaking 4 = .ok (.iload_n 2, 1) := by decide +kernel
theorem dX16_allSpeaking_5 : decode cX16_allSpeaking 5 = .ok (.aload_n 0, 1) := by decide +kernel
theorem dX16_allSpeaking_6 : decode cX16_allSpeaking 6 = .ok (.getfield 251, 3) := by decide +kernel
theorem dX16_allSpeaking_9 : decode cX16_allSpeaking 9 = .ok (.if_icmp .ge 26, 3) := by decide +kernel
theorem dX16_allSpeaking_12 : decode cX16_allSpeaking 12 = .ok (.iload_n 1, 1) := by decide +kernel
theorem dX16_allSpeaking_13 : decode cX16_allSpeaking 13 = .ok (.aload_n 0, 1) := by decide +kernel
theorem dX16_allSpeaking_14 : decode cX16_allSpeaking 14 = .ok (.getfield 47, 3) := by decide +kernel
theorem dX16_allSpeaking_17 : decode cX16_allSpeaking 17 = .ok (.iload_n 2, 1) := by decide +kernel
theorem dX16_allSpeaking_18 : decode cX16_allSpeaking 18 = .ok (.baload, 1) := by decide +kernel
theorem dX16_allSpeaking_19 : decode cX16_allSpeaking 19 = .ok (.ifCond .eq 7, 3) := by decide +kernel
theorem dX16_allSpeaking_22 : decode cX16_allSpeaking 22 = .ok (.iconst 1, 1) := by decide +kernel
theorem dX16_allSpeaking_23 : decode cX16_allSpeaking 23 = .ok (.goto 4, 3) := by decide +kernel
theorem dX16_allSpeaking_26 : decode cX16_allSpeaking 26 = .ok (.iconst 0, 1) := by decide +kernel
theorem dX16_allSpeaking_27 : decode cX16_allSpeaking 27 = .ok (.iadd, 1) := by decide +kernel
theorem dX16_allSpeaking_28 : decode cX16_allSpeaking 28 = .ok (.istore_n 1, 1) := by decide +kernel
theorem dX16_allSpeaking_29 : decode cX16_allSpeaking 29 = .ok (.iinc 2 1, 3) := by decide +kernel
theorem dX16_allSpeaking_32 : decode cX16_allSpeaking 32 = .ok (.goto (-28), 3) := by decide +kernel
theorem dX16_allSpeaking_35 : decode cX16_allSpeaking 35 = .ok (.iload_n 1, 1) := by decide +kernel
theorem dX16_allSpeaking_36 : decode cX16_allSpeaking 36 = .ok (.ireturn, 1) := by decide +kernel
theorem dX16_speaking_0 : decode cX16_speaking 0 = .ok (.aload_n 0, 1) := by decide +kernel
theorem dX16_speaking_1 : decode cX16_speaking 1 = .ok (.aload_n 0, 1) := by decide +kernel
theorem dX16_speaking_2 : decode cX16_speaking 2 = .ok (.invokevirtual 361, 3) := by decide +kernel
theorem dX16_speaking_5 : decode cX16_speaking 5 = .ok (.invokevirtual 317, 3) := by decide +kernel
theorem dX16_speaking_8 : decode cX16_speaking 8 = .ok (.ireturn, 1) := by decide +kernel
theorem dX16_begun_0 : decode cX16_begun 0 = .ok (.aload_n 0, 1) := by decide +kernel
theorem dX16_begun_1 : decode cX16_begun 1 = .ok (.iload_n 1, 1) := by decide +kernel
theorem dX16_begun_2 : decode cX16_begun 2 = .ok (.iload_n 2, 1) := by decide +kernel
theorem dX16_begun_3 : decode cX16_begun 3 = .ok (.invokevirtual 241, 3) := by decide +kernel
theorem dX16_begun_6 : decode cX16_begun 6 = .ok (.ifCond .eq 21, 3) := by decide +kernel
theorem dX16_begun_9 : decode cX16_begun 9 = .ok (.aload_n 0, 1) := by decide +kernel
theorem dX16_begun_10 : decode cX16_begun 10 = .ok (.aload_n 0, 1) := by decide +kernel
theorem dX16_begun_11 : decode cX16_begun 11 = .ok (.getfield 63, 3) := by decide +kernel
theorem dX16_begun_14 : decode cX16_begun 14 = .ok (.aload_n 0, 1) := by decide +kernel
theorem dX16_begun_15 : decode cX16_begun 15 = .ok (.iload_n 1, 1) := by decide +kernel
theorem dX16_begun_16 : decode cX16_begun 16 = .ok (.iload_n 2, 1) := by decide +kernel
theorem dX16_begun_17 : decode cX16_begun 17 = .ok (.invokevirtual 245, 3) := by decide +kernel
theorem dX16_begun_20 : decode cX16_begun 20 = .ok (.iaload, 1) := by decide +kernel
theorem dX16_begun_21 : decode cX16_begun 21 = .ok (.invokevirtual 317, 3) := by decide +kernel
theorem dX16_begun_24 : decode cX16_begun 24 = .ok (.goto 8, 3) := by decide +kernel
theorem dX16_begun_27 : decode cX16_begun 27 = .ok (.aload_n 0, 1) := by decide +kernel
theorem dX16_begun_28 : decode cX16_begun 28 = .ok (.iconst 1, 1) := by decide +kernel
theorem dX16_begun_29 : decode cX16_begun 29 = .ok (.invokevirtual 324, 3) := by decide +kernel
theorem dX16_begun_32 : decode cX16_begun 32 = .ok (.ireturn, 1) := by decide +kernel
theorem dX16_ended_0 : decode cX16_ended 0 = .ok (.aload_n 0, 1) := by decide +kernel
theorem dX16_ended_1 : decode cX16_ended 1 = .ok (.iconst 0, 1) := by decide +kernel
theorem dX16_ended_2 : decode cX16_ended 2 = .ok (.putfield 139, 3) := by decide +kernel
theorem dX16_ended_5 : decode cX16_ended 5 = .ok (.aload_n 0, 1) := by decide +kernel
theorem dX16_ended_6 : decode cX16_ended 6 = .ok (.getfield 311, 3) := by decide +kernel
theorem dX16_ended_9 : decode cX16_ended 9 = .ok (.lreturn, 1) := by decide +kernel
theorem dX16_supply_0 : decode cX16_supply 0 = .ok (.iload_n 1, 1) := by decide +kernel
theorem dX16_supply_1 : decode cX16_supply 1 = .ok (.invokestatic 147, 3) := by decide +kernel
theorem dX16_supply_4 : decode cX16_supply 4 = .ok (.ifCond .ne 9, 3) := by decide +kernel
theorem dX16_supply_7 : decode cX16_supply 7 = .ok (.aload_n 0, 1) := by decide +kernel
theorem dX16_supply_8 : decode cX16_supply 8 = .ok (.iconst 1, 1) := by decide +kernel
theorem dX16_supply_9 : decode cX16_supply 9 = .ok (.invokevirtual 324, 3) := by decide +kernel
theorem dX16_supply_12 : decode cX16_supply 12 = .ok (.ireturn, 1) := by decide +kernel
theorem dX16_supply_13 : decode cX16_supply 13 = .ok (.iload_n 2, 1) := by decide +kernel
theorem dX16_supply_14 : decode cX16_supply 14 = .ok (.iconst 0, 1) := by decide +kernel
theorem dX16_supply_15 : decode cX16_supply 15 = .ok (.sipush 999, 3) := by decide +kernel
theorem dX16_supply_18 : decode cX16_supply 18 = .ok (.invokestatic 143, 3) := by decide +kernel
theorem dX16_supply_21 : decode cX16_supply 21 = .ok (.ifCond .ne 9, 3) := by decide +kernel
theorem dX16_supply_24 : decode cX16_supply 24 = .ok (.aload_n 0, 1) := by decide +kernel
theorem dX16_supply_25 : decode cX16_supply 25 = .ok (.iconst 2, 1) := by decide +kernel
theorem dX16_supply_26 : decode cX16_supply 26 = .ok (.invokevirtual 324, 3) := by decide +kernel
theorem dX16_supply_29 : decode cX16_supply 29 = .ok (.ireturn, 1) := by decide +kernel
theorem dX16_supply_30 : decode cX16_supply 30 = .ok (.aload_n 0, 1) := by decide +kernel
theorem dX16_supply_31 : decode cX16_supply 31 = .ok (.getfield 76, 3) := by decide +kernel
theorem dX16_supply_34 : decode cX16_supply 34 = .ok (.iload_n 1, 1) := by decide +kernel
theorem dX16_supply_35 : decode cX16_supply 35 = .ok (.iaload, 1) := by decide +kernel
theorem dX16_supply_36 : decode cX16_supply 36 = .ok (.istore_n 3, 1) := by decide +kernel
theorem dX16_supply_37 : decode cX16_supply 37 = .ok (.aload_n 0, 1) := by decide +kernel
theorem dX16_supply_38 : decode cX16_supply 38 = .ok (.getfield 76, 3) := by decide +kernel
theorem dX16_supply_41 : decode cX16_supply 41 = .ok (.iload_n 1, 1) := by decide +kernel
theorem dX16_supply_42 : decode cX16_supply 42 = .ok (.iload_n 2, 1) := by decide +kernel
theorem dX16_supply_43 : decode cX16_supply 43 = .ok (.iastore, 1) := by decide +kernel
theorem dX16_supply_44 : decode cX16_supply 44 = .ok (.aload_n 0, 1) := by decide +kernel
theorem dX16_supply_45 : decode cX16_supply 45 = .ok (.iload_n 3, 1) := by decide +kernel
theorem dX16_supply_46 : decode cX16_supply 46 = .ok (.invokevirtual 332, 3) := by decide +kernel
theorem dX16_supply_49 : decode cX16_supply 49 = .ok (.ireturn, 1) := by decide +kernel
theorem dX16_wind_0 : decode cX16_wind 0 = .ok (.iload_n 1, 1) := by decide +kernel
theorem dX16_wind_1 : decode cX16_wind 1 = .ok (.invokestatic 147, 3) := by decide +kernel
theorem dX16_wind_4 : decode cX16_wind 4 = .ok (.ifCond .ne 9, 3) := by decide +kernel
theorem dX16_wind_7 : decode cX16_wind 7 = .ok (.aload_n 0, 1) := by decide +kernel
theorem dX16_wind_8 : decode cX16_wind 8 = .ok (.iconst 1, 1) := by decide +kernel
theorem dX16_wind_9 : decode cX16_wind 9 = .ok (.invokevirtual 324, 3) := by decide +kernel
theorem dX16_wind_12 : decode cX16_wind 12 = .ok (.ireturn, 1) := by decide +kernel
theorem dX16_wind_13 : decode cX16_wind 13 = .ok (.aload_n 0, 1) := by decide +kernel
theorem dX16_wind_14 : decode cX16_wind 14 = .ok (.invokevirtual 304, 3) := by decide +kernel
theorem dX16_wind_17 : decode cX16_wind 17 = .ok (.aload_n 0, 1) := by decide +kernel
theorem dX16_wind_18 : decode cX16_wind 18 = .ok (.aload_n 0, 1) := by decide +kernel
theorem dX16_wind_19 : decode cX16_wind 19 = .ok (.getfield 85, 3) := by decide +kernel
theorem dX16_wind_22 : decode cX16_wind 22 = .ok (.iload_n 1, 1) := by decide +kernel
theorem dX16_wind_23 : decode cX16_wind 23 = .ok (.iaload, 1) := by decide +kernel
theorem dX16_wind_24 : decode cX16_wind 24 = .ok (.invokevirtual 317, 3) := by decide +kernel
theorem dX16_wind_27 : decode cX16_wind 27 = .ok (.ireturn, 1) := by decide +kernel
theorem dX16_box_0 : decode cX16_box 0 = .ok (.iload_n 1, 1) := by decide +kernel
theorem dX16_box_1 : decode cX16_box 1 = .ok (.iconst 1, 1) := by decide +kernel
theorem dX16_box_2 : decode cX16_box 2 = .ok (.iconst 2, 1) := by decide +kernel
theorem dX16_box_3 : decode cX16_box 3 = .ok (.invokestatic 143, 3) := by decide +kernel
theorem dX16_box_6 : decode cX16_box 6 = .ok (.ifCond .eq 13, 3) := by decide +kernel
theorem dX16_box_9 : decode cX16_box 9 = .ok (.iload_n 2, 1) := by decide +kernel
theorem dX16_box_10 : decode cX16_box 10 = .ok (.iconst 0, 1) := by decide +kernel
theorem dX16_box_11 : decode cX16_box 11 = .ok (.bipush 10, 2) := by decide +kernel
theorem dX16_box_13 : decode cX16_box 13 = .ok (.invokestatic 143, 3) := by decide +kernel
theorem dX16_box_16 : decode cX16_box 16 = .ok (.ifCond .ne 9, 3) := by decide +kernel
theorem dX16_box_19 : decode cX16_box 19 = .ok (.aload_n 0, 1) := by decide +kernel
theorem dX16_box_20 : decode cX16_box 20 = .ok (.iconst 1, 1) := by decide +kernel
theorem dX16_box_21 : decode cX16_box 21 = .ok (.invokevirtual 324, 3) := by decide +kernel
theorem dX16_box_24 : decode cX16_box 24 = .ok (.ireturn, 1) := by decide +kernel
theorem dX16_box_25 : decode cX16_box 25 = .ok (.aload_n 0, 1) := by decide +kernel
theorem dX16_box_26 : decode cX16_box 26 = .ok (.getfield 79, 3) := by decide +kernel
theorem dX16_box_29 : decode cX16_box 29 = .ok (.iload_n 1, 1) := by decide +kernel
theorem dX16_box_30 : decode cX16_box 30 = .ok (.iaload, 1) := by decide +kernel
theorem dX16_box_31 : decode cX16_box 31 = .ok (.istore_n 3, 1) := by decide +kernel
theorem dX16_box_32 : decode cX16_box 32 = .ok (.aload_n 0, 1) := by decide +kernel
theorem dX16_box_33 : decode cX16_box 33 = .ok (.getfield 79, 3) := by decide +kernel
theorem dX16_box_36 : decode cX16_box 36 = .ok (.iload_n 1, 1) := by decide +kernel
theorem dX16_box_37 : decode cX16_box 37 = .ok (.iload_n 2, 1) := by decide +kernel
theorem dX16_box_38 : decode cX16_box 38 = .ok (.iastore, 1) := by decide +kernel
theorem dX16_box_39 : decode cX16_box 39 = .ok (.aload_n 0, 1) := by decide +kernel
theorem dX16_box_40 : decode cX16_box 40 = .ok (.iload_n 3, 1) := by decide +kernel
theorem dX16_box_41 : decode cX16_box 41 = .ok (.invokevirtual 332, 3) := by decide +kernel
theorem dX16_box_44 : decode cX16_box 44 = .ok (.ireturn, 1) := by decide +kernel
theorem dX16_loudness_0 : decode cX16_loudness 0 = .ok (.iconst 0, 1) := by decide +kernel
theorem dX16_loudness_1 : decode cX16_loudness 1 = .ok (.istore_n 1, 1) := by decide +kernel
theorem dX16_loudness_2 : decode cX16_loudness 2 = .ok (.iconst 0, 1) := by decide +kernel
theorem dX16_loudness_3 : decode cX16_loudness 3 = .ok (.istore_n 2, 1) := by decide +kernel
theorem dX16_loudness_4 : decode cX16_loudness 4 = .ok (.iload_n 2, 1) := by decide +kernel
theorem dX16_loudness_5 : decode cX16_loudness 5 = .ok (.aload_n 0, 1) := by decide +kernel
theorem dX16_loudness_6 : decode cX16_loudness 6 = .ok (.getfield 251, 3) := by decide +kernel
theorem dX16_loudness_9 : decode cX16_loudness 9 = .ok (.if_icmp .ge 72, 3) := by decide +kernel
theorem dX16_loudness_12 : decode cX16_loudness 12 = .ok (.iload_n 1, 1) := by decide +kernel
theorem dX16_loudness_13 : decode cX16_loudness 13 = .ok (.aload_n 0, 1) := by decide +kernel
theorem dX16_loudness_14 : decode cX16_loudness 14 = .ok (.getfield 47, 3) := by decide +kernel
theorem dX16_loudness_17 : decode cX16_loudness 17 = .ok (.iload_n 2, 1) := by decide +kernel
theorem dX16_loudness_18 : decode cX16_loudness 18 = .ok (.baload, 1) := by decide +kernel
theorem dX16_loudness_19 : decode cX16_loudness 19 = .ok (.ifCond .eq 53, 3) := by decide +kernel
theorem dX16_loudness_22 : decode cX16_loudness 22 = .ok (.aload_n 0, 1) := by decide +kernel
theorem dX16_loudness_23 : decode cX16_loudness 23 = .ok (.getfield 10, 3) := by decide +kernel
theorem dX16_loudness_26 : decode cX16_loudness 26 = .ok (.aload_n 0, 1) := by decide +kernel
theorem dX16_loudness_27 : decode cX16_loudness 27 = .ok (.getfield 69, 3) := by decide +kernel
theorem dX16_loudness_30 : decode cX16_loudness 30 = .ok (.iload_n 2, 1) := by decide +kernel
theorem dX16_loudness_31 : decode cX16_loudness 31 = .ok (.iaload, 1) := by decide +kernel
theorem dX16_loudness_32 : decode cX16_loudness 32 = .ok (.invokevirtual 162, 3) := by decide +kernel
theorem dX16_loudness_35 : decode cX16_loudness 35 = .ok (.checkcast 166, 3) := by decide +kernel
theorem dX16_loudness_38 : decode cX16_loudness 38 = .ok (.getfield 364, 3) := by decide +kernel
theorem dX16_loudness_41 : decode cX16_loudness 41 = .ok (.aload_n 0, 1) := by decide +kernel
theorem dX16_loudness_42 : decode cX16_loudness 42 = .ok (.getfield 79, 3) := by decide +kernel
theorem dX16_loudness_45 : decode cX16_loudness 45 = .ok (.aload_n 0, 1) := by decide +kernel
theorem dX16_loudness_46 : decode cX16_loudness 46 = .ok (.getfield 10, 3) := by decide +kernel
theorem dX16_loudness_49 : decode cX16_loudness 49 = .ok (.aload_n 0, 1) := by decide +kernel
theorem dX16_loudness_50 : decode cX16_loudness 50 = .ok (.getfield 69, 3) := by decide +kernel
theorem dX16_loudness_53 : decode cX16_loudness 53 = .ok (.iload_n 2, 1) := by decide +kernel
theorem dX16_loudness_54 : decode cX16_loudness 54 = .ok (.iaload, 1) := by decide +kernel
theorem dX16_loudness_55 : decode cX16_loudness 55 = .ok (.invokevirtual 162, 3) := by decide +kernel
theorem dX16_loudness_58 : decode cX16_loudness 58 = .ok (.checkcast 166, 3) := by decide +kernel
theorem dX16_loudness_61 : decode cX16_loudness 61 = .ok (.getfield 274, 3) := by decide +kernel
theorem dX16_loudness_64 : decode cX16_loudness 64 = .ok (.iaload, 1) := by decide +kernel
theorem dX16_loudness_65 : decode cX16_loudness 65 = .ok (.imul, 1) := by decide +kernel
theorem dX16_loudness_66 : decode cX16_loudness 66 = .ok (.bipush 10, 2) := by decide +kernel
theorem dX16_loudness_68 : decode cX16_loudness 68 = .ok (.idiv, 1) := by decide +kernel
theorem dX16_loudness_69 : decode cX16_loudness 69 = .ok (.goto 4, 3) := by decide +kernel
theorem dX16_loudness_72 : decode cX16_loudness 72 = .ok (.iconst 0, 1) := by decide +kernel
theorem dX16_loudness_73 : decode cX16_loudness 73 = .ok (.iadd, 1) := by decide +kernel
theorem dX16_loudness_74 : decode cX16_loudness 74 = .ok (.istore_n 1, 1) := by decide +kernel
theorem dX16_loudness_75 : decode cX16_loudness 75 = .ok (.iinc 2 1, 3) := by decide +kernel
theorem dX16_loudness_78 : decode cX16_loudness 78 = .ok (.goto (-74), 3) := by decide +kernel
theorem dX16_loudness_81 : decode cX16_loudness 81 = .ok (.aload_n 0, 1) := by decide +kernel
theorem dX16_loudness_82 : decode cX16_loudness 82 = .ok (.iload_n 1, 1) := by decide +kernel
theorem dX16_loudness_83 : decode cX16_loudness 83 = .ok (.invokevirtual 317, 3) := by decide +kernel
theorem dX16_loudness_86 : decode cX16_loudness 86 = .ok (.ireturn, 1) := by decide +kernel
theorem dX16_temper_0 : decode cX16_temper 0 = .ok (.iload_n 1, 1) := by decide +kernel
theorem dX16_temper_1 : decode cX16_temper 1 = .ok (.iconst 0, 1) := by decide +kernel
theorem dX16_temper_2 : decode cX16_temper 2 = .ok (.bipush 11, 2) := by decide +kernel
theorem dX16_temper_4 : decode cX16_temper 4 = .ok (.invokestatic 143, 3) := by decide +kernel
theorem dX16_temper_7 : decode cX16_temper 7 = .ok (.ifCond .eq 14, 3) := by decide +kernel
theorem dX16_temper_10 : decode cX16_temper 10 = .ok (.iload_n 2, 1) := by decide +kernel
theorem dX16_temper_11 : decode cX16_temper 11 = .ok (.bipush (-50), 2) := by decide +kernel
theorem dX16_temper_13 : decode cX16_temper 13 = .ok (.bipush 50, 2) := by decide +kernel
theorem dX16_temper_15 : decode cX16_temper 15 = .ok (.invokestatic 143, 3) := by decide +kernel
theorem dX16_temper_18 : decode cX16_temper 18 = .ok (.ifCond .ne 9, 3) := by decide +kernel
theorem dX16_temper_21 : decode cX16_temper 21 = .ok (.aload_n 0, 1) := by decide +kernel
theorem dX16_temper_22 : decode cX16_temper 22 = .ok (.iconst 1, 1) := by decide +kernel
theorem dX16_temper_23 : decode cX16_temper 23 = .ok (.invokevirtual 324, 3) := by decide +kernel
theorem dX16_temper_26 : decode cX16_temper 26 = .ok (.ireturn, 1) := by decide +kernel
theorem dX16_temper_27 : decode cX16_temper 27 = .ok (.aload_n 0, 1) := by decide +kernel
theorem dX16_temper_28 : decode cX16_temper 28 = .ok (.getfield 82, 3) := by decide +kernel
theorem dX16_temper_31 : decode cX16_temper 31 = .ok (.iload_n 1, 1) := by decide +kernel
theorem dX16_temper_32 : decode cX16_temper 32 = .ok (.iaload, 1) := by decide +kernel
theorem dX16_temper_33 : decode cX16_temper 33 = .ok (.istore_n 3, 1) := by decide +kernel
theorem dX16_temper_34 : decode cX16_temper 34 = .ok (.aload_n 0, 1) := by decide +kernel
theorem dX16_temper_35 : decode cX16_temper 35 = .ok (.getfield 82, 3) := by decide +kernel
theorem dX16_temper_38 : decode cX16_temper 38 = .ok (.iload_n 1, 1) := by decide +kernel
theorem dX16_temper_39 : decode cX16_temper 39 = .ok (.iload_n 2, 1) := by decide +kernel
theorem dX16_temper_40 : decode cX16_temper 40 = .ok (.iastore, 1) := by decide +kernel
theorem dX16_temper_41 : decode cX16_temper 41 = .ok (.aload_n 0, 1) := by decide +kernel
theorem dX16_temper_42 : decode cX16_temper 42 = .ok (.iload_n 3, 1) := by decide +kernel
theorem dX16_temper_43 : decode cX16_temper 43 = .ok (.invokevirtual 332, 3) := by decide +kernel
theorem dX16_temper_46 : decode cX16_temper 46 = .ok (.ireturn, 1) := by decide +kernel
theorem dX16_tune_0 : decode cX16_tune 0 = .ok (.aload_n 0, 1) := by decide +kernel
theorem dX16_tune_1 : decode cX16_tune 1 = .ok (.iload_n 1, 1) := by decide +kernel
theorem dX16_tune_2 : decode cX16_tune 2 = .ok (.iload_n 2, 1) := by decide +kernel
theorem dX16_tune_3 : decode cX16_tune 3 = .ok (.invokevirtual 241, 3) := by decide +kernel
theorem dX16_tune_6 : decode cX16_tune 6 = .ok (.ifCond .ne 9, 3) := by decide +kernel
theorem dX16_tune_9 : decode cX16_tune 9 = .ok (.aload_n 0, 1) := by decide +kernel
theorem dX16_tune_10 : decode cX16_tune 10 = .ok (.iconst 1, 1) := by decide +kernel
theorem dX16_tune_11 : decode cX16_tune 11 = .ok (.invokevirtual 324, 3) := by decide +kernel
theorem dX16_tune_14 : decode cX16_tune 14 = .ok (.ireturn, 1) := by decide +kernel
theorem dX16_tune_15 : decode cX16_tune 15 = .ok (.iload_n 3, 1) := by decide +kernel
theorem dX16_tune_16 : decode cX16_tune 16 = .ok (.bipush (-50), 2) := by decide +kernel
theorem dX16_tune_18 : decode cX16_tune 18 = .ok (.bipush 50, 2) := by decide +kernel
theorem dX16_tune_20 : decode cX16_tune 20 = .ok (.invokestatic 143, 3) := by decide +kernel
theorem dX16_tune_23 : decode cX16_tune 23 = .ok (.ifCond .ne 9, 3) := by decide +kernel
theorem dX16_tune_26 : decode cX16_tune 26 = .ok (.aload_n 0, 1) := by decide +kernel
theorem dX16_tune_27 : decode cX16_tune 27 = .ok (.iconst 2, 1) := by decide +kernel
theorem dX16_tune_28 : decode cX16_tune 28 = .ok (.invokevirtual 324, 3) := by decide +kernel
theorem dX16_tune_31 : decode cX16_tune 31 = .ok (.ireturn, 1) := by decide +kernel
theorem dX16_tune_32 : decode cX16_tune 32 = .ok (.aload_n 0, 1) := by decide +kernel
theorem dX16_tune_33 : decode cX16_tune 33 = .ok (.getfield 66, 3) := by decide +kernel
theorem dX16_tune_36 : decode cX16_tune 36 = .ok (.aload_n 0, 1) := by decide +kernel
theorem dX16_tune_37 : decode cX16_tune 37 = .ok (.iload_n 1, 1) := by decide +kernel
theorem dX16_tune_38 : decode cX16_tune 38 = .ok (.iload_n 2, 1) := by decide +kernel
theorem dX16_tune_39 : decode cX16_tune 39 = .ok (.invokevirtual 245, 3) := by decide +kernel
theorem dX16_tune_42 : decode cX16_tune 42 = .ok (.iaload, 1) := by decide +kernel
theorem dX16_tune_43 : decode cX16_tune 43 = .ok (.istore 4, 2) := by decide +kernel
theorem dX16_tune_45 : decode cX16_tune 45 = .ok (.aload_n 0, 1) := by decide +kernel
theorem dX16_tune_46 : decode cX16_tune 46 = .ok (.getfield 66, 3) := by decide +kernel
theorem dX16_tune_49 : decode cX16_tune 49 = .ok (.aload_n 0, 1) := by decide +kernel
theorem dX16_tune_50 : decode cX16_tune 50 = .ok (.iload_n 1, 1) := by decide +kernel
theorem dX16_tune_51 : decode cX16_tune 51 = .ok (.iload_n 2, 1) := by decide +kernel
theorem dX16_tune_52 : decode cX16_tune 52 = .ok (.invokevirtual 245, 3) := by decide +kernel
theorem dX16_tune_55 : decode cX16_tune 55 = .ok (.iload_n 3, 1) := by decide +kernel
theorem dX16_tune_56 : decode cX16_tune 56 = .ok (.iastore, 1) := by decide +kernel
theorem dX16_tune_57 : decode cX16_tune 57 = .ok (.aload_n 0, 1) := by decide +kernel
theorem dX16_tune_58 : decode cX16_tune 58 = .ok (.iload 4, 2) := by decide +kernel
theorem dX16_tune_60 : decode cX16_tune 60 = .ok (.invokevirtual 332, 3) := by decide +kernel
theorem dX16_tune_63 : decode cX16_tune 63 = .ok (.ireturn, 1) := by decide +kernel
theorem dX16_pitchOf_0 : decode cX16_pitchOf 0 = .ok (.aload_n 0, 1) := by decide +kernel
theorem dX16_pitchOf_1 : decode cX16_pitchOf 1 = .ok (.getfield 10, 3) := by decide +kernel
theorem dX16_pitchOf_4 : decode cX16_pitchOf 4 = .ok (.aload_n 0, 1) := by decide +kernel
theorem dX16_pitchOf_5 : decode cX16_pitchOf 5 = .ok (.getfield 69, 3) := by decide +kernel
theorem dX16_pitchOf_8 : decode cX16_pitchOf 8 = .ok (.iload_n 1, 1) := by decide +kernel
theorem dX16_pitchOf_9 : decode cX16_pitchOf 9 = .ok (.iaload, 1) := by decide +kernel
theorem dX16_pitchOf_10 : decode cX16_pitchOf 10 = .ok (.invokevirtual 162, 3) := by decide +kernel
theorem dX16_pitchOf_13 : decode cX16_pitchOf 13 = .ok (.checkcast 166, 3) := by decide +kernel
theorem dX16_pitchOf_16 : decode cX16_pitchOf 16 = .ok (.astore_n 2, 1) := by decide +kernel
theorem dX16_pitchOf_17 : decode cX16_pitchOf 17 = .ok (.aload_n 2, 1) := by decide +kernel
theorem dX16_pitchOf_18 : decode cX16_pitchOf 18 = .ok (.getfield 168, 3) := by decide +kernel
theorem dX16_pitchOf_21 : decode cX16_pitchOf 21 = .ok (.iload_n 1, 1) := by decide +kernel
theorem dX16_pitchOf_22 : decode cX16_pitchOf 22 = .ok (.iadd, 1) := by decide +kernel
theorem dX16_pitchOf_23 : decode cX16_pitchOf 23 = .ok (.aload_n 2, 1) := by decide +kernel
theorem dX16_pitchOf_24 : decode cX16_pitchOf 24 = .ok (.getfield 174, 3) := by decide +kernel
theorem dX16_pitchOf_27 : decode cX16_pitchOf 27 = .ok (.isub, 1) := by decide +kernel
theorem dX16_pitchOf_28 : decode cX16_pitchOf 28 = .ok (.istore_n 3, 1) := by decide +kernel
theorem dX16_pitchOf_29 : decode cX16_pitchOf 29 = .ok (.bipush 100, 2) := by decide +kernel
theorem dX16_pitchOf_31 : decode cX16_pitchOf 31 = .ok (.iload_n 3, 1) := by decide +kernel
theorem dX16_pitchOf_32 : decode cX16_pitchOf 32 = .ok (.imul, 1) := by decide +kernel
theorem dX16_pitchOf_33 : decode cX16_pitchOf 33 = .ok (.aload_n 0, 1) := by decide +kernel
theorem dX16_pitchOf_34 : decode cX16_pitchOf 34 = .ok (.getfield 82, 3) := by decide +kernel
theorem dX16_pitchOf_37 : decode cX16_pitchOf 37 = .ok (.iload_n 3, 1) := by decide +kernel
theorem dX16_pitchOf_38 : decode cX16_pitchOf 38 = .ok (.bipush 12, 2) := by decide +kernel
theorem dX16_pitchOf_40 : decode cX16_pitchOf 40 = .ok (.irem, 1) := by decide +kernel
theorem dX16_pitchOf_41 : decode cX16_pitchOf 41 = .ok (.iaload, 1) := by decide +kernel
theorem dX16_pitchOf_42 : decode cX16_pitchOf 42 = .ok (.iadd, 1) := by decide +kernel
theorem dX16_pitchOf_43 : decode cX16_pitchOf 43 = .ok (.aload_n 0, 1) := by decide +kernel
theorem dX16_pitchOf_44 : decode cX16_pitchOf 44 = .ok (.getfield 66, 3) := by decide +kernel
theorem dX16_pitchOf_47 : decode cX16_pitchOf 47 = .ok (.iload_n 1, 1) := by decide +kernel
theorem dX16_pitchOf_48 : decode cX16_pitchOf 48 = .ok (.iaload, 1) := by decide +kernel
theorem dX16_pitchOf_49 : decode cX16_pitchOf 49 = .ok (.iadd, 1) := by decide +kernel
theorem dX16_pitchOf_50 : decode cX16_pitchOf 50 = .ok (.aload_n 0, 1) := by decide +kernel
theorem dX16_pitchOf_51 : decode cX16_pitchOf 51 = .ok (.getfield 367, 3) := by decide +kernel
theorem dX16_pitchOf_54 : decode cX16_pitchOf 54 = .ok (.aload_n 2, 1) := by decide +kernel
theorem dX16_pitchOf_55 : decode cX16_pitchOf 55 = .ok (.getfield 370, 3) := by decide +kernel
theorem dX16_pitchOf_58 : decode cX16_pitchOf 58 = .ok (.imul, 1) := by decide +kernel
theorem dX16_pitchOf_59 : decode cX16_pitchOf 59 = .ok (.bipush 10, 2) := by decide +kernel
theorem dX16_pitchOf_61 : decode cX16_pitchOf 61 = .ok (.idiv, 1) := by decide +kernel
theorem dX16_pitchOf_62 : decode cX16_pitchOf 62 = .ok (.iadd, 1) := by decide +kernel
theorem dX16_pitchOf_63 : decode cX16_pitchOf 63 = .ok (.bipush 100, 2) := by decide +kernel
theorem dX16_pitchOf_65 : decode cX16_pitchOf 65 = .ok (.aload_n 0, 1) := by decide +kernel
theorem dX16_pitchOf_66 : decode cX16_pitchOf 66 = .ok (.getfield 85, 3) := by decide +kernel
theorem dX16_pitchOf_69 : decode cX16_pitchOf 69 = .ok (.aload_n 2, 1) := by decide +kernel
theorem dX16_pitchOf_70 : decode cX16_pitchOf 70 = .ok (.getfield 274, 3) := by decide +kernel
theorem dX16_pitchOf_73 : decode cX16_pitchOf 73 = .ok (.iaload, 1) := by decide +kernel
theorem dX16_pitchOf_74 : decode cX16_pitchOf 74 = .ok (.isub, 1) := by decide +kernel
theorem dX16_pitchOf_75 : decode cX16_pitchOf 75 = .ok (.bipush 10, 2) := by decide +kernel
theorem dX16_pitchOf_77 : decode cX16_pitchOf 77 = .ok (.idiv, 1) := by decide +kernel
theorem dX16_pitchOf_78 : decode cX16_pitchOf 78 = .ok (.isub, 1) := by decide +kernel
theorem dX16_pitchOf_79 : decode cX16_pitchOf 79 = .ok (.ireturn, 1) := by decide +kernel
theorem dX16_tuneTo_0 : decode cX16_tuneTo 0 = .ok (.aload_n 0, 1) := by decide +kernel
theorem dX16_tuneTo_1 : decode cX16_tuneTo 1 = .ok (.iload_n 1, 1) := by decide +kernel
theorem dX16_tuneTo_2 : decode cX16_tuneTo 2 = .ok (.iload_n 2, 1) := by decide +kernel
theorem dX16_tuneTo_3 : decode cX16_tuneTo 3 = .ok (.invokevirtual 241, 3) := by decide +kernel
theorem dX16_tuneTo_6 : decode cX16_tuneTo 6 = .ok (.ifCond .eq 13, 3) := by decide +kernel
theorem dX16_tuneTo_9 : decode cX16_tuneTo 9 = .ok (.aload_n 0, 1) := by decide +kernel
theorem dX16_tuneTo_10 : decode cX16_tuneTo 10 = .ok (.iload_n 3, 1) := by decide +kernel
theorem dX16_tuneTo_11 : decode cX16_tuneTo 11 = .ok (.iload 4, 2) := by decide +kernel
theorem dX16_tuneTo_13 : decode cX16_tuneTo 13 = .ok (.invokevirtual 241, 3) := by decide +kernel
theorem dX16_tuneTo_16 : decode cX16_tuneTo 16 = .ok (.ifCond .ne 9, 3) := by decide +kernel
theorem dX16_tuneTo_19 : decode cX16_tuneTo 19 = .ok (.aload_n 0, 1) := by decide +kernel
theorem dX16_tuneTo_20 : decode cX16_tuneTo 20 = .ok (.iconst 1, 1) := by decide +kernel
theorem dX16_tuneTo_21 : decode cX16_tuneTo 21 = .ok (.invokevirtual 324, 3) := by decide +kernel
theorem dX16_tuneTo_24 : decode cX16_tuneTo 24 = .ok (.ireturn, 1) := by decide +kernel
theorem dX16_tuneTo_25 : decode cX16_tuneTo 25 = .ok (.aload_n 0, 1) := by decide +kernel
theorem dX16_tuneTo_26 : decode cX16_tuneTo 26 = .ok (.invokevirtual 304, 3) := by decide +kernel
theorem dX16_tuneTo_29 : decode cX16_tuneTo 29 = .ok (.aload_n 0, 1) := by decide +kernel
theorem dX16_tuneTo_30 : decode cX16_tuneTo 30 = .ok (.iload_n 1, 1) := by decide +kernel
theorem dX16_tuneTo_31 : decode cX16_tuneTo 31 = .ok (.iload_n 2, 1) := by decide +kernel
theorem dX16_tuneTo_32 : decode cX16_tuneTo 32 = .ok (.invokevirtual 245, 3) := by decide +kernel
theorem dX16_tuneTo_35 : decode cX16_tuneTo 35 = .ok (.istore 5, 2) := by decide +kernel
theorem dX16_tuneTo_37 : decode cX16_tuneTo 37 = .ok (.aload_n 0, 1) := by decide +kernel
theorem dX16_tuneTo_38 : decode cX16_tuneTo 38 = .ok (.getfield 66, 3) := by decide +kernel
theorem dX16_tuneTo_41 : decode cX16_tuneTo 41 = .ok (.iload 5, 2) := by decide +kernel
theorem dX16_tuneTo_43 : decode cX16_tuneTo 43 = .ok (.iaload, 1) := by decide +kernel
theorem dX16_tuneTo_44 : decode cX16_tuneTo 44 = .ok (.aload_n 0, 1) := by decide +kernel
theorem dX16_tuneTo_45 : decode cX16_tuneTo 45 = .ok (.aload_n 0, 1) := by decide +kernel
theorem dX16_tuneTo_46 : decode cX16_tuneTo 46 = .ok (.iload_n 3, 1) := by decide +kernel
theorem dX16_tuneTo_47 : decode cX16_tuneTo 47 = .ok (.iload 4, 2) := by decide +kernel
theorem dX16_tuneTo_49 : decode cX16_tuneTo 49 = .ok (.invokevirtual 245, 3) := by decide +kernel
theorem dX16_tuneTo_52 : decode cX16_tuneTo 52 = .ok (.invokevirtual 371, 3) := by decide +kernel
theorem dX16_tuneTo_55 : decode cX16_tuneTo 55 = .ok (.iadd, 1) := by decide +kernel
theorem dX16_tuneTo_56 : decode cX16_tuneTo 56 = .ok (.aload_n 0, 1) := by decide +kernel
theorem dX16_tuneTo_57 : decode cX16_tuneTo 57 = .ok (.iload 5, 2) := by decide +kernel
theorem dX16_tuneTo_59 : decode cX16_tuneTo 59 = .ok (.invokevirtual 371, 3) := by decide +kernel
theorem dX16_tuneTo_62 : decode cX16_tuneTo 62 = .ok (.isub, 1) := by decide +kernel
theorem dX16_tuneTo_63 : decode cX16_tuneTo 63 = .ok (.istore 6, 2) := by decide +kernel
theorem dX16_tuneTo_65 : decode cX16_tuneTo 65 = .ok (.aload_n 0, 1) := by decide +kernel
theorem dX16_tuneTo_66 : decode cX16_tuneTo 66 = .ok (.getfield 66, 3) := by decide +kernel
theorem dX16_tuneTo_69 : decode cX16_tuneTo 69 = .ok (.iload 5, 2) := by decide +kernel
theorem dX16_tuneTo_71 : decode cX16_tuneTo 71 = .ok (.iload 6, 2) := by decide +kernel
theorem dX16_tuneTo_73 : decode cX16_tuneTo 73 = .ok (.bipush 50, 2) := by decide +kernel
theorem dX16_tuneTo_75 : decode cX16_tuneTo 75 = .ok (.if_icmp .le 8, 3) := by decide +kernel
theorem dX16_tuneTo_78 : decode cX16_tuneTo 78 = .ok (.bipush 50, 2) := by decide +kernel
theorem dX16_tuneTo_80 : decode cX16_tuneTo 80 = .ok (.goto 17, 3) := by decide +kernel
theorem dX16_tuneTo_83 : decode cX16_tuneTo 83 = .ok (.iload 6, 2) := by decide +kernel
theorem dX16_tuneTo_85 : decode cX16_tuneTo 85 = .ok (.bipush (-50), 2) := by decide +kernel
theorem dX16_tuneTo_87 : decode cX16_tuneTo 87 = .ok (.if_icmp .ge 8, 3) := by decide +kernel
theorem dX16_tuneTo_90 : decode cX16_tuneTo 90 = .ok (.bipush (-50), 2) := by decide +kernel
theorem dX16_tuneTo_92 : decode cX16_tuneTo 92 = .ok (.goto 5, 3) := by decide +kernel
theorem dX16_tuneTo_95 : decode cX16_tuneTo 95 = .ok (.iload 6, 2) := by decide +kernel
theorem dX16_tuneTo_97 : decode cX16_tuneTo 97 = .ok (.iastore, 1) := by decide +kernel
theorem dX16_tuneTo_98 : decode cX16_tuneTo 98 = .ok (.aload_n 0, 1) := by decide +kernel
theorem dX16_tuneTo_99 : decode cX16_tuneTo 99 = .ok (.invokevirtual 314, 3) := by decide +kernel
theorem dX16_tuneTo_102 : decode cX16_tuneTo 102 = .ok (.aload_n 0, 1) := by decide +kernel
theorem dX16_tuneTo_103 : decode cX16_tuneTo 103 = .ok (.aload_n 0, 1) := by decide +kernel
theorem dX16_tuneTo_104 : decode cX16_tuneTo 104 = .ok (.iload 5, 2) := by decide +kernel
theorem dX16_tuneTo_106 : decode cX16_tuneTo 106 = .ok (.invokevirtual 371, 3) := by decide +kernel
theorem dX16_tuneTo_109 : decode cX16_tuneTo 109 = .ok (.aload_n 0, 1) := by decide +kernel
theorem dX16_tuneTo_110 : decode cX16_tuneTo 110 = .ok (.aload_n 0, 1) := by decide +kernel
theorem dX16_tuneTo_111 : decode cX16_tuneTo 111 = .ok (.iload_n 3, 1) := by decide +kernel
theorem dX16_tuneTo_112 : decode cX16_tuneTo 112 = .ok (.iload 4, 2) := by decide +kernel
theorem dX16_tuneTo_114 : decode cX16_tuneTo 114 = .ok (.invokevirtual 245, 3) := by decide +kernel
theorem dX16_tuneTo_117 : decode cX16_tuneTo 117 = .ok (.invokevirtual 371, 3) := by decide +kernel
theorem dX16_tuneTo_120 : decode cX16_tuneTo 120 = .ok (.isub, 1) := by decide +kernel
theorem dX16_tuneTo_121 : decode cX16_tuneTo 121 = .ok (.invokevirtual 317, 3) := by decide +kernel
theorem dX16_tuneTo_124 : decode cX16_tuneTo 124 = .ok (.ireturn, 1) := by decide +kernel
theorem dX16_heat_0 : decode cX16_heat 0 = .ok (.aload_n 0, 1) := by decide +kernel
theorem dX16_heat_1 : decode cX16_heat 1 = .ok (.iload_n 2, 1) := by decide +kernel
theorem dX16_heat_2 : decode cX16_heat 2 = .ok (.invokevirtual 159, 3) := by decide +kernel
theorem dX16_heat_5 : decode cX16_heat 5 = .ok (.ifCond .ne 9, 3) := by decide +kernel
theorem dX16_heat_8 : decode cX16_heat 8 = .ok (.aload_n 0, 1) := by decide +kernel
theorem dX16_heat_9 : decode cX16_heat 9 = .ok (.iconst 1, 1) := by decide +kernel
theorem dX16_heat_10 : decode cX16_heat 10 = .ok (.invokevirtual 324, 3) := by decide +kernel
theorem dX16_heat_13 : decode cX16_heat 13 = .ok (.ireturn, 1) := by decide +kernel
theorem dX16_heat_14 : decode cX16_heat 14 = .ok (.iload_n 1, 1) := by decide +kernel
theorem dX16_heat_15 : decode cX16_heat 15 = .ok (.bipush (-20), 2) := by decide +kernel
theorem dX16_heat_17 : decode cX16_heat 17 = .ok (.bipush 20, 2) := by decide +kernel
theorem dX16_heat_19 : decode cX16_heat 19 = .ok (.invokestatic 143, 3) := by decide +kernel
theorem dX16_heat_22 : decode cX16_heat 22 = .ok (.ifCond .eq 14, 3) := by decide +kernel
theorem dX16_heat_25 : decode cX16_heat 25 = .ok (.iload_n 3, 1) := by decide +kernel
theorem dX16_heat_26 : decode cX16_heat 26 = .ok (.bipush (-9), 2) := by decide +kernel
theorem dX16_heat_28 : decode cX16_heat 28 = .ok (.bipush 9, 2) := by decide +kernel
theorem dX16_heat_30 : decode cX16_heat 30 = .ok (.invokestatic 143, 3) := by decide +kernel
theorem dX16_heat_33 : decode cX16_heat 33 = .ok (.ifCond .ne 9, 3) := by decide +kernel
theorem dX16_heat_36 : decode cX16_heat 36 = .ok (.aload_n 0, 1) := by decide +kernel
theorem dX16_heat_37 : decode cX16_heat 37 = .ok (.iconst 2, 1) := by decide +kernel
theorem dX16_heat_38 : decode cX16_heat 38 = .ok (.invokevirtual 324, 3) := by decide +kernel
theorem dX16_heat_41 : decode cX16_heat 41 = .ok (.ireturn, 1) := by decide +kernel
theorem dX16_heat_42 : decode cX16_heat 42 = .ok (.aload_n 0, 1) := by decide +kernel
theorem dX16_heat_43 : decode cX16_heat 43 = .ok (.getfield 367, 3) := by decide +kernel
theorem dX16_heat_46 : decode cX16_heat 46 = .ok (.istore 4, 2) := by decide +kernel
theorem dX16_heat_48 : decode cX16_heat 48 = .ok (.aload_n 0, 1) := by decide +kernel
theorem dX16_heat_49 : decode cX16_heat 49 = .ok (.iload_n 1, 1) := by decide +kernel
theorem dX16_heat_50 : decode cX16_heat 50 = .ok (.putfield 367, 3) := by decide +kernel
theorem dX16_heat_53 : decode cX16_heat 53 = .ok (.aload_n 0, 1) := by decide +kernel
theorem dX16_heat_54 : decode cX16_heat 54 = .ok (.getfield 10, 3) := by decide +kernel
theorem dX16_heat_57 : decode cX16_heat 57 = .ok (.iload_n 2, 1) := by decide +kernel
theorem dX16_heat_58 : decode cX16_heat 58 = .ok (.invokevirtual 162, 3) := by decide +kernel
theorem dX16_heat_61 : decode cX16_heat 61 = .ok (.checkcast 166, 3) := by decide +kernel
theorem dX16_heat_64 : decode cX16_heat 64 = .ok (.iload_n 3, 1) := by decide +kernel
theorem dX16_heat_65 : decode cX16_heat 65 = .ok (.putfield 370, 3) := by decide +kernel
theorem dX16_heat_68 : decode cX16_heat 68 = .ok (.aload_n 0, 1) := by decide +kernel
theorem dX16_heat_69 : decode cX16_heat 69 = .ok (.iload 4, 2) := by decide +kernel
theorem dX16_heat_71 : decode cX16_heat 71 = .ok (.invokevirtual 332, 3) := by decide +kernel
theorem dX16_heat_74 : decode cX16_heat 74 = .ok (.ireturn, 1) := by decide +kernel
theorem dX16_pitch_0 : decode cX16_pitch 0 = .ok (.aload_n 0, 1) := by decide +kernel
theorem dX16_pitch_1 : decode cX16_pitch 1 = .ok (.iload_n 1, 1) := by decide +kernel
theorem dX16_pitch_2 : decode cX16_pitch 2 = .ok (.iload_n 2, 1) := by decide +kernel
theorem dX16_pitch_3 : decode cX16_pitch 3 = .ok (.invokevirtual 241, 3) := by decide +kernel
theorem dX16_pitch_6 : decode cX16_pitch 6 = .ok (.ifCond .ne 9, 3) := by decide +kernel
theorem dX16_pitch_9 : decode cX16_pitch 9 = .ok (.aload_n 0, 1) := by decide +kernel
theorem dX16_pitch_10 : decode cX16_pitch 10 = .ok (.iconst 1, 1) := by decide +kernel
theorem dX16_pitch_11 : decode cX16_pitch 11 = .ok (.invokevirtual 324, 3) := by decide +kernel
theorem dX16_pitch_14 : decode cX16_pitch 14 = .ok (.ireturn, 1) := by decide +kernel
theorem dX16_pitch_15 : decode cX16_pitch 15 = .ok (.aload_n 0, 1) := by decide +kernel
theorem dX16_pitch_16 : decode cX16_pitch 16 = .ok (.invokevirtual 304, 3) := by decide +kernel
theorem dX16_pitch_19 : decode cX16_pitch 19 = .ok (.aload_n 0, 1) := by decide +kernel
theorem dX16_pitch_20 : decode cX16_pitch 20 = .ok (.aload_n 0, 1) := by decide +kernel
theorem dX16_pitch_21 : decode cX16_pitch 21 = .ok (.aload_n 0, 1) := by decide +kernel
theorem dX16_pitch_22 : decode cX16_pitch 22 = .ok (.iload_n 1, 1) := by decide +kernel
theorem dX16_pitch_23 : decode cX16_pitch 23 = .ok (.iload_n 2, 1) := by decide +kernel
theorem dX16_pitch_24 : decode cX16_pitch 24 = .ok (.invokevirtual 245, 3) := by decide +kernel
theorem dX16_pitch_27 : decode cX16_pitch 27 = .ok (.invokevirtual 371, 3) := by decide +kernel
theorem dX16_pitch_30 : decode cX16_pitch 30 = .ok (.invokevirtual 317, 3) := by decide +kernel
theorem dX16_pitch_33 : decode cX16_pitch 33 = .ok (.ireturn, 1) := by decide +kernel
theorem dX16_fault_0 : decode cX16_fault 0 = .ok (.aload_n 0, 1) := by decide +kernel
theorem dX16_fault_1 : decode cX16_fault 1 = .ok (.aload_n 0, 1) := by decide +kernel
theorem dX16_fault_2 : decode cX16_fault 2 = .ok (.iload_n 1, 1) := by decide +kernel
theorem dX16_fault_3 : decode cX16_fault 3 = .ok (.iload_n 2, 1) := by decide +kernel
theorem dX16_fault_4 : decode cX16_fault 4 = .ok (.invokevirtual 241, 3) := by decide +kernel
theorem dX16_fault_7 : decode cX16_fault 7 = .ok (.ifCond .ne 7, 3) := by decide +kernel
theorem dX16_fault_10 : decode cX16_fault 10 = .ok (.iconst 1, 1) := by decide +kernel
theorem dX16_fault_11 : decode cX16_fault 11 = .ok (.goto 26, 3) := by decide +kernel
theorem dX16_fault_14 : decode cX16_fault 14 = .ok (.iload_n 3, 1) := by decide +kernel
theorem dX16_fault_15 : decode cX16_fault 15 = .ok (.bipush 99, 2) := by decide +kernel
theorem dX16_fault_17 : decode cX16_fault 17 = .ok (.if_icmp .eq 19, 3) := by decide +kernel
theorem dX16_fault_20 : decode cX16_fault 20 = .ok (.iload_n 3, 1) := by decide +kernel
theorem dX16_fault_21 : decode cX16_fault 21 = .ok (.bipush 100, 2) := by decide +kernel
theorem dX16_fault_23 : decode cX16_fault 23 = .ok (.if_icmp .eq 13, 3) := by decide +kernel
theorem dX16_fault_26 : decode cX16_fault 26 = .ok (.iload_n 3, 1) := by decide +kernel
theorem dX16_fault_27 : decode cX16_fault 27 = .ok (.bipush 45, 2) := by decide +kernel
theorem dX16_fault_29 : decode cX16_fault 29 = .ok (.if_icmp .eq 7, 3) := by decide +kernel
theorem dX16_fault_32 : decode cX16_fault 32 = .ok (.iconst 2, 1) := by decide +kernel
theorem dX16_fault_33 : decode cX16_fault 33 = .ok (.goto 4, 3) := by decide +kernel
theorem dX16_fault_36 : decode cX16_fault 36 = .ok (.iconst 0, 1) := by decide +kernel
theorem dX16_fault_37 : decode cX16_fault 37 = .ok (.putfield 139, 3) := by decide +kernel
theorem dX16_fault_40 : decode cX16_fault 40 = .ok (.aload_n 0, 1) := by decide +kernel
theorem dX16_fault_41 : decode cX16_fault 41 = .ok (.getfield 139, 3) := by decide +kernel
theorem dX16_fault_44 : decode cX16_fault 44 = .ok (.ifCond .le 5, 3) := by decide +kernel
theorem dX16_fault_47 : decode cX16_fault 47 = .ok (.iconst 0, 1) := by decide +kernel
theorem dX16_fault_48 : decode cX16_fault 48 = .ok (.ireturn, 1) := by decide +kernel
theorem dX16_fault_49 : decode cX16_fault 49 = .ok (.aload_n 0, 1) := by decide +kernel
theorem dX16_fault_50 : decode cX16_fault 50 = .ok (.getfield 72, 3) := by decide +kernel
theorem dX16_fault_53 : decode cX16_fault 53 = .ok (.aload_n 0, 1) := by decide +kernel
theorem dX16_fault_54 : decode cX16_fault 54 = .ok (.iload_n 1, 1) := by decide +kernel
theorem dX16_fault_55 : decode cX16_fault 55 = .ok (.iload_n 2, 1) := by decide +kernel
theorem dX16_fault_56 : decode cX16_fault 56 = .ok (.invokevirtual 245, 3) := by decide +kernel
theorem dX16_fault_59 : decode cX16_fault 59 = .ok (.caload, 1) := by decide +kernel
theorem dX16_fault_60 : decode cX16_fault 60 = .ok (.istore 4, 2) := by decide +kernel
theorem dX16_fault_62 : decode cX16_fault 62 = .ok (.aload_n 0, 1) := by decide +kernel
theorem dX16_fault_63 : decode cX16_fault 63 = .ok (.getfield 72, 3) := by decide +kernel
theorem dX16_fault_66 : decode cX16_fault 66 = .ok (.aload_n 0, 1) := by decide +kernel
theorem dX16_fault_67 : decode cX16_fault 67 = .ok (.iload_n 1, 1) := by decide +kernel
theorem dX16_fault_68 : decode cX16_fault 68 = .ok (.iload_n 2, 1) := by decide +kernel
theorem dX16_fault_69 : decode cX16_fault 69 = .ok (.invokevirtual 245, 3) := by decide +kernel
theorem dX16_fault_72 : decode cX16_fault 72 = .ok (.iload_n 3, 1) := by decide +kernel
theorem dX16_fault_73 : decode cX16_fault 73 = .ok (.castore, 1) := by decide +kernel
theorem dX16_fault_74 : decode cX16_fault 74 = .ok (.aload_n 0, 1) := by decide +kernel
theorem dX16_fault_75 : decode cX16_fault 75 = .ok (.invokevirtual 314, 3) := by decide +kernel
theorem dX16_fault_78 : decode cX16_fault 78 = .ok (.iload 4, 2) := by decide +kernel
theorem dX16_fault_80 : decode cX16_fault 80 = .ok (.ireturn, 1) := by decide +kernel
theorem dX16_hasFault_0 : decode cX16_hasFault 0 = .ok (.iconst 0, 1) := by decide +kernel
theorem dX16_hasFault_1 : decode cX16_hasFault 1 = .ok (.istore_n 3, 1) := by decide +kernel
theorem dX16_hasFault_2 : decode cX16_hasFault 2 = .ok (.iload_n 1, 1) := by decide +kernel
theorem dX16_hasFault_3 : decode cX16_hasFault 3 = .ok (.istore 4, 2) := by decide +kernel
theorem dX16_hasFault_5 : decode cX16_hasFault 5 = .ok (.iload 4, 2) := by decide +kernel
theorem dX16_hasFault_7 : decode cX16_hasFault 7 = .ok (.iload_n 2, 1) := by decide +kernel
theorem dX16_hasFault_8 : decode cX16_hasFault 8 = .ok (.if_icmp .gt 31, 3) := by decide +kernel
theorem dX16_hasFault_11 : decode cX16_hasFault 11 = .ok (.iload_n 3, 1) := by decide +kernel
theorem dX16_hasFault_12 : decode cX16_hasFault 12 = .ok (.ifCond .ne 15, 3) := by decide +kernel
theorem dX16_hasFault_15 : decode cX16_hasFault 15 = .ok (.aload_n 0, 1) := by decide +kernel
theorem dX16_hasFault_16 : decode cX16_hasFault 16 = .ok (.getfield 72, 3) := by decide +kernel
theorem dX16_hasFault_19 : decode cX16_hasFault 19 = .ok (.iload 4, 2) := by decide +kernel
theorem dX16_hasFault_21 : decode cX16_hasFault 21 = .ok (.caload, 1) := by decide +kernel
theorem dX16_hasFault_22 : decode cX16_hasFault 22 = .ok (.bipush 45, 2) := by decide +kernel
theorem dX16_hasFault_24 : decode cX16_hasFault 24 = .ok (.if_icmp .eq 7, 3) := by decide +kernel
theorem dX16_hasFault_27 : decode cX16_hasFault 27 = .ok (.iconst 1, 1) := by decide +kernel
theorem dX16_hasFault_28 : decode cX16_hasFault 28 = .ok (.goto 4, 3) := by decide +kernel
theorem dX16_hasFault_31 : decode cX16_hasFault 31 = .ok (.iconst 0, 1) := by decide +kernel
theorem dX16_hasFault_32 : decode cX16_hasFault 32 = .ok (.istore_n 3, 1) := by decide +kernel
theorem dX16_hasFault_33 : decode cX16_hasFault 33 = .ok (.iinc 4 1, 3) := by decide +kernel
theorem dX16_hasFault_36 : decode cX16_hasFault 36 = .ok (.goto (-31), 3) := by decide +kernel
theorem dX16_hasFault_39 : decode cX16_hasFault 39 = .ok (.iload_n 3, 1) := by decide +kernel
theorem dX16_hasFault_40 : decode cX16_hasFault 40 = .ok (.ireturn, 1) := by decide +kernel
theorem dX16_trials_0 : decode cX16_trials 0 = .ok (.iload_n 1, 1) := by decide +kernel
theorem dX16_trials_1 : decode cX16_trials 1 = .ok (.iload_n 2, 1) := by decide +kernel
theorem dX16_trials_2 : decode cX16_trials 2 = .ok (.if_icmp .ne 5, 3) := by decide +kernel
theorem dX16_trials_5 : decode cX16_trials 5 = .ok (.iconst 0, 1) := by decide +kernel
theorem dX16_trials_6 : decode cX16_trials 6 = .ok (.ireturn, 1) := by decide +kernel
theorem dX16_trials_7 : decode cX16_trials 7 = .ok (.iload_n 1, 1) := by decide +kernel
theorem dX16_trials_8 : decode cX16_trials 8 = .ok (.iload_n 2, 1) := by decide +kernel
theorem dX16_trials_9 : decode cX16_trials 9 = .ok (.iload_n 1, 1) := by decide +kernel
theorem dX16_trials_10 : decode cX16_trials 10 = .ok (.isub, 1) := by decide +kernel
theorem dX16_trials_11 : decode cX16_trials 11 = .ok (.iconst 2, 1) := by decide +kernel
theorem dX16_trials_12 : decode cX16_trials 12 = .ok (.idiv, 1) := by decide +kernel
theorem dX16_trials_13 : decode cX16_trials 13 = .ok (.iadd, 1) := by decide +kernel
theorem dX16_trials_14 : decode cX16_trials 14 = .ok (.istore_n 3, 1) := by decide +kernel
theorem dX16_trials_15 : decode cX16_trials 15 = .ok (.aload_n 0, 1) := by decide +kernel
theorem dX16_trials_16 : decode cX16_trials 16 = .ok (.iload_n 1, 1) := by decide +kernel
theorem dX16_trials_17 : decode cX16_trials 17 = .ok (.iload_n 3, 1) := by decide +kernel
theorem dX16_trials_18 : decode cX16_trials 18 = .ok (.invokevirtual 374, 3) := by decide +kernel
theorem dX16_trials_21 : decode cX16_trials 21 = .ok (.istore 4, 2) := by decide +kernel
theorem dX16_trials_23 : decode cX16_trials 23 = .ok (.aload_n 0, 1) := by decide +kernel
theorem dX16_trials_24 : decode cX16_trials 24 = .ok (.iload_n 3, 1) := by decide +kernel
theorem dX16_trials_25 : decode cX16_trials 25 = .ok (.iconst 1, 1) := by decide +kernel
theorem dX16_trials_26 : decode cX16_trials 26 = .ok (.iadd, 1) := by decide +kernel
theorem dX16_trials_27 : decode cX16_trials 27 = .ok (.iload_n 2, 1) := by decide +kernel
theorem dX16_trials_28 : decode cX16_trials 28 = .ok (.invokevirtual 374, 3) := by decide +kernel
theorem dX16_trials_31 : decode cX16_trials 31 = .ok (.istore 5, 2) := by decide +kernel
theorem dX16_trials_33 : decode cX16_trials 33 = .ok (.iload 4, 2) := by decide +kernel
theorem dX16_trials_35 : decode cX16_trials 35 = .ok (.ifCond .eq 14, 3) := by decide +kernel
theorem dX16_trials_38 : decode cX16_trials 38 = .ok (.iconst 2, 1) := by decide +kernel
theorem dX16_trials_39 : decode cX16_trials 39 = .ok (.aload_n 0, 1) := by decide +kernel
theorem dX16_trials_40 : decode cX16_trials 40 = .ok (.iload_n 1, 1) := by decide +kernel
theorem dX16_trials_41 : decode cX16_trials 41 = .ok (.iload_n 3, 1) := by decide +kernel
theorem dX16_trials_42 : decode cX16_trials 42 = .ok (.invokevirtual 377, 3) := by decide +kernel
theorem dX16_trials_45 : decode cX16_trials 45 = .ok (.iadd, 1) := by decide +kernel
theorem dX16_trials_46 : decode cX16_trials 46 = .ok (.goto 4, 3) := by decide +kernel
theorem dX16_trials_49 : decode cX16_trials 49 = .ok (.iconst 1, 1) := by decide +kernel
theorem dX16_trials_50 : decode cX16_trials 50 = .ok (.istore 6, 2) := by decide +kernel
theorem dX16_trials_52 : decode cX16_trials 52 = .ok (.iload 6, 2) := by decide +kernel
theorem dX16_trials_54 : decode cX16_trials 54 = .ok (.iload 5, 2) := by decide +kernel
theorem dX16_trials_56 : decode cX16_trials 56 = .ok (.ifCond .eq 14, 3) := by decide +kernel
theorem dX16_trials_59 : decode cX16_trials 59 = .ok (.aload_n 0, 1) := by decide +kernel
theorem dX16_trials_60 : decode cX16_trials 60 = .ok (.iload_n 3, 1) := by decide +kernel
theorem dX16_trials_61 : decode cX16_trials 61 = .ok (.iconst 1, 1) := by decide +kernel
theorem dX16_trials_62 : decode cX16_trials 62 = .ok (.iadd, 1) := by decide +kernel
theorem dX16_trials_63 : decode cX16_trials 63 = .ok (.iload_n 2, 1) := by decide +kernel
theorem dX16_trials_64 : decode cX16_trials 64 = .ok (.invokevirtual 377, 3) := by decide +kernel
theorem dX16_trials_67 : decode cX16_trials 67 = .ok (.goto 4, 3) := by decide +kernel
theorem dX16_trials_70 : decode cX16_trials 70 = .ok (.iconst 0, 1) := by decide +kernel
theorem dX16_trials_71 : decode cX16_trials 71 = .ok (.iadd, 1) := by decide +kernel
theorem dX16_trials_72 : decode cX16_trials 72 = .ok (.ireturn, 1) := by decide +kernel
theorem dX16_hunt_0 : decode cX16_hunt 0 = .ok (.aload_n 0, 1) := by decide +kernel
theorem dX16_hunt_1 : decode cX16_hunt 1 = .ok (.iload_n 1, 1) := by decide +kernel
theorem dX16_hunt_2 : decode cX16_hunt 2 = .ok (.invokevirtual 159, 3) := by decide +kernel
theorem dX16_hunt_5 : decode cX16_hunt 5 = .ok (.ifCond .ne 9, 3) := by decide +kernel
theorem dX16_hunt_8 : decode cX16_hunt 8 = .ok (.aload_n 0, 1) := by decide +kernel
theorem dX16_hunt_9 : decode cX16_hunt 9 = .ok (.iconst 1, 1) := by decide +kernel
theorem dX16_hunt_10 : decode cX16_hunt 10 = .ok (.invokevirtual 324, 3) := by decide +kernel
theorem dX16_hunt_13 : decode cX16_hunt 13 = .ok (.ireturn, 1) := by decide +kernel
theorem dX16_hunt_14 : decode cX16_hunt 14 = .ok (.aload_n 0, 1) := by decide +kernel
theorem dX16_hunt_15 : decode cX16_hunt 15 = .ok (.getfield 10, 3) := by decide +kernel
theorem dX16_hunt_18 : decode cX16_hunt 18 = .ok (.iload_n 1, 1) := by decide +kernel
theorem dX16_hunt_19 : decode cX16_hunt 19 = .ok (.invokevirtual 162, 3) := by decide +kernel
theorem dX16_hunt_22 : decode cX16_hunt 22 = .ok (.checkcast 166, 3) := by decide +kernel
theorem dX16_hunt_25 : decode cX16_hunt 25 = .ok (.getfield 174, 3) := by decide +kernel
theorem dX16_hunt_28 : decode cX16_hunt 28 = .ok (.istore_n 2, 1) := by decide +kernel
theorem dX16_hunt_29 : decode cX16_hunt 29 = .ok (.iload_n 2, 1) := by decide +kernel
theorem dX16_hunt_30 : decode cX16_hunt 30 = .ok (.aload_n 0, 1) := by decide +kernel
theorem dX16_hunt_31 : decode cX16_hunt 31 = .ok (.getfield 10, 3) := by decide +kernel
theorem dX16_hunt_34 : decode cX16_hunt 34 = .ok (.iload_n 1, 1) := by decide +kernel
theorem dX16_hunt_35 : decode cX16_hunt 35 = .ok (.invokevirtual 162, 3) := by decide +kernel
theorem dX16_hunt_38 : decode cX16_hunt 38 = .ok (.checkcast 166, 3) := by decide +kernel
theorem dX16_hunt_41 : decode cX16_hunt 41 = .ok (.invokevirtual 330, 3) := by decide +kernel
theorem dX16_hunt_44 : decode cX16_hunt 44 = .ok (.iadd, 1) := by decide +kernel
theorem dX16_hunt_45 : decode cX16_hunt 45 = .ok (.iconst 1, 1) := by decide +kernel
theorem dX16_hunt_46 : decode cX16_hunt 46 = .ok (.isub, 1) := by decide +kernel
theorem dX16_hunt_47 : decode cX16_hunt 47 = .ok (.istore_n 3, 1) := by decide +kernel
theorem dX16_hunt_48 : decode cX16_hunt 48 = .ok (.aload_n 0, 1) := by decide +kernel
theorem dX16_hunt_49 : decode cX16_hunt 49 = .ok (.iconst 1, 1) := by decide +kernel
theorem dX16_hunt_50 : decode cX16_hunt 50 = .ok (.aload_n 0, 1) := by decide +kernel
theorem dX16_hunt_51 : decode cX16_hunt 51 = .ok (.iload_n 2, 1) := by decide +kernel
theorem dX16_hunt_52 : decode cX16_hunt 52 = .ok (.iload_n 3, 1) := by decide +kernel
theorem dX16_hunt_53 : decode cX16_hunt 53 = .ok (.invokevirtual 374, 3) := by decide +kernel
theorem dX16_hunt_56 : decode cX16_hunt 56 = .ok (.ifCond .eq 12, 3) := by decide +kernel
theorem dX16_hunt_59 : decode cX16_hunt 59 = .ok (.aload_n 0, 1) := by decide +kernel
theorem dX16_hunt_60 : decode cX16_hunt 60 = .ok (.iload_n 2, 1) := by decide +kernel
theorem dX16_hunt_61 : decode cX16_hunt 61 = .ok (.iload_n 3, 1) := by decide +kernel
theorem dX16_hunt_62 : decode cX16_hunt 62 = .ok (.invokevirtual 377, 3) := by decide +kernel
theorem dX16_hunt_65 : decode cX16_hunt 65 = .ok (.goto 4, 3) := by decide +kernel
theorem dX16_hunt_68 : decode cX16_hunt 68 = .ok (.iconst 0, 1) := by decide +kernel
theorem dX16_hunt_69 : decode cX16_hunt 69 = .ok (.iadd, 1) := by decide +kernel
theorem dX16_hunt_70 : decode cX16_hunt 70 = .ok (.invokevirtual 317, 3) := by decide +kernel
theorem dX16_hunt_73 : decode cX16_hunt 73 = .ok (.ireturn, 1) := by decide +kernel
theorem dX16_guest_0 : decode cX16_guest 0 = .ok (.iload_n 1, 1) := by decide +kernel
theorem dX16_guest_1 : decode cX16_guest 1 = .ok (.iconst 0, 1) := by decide +kernel
theorem dX16_guest_2 : decode cX16_guest 2 = .ok (.iconst 3, 1) := by decide +kernel
theorem dX16_guest_3 : decode cX16_guest 3 = .ok (.invokestatic 143, 3) := by decide +kernel
theorem dX16_guest_6 : decode cX16_guest 6 = .ok (.ifCond .ne 9, 3) := by decide +kernel
theorem dX16_guest_9 : decode cX16_guest 9 = .ok (.aload_n 0, 1) := by decide +kernel
theorem dX16_guest_10 : decode cX16_guest 10 = .ok (.iconst 1, 1) := by decide +kernel
theorem dX16_guest_11 : decode cX16_guest 11 = .ok (.invokevirtual 324, 3) := by decide +kernel
theorem dX16_guest_14 : decode cX16_guest 14 = .ok (.ireturn, 1) := by decide +kernel
theorem dX16_guest_15 : decode cX16_guest 15 = .ok (.aload_n 0, 1) := by decide +kernel
theorem dX16_guest_16 : decode cX16_guest 16 = .ok (.getfield 380, 3) := by decide +kernel
theorem dX16_guest_19 : decode cX16_guest 19 = .ok (.istore_n 2, 1) := by decide +kernel
theorem dX16_guest_20 : decode cX16_guest 20 = .ok (.aload_n 0, 1) := by decide +kernel
theorem dX16_guest_21 : decode cX16_guest 21 = .ok (.iload_n 1, 1) := by decide +kernel
theorem dX16_guest_22 : decode cX16_guest 22 = .ok (.putfield 380, 3) := by decide +kernel
theorem dX16_guest_25 : decode cX16_guest 25 = .ok (.aload_n 0, 1) := by decide +kernel
theorem dX16_guest_26 : decode cX16_guest 26 = .ok (.iload_n 2, 1) := by decide +kernel
theorem dX16_guest_27 : decode cX16_guest 27 = .ok (.invokevirtual 332, 3) := by decide +kernel
theorem dX16_guest_30 : decode cX16_guest 30 = .ok (.ireturn, 1) := by decide +kernel
theorem dX16_isOthers_0 : decode cX16_isOthers 0 = .ok (.aload_n 0, 1) := by decide +kernel
theorem dX16_isOthers_1 : decode cX16_isOthers 1 = .ok (.getfield 88, 3) := by decide +kernel
theorem dX16_isOthers_4 : decode cX16_isOthers 4 = .ok (.aload_n 0, 1) := by decide +kernel
theorem dX16_isOthers_5 : decode cX16_isOthers 5 = .ok (.getfield 383, 3) := by decide +kernel
theorem dX16_isOthers_8 : decode cX16_isOthers 8 = .ok (.iaload, 1) := by decide +kernel
theorem dX16_isOthers_9 : decode cX16_isOthers 9 = .ok (.iconst (-1), 1) := by decide +kernel
theorem dX16_isOthers_10 : decode cX16_isOthers 10 = .ok (.if_icmp .eq 23, 3) := by decide +kernel
theorem dX16_isOthers_13 : decode cX16_isOthers 13 = .ok (.aload_n 0, 1) := by decide +kernel
theorem dX16_isOthers_14 : decode cX16_isOthers 14 = .ok (.getfield 88, 3) := by decide +kernel
theorem dX16_isOthers_17 : decode cX16_isOthers 17 = .ok (.aload_n 0, 1) := by decide +kernel
theorem dX16_isOthers_18 : decode cX16_isOthers 18 = .ok (.getfield 383, 3) := by decide +kernel
theorem dX16_isOthers_21 : decode cX16_isOthers 21 = .ok (.iaload, 1) := by decide +kernel
theorem dX16_isOthers_22 : decode cX16_isOthers 22 = .ok (.aload_n 0, 1) := by decide +kernel
theorem dX16_isOthers_23 : decode cX16_isOthers 23 = .ok (.getfield 380, 3) := by decide +kernel
theorem dX16_isOthers_26 : decode cX16_isOthers 26 = .ok (.if_icmp .eq 7, 3) := by decide +kernel
theorem dX16_isOthers_29 : decode cX16_isOthers 29 = .ok (.iconst 1, 1) := by decide +kernel
theorem dX16_isOthers_30 : decode cX16_isOthers 30 = .ok (.goto 4, 3) := by decide +kernel
theorem dX16_isOthers_33 : decode cX16_isOthers 33 = .ok (.iconst 0, 1) := by decide +kernel
theorem dX16_isOthers_34 : decode cX16_isOthers 34 = .ok (.ireturn, 1) := by decide +kernel
theorem dX16_claim_0 : decode cX16_claim 0 = .ok (.aload_n 0, 1) := by decide +kernel
theorem dX16_claim_1 : decode cX16_claim 1 = .ok (.invokevirtual 386, 3) := by decide +kernel
theorem dX16_claim_4 : decode cX16_claim 4 = .ok (.ifCond .eq 9, 3) := by decide +kernel
theorem dX16_claim_7 : decode cX16_claim 7 = .ok (.aload_n 0, 1) := by decide +kernel
theorem dX16_claim_8 : decode cX16_claim 8 = .ok (.iconst 1, 1) := by decide +kernel
theorem dX16_claim_9 : decode cX16_claim 9 = .ok (.invokevirtual 342, 3) := by decide +kernel
theorem dX16_claim_12 : decode cX16_claim 12 = .ok (.ireturn, 1) := by decide +kernel
theorem dX16_claim_13 : decode cX16_claim 13 = .ok (.aload_n 0, 1) := by decide +kernel
theorem dX16_claim_14 : decode cX16_claim 14 = .ok (.getfield 88, 3) := by decide +kernel
theorem dX16_claim_17 : decode cX16_claim 17 = .ok (.aload_n 0, 1) := by decide +kernel
theorem dX16_claim_18 : decode cX16_claim 18 = .ok (.getfield 383, 3) := by decide +kernel
theorem dX16_claim_21 : decode cX16_claim 21 = .ok (.iaload, 1) := by decide +kernel
theorem dX16_claim_22 : decode cX16_claim 22 = .ok (.aload_n 0, 1) := by decide +kernel
theorem dX16_claim_23 : decode cX16_claim 23 = .ok (.getfield 380, 3) := by decide +kernel
theorem dX16_claim_26 : decode cX16_claim 26 = .ok (.if_icmp .ne 7, 3) := by decide +kernel
theorem dX16_claim_29 : decode cX16_claim 29 = .ok (.iconst 1, 1) := by decide +kernel
theorem dX16_claim_30 : decode cX16_claim 30 = .ok (.goto 4, 3) := by decide +kernel
theorem dX16_claim_33 : decode cX16_claim 33 = .ok (.iconst 0, 1) := by decide +kernel
theorem dX16_claim_34 : decode cX16_claim 34 = .ok (.istore_n 2, 1) := by decide +kernel
theorem dX16_claim_35 : decode cX16_claim 35 = .ok (.aload_n 0, 1) := by decide +kernel
theorem dX16_claim_36 : decode cX16_claim 36 = .ok (.getfield 88, 3) := by decide +kernel
theorem dX16_claim_39 : decode cX16_claim 39 = .ok (.aload_n 0, 1) := by decide +kernel
theorem dX16_claim_40 : decode cX16_claim 40 = .ok (.getfield 383, 3) := by decide +kernel
theorem dX16_claim_43 : decode cX16_claim 43 = .ok (.iload_n 1, 1) := by decide +kernel
theorem dX16_claim_44 : decode cX16_claim 44 = .ok (.ifCond .eq 10, 3) := by decide +kernel
theorem dX16_claim_47 : decode cX16_claim 47 = .ok (.aload_n 0, 1) := by decide +kernel
theorem dX16_claim_48 : decode cX16_claim 48 = .ok (.getfield 380, 3) := by decide +kernel
theorem dX16_claim_51 : decode cX16_claim 51 = .ok (.goto 4, 3) := by decide +kernel
theorem dX16_claim_54 : decode cX16_claim 54 = .ok (.iconst (-1), 1) := by decide +kernel
theorem dX16_claim_55 : decode cX16_claim 55 = .ok (.iastore, 1) := by decide +kernel
theorem dX16_claim_56 : decode cX16_claim 56 = .ok (.aload_n 0, 1) := by decide +kernel
theorem dX16_claim_57 : decode cX16_claim 57 = .ok (.iload_n 2, 1) := by decide +kernel
theorem dX16_claim_58 : decode cX16_claim 58 = .ok (.invokevirtual 345, 3) := by decide +kernel
theorem dX16_claim_61 : decode cX16_claim 61 = .ok (.ireturn, 1) := by decide +kernel
theorem dX16_level_0 : decode cX16_level 0 = .ok (.iload_n 1, 1) := by decide +kernel
theorem dX16_level_1 : decode cX16_level 1 = .ok (.iconst 0, 1) := by decide +kernel
theorem dX16_level_2 : decode cX16_level 2 = .ok (.iconst 3, 1) := by decide +kernel
theorem dX16_level_3 : decode cX16_level 3 = .ok (.invokestatic 143, 3) := by decide +kernel
theorem dX16_level_6 : decode cX16_level 6 = .ok (.ifCond .ne 9, 3) := by decide +kernel
theorem dX16_level_9 : decode cX16_level 9 = .ok (.aload_n 0, 1) := by decide +kernel
theorem dX16_level_10 : decode cX16_level 10 = .ok (.iconst 1, 1) := by decide +kernel
theorem dX16_level_11 : decode cX16_level 11 = .ok (.invokevirtual 324, 3) := by decide +kernel
theorem dX16_level_14 : decode cX16_level 14 = .ok (.ireturn, 1) := by decide +kernel
theorem dX16_level_15 : decode cX16_level 15 = .ok (.aload_n 0, 1) := by decide +kernel
theorem dX16_level_16 : decode cX16_level 16 = .ok (.getfield 383, 3) := by decide +kernel
theorem dX16_level_19 : decode cX16_level 19 = .ok (.istore_n 2, 1) := by decide +kernel
theorem dX16_level_20 : decode cX16_level 20 = .ok (.aload_n 0, 1) := by decide +kernel
theorem dX16_level_21 : decode cX16_level 21 = .ok (.iload_n 1, 1) := by decide +kernel
theorem dX16_level_22 : decode cX16_level 22 = .ok (.putfield 383, 3) := by decide +kernel
theorem dX16_level_25 : decode cX16_level 25 = .ok (.aload_n 0, 1) := by decide +kernel
theorem dX16_level_26 : decode cX16_level 26 = .ok (.iload_n 2, 1) := by decide +kernel
theorem dX16_level_27 : decode cX16_level 27 = .ok (.invokevirtual 332, 3) := by decide +kernel
theorem dX16_level_30 : decode cX16_level 30 = .ok (.ireturn, 1) := by decide +kernel
theorem dX16_scope_0 : decode cX16_scope 0 = .ok (.aload_n 0, 1) := by decide +kernel
theorem dX16_scope_1 : decode cX16_scope 1 = .ok (.iload_n 1, 1) := by decide +kernel
theorem dX16_scope_2 : decode cX16_scope 2 = .ok (.invokevirtual 180, 3) := by decide +kernel
theorem dX16_scope_5 : decode cX16_scope 5 = .ok (.ifCond .ne 9, 3) := by decide +kernel
theorem dX16_scope_8 : decode cX16_scope 8 = .ok (.aload_n 0, 1) := by decide +kernel
theorem dX16_scope_9 : decode cX16_scope 9 = .ok (.iconst 1, 1) := by decide +kernel
theorem dX16_scope_10 : decode cX16_scope 10 = .ok (.invokevirtual 342, 3) := by decide +kernel
theorem dX16_scope_13 : decode cX16_scope 13 = .ok (.ireturn, 1) := by decide +kernel
theorem dX16_scope_14 : decode cX16_scope 14 = .ok (.aload_n 0, 1) := by decide +kernel
theorem dX16_scope_15 : decode cX16_scope 15 = .ok (.getfield 16, 3) := by decide +kernel
theorem dX16_scope_18 : decode cX16_scope 18 = .ok (.iload_n 1, 1) := by decide +kernel
theorem dX16_scope_19 : decode cX16_scope 19 = .ok (.invokevirtual 162, 3) := by decide +kernel
theorem dX16_scope_22 : decode cX16_scope 22 = .ok (.checkcast 126, 3) := by decide +kernel
theorem dX16_scope_25 : decode cX16_scope 25 = .ok (.getfield 390, 3) := by decide +kernel
theorem dX16_scope_28 : decode cX16_scope 28 = .ok (.istore_n 3, 1) := by decide +kernel
theorem dX16_scope_29 : decode cX16_scope 29 = .ok (.aload_n 0, 1) := by decide +kernel
theorem dX16_scope_30 : decode cX16_scope 30 = .ok (.getfield 16, 3) := by decide +kernel
theorem dX16_scope_33 : decode cX16_scope 33 = .ok (.iload_n 1, 1) := by decide +kernel
theorem dX16_scope_34 : decode cX16_scope 34 = .ok (.invokevirtual 162, 3) := by decide +kernel
theorem dX16_scope_37 : decode cX16_scope 37 = .ok (.checkcast 126, 3) := by decide +kernel
theorem dX16_scope_40 : decode cX16_scope 40 = .ok (.iload_n 2, 1) := by decide +kernel
theorem dX16_scope_41 : decode cX16_scope 41 = .ok (.putfield 390, 3) := by decide +kernel
theorem dX16_scope_44 : decode cX16_scope 44 = .ok (.aload_n 0, 1) := by decide +kernel
theorem dX16_scope_45 : decode cX16_scope 45 = .ok (.iload_n 3, 1) := by decide +kernel
theorem dX16_scope_46 : decode cX16_scope 46 = .ok (.invokevirtual 345, 3) := by decide +kernel
theorem dX16_scope_49 : decode cX16_scope 49 = .ok (.ireturn, 1) := by decide +kernel
theorem dX16_isPiston_0 : decode cX16_isPiston 0 = .ok (.iload_n 0, 1) := by decide +kernel
theorem dX16_isPiston_1 : decode cX16_isPiston 1 = .ok (.iconst (-1), 1) := by decide +kernel
theorem dX16_isPiston_2 : decode cX16_isPiston 2 = .ok (.if_icmp .ne 13, 3) := by decide +kernel
theorem dX16_isPiston_5 : decode cX16_isPiston 5 = .ok (.iload_n 1, 1) := by decide +kernel
theorem dX16_isPiston_6 : decode cX16_isPiston 6 = .ok (.iconst 0, 1) := by decide +kernel
theorem dX16_isPiston_7 : decode cX16_isPiston 7 = .ok (.bipush 7, 2) := by decide +kernel
theorem dX16_isPiston_9 : decode cX16_isPiston 9 = .ok (.invokestatic 143, 3) := by decide +kernel
theorem dX16_isPiston_12 : decode cX16_isPiston 12 = .ok (.goto 24, 3) := by decide +kernel
theorem dX16_isPiston_15 : decode cX16_isPiston 15 = .ok (.iload_n 0, 1) := by decide +kernel
theorem dX16_isPiston_16 : decode cX16_isPiston 16 = .ok (.invokestatic 147, 3) := by decide +kernel
theorem dX16_isPiston_19 : decode cX16_isPiston 19 = .ok (.ifCond .eq 16, 3) := by decide +kernel
theorem dX16_isPiston_22 : decode cX16_isPiston 22 = .ok (.iload_n 1, 1) := by decide +kernel
theorem dX16_isPiston_23 : decode cX16_isPiston 23 = .ok (.iconst 0, 1) := by decide +kernel
theorem dX16_isPiston_24 : decode cX16_isPiston 24 = .ok (.iconst 3, 1) := by decide +kernel
theorem dX16_isPiston_25 : decode cX16_isPiston 25 = .ok (.invokestatic 143, 3) := by decide +kernel
theorem dX16_isPiston_28 : decode cX16_isPiston 28 = .ok (.ifCond .eq 7, 3) := by decide +kernel
theorem dX16_isPiston_31 : decode cX16_isPiston 31 = .ok (.iconst 1, 1) := by decide +kernel
theorem dX16_isPiston_32 : decode cX16_isPiston 32 = .ok (.goto 4, 3) := by decide +kernel
theorem dX16_isPiston_35 : decode cX16_isPiston 35 = .ok (.iconst 0, 1) := by decide +kernel
theorem dX16_isPiston_36 : decode cX16_isPiston 36 = .ok (.ireturn, 1) := by decide +kernel
theorem dX16_keeping_0 : decode cX16_keeping 0 = .ok (.iload_n 1, 1) := by decide +kernel
theorem dX16_keeping_1 : decode cX16_keeping 1 = .ok (.iconst (-1), 1) := by decide +kernel
theorem dX16_keeping_2 : decode cX16_keeping 2 = .ok (.if_icmp .ne 25, 3) := by decide +kernel
theorem dX16_keeping_5 : decode cX16_keeping 5 = .ok (.aload_n 0, 1) := by decide +kernel
theorem dX16_keeping_6 : decode cX16_keeping 6 = .ok (.getfield 25, 3) := by decide +kernel
theorem dX16_keeping_9 : decode cX16_keeping 9 = .ok (.bipush 8, 2) := by decide +kernel
theorem dX16_keeping_11 : decode cX16_keeping 11 = .ok (.aload_n 0, 1) := by decide +kernel
theorem dX16_keeping_12 : decode cX16_keeping 12 = .ok (.getfield 383, 3) := by decide +kernel
theorem dX16_keeping_15 : decode cX16_keeping 15 = .ok (.imul, 1) := by decide +kernel
theorem dX16_keeping_16 : decode cX16_keeping 16 = .ok (.iload_n 2, 1) := by decide +kernel
theorem dX16_keeping_17 : decode cX16_keeping 17 = .ok (.iadd, 1) := by decide +kernel
theorem dX16_keeping_18 : decode cX16_keeping 18 = .ok (.invokevirtual 162, 3) := by decide +kernel
theorem dX16_keeping_21 : decode cX16_keeping 21 = .ok (.checkcast 135, 3) := by decide +kernel
theorem dX16_keeping_24 : decode cX16_keeping 24 = .ok (.goto 25, 3) := by decide +kernel
theorem dX16_keeping_27 : decode cX16_keeping 27 = .ok (.aload_n 0, 1) := by decide +kernel
theorem dX16_keeping_28 : decode cX16_keeping 28 = .ok (.getfield 28, 3) := by decide +kernel
theorem dX16_keeping_31 : decode cX16_keeping 31 = .ok (.iconst 4, 1) := by decide +kernel
theorem dX16_keeping_32 : decode cX16_keeping 32 = .ok (.iconst 3, 1) := by decide +kernel
theorem dX16_keeping_33 : decode cX16_keeping 33 = .ok (.aload_n 0, 1) := by decide +kernel
theorem dX16_keeping_34 : decode cX16_keeping 34 = .ok (.getfield 383, 3) := by decide +kernel
theorem dX16_keeping_37 : decode cX16_keeping 37 = .ok (.imul, 1) := by decide +kernel
theorem dX16_keeping_38 : decode cX16_keeping 38 = .ok (.iload_n 1, 1) := by decide +kernel
theorem dX16_keeping_39 : decode cX16_keeping 39 = .ok (.iadd, 1) := by decide +kernel
theorem dX16_keeping_40 : decode cX16_keeping 40 = .ok (.imul, 1) := by decide +kernel
theorem dX16_keeping_41 : decode cX16_keeping 41 = .ok (.iload_n 2, 1) := by decide +kernel
theorem dX16_keeping_42 : decode cX16_keeping 42 = .ok (.iadd, 1) := by decide +kernel
theorem dX16_keeping_43 : decode cX16_keeping 43 = .ok (.invokevirtual 162, 3) := by decide +kernel
theorem dX16_keeping_46 : decode cX16_keeping 46 = .ok (.checkcast 135, 3) := by decide +kernel
theorem dX16_keeping_49 : decode cX16_keeping 49 = .ok (.areturn, 1) := by decide +kernel
theorem dX16_keeps_0 : decode cX16_keeps 0 = .ok (.aload_n 1, 1) := by decide +kernel
theorem dX16_keeps_1 : decode cX16_keeps 1 = .ok (.dup, 1) := by decide +kernel
theorem dX16_keeps_2 : decode cX16_keeps 2 = .ok (.getfield 393, 3) := by decide +kernel
theorem dX16_keeps_5 : decode cX16_keeps 5 = .ok (.lconst 1, 1) := by decide +kernel
theorem dX16_keeps_6 : decode cX16_keeps 6 = .ok (.iload_n 2, 1) := by decide +kernel
theorem dX16_keeps_7 : decode cX16_keeps 7 = .ok (.lshl, 1) := by decide +kernel
theorem dX16_keeps_8 : decode cX16_keeps 8 = .ok (.lor, 1) := by decide +kernel
theorem dX16_keeps_9 : decode cX16_keeps 9 = .ok (.putfield 393, 3) := by decide +kernel
theorem dX16_keeps_12 : decode cX16_keeps 12 = .ok (.aload_n 1, 1) := by decide +kernel
theorem dX16_keeps_13 : decode cX16_keeps 13 = .ok (.dup, 1) := by decide +kernel
theorem dX16_keeps_14 : decode cX16_keeps 14 = .ok (.getfield 395, 3) := by decide +kernel
theorem dX16_keeps_17 : decode cX16_keeps 17 = .ok (.aload_n 0, 1) := by decide +kernel
theorem dX16_keeps_18 : decode cX16_keeps 18 = .ok (.getfield 16, 3) := by decide +kernel
theorem dX16_keeps_21 : decode cX16_keeps 21 = .ok (.iload_n 2, 1) := by decide +kernel
theorem dX16_keeps_22 : decode cX16_keeps 22 = .ok (.invokevirtual 162, 3) := by decide +kernel
theorem dX16_keeps_25 : decode cX16_keeps 25 = .ok (.checkcast 126, 3) := by decide +kernel
theorem dX16_keeps_28 : decode cX16_keeps 28 = .ok (.getfield 183, 3) := by decide +kernel
theorem dX16_keeps_31 : decode cX16_keeps 31 = .ok (.ifCond .eq 9, 3) := by decide +kernel
theorem dX16_keeps_34 : decode cX16_keeps 34 = .ok (.lconst 1, 1) := by decide +kernel
theorem dX16_keeps_35 : decode cX16_keeps 35 = .ok (.iload_n 2, 1) := by decide +kernel
theorem dX16_keeps_36 : decode cX16_keeps 36 = .ok (.lshl, 1) := by decide +kernel
theorem dX16_keeps_37 : decode cX16_keeps 37 = .ok (.goto 4, 3) := by decide +kernel
theorem dX16_keeps_40 : decode cX16_keeps 40 = .ok (.lconst 0, 1) := by decide +kernel
theorem dX16_keeps_41 : decode cX16_keeps 41 = .ok (.lor, 1) := by decide +kernel
theorem dX16_keeps_42 : decode cX16_keeps 42 = .ok (.putfield 395, 3) := by decide +kernel
theorem dX16_keeps_45 : decode cX16_keeps 45 = .ok (.return_, 1) := by decide +kernel
theorem dX16_set_0 : decode cX16_set 0 = .ok (.iload_n 1, 1) := by decide +kernel
theorem dX16_set_1 : decode cX16_set 1 = .ok (.iload_n 2, 1) := by decide +kernel
theorem dX16_set_2 : decode cX16_set 2 = .ok (.invokestatic 398, 3) := by decide +kernel
theorem dX16_set_5 : decode cX16_set 5 = .ok (.ifCond .ne 9, 3) := by decide +kernel
theorem dX16_set_8 : decode cX16_set 8 = .ok (.aload_n 0, 1) := by decide +kernel
theorem dX16_set_9 : decode cX16_set 9 = .ok (.iconst 1, 1) := by decide +kernel
theorem dX16_set_10 : decode cX16_set 10 = .ok (.invokevirtual 324, 3) := by decide +kernel
theorem dX16_set_13 : decode cX16_set 13 = .ok (.ireturn, 1) := by decide +kernel
theorem dX16_set_14 : decode cX16_set 14 = .ok (.aload_n 0, 1) := by decide +kernel
theorem dX16_set_15 : decode cX16_set 15 = .ok (.invokevirtual 386, 3) := by decide +kernel
theorem dX16_set_18 : decode cX16_set 18 = .ok (.ifCond .eq 9, 3) := by decide +kernel
theorem dX16_set_21 : decode cX16_set 21 = .ok (.aload_n 0, 1) := by decide +kernel
theorem dX16_set_22 : decode cX16_set 22 = .ok (.iconst 2, 1) := by decide +kernel
theorem dX16_set_23 : decode cX16_set 23 = .ok (.invokevirtual 324, 3) := by decide +kernel
theorem dX16_set_26 : decode cX16_set 26 = .ok (.ireturn, 1) := by decide +kernel
theorem dX16_set_27 : decode cX16_set 27 = .ok (.aload_n 0, 1) := by decide +kernel
theorem dX16_set_28 : decode cX16_set 28 = .ok (.iload_n 1, 1) := by decide +kernel
theorem dX16_set_29 : decode cX16_set 29 = .ok (.iload_n 2, 1) := by decide +kernel
theorem dX16_set_30 : decode cX16_set 30 = .ok (.invokevirtual 401, 3) := by decide +kernel
theorem dX16_set_33 : decode cX16_set 33 = .ok (.astore_n 3, 1) := by decide +kernel
theorem dX16_set_34 : decode cX16_set 34 = .ok (.aload_n 3, 1) := by decide +kernel
theorem dX16_set_35 : decode cX16_set 35 = .ok (.lconst 0, 1) := by decide +kernel
theorem dX16_set_36 : decode cX16_set 36 = .ok (.putfield 393, 3) := by decide +kernel
theorem dX16_set_39 : decode cX16_set 39 = .ok (.aload_n 3, 1) := by decide +kernel
theorem dX16_set_40 : decode cX16_set 40 = .ok (.lconst 0, 1) := by decide +kernel
theorem dX16_set_41 : decode cX16_set 41 = .ok (.putfield 395, 3) := by decide +kernel
theorem dX16_set_44 : decode cX16_set 44 = .ok (.aload_n 3, 1) := by decide +kernel
theorem dX16_set_45 : decode cX16_set 45 = .ok (.iconst 1, 1) := by decide +kernel
theorem dX16_set_46 : decode cX16_set 46 = .ok (.putfield 405, 3) := by decide +kernel
theorem dX16_set_49 : decode cX16_set 49 = .ok (.iconst 0, 1) := by decide +kernel
theorem dX16_set_50 : decode cX16_set 50 = .ok (.istore 4, 2) := by decide +kernel
theorem dX16_set_52 : decode cX16_set 52 = .ok (.iload 4, 2) := by decide +kernel
theorem dX16_set_54 : decode cX16_set 54 = .ok (.aload_n 0, 1) := by decide +kernel
theorem dX16_set_55 : decode cX16_set 55 = .ok (.getfield 16, 3) := by decide +kernel
theorem dX16_set_58 : decode cX16_set 58 = .ok (.invokevirtual 155, 3) := by decide +kernel
theorem dX16_set_61 : decode cX16_set 61 = .ok (.if_icmp .ge 65, 3) := by decide +kernel
theorem dX16_set_64 : decode cX16_set 64 = .ok (.aload_n 0, 1) := by decide +kernel
theorem dX16_set_65 : decode cX16_set 65 = .ok (.getfield 16, 3) := by decide +kernel
theorem dX16_set_68 : decode cX16_set 68 = .ok (.iload 4, 2) := by decide +kernel
theorem dX16_set_70 : decode cX16_set 70 = .ok (.invokevirtual 162, 3) := by decide +kernel
theorem dX16_set_73 : decode cX16_set 73 = .ok (.checkcast 126, 3) := by decide +kernel
theorem dX16_set_76 : decode cX16_set 76 = .ok (.astore 5, 2) := by decide +kernel
theorem dX16_set_78 : decode cX16_set 78 = .ok (.iload_n 1, 1) := by decide +kernel
theorem dX16_set_79 : decode cX16_set 79 = .ok (.iconst (-1), 1) := by decide +kernel
theorem dX16_set_80 : decode cX16_set 80 = .ok (.if_icmp .ne 14, 3) := by decide +kernel
theorem dX16_set_83 : decode cX16_set 83 = .ok (.aload 5, 2) := by decide +kernel
theorem dX16_set_85 : decode cX16_set 85 = .ok (.getfield 390, 3) := by decide +kernel
theorem dX16_set_88 : decode cX16_set 88 = .ok (.ifCond .eq 32, 3) := by decide +kernel
theorem dX16_set_91 : decode cX16_set 91 = .ok (.goto 22, 3) := by decide +kernel
theorem dX16_set_94 : decode cX16_set 94 = .ok (.aload 5, 2) := by decide +kernel
theorem dX16_set_96 : decode cX16_set 96 = .ok (.getfield 177, 3) := by decide +kernel
theorem dX16_set_99 : decode cX16_set 99 = .ok (.bipush 115, 2) := by decide +kernel
theorem dX16_set_101 : decode cX16_set 101 = .ok (.if_icmp .ne 19, 3) := by decide +kernel
theorem dX16_set_104 : decode cX16_set 104 = .ok (.aload 5, 2) := by decide +kernel
theorem dX16_set_106 : decode cX16_set 106 = .ok (.getfield 211, 3) := by decide +kernel
theorem dX16_set_109 : decode cX16_set 109 = .ok (.iload_n 1, 1) := by decide +kernel
theorem dX16_set_110 : decode cX16_set 110 = .ok (.if_icmp .ne 10, 3) := by decide +kernel
theorem dX16_set_113 : decode cX16_set 113 = .ok (.aload_n 0, 1) := by decide +kernel
theorem dX16_set_114 : decode cX16_set 114 = .ok (.aload_n 3, 1) := by decide +kernel
theorem dX16_set_115 : decode cX16_set 115 = .ok (.iload 4, 2) := by decide +kernel
theorem dX16_set_117 : decode cX16_set 117 = .ok (.invokevirtual 408, 3) := by decide +kernel
theorem dX16_set_120 : decode cX16_set 120 = .ok (.iinc 4 1, 3) := by decide +kernel
theorem dX16_set_123 : decode cX16_set 123 = .ok (.goto (-71), 3) := by decide +kernel
theorem dX16_set_126 : decode cX16_set 126 = .ok (.aload_n 0, 1) := by decide +kernel
theorem dX16_set_127 : decode cX16_set 127 = .ok (.aload_n 3, 1) := by decide +kernel
theorem dX16_set_128 : decode cX16_set 128 = .ok (.getfield 395, 3) := by decide +kernel
theorem dX16_set_131 : decode cX16_set 131 = .ok (.invokestatic 412, 3) := by decide +kernel
theorem dX16_set_134 : decode cX16_set 134 = .ok (.invokevirtual 332, 3) := by decide +kernel
theorem dX16_set_137 : decode cX16_set 137 = .ok (.ireturn, 1) := by decide +kernel
theorem dX16_moves__0 : decode cX16_moves_ 0 = .ok (.iconst 0, 1) := by decide +kernel
theorem dX16_moves__1 : decode cX16_moves_ 1 = .ok (.istore_n 2, 1) := by decide +kernel
theorem dX16_moves__2 : decode cX16_moves_ 2 = .ok (.iconst 0, 1) := by decide +kernel
theorem dX16_moves__3 : decode cX16_moves_ 3 = .ok (.istore_n 3, 1) := by decide +kernel
theorem dX16_moves__4 : decode cX16_moves_ 4 = .ok (.iload_n 3, 1) := by decide +kernel
theorem dX16_moves__5 : decode cX16_moves_ 5 = .ok (.aload_n 0, 1) := by decide +kernel
theorem dX16_moves__6 : decode cX16_moves_ 6 = .ok (.getfield 16, 3) := by decide +kernel
theorem dX16_moves__9 : decode cX16_moves_ 9 = .ok (.invokevirtual 155, 3) := by decide +kernel
theorem dX16_moves__12 : decode cX16_moves_ 12 = .ok (.if_icmp .ge 86, 3) := by decide +kernel
theorem dX16_moves__15 : decode cX16_moves_ 15 = .ok (.aload_n 0, 1) := by decide +kernel
theorem dX16_moves__16 : decode cX16_moves_ 16 = .ok (.getfield 16, 3) := by decide +kernel
theorem dX16_moves__19 : decode cX16_moves_ 19 = .ok (.iload_n 3, 1) := by decide +kernel
theorem dX16_moves__20 : decode cX16_moves_ 20 = .ok (.invokevirtual 162, 3) := by decide +kernel
theorem dX16_moves__23 : decode cX16_moves_ 23 = .ok (.checkcast 126, 3) := by decide +kernel
theorem dX16_moves__26 : decode cX16_moves_ 26 = .ok (.astore 4, 2) := by decide +kernel
theorem dX16_moves__28 : decode cX16_moves_ 28 = .ok (.aload_n 1, 1) := by decide +kernel
theorem dX16_moves__29 : decode cX16_moves_ 29 = .ok (.getfield 395, 3) := by decide +kernel
theorem dX16_moves__32 : decode cX16_moves_ 32 = .ok (.iload_n 3, 1) := by decide +kernel
theorem dX16_moves__33 : decode cX16_moves_ 33 = .ok (.lshr, 1) := by decide +kernel
theorem dX16_moves__34 : decode cX16_moves_ 34 = .ok (.lconst 1, 1) := by decide +kernel
theorem dX16_moves__35 : decode cX16_moves_ 35 = .ok (.land, 1) := by decide +kernel
theorem dX16_moves__36 : decode cX16_moves_ 36 = .ok (.lconst 1, 1) := by decide +kernel
theorem dX16_moves__37 : decode cX16_moves_ 37 = .ok (.lcmp, 1) := by decide +kernel
theorem dX16_moves__38 : decode cX16_moves_ 38 = .ok (.ifCond .ne 7, 3) := by decide +kernel
theorem dX16_moves__41 : decode cX16_moves_ 41 = .ok (.iconst 1, 1) := by decide +kernel
theorem dX16_moves__42 : decode cX16_moves_ 42 = .ok (.goto 4, 3) := by decide +kernel
theorem dX16_moves__45 : decode cX16_moves_ 45 = .ok (.iconst 0, 1) := by decide +kernel
theorem dX16_moves__46 : decode cX16_moves_ 46 = .ok (.istore 5, 2) := by decide +kernel
theorem dX16_moves__48 : decode cX16_moves_ 48 = .ok (.aload_n 1, 1) := by decide +kernel
theorem dX16_moves__49 : decode cX16_moves_ 49 = .ok (.getfield 393, 3) := by decide +kernel
theorem dX16_moves__52 : decode cX16_moves_ 52 = .ok (.iload_n 3, 1) := by decide +kernel
theorem dX16_moves__53 : decode cX16_moves_ 53 = .ok (.lshr, 1) := by decide +kernel
theorem dX16_moves__54 : decode cX16_moves_ 54 = .ok (.lconst 1, 1) := by decide +kernel
theorem dX16_moves__55 : decode cX16_moves_ 55 = .ok (.land, 1) := by decide +kernel
theorem dX16_moves__56 : decode cX16_moves_ 56 = .ok (.lconst 0, 1) := by decide +kernel
theorem dX16_moves__57 : decode cX16_moves_ 57 = .ok (.lcmp, 1) := by decide +kernel
theorem dX16_moves__58 : decode cX16_moves_ 58 = .ok (.ifCond .eq 34, 3) := by decide +kernel
theorem dX16_moves__61 : decode cX16_moves_ 61 = .ok (.aload 4, 2) := by decide +kernel
theorem dX16_moves__63 : decode cX16_moves_ 63 = .ok (.getfield 348, 3) := by decide +kernel
theorem dX16_moves__66 : decode cX16_moves_ 66 = .ok (.ifCond .ne 26, 3) := by decide +kernel
theorem dX16_moves__69 : decode cX16_moves_ 69 = .ok (.aload 4, 2) := by decide +kernel
theorem dX16_moves__71 : decode cX16_moves_ 71 = .ok (.getfield 183, 3) := by decide +kernel
theorem dX16_moves__74 : decode cX16_moves_ 74 = .ok (.iload 5, 2) := by decide +kernel
theorem dX16_moves__76 : decode cX16_moves_ 76 = .ok (.if_icmp .ne 6, 3) := by decide +kernel
theorem dX16_moves__79 : decode cX16_moves_ 79 = .ok (.goto 13, 3) := by decide +kernel
theorem dX16_moves__82 : decode cX16_moves_ 82 = .ok (.aload 4, 2) := by decide +kernel
theorem dX16_moves__84 : decode cX16_moves_ 84 = .ok (.iload 5, 2) := by decide +kernel
theorem dX16_moves__86 : decode cX16_moves_ 86 = .ok (.putfield 183, 3) := by decide +kernel
theorem dX16_moves__89 : decode cX16_moves_ 89 = .ok (.iinc 2 1, 3) := by decide +kernel
theorem dX16_moves__92 : decode cX16_moves_ 92 = .ok (.iinc 3 1, 3) := by decide +kernel
theorem dX16_moves__95 : decode cX16_moves_ 95 = .ok (.goto (-91), 3) := by decide +kernel
theorem dX16_moves__98 : decode cX16_moves_ 98 = .ok (.iload_n 2, 1) := by decide +kernel
theorem dX16_moves__99 : decode cX16_moves_ 99 = .ok (.ireturn, 1) := by decide +kernel
theorem dX16_push_0 : decode cX16_push 0 = .ok (.iload_n 1, 1) := by decide +kernel
theorem dX16_push_1 : decode cX16_push 1 = .ok (.iload_n 2, 1) := by decide +kernel
theorem dX16_push_2 : decode cX16_push 2 = .ok (.invokestatic 398, 3) := by decide +kernel
theorem dX16_push_5 : decode cX16_push 5 = .ok (.ifCond .ne 9, 3) := by decide +kernel
theorem dX16_push_8 : decode cX16_push 8 = .ok (.aload_n 0, 1) := by decide +kernel
theorem dX16_push_9 : decode cX16_push 9 = .ok (.iconst 1, 1) := by decide +kernel
theorem dX16_push_10 : decode cX16_push 10 = .ok (.invokevirtual 324, 3) := by decide +kernel
theorem dX16_push_13 : decode cX16_push 13 = .ok (.ireturn, 1) := by decide +kernel
theorem dX16_push_14 : decode cX16_push 14 = .ok (.aload_n 0, 1) := by decide +kernel
theorem dX16_push_15 : decode cX16_push 15 = .ok (.iload_n 1, 1) := by decide +kernel
theorem dX16_push_16 : decode cX16_push 16 = .ok (.iload_n 2, 1) := by decide +kernel
theorem dX16_push_17 : decode cX16_push 17 = .ok (.invokevirtual 401, 3) := by decide +kernel
theorem dX16_push_20 : decode cX16_push 20 = .ok (.getfield 405, 3) := by decide +kernel
theorem dX16_push_23 : decode cX16_push 23 = .ok (.ifCond .eq 20, 3) := by decide +kernel
theorem dX16_push_26 : decode cX16_push 26 = .ok (.aload_n 0, 1) := by decide +kernel
theorem dX16_push_27 : decode cX16_push 27 = .ok (.aload_n 0, 1) := by decide +kernel
theorem dX16_push_28 : decode cX16_push 28 = .ok (.aload_n 0, 1) := by decide +kernel
theorem dX16_push_29 : decode cX16_push 29 = .ok (.iload_n 1, 1) := by decide +kernel
theorem dX16_push_30 : decode cX16_push 30 = .ok (.iload_n 2, 1) := by decide +kernel
theorem dX16_push_31 : decode cX16_push 31 = .ok (.invokevirtual 401, 3) := by decide +kernel
theorem dX16_push_34 : decode cX16_push 34 = .ok (.invokevirtual 418, 3) := by decide +kernel
theorem dX16_push_37 : decode cX16_push 37 = .ok (.invokevirtual 332, 3) := by decide +kernel
theorem dX16_push_40 : decode cX16_push 40 = .ok (.goto 8, 3) := by decide +kernel
theorem dX16_push_43 : decode cX16_push 43 = .ok (.aload_n 0, 1) := by decide +kernel
theorem dX16_push_44 : decode cX16_push 44 = .ok (.iconst 2, 1) := by decide +kernel
theorem dX16_push_45 : decode cX16_push 45 = .ok (.invokevirtual 324, 3) := by decide +kernel
theorem dX16_push_48 : decode cX16_push 48 = .ok (.ireturn, 1) := by decide +kernel
theorem dX16_setReversible_0 : decode cX16_setReversible 0 = .ok (.iload_n 1, 1) := by decide +kernel
theorem dX16_setReversible_1 : decode cX16_setReversible 1 = .ok (.iconst 0, 1) := by decide +kernel
theorem dX16_setReversible_2 : decode cX16_setReversible 2 = .ok (.iconst 3, 1) := by decide +kernel
theorem dX16_setReversible_3 : decode cX16_setReversible 3 = .ok (.invokestatic 143, 3) := by decide +kernel
theorem dX16_setReversible_6 : decode cX16_setReversible 6 = .ok (.ifCond .eq 11, 3) := by decide +kernel
theorem dX16_setReversible_9 : decode cX16_setReversible 9 = .ok (.aload_n 0, 1) := by decide +kernel
theorem dX16_setReversible_10 : decode cX16_setReversible 10 = .ok (.iload_n 2, 1) := by decide +kernel
theorem dX16_setReversible_11 : decode cX16_setReversible 11 = .ok (.invokevirtual 180, 3) := by decide +kernel
theorem dX16_setReversible_14 : decode cX16_setReversible 14 = .ok (.ifCond .ne 9, 3) := by decide +kernel
theorem dX16_setReversible_17 : decode cX16_setReversible 17 = .ok (.aload_n 0, 1) := by decide +kernel
theorem dX16_setReversible_18 : decode cX16_setReversible 18 = .ok (.iconst 1, 1) := by decide +kernel
theorem dX16_setReversible_19 : decode cX16_setReversible 19 = .ok (.invokevirtual 324, 3) := by decide +kernel
theorem dX16_setReversible_22 : decode cX16_setReversible 22 = .ok (.ireturn, 1) := by decide +kernel
theorem dX16_setReversible_23 : decode cX16_setReversible 23 = .ok (.aload_n 0, 1) := by decide +kernel
theorem dX16_setReversible_24 : decode cX16_setReversible 24 = .ok (.invokevirtual 386, 3) := by decide +kernel
theorem dX16_setReversible_27 : decode cX16_setReversible 27 = .ok (.ifCond .eq 9, 3) := by decide +kernel
theorem dX16_setReversible_30 : decode cX16_setReversible 30 = .ok (.aload_n 0, 1) := by decide +kernel
theorem dX16_setReversible_31 : decode cX16_setReversible 31 = .ok (.iconst 2, 1) := by decide +kernel
theorem dX16_setReversible_32 : decode cX16_setReversible 32 = .ok (.invokevirtual 324, 3) := by decide +kernel
theorem dX16_setReversible_35 : decode cX16_setReversible 35 = .ok (.ireturn, 1) := by decide +kernel
theorem dX16_setReversible_36 : decode cX16_setReversible 36 = .ok (.aload_n 0, 1) := by decide +kernel
theorem dX16_setReversible_37 : decode cX16_setReversible 37 = .ok (.getfield 91, 3) := by decide +kernel
theorem dX16_setReversible_40 : decode cX16_setReversible 40 = .ok (.iconst 4, 1) := by decide +kernel
theorem dX16_setReversible_41 : decode cX16_setReversible 41 = .ok (.aload_n 0, 1) := by decide +kernel
theorem dX16_setReversible_42 : decode cX16_setReversible 42 = .ok (.getfield 383, 3) := by decide +kernel
theorem dX16_setReversible_45 : decode cX16_setReversible 45 = .ok (.imul, 1) := by decide +kernel
theorem dX16_setReversible_46 : decode cX16_setReversible 46 = .ok (.iload_n 1, 1) := by decide +kernel
theorem dX16_setReversible_47 : decode cX16_setReversible 47 = .ok (.iadd, 1) := by decide +kernel
theorem dX16_setReversible_48 : decode cX16_setReversible 48 = .ok (.iaload, 1) := by decide +kernel
theorem dX16_setReversible_49 : decode cX16_setReversible 49 = .ok (.istore_n 3, 1) := by decide +kernel
theorem dX16_setReversible_50 : decode cX16_setReversible 50 = .ok (.aload_n 0, 1) := by decide +kernel
theorem dX16_setReversible_51 : decode cX16_setReversible 51 = .ok (.getfield 91, 3) := by decide +kernel
theorem dX16_setReversible_54 : decode cX16_setReversible 54 = .ok (.iconst 4, 1) := by decide +kernel
theorem dX16_setReversible_55 : decode cX16_setReversible 55 = .ok (.aload_n 0, 1) := by decide +kernel
theorem dX16_setReversible_56 : decode cX16_setReversible 56 = .ok (.getfield 383, 3) := by decide +kernel
theorem dX16_setReversible_59 : decode cX16_setReversible 59 = .ok (.imul, 1) := by decide +kernel
theorem dX16_setReversible_60 : decode cX16_setReversible 60 = .ok (.iload_n 1, 1) := by decide +kernel
theorem dX16_setReversible_61 : decode cX16_setReversible 61 = .ok (.iadd, 1) := by decide +kernel
theorem dX16_setReversible_62 : decode cX16_setReversible 62 = .ok (.iload_n 2, 1) := by decide +kernel
theorem dX16_setReversible_63 : decode cX16_setReversible 63 = .ok (.iastore, 1) := by decide +kernel
theorem dX16_setReversible_64 : decode cX16_setReversible 64 = .ok (.aload_n 0, 1) := by decide +kernel
theorem dX16_setReversible_65 : decode cX16_setReversible 65 = .ok (.iload_n 3, 1) := by decide +kernel
theorem dX16_setReversible_66 : decode cX16_setReversible 66 = .ok (.invokevirtual 332, 3) := by decide +kernel
theorem dX16_setReversible_69 : decode cX16_setReversible 69 = .ok (.ireturn, 1) := by decide +kernel
theorem dX16_pushReversible_0 : decode cX16_pushReversible 0 = .ok (.iload_n 1, 1) := by decide +kernel
theorem dX16_pushReversible_1 : decode cX16_pushReversible 1 = .ok (.iconst 0, 1) := by decide +kernel
theorem dX16_pushReversible_2 : decode cX16_pushReversible 2 = .ok (.iconst 3, 1) := by decide +kernel
theorem dX16_pushReversible_3 : decode cX16_pushReversible 3 = .ok (.invokestatic 143, 3) := by decide +kernel
theorem dX16_pushReversible_6 : decode cX16_pushReversible 6 = .ok (.ifCond .ne 9, 3) := by decide +kernel
theorem dX16_pushReversible_9 : decode cX16_pushReversible 9 = .ok (.aload_n 0, 1) := by decide +kernel
theorem dX16_pushReversible_10 : decode cX16_pushReversible 10 = .ok (.iconst 1, 1) := by decide +kernel
theorem dX16_pushReversible_11 : decode cX16_pushReversible 11 = .ok (.invokevirtual 342, 3) := by decide +kernel
theorem dX16_pushReversible_14 : decode cX16_pushReversible 14 = .ok (.ireturn, 1) := by decide +kernel
theorem dX16_pushReversible_15 : decode cX16_pushReversible 15 = .ok (.aload_n 0, 1) := by decide +kernel
theorem dX16_pushReversible_16 : decode cX16_pushReversible 16 = .ok (.getfield 91, 3) := by decide +kernel
theorem dX16_pushReversible_19 : decode cX16_pushReversible 19 = .ok (.iconst 4, 1) := by decide +kernel
theorem dX16_pushReversible_20 : decode cX16_pushReversible 20 = .ok (.aload_n 0, 1) := by decide +kernel
theorem dX16_pushReversible_21 : decode cX16_pushReversible 21 = .ok (.getfield 383, 3) := by decide +kernel
theorem dX16_pushReversible_24 : decode cX16_pushReversible 24 = .ok (.imul, 1) := by decide +kernel
theorem dX16_pushReversible_25 : decode cX16_pushReversible 25 = .ok (.iload_n 1, 1) := by decide +kernel
theorem dX16_pushReversible_26 : decode cX16_pushReversible 26 = .ok (.iadd, 1) := by decide +kernel
theorem dX16_pushReversible_27 : decode cX16_pushReversible 27 = .ok (.iaload, 1) := by decide +kernel
theorem dX16_pushReversible_28 : decode cX16_pushReversible 28 = .ok (.iconst (-1), 1) := by decide +kernel
theorem dX16_pushReversible_29 : decode cX16_pushReversible 29 = .ok (.if_icmp .ne 9, 3) := by decide +kernel
theorem dX16_pushReversible_32 : decode cX16_pushReversible 32 = .ok (.aload_n 0, 1) := by decide +kernel
theorem dX16_pushReversible_33 : decode cX16_pushReversible 33 = .ok (.iconst 2, 1) := by decide +kernel
theorem dX16_pushReversible_34 : decode cX16_pushReversible 34 = .ok (.invokevirtual 342, 3) := by decide +kernel
theorem dX16_pushReversible_37 : decode cX16_pushReversible 37 = .ok (.ireturn, 1) := by decide +kernel
theorem dX16_pushReversible_38 : decode cX16_pushReversible 38 = .ok (.aload_n 0, 1) := by decide +kernel
theorem dX16_pushReversible_39 : decode cX16_pushReversible 39 = .ok (.getfield 16, 3) := by decide +kernel
theorem dX16_pushReversible_42 : decode cX16_pushReversible 42 = .ok (.aload_n 0, 1) := by decide +kernel
theorem dX16_pushReversible_43 : decode cX16_pushReversible 43 = .ok (.getfield 91, 3) := by decide +kernel
theorem dX16_pushReversible_46 : decode cX16_pushReversible 46 = .ok (.iconst 4, 1) := by decide +kernel
theorem dX16_pushReversible_47 : decode cX16_pushReversible 47 = .ok (.aload_n 0, 1) := by decide +kernel
theorem dX16_pushReversible_48 : decode cX16_pushReversible 48 = .ok (.getfield 383, 3) := by decide +kernel
theorem dX16_pushReversible_51 : decode cX16_pushReversible 51 = .ok (.imul, 1) := by decide +kernel
theorem dX16_pushReversible_52 : decode cX16_pushReversible 52 = .ok (.iload_n 1, 1) := by decide +kernel
theorem dX16_pushReversible_53 : decode cX16_pushReversible 53 = .ok (.iadd, 1) := by decide +kernel
theorem dX16_pushReversible_54 : decode cX16_pushReversible 54 = .ok (.iaload, 1) := by decide +kernel
theorem dX16_pushReversible_55 : decode cX16_pushReversible 55 = .ok (.invokevirtual 162, 3) := by decide +kernel
theorem dX16_pushReversible_58 : decode cX16_pushReversible 58 = .ok (.checkcast 126, 3) := by decide +kernel
theorem dX16_pushReversible_61 : decode cX16_pushReversible 61 = .ok (.astore_n 2, 1) := by decide +kernel
theorem dX16_pushReversible_62 : decode cX16_pushReversible 62 = .ok (.aload_n 2, 1) := by decide +kernel
theorem dX16_pushReversible_63 : decode cX16_pushReversible 63 = .ok (.getfield 348, 3) := by decide +kernel
theorem dX16_pushReversible_66 : decode cX16_pushReversible 66 = .ok (.ifCond .ne 7, 3) := by decide +kernel
theorem dX16_pushReversible_69 : decode cX16_pushReversible 69 = .ok (.iconst 1, 1) := by decide +kernel
theorem dX16_pushReversible_70 : decode cX16_pushReversible 70 = .ok (.goto 4, 3) := by decide +kernel
theorem dX16_pushReversible_73 : decode cX16_pushReversible 73 = .ok (.iconst 0, 1) := by decide +kernel
theorem dX16_pushReversible_74 : decode cX16_pushReversible 74 = .ok (.istore_n 3, 1) := by decide +kernel
theorem dX16_pushReversible_75 : decode cX16_pushReversible 75 = .ok (.aload_n 2, 1) := by decide +kernel
theorem dX16_pushReversible_76 : decode cX16_pushReversible 76 = .ok (.iload_n 3, 1) := by decide +kernel
theorem dX16_pushReversible_77 : decode cX16_pushReversible 77 = .ok (.aload_n 2, 1) := by decide +kernel
theorem dX16_pushReversible_78 : decode cX16_pushReversible 78 = .ok (.getfield 183, 3) := by decide +kernel
theorem dX16_pushReversible_81 : decode cX16_pushReversible 81 = .ok (.if_icmp .eq 7, 3) := by decide +kernel
theorem dX16_pushReversible_84 : decode cX16_pushReversible 84 = .ok (.iconst 1, 1) := by decide +kernel
theorem dX16_pushReversible_85 : decode cX16_pushReversible 85 = .ok (.goto 4, 3) := by decide +kernel
theorem dX16_pushReversible_88 : decode cX16_pushReversible 88 = .ok (.iconst 0, 1) := by decide +kernel
theorem dX16_pushReversible_89 : decode cX16_pushReversible 89 = .ok (.putfield 183, 3) := by decide +kernel
theorem dX16_pushReversible_92 : decode cX16_pushReversible 92 = .ok (.aload_n 0, 1) := by decide +kernel
theorem dX16_pushReversible_93 : decode cX16_pushReversible 93 = .ok (.iload_n 3, 1) := by decide +kernel
theorem dX16_pushReversible_94 : decode cX16_pushReversible 94 = .ok (.invokevirtual 345, 3) := by decide +kernel
theorem dX16_pushReversible_97 : decode cX16_pushReversible 97 = .ok (.ireturn, 1) := by decide +kernel
theorem dX16_step_0 : decode cX16_step 0 = .ok (.aload_n 0, 1) := by decide +kernel
theorem dX16_step_1 : decode cX16_step 1 = .ok (.iconst (-1), 1) := by decide +kernel
theorem dX16_step_2 : decode cX16_step 2 = .ok (.aload_n 0, 1) := by decide +kernel
theorem dX16_step_3 : decode cX16_step 3 = .ok (.getfield 421, 3) := by decide +kernel
theorem dX16_step_6 : decode cX16_step 6 = .ok (.invokevirtual 401, 3) := by decide +kernel
theorem dX16_step_9 : decode cX16_step 9 = .ok (.getfield 405, 3) := by decide +kernel
theorem dX16_step_12 : decode cX16_step 12 = .ok (.ifCond .eq 17, 3) := by decide +kernel
theorem dX16_step_15 : decode cX16_step 15 = .ok (.aload_n 0, 1) := by decide +kernel
theorem dX16_step_16 : decode cX16_step 16 = .ok (.aload_n 0, 1) := by decide +kernel
theorem dX16_step_17 : decode cX16_step 17 = .ok (.iconst (-1), 1) := by decide +kernel
theorem dX16_step_18 : decode cX16_step 18 = .ok (.aload_n 0, 1) := by decide +kernel
theorem dX16_step_19 : decode cX16_step 19 = .ok (.getfield 421, 3) := by decide +kernel
theorem dX16_step_22 : decode cX16_step 22 = .ok (.invokevirtual 401, 3) := by decide +kernel
theorem dX16_step_25 : decode cX16_step 25 = .ok (.invokevirtual 418, 3) := by decide +kernel
theorem dX16_step_28 : decode cX16_step 28 = .ok (.pop, 1) := by decide +kernel
theorem dX16_step_29 : decode cX16_step 29 = .ok (.aload_n 0, 1) := by decide +kernel
theorem dX16_step_30 : decode cX16_step 30 = .ok (.aload_n 0, 1) := by decide +kernel
theorem dX16_step_31 : decode cX16_step 31 = .ok (.getfield 421, 3) := by decide +kernel
theorem dX16_step_34 : decode cX16_step 34 = .ok (.iconst 1, 1) := by decide +kernel
theorem dX16_step_35 : decode cX16_step 35 = .ok (.iadd, 1) := by decide +kernel
theorem dX16_step_36 : decode cX16_step 36 = .ok (.bipush 8, 2) := by decide +kernel
theorem dX16_step_38 : decode cX16_step 38 = .ok (.irem, 1) := by decide +kernel
theorem dX16_step_39 : decode cX16_step 39 = .ok (.putfield 421, 3) := by decide +kernel
theorem dX16_step_42 : decode cX16_step 42 = .ok (.aload_n 0, 1) := by decide +kernel
theorem dX16_step_43 : decode cX16_step 43 = .ok (.aload_n 0, 1) := by decide +kernel
theorem dX16_step_44 : decode cX16_step 44 = .ok (.getfield 421, 3) := by decide +kernel
theorem dX16_step_47 : decode cX16_step 47 = .ok (.invokevirtual 332, 3) := by decide +kernel
theorem dX16_step_50 : decode cX16_step 50 = .ok (.ireturn, 1) := by decide +kernel
theorem dX16_frame_0 : decode cX16_frame 0 = .ok (.aload_n 0, 1) := by decide +kernel
theorem dX16_frame_1 : decode cX16_frame 1 = .ok (.getfield 22, 3) := by decide +kernel
theorem dX16_frame_4 : decode cX16_frame 4 = .ok (.aload_n 0, 1) := by decide +kernel
theorem dX16_frame_5 : decode cX16_frame 5 = .ok (.getfield 380, 3) := by decide +kernel
theorem dX16_frame_8 : decode cX16_frame 8 = .ok (.invokevirtual 162, 3) := by decide +kernel
theorem dX16_frame_11 : decode cX16_frame 11 = .ok (.checkcast 7, 3) := by decide +kernel
theorem dX16_frame_14 : decode cX16_frame 14 = .ok (.astore_n 2, 1) := by decide +kernel
theorem dX16_frame_15 : decode cX16_frame 15 = .ok (.iload_n 1, 1) := by decide +kernel
theorem dX16_frame_16 : decode cX16_frame 16 = .ok (.iconst 0, 1) := by decide +kernel
theorem dX16_frame_17 : decode cX16_frame 17 = .ok (.aload_n 2, 1) := by decide +kernel
theorem dX16_frame_18 : decode cX16_frame 18 = .ok (.invokevirtual 155, 3) := by decide +kernel
theorem dX16_frame_21 : decode cX16_frame 21 = .ok (.invokestatic 143, 3) := by decide +kernel
theorem dX16_frame_24 : decode cX16_frame 24 = .ok (.ifCond .ne 9, 3) := by decide +kernel
theorem dX16_frame_27 : decode cX16_frame 27 = .ok (.aload_n 0, 1) := by decide +kernel
theorem dX16_frame_28 : decode cX16_frame 28 = .ok (.iconst 1, 1) := by decide +kernel
theorem dX16_frame_29 : decode cX16_frame 29 = .ok (.invokevirtual 324, 3) := by decide +kernel
theorem dX16_frame_32 : decode cX16_frame 32 = .ok (.ireturn, 1) := by decide +kernel
theorem dX16_frame_33 : decode cX16_frame 33 = .ok (.aload_n 2, 1) := by decide +kernel
theorem dX16_frame_34 : decode cX16_frame 34 = .ok (.invokevirtual 155, 3) := by decide +kernel
theorem dX16_frame_37 : decode cX16_frame 37 = .ok (.bipush 20, 2) := by decide +kernel
theorem dX16_frame_39 : decode cX16_frame 39 = .ok (.if_icmp .ne 9, 3) := by decide +kernel
theorem dX16_frame_42 : decode cX16_frame 42 = .ok (.aload_n 0, 1) := by decide +kernel
theorem dX16_frame_43 : decode cX16_frame 43 = .ok (.iconst 2, 1) := by decide +kernel
theorem dX16_frame_44 : decode cX16_frame 44 = .ok (.invokevirtual 324, 3) := by decide +kernel
theorem dX16_frame_47 : decode cX16_frame 47 = .ok (.ireturn, 1) := by decide +kernel
theorem dX16_frame_48 : decode cX16_frame 48 = .ok (.new 135, 3) := by decide +kernel
theorem dX16_frame_51 : decode cX16_frame 51 = .ok (.dup, 1) := by decide +kernel
theorem dX16_frame_52 : decode cX16_frame 52 = .ok (.invokespecial 137, 3) := by decide +kernel
theorem dX16_frame_55 : decode cX16_frame 55 = .ok (.astore_n 3, 1) := by decide +kernel
theorem dX16_frame_56 : decode cX16_frame 56 = .ok (.iconst 0, 1) := by decide +kernel
theorem dX16_frame_57 : decode cX16_frame 57 = .ok (.istore 4, 2) := by decide +kernel
theorem dX16_frame_59 : decode cX16_frame 59 = .ok (.iload 4, 2) := by decide +kernel
theorem dX16_frame_61 : decode cX16_frame 61 = .ok (.aload_n 0, 1) := by decide +kernel
theorem dX16_frame_62 : decode cX16_frame 62 = .ok (.getfield 16, 3) := by decide +kernel
theorem dX16_frame_65 : decode cX16_frame 65 = .ok (.invokevirtual 155, 3) := by decide +kernel
theorem dX16_frame_68 : decode cX16_frame 68 = .ok (.if_icmp .ge 16, 3) := by decide +kernel
theorem dX16_frame_71 : decode cX16_frame 71 = .ok (.aload_n 0, 1) := by decide +kernel
theorem dX16_frame_72 : decode cX16_frame 72 = .ok (.aload_n 3, 1) := by decide +kernel
theorem dX16_frame_73 : decode cX16_frame 73 = .ok (.iload 4, 2) := by decide +kernel
theorem dX16_frame_75 : decode cX16_frame 75 = .ok (.invokevirtual 408, 3) := by decide +kernel
theorem dX16_frame_78 : decode cX16_frame 78 = .ok (.iinc 4 1, 3) := by decide +kernel
theorem dX16_frame_81 : decode cX16_frame 81 = .ok (.goto (-22), 3) := by decide +kernel
theorem dX16_frame_84 : decode cX16_frame 84 = .ok (.aload_n 2, 1) := by decide +kernel
theorem dX16_frame_85 : decode cX16_frame 85 = .ok (.iload_n 1, 1) := by decide +kernel
theorem dX16_frame_86 : decode cX16_frame 86 = .ok (.aload_n 3, 1) := by decide +kernel
theorem dX16_frame_87 : decode cX16_frame 87 = .ok (.invokevirtual 424, 3) := by decide +kernel
theorem dX16_frame_90 : decode cX16_frame 90 = .ok (.aload_n 0, 1) := by decide +kernel
theorem dX16_frame_91 : decode cX16_frame 91 = .ok (.aload_n 2, 1) := by decide +kernel
theorem dX16_frame_92 : decode cX16_frame 92 = .ok (.invokevirtual 155, 3) := by decide +kernel
theorem dX16_frame_95 : decode cX16_frame 95 = .ok (.invokevirtual 332, 3) := by decide +kernel
theorem dX16_frame_98 : decode cX16_frame 98 = .ok (.ireturn, 1) := by decide +kernel
theorem dX16_cut_0 : decode cX16_cut 0 = .ok (.aload_n 0, 1) := by decide +kernel
theorem dX16_cut_1 : decode cX16_cut 1 = .ok (.getfield 22, 3) := by decide +kernel
theorem dX16_cut_4 : decode cX16_cut 4 = .ok (.aload_n 0, 1) := by decide +kernel
theorem dX16_cut_5 : decode cX16_cut 5 = .ok (.getfield 380, 3) := by decide +kernel
theorem dX16_cut_8 : decode cX16_cut 8 = .ok (.invokevirtual 162, 3) := by decide +kernel
theorem dX16_cut_11 : decode cX16_cut 11 = .ok (.checkcast 7, 3) := by decide +kernel
theorem dX16_cut_14 : decode cX16_cut 14 = .ok (.astore_n 2, 1) := by decide +kernel
theorem dX16_cut_15 : decode cX16_cut 15 = .ok (.iload_n 1, 1) := by decide +kernel
theorem dX16_cut_16 : decode cX16_cut 16 = .ok (.iconst 0, 1) := by decide +kernel
theorem dX16_cut_17 : decode cX16_cut 17 = .ok (.aload_n 2, 1) := by decide +kernel
theorem dX16_cut_18 : decode cX16_cut 18 = .ok (.invokevirtual 155, 3) := by decide +kernel
theorem dX16_cut_21 : decode cX16_cut 21 = .ok (.iconst 1, 1) := by decide +kernel
theorem dX16_cut_22 : decode cX16_cut 22 = .ok (.isub, 1) := by decide +kernel
theorem dX16_cut_23 : decode cX16_cut 23 = .ok (.invokestatic 143, 3) := by decide +kernel
theorem dX16_cut_26 : decode cX16_cut 26 = .ok (.ifCond .ne 9, 3) := by decide +kernel
theorem dX16_cut_29 : decode cX16_cut 29 = .ok (.aload_n 0, 1) := by decide +kernel
theorem dX16_cut_30 : decode cX16_cut 30 = .ok (.iconst 1, 1) := by decide +kernel
theorem dX16_cut_31 : decode cX16_cut 31 = .ok (.invokevirtual 324, 3) := by decide +kernel
theorem dX16_cut_34 : decode cX16_cut 34 = .ok (.ireturn, 1) := by decide +kernel
theorem dX16_cut_35 : decode cX16_cut 35 = .ok (.aload_n 2, 1) := by decide +kernel
theorem dX16_cut_36 : decode cX16_cut 36 = .ok (.iload_n 1, 1) := by decide +kernel
theorem dX16_cut_37 : decode cX16_cut 37 = .ok (.invokevirtual 427, 3) := by decide +kernel
theorem dX16_cut_40 : decode cX16_cut 40 = .ok (.pop, 1) := by decide +kernel
theorem dX16_cut_41 : decode cX16_cut 41 = .ok (.aload_n 0, 1) := by decide +kernel
theorem dX16_cut_42 : decode cX16_cut 42 = .ok (.aload_n 2, 1) := by decide +kernel
theorem dX16_cut_43 : decode cX16_cut 43 = .ok (.invokevirtual 155, 3) := by decide +kernel
theorem dX16_cut_46 : decode cX16_cut 46 = .ok (.invokevirtual 332, 3) := by decide +kernel
theorem dX16_cut_49 : decode cX16_cut 49 = .ok (.ireturn, 1) := by decide +kernel
theorem dX16_turnTo_0 : decode cX16_turnTo 0 = .ok (.aload_n 0, 1) := by decide +kernel
theorem dX16_turnTo_1 : decode cX16_turnTo 1 = .ok (.getfield 22, 3) := by decide +kernel
theorem dX16_turnTo_4 : decode cX16_turnTo 4 = .ok (.aload_n 0, 1) := by decide +kernel
theorem dX16_turnTo_5 : decode cX16_turnTo 5 = .ok (.getfield 380, 3) := by decide +kernel
theorem dX16_turnTo_8 : decode cX16_turnTo 8 = .ok (.invokevirtual 162, 3) := by decide +kernel
theorem dX16_turnTo_11 : decode cX16_turnTo 11 = .ok (.checkcast 7, 3) := by decide +kernel
theorem dX16_turnTo_14 : decode cX16_turnTo 14 = .ok (.astore_n 2, 1) := by decide +kernel
theorem dX16_turnTo_15 : decode cX16_turnTo 15 = .ok (.iload_n 1, 1) := by decide +kernel
theorem dX16_turnTo_16 : decode cX16_turnTo 16 = .ok (.iconst 0, 1) := by decide +kernel
theorem dX16_turnTo_17 : decode cX16_turnTo 17 = .ok (.aload_n 2, 1) := by decide +kernel
theorem dX16_turnTo_18 : decode cX16_turnTo 18 = .ok (.invokevirtual 155, 3) := by decide +kernel
theorem dX16_turnTo_21 : decode cX16_turnTo 21 = .ok (.iconst 1, 1) := by decide +kernel
theorem dX16_turnTo_22 : decode cX16_turnTo 22 = .ok (.isub, 1) := by decide +kernel
theorem dX16_turnTo_23 : decode cX16_turnTo 23 = .ok (.invokestatic 143, 3) := by decide +kernel
theorem dX16_turnTo_26 : decode cX16_turnTo 26 = .ok (.ifCond .eq 22, 3) := by decide +kernel
theorem dX16_turnTo_29 : decode cX16_turnTo 29 = .ok (.aload_n 0, 1) := by decide +kernel
theorem dX16_turnTo_30 : decode cX16_turnTo 30 = .ok (.aload_n 0, 1) := by decide +kernel
theorem dX16_turnTo_31 : decode cX16_turnTo 31 = .ok (.aload_n 2, 1) := by decide +kernel
theorem dX16_turnTo_32 : decode cX16_turnTo 32 = .ok (.iload_n 1, 1) := by decide +kernel
theorem dX16_turnTo_33 : decode cX16_turnTo 33 = .ok (.invokevirtual 162, 3) := by decide +kernel
theorem dX16_turnTo_36 : decode cX16_turnTo 36 = .ok (.checkcast 135, 3) := by decide +kernel
theorem dX16_turnTo_39 : decode cX16_turnTo 39 = .ok (.invokevirtual 418, 3) := by decide +kernel
theorem dX16_turnTo_42 : decode cX16_turnTo 42 = .ok (.invokevirtual 332, 3) := by decide +kernel
theorem dX16_turnTo_45 : decode cX16_turnTo 45 = .ok (.goto 8, 3) := by decide +kernel
theorem dX16_turnTo_48 : decode cX16_turnTo 48 = .ok (.aload_n 0, 1) := by decide +kernel
theorem dX16_turnTo_49 : decode cX16_turnTo 49 = .ok (.iconst 1, 1) := by decide +kernel
theorem dX16_turnTo_50 : decode cX16_turnTo 50 = .ok (.invokevirtual 324, 3) := by decide +kernel
theorem dX16_turnTo_53 : decode cX16_turnTo 53 = .ok (.ireturn, 1) := by decide +kernel
theorem dX16_isSource_0 : decode cX16_isSource 0 = .ok (.iload_n 0, 1) := by decide +kernel
theorem dX16_isSource_1 : decode cX16_isSource 1 = .ok (.iconst 0, 1) := by decide +kernel
theorem dX16_isSource_2 : decode cX16_isSource 2 = .ok (.sipush 131, 3) := by decide +kernel
theorem dX16_isSource_5 : decode cX16_isSource 5 = .ok (.invokestatic 143, 3) := by decide +kernel
theorem dX16_isSource_8 : decode cX16_isSource 8 = .ok (.ifCond .ne 44, 3) := by decide +kernel
theorem dX16_isSource_11 : decode cX16_isSource 11 = .ok (.iload_n 0, 1) := by decide +kernel
theorem dX16_isSource_12 : decode cX16_isSource 12 = .ok (.sipush 200, 3) := by decide +kernel
theorem dX16_isSource_15 : decode cX16_isSource 15 = .ok (.sipush 260, 3) := by decide +kernel
theorem dX16_isSource_18 : decode cX16_isSource 18 = .ok (.invokestatic 143, 3) := by decide +kernel
theorem dX16_isSource_21 : decode cX16_isSource 21 = .ok (.ifCond .ne 31, 3) := by decide +kernel
theorem dX16_isSource_24 : decode cX16_isSource 24 = .ok (.iload_n 0, 1) := by decide +kernel
theorem dX16_isSource_25 : decode cX16_isSource 25 = .ok (.sipush 300, 3) := by decide +kernel
theorem dX16_isSource_28 : decode cX16_isSource 28 = .ok (.sipush 360, 3) := by decide +kernel
theorem dX16_isSource_31 : decode cX16_isSource 31 = .ok (.invokestatic 143, 3) := by decide +kernel
theorem dX16_isSource_34 : decode cX16_isSource 34 = .ok (.ifCond .ne 18, 3) := by decide +kernel
theorem dX16_isSource_37 : decode cX16_isSource 37 = .ok (.iload_n 0, 1) := by decide +kernel
theorem dX16_isSource_38 : decode cX16_isSource 38 = .ok (.sipush 400, 3) := by decide +kernel
theorem dX16_isSource_41 : decode cX16_isSource 41 = .ok (.sipush 399, 3) := by decide +kernel
theorem dX16_isSource_44 : decode cX16_isSource 44 = .ok (.iload_n 1, 1) := by decide +kernel
theorem dX16_isSource_45 : decode cX16_isSource 45 = .ok (.iadd, 1) := by decide +kernel
theorem dX16_isSource_46 : decode cX16_isSource 46 = .ok (.invokestatic 143, 3) := by decide +kernel
theorem dX16_isSource_49 : decode cX16_isSource 49 = .ok (.ifCond .eq 7, 3) := by decide +kernel
theorem dX16_isSource_52 : decode cX16_isSource 52 = .ok (.iconst 1, 1) := by decide +kernel
theorem dX16_isSource_53 : decode cX16_isSource 53 = .ok (.goto 4, 3) := by decide +kernel
theorem dX16_isSource_56 : decode cX16_isSource 56 = .ok (.iconst 0, 1) := by decide +kernel
theorem dX16_isSource_57 : decode cX16_isSource 57 = .ok (.ireturn, 1) := by decide +kernel
theorem dX16_wire_0 : decode cX16_wire 0 = .ok (.iload_n 1, 1) := by decide +kernel
theorem dX16_wire_1 : decode cX16_wire 1 = .ok (.iconst 0, 1) := by decide +kernel
theorem dX16_wire_2 : decode cX16_wire 2 = .ok (.bipush 15, 2) := by decide +kernel
theorem dX16_wire_4 : decode cX16_wire 4 = .ok (.invokestatic 143, 3) := by decide +kernel
theorem dX16_wire_7 : decode cX16_wire 7 = .ok (.ifCond .ne 9, 3) := by decide +kernel
theorem dX16_wire_10 : decode cX16_wire 10 = .ok (.aload_n 0, 1) := by decide +kernel
theorem dX16_wire_11 : decode cX16_wire 11 = .ok (.iconst 1, 1) := by decide +kernel
theorem dX16_wire_12 : decode cX16_wire 12 = .ok (.invokevirtual 342, 3) := by decide +kernel
theorem dX16_wire_15 : decode cX16_wire 15 = .ok (.ireturn, 1) := by decide +kernel
theorem dX16_wire_16 : decode cX16_wire 16 = .ok (.iload_n 2, 1) := by decide +kernel
theorem dX16_wire_17 : decode cX16_wire 17 = .ok (.bipush 38, 2) := by decide +kernel
theorem dX16_wire_19 : decode cX16_wire 19 = .ok (.if_icmp .eq 21, 3) := by decide +kernel
theorem dX16_wire_22 : decode cX16_wire 22 = .ok (.iload_n 2, 1) := by decide +kernel
theorem dX16_wire_23 : decode cX16_wire 23 = .ok (.bipush 124, 2) := by decide +kernel
theorem dX16_wire_25 : decode cX16_wire 25 = .ok (.if_icmp .eq 15, 3) := by decide +kernel
theorem dX16_wire_28 : decode cX16_wire 28 = .ok (.iload_n 2, 1) := by decide +kernel
theorem dX16_wire_29 : decode cX16_wire 29 = .ok (.bipush 94, 2) := by decide +kernel
theorem dX16_wire_31 : decode cX16_wire 31 = .ok (.if_icmp .eq 9, 3) := by decide +kernel
theorem dX16_wire_34 : decode cX16_wire 34 = .ok (.iload_n 2, 1) := by decide +kernel
theorem dX16_wire_35 : decode cX16_wire 35 = .ok (.bipush 33, 2) := by decide +kernel
theorem dX16_wire_37 : decode cX16_wire 37 = .ok (.if_icmp .ne 7, 3) := by decide +kernel
theorem dX16_wire_40 : decode cX16_wire 40 = .ok (.iconst 1, 1) := by decide +kernel
theorem dX16_wire_41 : decode cX16_wire 41 = .ok (.goto 4, 3) := by decide +kernel
theorem dX16_wire_44 : decode cX16_wire 44 = .ok (.iconst 0, 1) := by decide +kernel
theorem dX16_wire_45 : decode cX16_wire 45 = .ok (.istore 5, 2) := by decide +kernel
theorem dX16_wire_47 : decode cX16_wire 47 = .ok (.iload 5, 2) := by decide +kernel
theorem dX16_wire_49 : decode cX16_wire 49 = .ok (.ifCond .eq 26, 3) := by decide +kernel
theorem dX16_wire_52 : decode cX16_wire 52 = .ok (.iload_n 3, 1) := by decide +kernel
theorem dX16_wire_53 : decode cX16_wire 53 = .ok (.iload_n 1, 1) := by decide +kernel
theorem dX16_wire_54 : decode cX16_wire 54 = .ok (.invokestatic 430, 3) := by decide +kernel
theorem dX16_wire_57 : decode cX16_wire 57 = .ok (.ifCond .eq 18, 3) := by decide +kernel
theorem dX16_wire_60 : decode cX16_wire 60 = .ok (.iload_n 2, 1) := by decide +kernel
theorem dX16_wire_61 : decode cX16_wire 61 = .ok (.bipush 33, 2) := by decide +kernel
theorem dX16_wire_63 : decode cX16_wire 63 = .ok (.if_icmp .eq 18, 3) := by decide +kernel
theorem dX16_wire_66 : decode cX16_wire 66 = .ok (.iload 4, 2) := by decide +kernel
theorem dX16_wire_68 : decode cX16_wire 68 = .ok (.iload_n 1, 1) := by decide +kernel
theorem dX16_wire_69 : decode cX16_wire 69 = .ok (.invokestatic 430, 3) := by decide +kernel
theorem dX16_wire_72 : decode cX16_wire 72 = .ok (.ifCond .ne 9, 3) := by decide +kernel
theorem dX16_wire_75 : decode cX16_wire 75 = .ok (.aload_n 0, 1) := by decide +kernel
theorem dX16_wire_76 : decode cX16_wire 76 = .ok (.iconst 2, 1) := by decide +kernel
theorem dX16_wire_77 : decode cX16_wire 77 = .ok (.invokevirtual 342, 3) := by decide +kernel
theorem dX16_wire_80 : decode cX16_wire 80 = .ok (.ireturn, 1) := by decide +kernel
theorem dX16_wire_81 : decode cX16_wire 81 = .ok (.aload_n 0, 1) := by decide +kernel
theorem dX16_wire_82 : decode cX16_wire 82 = .ok (.getfield 94, 3) := by decide +kernel
theorem dX16_wire_85 : decode cX16_wire 85 = .ok (.iload_n 1, 1) := by decide +kernel
theorem dX16_wire_86 : decode cX16_wire 86 = .ok (.iload_n 2, 1) := by decide +kernel
theorem dX16_wire_87 : decode cX16_wire 87 = .ok (.castore, 1) := by decide +kernel
theorem dX16_wire_88 : decode cX16_wire 88 = .ok (.aload_n 0, 1) := by decide +kernel
theorem dX16_wire_89 : decode cX16_wire 89 = .ok (.getfield 97, 3) := by decide +kernel
theorem dX16_wire_92 : decode cX16_wire 92 = .ok (.iload_n 1, 1) := by decide +kernel
theorem dX16_wire_93 : decode cX16_wire 93 = .ok (.iload_n 3, 1) := by decide +kernel
theorem dX16_wire_94 : decode cX16_wire 94 = .ok (.iastore, 1) := by decide +kernel
theorem dX16_wire_95 : decode cX16_wire 95 = .ok (.aload_n 0, 1) := by decide +kernel
theorem dX16_wire_96 : decode cX16_wire 96 = .ok (.getfield 100, 3) := by decide +kernel
theorem dX16_wire_99 : decode cX16_wire 99 = .ok (.iload_n 1, 1) := by decide +kernel
theorem dX16_wire_100 : decode cX16_wire 100 = .ok (.iload 4, 2) := by decide +kernel
theorem dX16_wire_102 : decode cX16_wire 102 = .ok (.iastore, 1) := by decide +kernel
theorem dX16_wire_103 : decode cX16_wire 103 = .ok (.aload_n 0, 1) := by decide +kernel
theorem dX16_wire_104 : decode cX16_wire 104 = .ok (.invokevirtual 314, 3) := by decide +kernel
theorem dX16_wire_107 : decode cX16_wire 107 = .ok (.aload_n 0, 1) := by decide +kernel
theorem dX16_wire_108 : decode cX16_wire 108 = .ok (.aload_n 0, 1) := by decide +kernel
theorem dX16_wire_109 : decode cX16_wire 109 = .ok (.getfield 112, 3) := by decide +kernel
theorem dX16_wire_112 : decode cX16_wire 112 = .ok (.iload_n 1, 1) := by decide +kernel
theorem dX16_wire_113 : decode cX16_wire 113 = .ok (.baload, 1) := by decide +kernel
theorem dX16_wire_114 : decode cX16_wire 114 = .ok (.invokevirtual 320, 3) := by decide +kernel
theorem dX16_wire_117 : decode cX16_wire 117 = .ok (.ireturn, 1) := by decide +kernel
theorem dX16_isOnRelay_0 : decode cX16_isOnRelay 0 = .ok (.iload_n 1, 1) := by decide +kernel
theorem dX16_isOnRelay_1 : decode cX16_isOnRelay 1 = .ok (.iconst 0, 1) := by decide +kernel
theorem dX16_isOnRelay_2 : decode cX16_isOnRelay 2 = .ok (.bipush 15, 2) := by decide +kernel
theorem dX16_isOnRelay_4 : decode cX16_isOnRelay 4 = .ok (.invokestatic 143, 3) := by decide +kernel
theorem dX16_isOnRelay_7 : decode cX16_isOnRelay 7 = .ok (.ifCond .ne 9, 3) := by decide +kernel
theorem dX16_isOnRelay_10 : decode cX16_isOnRelay 10 = .ok (.aload_n 0, 1) := by decide +kernel
theorem dX16_isOnRelay_11 : decode cX16_isOnRelay 11 = .ok (.iconst 1, 1) := by decide +kernel
theorem dX16_isOnRelay_12 : decode cX16_isOnRelay 12 = .ok (.invokevirtual 342, 3) := by decide +kernel
theorem dX16_isOnRelay_15 : decode cX16_isOnRelay 15 = .ok (.ireturn, 1) := by decide +kernel
theorem dX16_isOnRelay_16 : decode cX16_isOnRelay 16 = .ok (.aload_n 0, 1) := by decide +kernel
theorem dX16_isOnRelay_17 : decode cX16_isOnRelay 17 = .ok (.invokevirtual 248, 3) := by decide +kernel
theorem dX16_isOnRelay_20 : decode cX16_isOnRelay 20 = .ok (.aload_n 0, 1) := by decide +kernel
theorem dX16_isOnRelay_21 : decode cX16_isOnRelay 21 = .ok (.aload_n 0, 1) := by decide +kernel
theorem dX16_isOnRelay_22 : decode cX16_isOnRelay 22 = .ok (.getfield 112, 3) := by decide +kernel
theorem dX16_isOnRelay_25 : decode cX16_isOnRelay 25 = .ok (.iload_n 1, 1) := by decide +kernel
theorem dX16_isOnRelay_26 : decode cX16_isOnRelay 26 = .ok (.baload, 1) := by decide +kernel
theorem dX16_isOnRelay_27 : decode cX16_isOnRelay 27 = .ok (.invokevirtual 320, 3) := by decide +kernel
theorem dX16_isOnRelay_30 : decode cX16_isOnRelay 30 = .ok (.ireturn, 1) := by decide +kernel
theorem dX16_drive_0 : decode cX16_drive 0 = .ok (.aload_n 0, 1) := by decide +kernel
theorem dX16_drive_1 : decode cX16_drive 1 = .ok (.iload_n 1, 1) := by decide +kernel
theorem dX16_drive_2 : decode cX16_drive 2 = .ok (.invokevirtual 180, 3) := by decide +kernel
theorem dX16_drive_5 : decode cX16_drive 5 = .ok (.ifCond .eq 13, 3) := by decide +kernel
theorem dX16_drive_8 : decode cX16_drive 8 = .ok (.iload_n 2, 1) := by decide +kernel
theorem dX16_drive_9 : decode cX16_drive 9 = .ok (.iconst (-1), 1) := by decide +kernel
theorem dX16_drive_10 : decode cX16_drive 10 = .ok (.bipush 15, 2) := by decide +kernel
theorem dX16_drive_12 : decode cX16_drive 12 = .ok (.invokestatic 143, 3) := by decide +kernel
theorem dX16_drive_15 : decode cX16_drive 15 = .ok (.ifCond .ne 9, 3) := by decide +kernel
theorem dX16_drive_18 : decode cX16_drive 18 = .ok (.aload_n 0, 1) := by decide +kernel
theorem dX16_drive_19 : decode cX16_drive 19 = .ok (.iconst 1, 1) := by decide +kernel
theorem dX16_drive_20 : decode cX16_drive 20 = .ok (.invokevirtual 324, 3) := by decide +kernel
theorem dX16_drive_23 : decode cX16_drive 23 = .ok (.ireturn, 1) := by decide +kernel
theorem dX16_drive_24 : decode cX16_drive 24 = .ok (.aload_n 0, 1) := by decide +kernel
theorem dX16_drive_25 : decode cX16_drive 25 = .ok (.getfield 16, 3) := by decide +kernel
theorem dX16_drive_28 : decode cX16_drive 28 = .ok (.iload_n 1, 1) := by decide +kernel
theorem dX16_drive_29 : decode cX16_drive 29 = .ok (.invokevirtual 162, 3) := by decide +kernel
theorem dX16_drive_32 : decode cX16_drive 32 = .ok (.checkcast 126, 3) := by decide +kernel
theorem dX16_drive_35 : decode cX16_drive 35 = .ok (.getfield 193, 3) := by decide +kernel
theorem dX16_drive_38 : decode cX16_drive 38 = .ok (.istore_n 3, 1) := by decide +kernel
theorem dX16_drive_39 : decode cX16_drive 39 = .ok (.aload_n 0, 1) := by decide +kernel
theorem dX16_drive_40 : decode cX16_drive 40 = .ok (.getfield 16, 3) := by decide +kernel
theorem dX16_drive_43 : decode cX16_drive 43 = .ok (.iload_n 1, 1) := by decide +kernel
theorem dX16_drive_44 : decode cX16_drive 44 = .ok (.invokevirtual 162, 3) := by decide +kernel
theorem dX16_drive_47 : decode cX16_drive 47 = .ok (.checkcast 126, 3) := by decide +kernel
theorem dX16_drive_50 : decode cX16_drive 50 = .ok (.iload_n 2, 1) := by decide +kernel
theorem dX16_drive_51 : decode cX16_drive 51 = .ok (.putfield 193, 3) := by decide +kernel
theorem dX16_drive_54 : decode cX16_drive 54 = .ok (.aload_n 0, 1) := by decide +kernel
theorem dX16_drive_55 : decode cX16_drive 55 = .ok (.iload_n 3, 1) := by decide +kernel
theorem dX16_drive_56 : decode cX16_drive 56 = .ok (.invokevirtual 332, 3) := by decide +kernel
theorem dX16_drive_59 : decode cX16_drive 59 = .ok (.ireturn, 1) := by decide +kernel
theorem dX16_record_0 : decode cX16_record 0 = .ok (.aload_n 0, 1) := by decide +kernel
theorem dX16_record_1 : decode cX16_record 1 = .ok (.iload_n 1, 1) := by decide +kernel
theorem dX16_record_2 : decode cX16_record 2 = .ok (.bipush 107, 2) := by decide +kernel
theorem dX16_record_4 : decode cX16_record 4 = .ok (.if_icmp .eq 15, 3) := by decide +kernel
theorem dX16_record_7 : decode cX16_record 7 = .ok (.iload_n 1, 1) := by decide +kernel
theorem dX16_record_8 : decode cX16_record 8 = .ok (.bipush 114, 2) := by decide +kernel
theorem dX16_record_10 : decode cX16_record 10 = .ok (.if_icmp .eq 9, 3) := by decide +kernel
theorem dX16_record_13 : decode cX16_record 13 = .ok (.iload_n 1, 1) := by decide +kernel
theorem dX16_record_14 : decode cX16_record 14 = .ok (.bipush 45, 2) := by decide +kernel
theorem dX16_record_16 : decode cX16_record 16 = .ok (.if_icmp .ne 7, 3) := by decide +kernel
theorem dX16_record_19 : decode cX16_record 19 = .ok (.iconst 0, 1) := by decide +kernel
theorem dX16_record_20 : decode cX16_record 20 = .ok (.goto 4, 3) := by decide +kernel
theorem dX16_record_23 : decode cX16_record 23 = .ok (.iconst 1, 1) := by decide +kernel
theorem dX16_record_24 : decode cX16_record 24 = .ok (.putfield 139, 3) := by decide +kernel
theorem dX16_record_27 : decode cX16_record 27 = .ok (.aload_n 0, 1) := by decide +kernel
theorem dX16_record_28 : decode cX16_record 28 = .ok (.getfield 139, 3) := by decide +kernel
theorem dX16_record_31 : decode cX16_record 31 = .ok (.ifCond .le 5, 3) := by decide +kernel
theorem dX16_record_34 : decode cX16_record 34 = .ok (.iconst 0, 1) := by decide +kernel
theorem dX16_record_35 : decode cX16_record 35 = .ok (.ireturn, 1) := by decide +kernel
theorem dX16_record_36 : decode cX16_record 36 = .ok (.aload_n 0, 1) := by decide +kernel
theorem dX16_record_37 : decode cX16_record 37 = .ok (.getfield 115, 3) := by decide +kernel
theorem dX16_record_40 : decode cX16_record 40 = .ok (.istore_n 2, 1) := by decide +kernel
theorem dX16_record_41 : decode cX16_record 41 = .ok (.aload_n 0, 1) := by decide +kernel
theorem dX16_record_42 : decode cX16_record 42 = .ok (.iload_n 1, 1) := by decide +kernel
theorem dX16_record_43 : decode cX16_record 43 = .ok (.putfield 115, 3) := by decide +kernel
theorem dX16_record_46 : decode cX16_record 46 = .ok (.iload_n 1, 1) := by decide +kernel
theorem dX16_record_47 : decode cX16_record 47 = .ok (.bipush 45, 2) := by decide +kernel
theorem dX16_record_49 : decode cX16_record 49 = .ok (.if_icmp .eq 15, 3) := by decide +kernel
theorem dX16_record_52 : decode cX16_record 52 = .ok (.aload_n 0, 1) := by decide +kernel
theorem dX16_record_53 : decode cX16_record 53 = .ok (.getfield 19, 3) := by decide +kernel
theorem dX16_record_56 : decode cX16_record 56 = .ok (.invokevirtual 433, 3) := by decide +kernel
theorem dX16_record_59 : decode cX16_record 59 = .ok (.aload_n 0, 1) := by decide +kernel
theorem dX16_record_60 : decode cX16_record 60 = .ok (.iload_n 1, 1) := by decide +kernel
theorem dX16_record_61 : decode cX16_record 61 = .ok (.putfield 119, 3) := by decide +kernel
theorem dX16_record_64 : decode cX16_record 64 = .ok (.aload_n 0, 1) := by decide +kernel
theorem dX16_record_65 : decode cX16_record 65 = .ok (.invokevirtual 314, 3) := by decide +kernel
theorem dX16_record_68 : decode cX16_record 68 = .ok (.iload_n 2, 1) := by decide +kernel
theorem dX16_record_69 : decode cX16_record 69 = .ok (.ireturn, 1) := by decide +kernel
theorem dX16_recorded_0 : decode cX16_recorded 0 = .ok (.aload_n 0, 1) := by decide +kernel
theorem dX16_recorded_1 : decode cX16_recorded 1 = .ok (.aload_n 0, 1) := by decide +kernel
theorem dX16_recorded_2 : decode cX16_recorded 2 = .ok (.getfield 19, 3) := by decide +kernel
theorem dX16_recorded_5 : decode cX16_recorded 5 = .ok (.invokevirtual 155, 3) := by decide +kernel
theorem dX16_recorded_8 : decode cX16_recorded 8 = .ok (.invokevirtual 317, 3) := by decide +kernel
theorem dX16_recorded_11 : decode cX16_recorded 11 = .ok (.ireturn, 1) := by decide +kernel
theorem dX16_playBack_0 : decode cX16_playBack 0 = .ok (.aload_n 0, 1) := by decide +kernel
theorem dX16_playBack_1 : decode cX16_playBack 1 = .ok (.getfield 19, 3) := by decide +kernel
theorem dX16_playBack_4 : decode cX16_playBack 4 = .ok (.invokevirtual 436, 3) := by decide +kernel
theorem dX16_playBack_7 : decode cX16_playBack 7 = .ok (.ifCond .eq 9, 3) := by decide +kernel
theorem dX16_playBack_10 : decode cX16_playBack 10 = .ok (.aload_n 0, 1) := by decide +kernel
theorem dX16_playBack_11 : decode cX16_playBack 11 = .ok (.iconst 1, 1) := by decide +kernel
theorem dX16_playBack_12 : decode cX16_playBack 12 = .ok (.invokevirtual 324, 3) := by decide +kernel
theorem dX16_playBack_15 : decode cX16_playBack 15 = .ok (.ireturn, 1) := by decide +kernel
theorem dX16_playBack_16 : decode cX16_playBack 16 = .ok (.aload_n 0, 1) := by decide +kernel
theorem dX16_playBack_17 : decode cX16_playBack 17 = .ok (.bipush 45, 2) := by decide +kernel
theorem dX16_playBack_19 : decode cX16_playBack 19 = .ok (.putfield 115, 3) := by decide +kernel
theorem dX16_playBack_22 : decode cX16_playBack 22 = .ok (.aload_n 0, 1) := by decide +kernel
theorem dX16_playBack_23 : decode cX16_playBack 23 = .ok (.getfield 307, 3) := by decide +kernel
theorem dX16_playBack_26 : decode cX16_playBack 26 = .ok (.lstore_n 1, 1) := by decide +kernel
theorem dX16_playBack_27 : decode cX16_playBack 27 = .ok (.aload_n 0, 1) := by decide +kernel
theorem dX16_playBack_28 : decode cX16_playBack 28 = .ok (.getfield 119, 3) := by decide +kernel
theorem dX16_playBack_31 : decode cX16_playBack 31 = .ok (.bipush 107, 2) := by decide +kernel
theorem dX16_playBack_33 : decode cX16_playBack 33 = .ok (.if_icmp .ne 8, 3) := by decide +kernel
theorem dX16_playBack_36 : decode cX16_playBack 36 = .ok (.aload_n 0, 1) := by decide +kernel
theorem dX16_playBack_37 : decode cX16_playBack 37 = .ok (.invokevirtual 439, 3) := by decide +kernel
theorem dX16_playBack_40 : decode cX16_playBack 40 = .ok (.pop, 1) := by decide +kernel
theorem dX16_playBack_41 : decode cX16_playBack 41 = .ok (.aload_n 0, 1) := by decide +kernel
theorem dX16_playBack_42 : decode cX16_playBack 42 = .ok (.getfield 19, 3) := by decide +kernel
theorem dX16_playBack_45 : decode cX16_playBack 45 = .ok (.iconst 0, 1) := by decide +kernel
theorem dX16_playBack_46 : decode cX16_playBack 46 = .ok (.invokevirtual 162, 3) := by decide +kernel
theorem dX16_playBack_49 : decode cX16_playBack 49 = .ok (.checkcast 295, 3) := by decide +kernel
theorem dX16_playBack_52 : decode cX16_playBack 52 = .ok (.getfield 442, 3) := by decide +kernel
theorem dX16_playBack_55 : decode cX16_playBack 55 = .ok (.istore_n 3, 1) := by decide +kernel
theorem dX16_playBack_56 : decode cX16_playBack 56 = .ok (.iconst 0, 1) := by decide +kernel
theorem dX16_playBack_57 : decode cX16_playBack 57 = .ok (.istore 4, 2) := by decide +kernel
theorem dX16_playBack_59 : decode cX16_playBack 59 = .ok (.iload 4, 2) := by decide +kernel
theorem dX16_playBack_61 : decode cX16_playBack 61 = .ok (.aload_n 0, 1) := by decide +kernel
theorem dX16_playBack_62 : decode cX16_playBack 62 = .ok (.getfield 19, 3) := by decide +kernel
theorem dX16_playBack_65 : decode cX16_playBack 65 = .ok (.invokevirtual 155, 3) := by decide +kernel
theorem dX16_playBack_68 : decode cX16_playBack 68 = .ok (.if_icmp .ge 91, 3) := by decide +kernel
theorem dX16_playBack_71 : decode cX16_playBack 71 = .ok (.aload_n 0, 1) := by decide +kernel
theorem dX16_playBack_72 : decode cX16_playBack 72 = .ok (.getfield 19, 3) := by decide +kernel
theorem dX16_playBack_75 : decode cX16_playBack 75 = .ok (.iload 4, 2) := by decide +kernel
theorem dX16_playBack_77 : decode cX16_playBack 77 = .ok (.invokevirtual 162, 3) := by decide +kernel
theorem dX16_playBack_80 : decode cX16_playBack 80 = .ok (.checkcast 295, 3) := by decide +kernel
theorem dX16_playBack_83 : decode cX16_playBack 83 = .ok (.astore 5, 2) := by decide +kernel
theorem dX16_playBack_85 : decode cX16_playBack 85 = .ok (.aload_n 0, 1) := by decide +kernel
theorem dX16_playBack_86 : decode cX16_playBack 86 = .ok (.aload 5, 2) := by decide +kernel
theorem dX16_playBack_88 : decode cX16_playBack 88 = .ok (.getfield 442, 3) := by decide +kernel
theorem dX16_playBack_91 : decode cX16_playBack 91 = .ok (.iload_n 3, 1) := by decide +kernel
theorem dX16_playBack_92 : decode cX16_playBack 92 = .ok (.isub, 1) := by decide +kernel
theorem dX16_playBack_93 : decode cX16_playBack 93 = .ok (.invokevirtual 355, 3) := by decide +kernel
theorem dX16_playBack_96 : decode cX16_playBack 96 = .ok (.aload 5, 2) := by decide +kernel
theorem dX16_playBack_98 : decode cX16_playBack 98 = .ok (.getfield 442, 3) := by decide +kernel
theorem dX16_playBack_101 : decode cX16_playBack 101 = .ok (.istore_n 3, 1) := by decide +kernel
theorem dX16_playBack_102 : decode cX16_playBack 102 = .ok (.aload_n 0, 1) := by decide +kernel
theorem dX16_playBack_103 : decode cX16_playBack 103 = .ok (.getfield 119, 3) := by decide +kernel
theorem dX16_playBack_106 : decode cX16_playBack 106 = .ok (.bipush 107, 2) := by decide +kernel
theorem dX16_playBack_108 : decode cX16_playBack 108 = .ok (.if_icmp .ne 26, 3) := by decide +kernel
theorem dX16_playBack_111 : decode cX16_playBack 111 = .ok (.aload_n 0, 1) := by decide +kernel
theorem dX16_playBack_112 : decode cX16_playBack 112 = .ok (.aload 5, 2) := by decide +kernel
theorem dX16_playBack_114 : decode cX16_playBack 114 = .ok (.getfield 443, 3) := by decide +kernel
theorem dX16_playBack_117 : decode cX16_playBack 117 = .ok (.aload 5, 2) := by decide +kernel
theorem dX16_playBack_119 : decode cX16_playBack 119 = .ok (.getfield 444, 3) := by decide +kernel
theorem dX16_playBack_122 : decode cX16_playBack 122 = .ok (.aload 5, 2) := by decide +kernel
theorem dX16_playBack_124 : decode cX16_playBack 124 = .ok (.getfield 447, 3) := by decide +kernel
theorem dX16_playBack_127 : decode cX16_playBack 127 = .ok (.invokevirtual 351, 3) := by decide +kernel
theorem dX16_playBack_130 : decode cX16_playBack 130 = .ok (.pop, 1) := by decide +kernel
theorem dX16_playBack_131 : decode cX16_playBack 131 = .ok (.goto 18, 3) := by decide +kernel
theorem dX16_playBack_134 : decode cX16_playBack 134 = .ok (.aload_n 0, 1) := by decide +kernel
theorem dX16_playBack_135 : decode cX16_playBack 135 = .ok (.getfield 35, 3) := by decide +kernel
theorem dX16_playBack_138 : decode cX16_playBack 138 = .ok (.aload 5, 2) := by decide +kernel
theorem dX16_playBack_140 : decode cX16_playBack 140 = .ok (.getfield 444, 3) := by decide +kernel
theorem dX16_playBack_143 : decode cX16_playBack 143 = .ok (.aload 5, 2) := by decide +kernel
theorem dX16_playBack_145 : decode cX16_playBack 145 = .ok (.getfield 447, 3) := by decide +kernel
theorem dX16_playBack_148 : decode cX16_playBack 148 = .ok (.bastore, 1) := by decide +kernel
theorem dX16_playBack_149 : decode cX16_playBack 149 = .ok (.aload_n 0, 1) := by decide +kernel
theorem dX16_playBack_150 : decode cX16_playBack 150 = .ok (.invokevirtual 314, 3) := by decide +kernel
theorem dX16_playBack_153 : decode cX16_playBack 153 = .ok (.iinc 4 1, 3) := by decide +kernel
theorem dX16_playBack_156 : decode cX16_playBack 156 = .ok (.goto (-97), 3) := by decide +kernel
theorem dX16_playBack_159 : decode cX16_playBack 159 = .ok (.iconst 0, 1) := by decide +kernel
theorem dX16_playBack_160 : decode cX16_playBack 160 = .ok (.istore 4, 2) := by decide +kernel
theorem dX16_playBack_162 : decode cX16_playBack 162 = .ok (.iload 4, 2) := by decide +kernel
theorem dX16_playBack_164 : decode cX16_playBack 164 = .ok (.aload_n 0, 1) := by decide +kernel
theorem dX16_playBack_165 : decode cX16_playBack 165 = .ok (.getfield 251, 3) := by decide +kernel
theorem dX16_playBack_168 : decode cX16_playBack 168 = .ok (.if_icmp .ge 17, 3) := by decide +kernel
theorem dX16_playBack_171 : decode cX16_playBack 171 = .ok (.aload_n 0, 1) := by decide +kernel
theorem dX16_playBack_172 : decode cX16_playBack 172 = .ok (.getfield 35, 3) := by decide +kernel
theorem dX16_playBack_175 : decode cX16_playBack 175 = .ok (.iload 4, 2) := by decide +kernel
theorem dX16_playBack_177 : decode cX16_playBack 177 = .ok (.iconst 0, 1) := by decide +kernel
theorem dX16_playBack_178 : decode cX16_playBack 178 = .ok (.bastore, 1) := by decide +kernel
theorem dX16_playBack_179 : decode cX16_playBack 179 = .ok (.iinc 4 1, 3) := by decide +kernel
theorem dX16_playBack_182 : decode cX16_playBack 182 = .ok (.goto (-20), 3) := by decide +kernel
theorem dX16_playBack_185 : decode cX16_playBack 185 = .ok (.aload_n 0, 1) := by decide +kernel
theorem dX16_playBack_186 : decode cX16_playBack 186 = .ok (.invokevirtual 314, 3) := by decide +kernel
theorem dX16_playBack_189 : decode cX16_playBack 189 = .ok (.aload_n 0, 1) := by decide +kernel
theorem dX16_playBack_190 : decode cX16_playBack 190 = .ok (.aload_n 0, 1) := by decide +kernel
theorem dX16_playBack_191 : decode cX16_playBack 191 = .ok (.getfield 307, 3) := by decide +kernel
theorem dX16_playBack_194 : decode cX16_playBack 194 = .ok (.lload_n 1, 1) := by decide +kernel
theorem dX16_playBack_195 : decode cX16_playBack 195 = .ok (.lsub, 1) := by decide +kernel
theorem dX16_playBack_196 : decode cX16_playBack 196 = .ok (.l2i, 1) := by decide +kernel
theorem dX16_playBack_197 : decode cX16_playBack 197 = .ok (.invokevirtual 317, 3) := by decide +kernel
theorem dX16_playBack_200 : decode cX16_playBack 200 = .ok (.ireturn, 1) := by decide +kernel
theorem dX16_scale_0 : decode cX16_scale 0 = .ok (.iload_n 1, 1) := by decide +kernel
theorem dX16_scale_1 : decode cX16_scale 1 = .ok (.iconst 0, 1) := by decide +kernel
theorem dX16_scale_2 : decode cX16_scale 2 = .ok (.bipush 11, 2) := by decide +kernel
theorem dX16_scale_4 : decode cX16_scale 4 = .ok (.invokestatic 143, 3) := by decide +kernel
theorem dX16_scale_7 : decode cX16_scale 7 = .ok (.ifCond .ne 9, 3) := by decide +kernel
theorem dX16_scale_10 : decode cX16_scale 10 = .ok (.aload_n 0, 1) := by decide +kernel
theorem dX16_scale_11 : decode cX16_scale 11 = .ok (.iconst 1, 1) := by decide +kernel
theorem dX16_scale_12 : decode cX16_scale 12 = .ok (.invokevirtual 324, 3) := by decide +kernel
theorem dX16_scale_15 : decode cX16_scale 15 = .ok (.ireturn, 1) := by decide +kernel
theorem dX16_scale_16 : decode cX16_scale 16 = .ok (.aload_n 0, 1) := by decide +kernel
theorem dX16_scale_17 : decode cX16_scale 17 = .ok (.getfield 450, 3) := by decide +kernel
theorem dX16_scale_20 : decode cX16_scale 20 = .ok (.istore_n 3, 1) := by decide +kernel
theorem dX16_scale_21 : decode cX16_scale 21 = .ok (.aload_n 0, 1) := by decide +kernel
theorem dX16_scale_22 : decode cX16_scale 22 = .ok (.iload_n 1, 1) := by decide +kernel
theorem dX16_scale_23 : decode cX16_scale 23 = .ok (.putfield 450, 3) := by decide +kernel
theorem dX16_scale_26 : decode cX16_scale 26 = .ok (.aload_n 0, 1) := by decide +kernel
theorem dX16_scale_27 : decode cX16_scale 27 = .ok (.iload_n 2, 1) := by decide +kernel
theorem dX16_scale_28 : decode cX16_scale 28 = .ok (.putfield 122, 3) := by decide +kernel
theorem dX16_scale_31 : decode cX16_scale 31 = .ok (.aload_n 0, 1) := by decide +kernel
theorem dX16_scale_32 : decode cX16_scale 32 = .ok (.iconst 0, 1) := by decide +kernel
theorem dX16_scale_33 : decode cX16_scale 33 = .ok (.putfield 453, 3) := by decide +kernel
theorem dX16_scale_36 : decode cX16_scale 36 = .ok (.aload_n 0, 1) := by decide +kernel
theorem dX16_scale_37 : decode cX16_scale 37 = .ok (.iload_n 3, 1) := by decide +kernel
theorem dX16_scale_38 : decode cX16_scale 38 = .ok (.invokevirtual 332, 3) := by decide +kernel
theorem dX16_scale_41 : decode cX16_scale 41 = .ok (.ireturn, 1) := by decide +kernel
theorem dX16_classOf_0 : decode cX16_classOf 0 = .ok (.iload_n 1, 1) := by decide +kernel
theorem dX16_classOf_1 : decode cX16_classOf 1 = .ok (.bipush 7, 2) := by decide +kernel
theorem dX16_classOf_3 : decode cX16_classOf 3 = .ok (.irem, 1) := by decide +kernel
theorem dX16_classOf_4 : decode cX16_classOf 4 = .ok (.istore_n 2, 1) := by decide +kernel
theorem dX16_classOf_5 : decode cX16_classOf 5 = .ok (.iload_n 2, 1) := by decide +kernel
theorem dX16_classOf_6 : decode cX16_classOf 6 = .ok (.iconst 3, 1) := by decide +kernel
theorem dX16_classOf_7 : decode cX16_classOf 7 = .ok (.if_icmp .ge 9, 3) := by decide +kernel
theorem dX16_classOf_10 : decode cX16_classOf 10 = .ok (.iconst 2, 1) := by decide +kernel
theorem dX16_classOf_11 : decode cX16_classOf 11 = .ok (.iload_n 2, 1) := by decide +kernel
theorem dX16_classOf_12 : decode cX16_classOf 12 = .ok (.imul, 1) := by decide +kernel
theorem dX16_classOf_13 : decode cX16_classOf 13 = .ok (.goto 8, 3) := by decide +kernel
theorem dX16_classOf_16 : decode cX16_classOf 16 = .ok (.iconst 2, 1) := by decide +kernel
theorem dX16_classOf_17 : decode cX16_classOf 17 = .ok (.iload_n 2, 1) := by decide +kernel
theorem dX16_classOf_18 : decode cX16_classOf 18 = .ok (.imul, 1) := by decide +kernel
theorem dX16_classOf_19 : decode cX16_classOf 19 = .ok (.iconst 1, 1) := by decide +kernel
theorem dX16_classOf_20 : decode cX16_classOf 20 = .ok (.isub, 1) := by decide +kernel
theorem dX16_classOf_21 : decode cX16_classOf 21 = .ok (.istore_n 3, 1) := by decide +kernel
theorem dX16_classOf_22 : decode cX16_classOf 22 = .ok (.aload_n 0, 1) := by decide +kernel
theorem dX16_classOf_23 : decode cX16_classOf 23 = .ok (.getfield 122, 3) := by decide +kernel
theorem dX16_classOf_26 : decode cX16_classOf 26 = .ok (.ifCond .ne 19, 3) := by decide +kernel
theorem dX16_classOf_29 : decode cX16_classOf 29 = .ok (.iload_n 2, 1) := by decide +kernel
theorem dX16_classOf_30 : decode cX16_classOf 30 = .ok (.iconst 2, 1) := by decide +kernel
theorem dX16_classOf_31 : decode cX16_classOf 31 = .ok (.if_icmp .eq 18, 3) := by decide +kernel
theorem dX16_classOf_34 : decode cX16_classOf 34 = .ok (.iload_n 2, 1) := by decide +kernel
theorem dX16_classOf_35 : decode cX16_classOf 35 = .ok (.iconst 5, 1) := by decide +kernel
theorem dX16_classOf_36 : decode cX16_classOf 36 = .ok (.if_icmp .eq 13, 3) := by decide +kernel
theorem dX16_classOf_39 : decode cX16_classOf 39 = .ok (.iload_n 2, 1) := by decide +kernel
theorem dX16_classOf_40 : decode cX16_classOf 40 = .ok (.bipush 6, 2) := by decide +kernel
theorem dX16_classOf_42 : decode cX16_classOf 42 = .ok (.if_icmp .eq 7, 3) := by decide +kernel
theorem dX16_classOf_45 : decode cX16_classOf 45 = .ok (.iload_n 3, 1) := by decide +kernel
theorem dX16_classOf_46 : decode cX16_classOf 46 = .ok (.goto 6, 3) := by decide +kernel
theorem dX16_classOf_49 : decode cX16_classOf 49 = .ok (.iload_n 3, 1) := by decide +kernel
theorem dX16_classOf_50 : decode cX16_classOf 50 = .ok (.iconst 1, 1) := by decide +kernel
theorem dX16_classOf_51 : decode cX16_classOf 51 = .ok (.isub, 1) := by decide +kernel
theorem dX16_classOf_52 : decode cX16_classOf 52 = .ok (.istore 4, 2) := by decide +kernel
theorem dX16_classOf_54 : decode cX16_classOf 54 = .ok (.aload_n 0, 1) := by decide +kernel
theorem dX16_classOf_55 : decode cX16_classOf 55 = .ok (.getfield 450, 3) := by decide +kernel
theorem dX16_classOf_58 : decode cX16_classOf 58 = .ok (.iload 4, 2) := by decide +kernel
theorem dX16_classOf_60 : decode cX16_classOf 60 = .ok (.iadd, 1) := by decide +kernel
theorem dX16_classOf_61 : decode cX16_classOf 61 = .ok (.bipush 12, 2) := by decide +kernel
theorem dX16_classOf_63 : decode cX16_classOf 63 = .ok (.irem, 1) := by decide +kernel
theorem dX16_classOf_64 : decode cX16_classOf 64 = .ok (.ireturn, 1) := by decide +kernel
theorem dX16_steps_0 : decode cX16_steps 0 = .ok (.iload_n 2, 1) := by decide +kernel
theorem dX16_steps_1 : decode cX16_steps 1 = .ok (.ifCond .ne 15, 3) := by decide +kernel
theorem dX16_steps_4 : decode cX16_steps 4 = .ok (.iload_n 1, 1) := by decide +kernel
theorem dX16_steps_5 : decode cX16_steps 5 = .ok (.bipush 52, 2) := by decide +kernel
theorem dX16_steps_7 : decode cX16_steps 7 = .ok (.if_icmp .ne 7, 3) := by decide +kernel
theorem dX16_steps_10 : decode cX16_steps 10 = .ok (.iconst 3, 1) := by decide +kernel
theorem dX16_steps_11 : decode cX16_steps 11 = .ok (.goto 4, 3) := by decide +kernel
theorem dX16_steps_14 : decode cX16_steps 14 = .ok (.iconst 2, 1) := by decide +kernel
theorem dX16_steps_15 : decode cX16_steps 15 = .ok (.ireturn, 1) := by decide +kernel
theorem dX16_steps_16 : decode cX16_steps 16 = .ok (.iload_n 2, 1) := by decide +kernel
theorem dX16_steps_17 : decode cX16_steps 17 = .ok (.iconst 1, 1) := by decide +kernel
theorem dX16_steps_18 : decode cX16_steps 18 = .ok (.if_icmp .ne 21, 3) := by decide +kernel
theorem dX16_steps_21 : decode cX16_steps 21 = .ok (.iload_n 1, 1) := by decide +kernel
theorem dX16_steps_22 : decode cX16_steps 22 = .ok (.bipush 53, 2) := by decide +kernel
theorem dX16_steps_24 : decode cX16_steps 24 = .ok (.if_icmp .eq 9, 3) := by decide +kernel
theorem dX16_steps_27 : decode cX16_steps 27 = .ok (.iload_n 1, 1) := by decide +kernel
theorem dX16_steps_28 : decode cX16_steps 28 = .ok (.bipush 55, 2) := by decide +kernel
theorem dX16_steps_30 : decode cX16_steps 30 = .ok (.if_icmp .ne 7, 3) := by decide +kernel
theorem dX16_steps_33 : decode cX16_steps 33 = .ok (.iconst 4, 1) := by decide +kernel
theorem dX16_steps_34 : decode cX16_steps 34 = .ok (.goto 4, 3) := by decide +kernel
theorem dX16_steps_37 : decode cX16_steps 37 = .ok (.iconst 5, 1) := by decide +kernel
theorem dX16_steps_38 : decode cX16_steps 38 = .ok (.ireturn, 1) := by decide +kernel
theorem dX16_steps_39 : decode cX16_steps 39 = .ok (.iload_n 1, 1) := by decide +kernel
theorem dX16_steps_40 : decode cX16_steps 40 = .ok (.bipush 55, 2) := by decide +kernel
theorem dX16_steps_42 : decode cX16_steps 42 = .ok (.if_icmp .ne 8, 3) := by decide +kernel
theorem dX16_steps_45 : decode cX16_steps 45 = .ok (.bipush 6, 2) := by decide +kernel
theorem dX16_steps_47 : decode cX16_steps 47 = .ok (.goto 4, 3) := by decide +kernel
theorem dX16_steps_50 : decode cX16_steps 50 = .ok (.iconst 0, 1) := by decide +kernel
theorem dX16_steps_51 : decode cX16_steps 51 = .ok (.ireturn, 1) := by decide +kernel
theorem dX16_isPerfect_0 : decode cX16_isPerfect 0 = .ok (.iload_n 0, 1) := by decide +kernel
theorem dX16_isPerfect_1 : decode cX16_isPerfect 1 = .ok (.bipush 12, 2) := by decide +kernel
theorem dX16_isPerfect_3 : decode cX16_isPerfect 3 = .ok (.irem, 1) := by decide +kernel
theorem dX16_isPerfect_4 : decode cX16_isPerfect 4 = .ok (.bipush 7, 2) := by decide +kernel
theorem dX16_isPerfect_6 : decode cX16_isPerfect 6 = .ok (.if_icmp .eq 14, 3) := by decide +kernel
theorem dX16_isPerfect_9 : decode cX16_isPerfect 9 = .ok (.iload_n 0, 1) := by decide +kernel
theorem dX16_isPerfect_10 : decode cX16_isPerfect 10 = .ok (.ifCond .le 14, 3) := by decide +kernel
theorem dX16_isPerfect_13 : decode cX16_isPerfect 13 = .ok (.iload_n 0, 1) := by decide +kernel
theorem dX16_isPerfect_14 : decode cX16_isPerfect 14 = .ok (.bipush 12, 2) := by decide +kernel
theorem dX16_isPerfect_16 : decode cX16_isPerfect 16 = .ok (.irem, 1) := by decide +kernel
theorem dX16_isPerfect_17 : decode cX16_isPerfect 17 = .ok (.ifCond .ne 7, 3) := by decide +kernel
theorem dX16_isPerfect_20 : decode cX16_isPerfect 20 = .ok (.iconst 1, 1) := by decide +kernel
theorem dX16_isPerfect_21 : decode cX16_isPerfect 21 = .ok (.goto 4, 3) := by decide +kernel
theorem dX16_isPerfect_24 : decode cX16_isPerfect 24 = .ok (.iconst 0, 1) := by decide +kernel
theorem dX16_isPerfect_25 : decode cX16_isPerfect 25 = .ok (.ireturn, 1) := by decide +kernel
theorem dX16_voice_0 : decode cX16_voice 0 = .ok (.iload 5, 2) := by decide +kernel
theorem dX16_voice_2 : decode cX16_voice 2 = .ok (.ifCond .ne 7, 3) := by decide +kernel
theorem dX16_voice_5 : decode cX16_voice 5 = .ok (.iload_n 1, 1) := by decide +kernel
theorem dX16_voice_6 : decode cX16_voice 6 = .ok (.goto 25, 3) := by decide +kernel
theorem dX16_voice_9 : decode cX16_voice 9 = .ok (.iload 5, 2) := by decide +kernel
theorem dX16_voice_11 : decode cX16_voice 11 = .ok (.iconst 1, 1) := by decide +kernel
theorem dX16_voice_12 : decode cX16_voice 12 = .ok (.if_icmp .ne 7, 3) := by decide +kernel
theorem dX16_voice_15 : decode cX16_voice 15 = .ok (.iload_n 2, 1) := by decide +kernel
theorem dX16_voice_16 : decode cX16_voice 16 = .ok (.goto 15, 3) := by decide +kernel
theorem dX16_voice_19 : decode cX16_voice 19 = .ok (.iload 5, 2) := by decide +kernel
theorem dX16_voice_21 : decode cX16_voice 21 = .ok (.iconst 2, 1) := by decide +kernel
theorem dX16_voice_22 : decode cX16_voice 22 = .ok (.if_icmp .ne 7, 3) := by decide +kernel
theorem dX16_voice_25 : decode cX16_voice 25 = .ok (.iload_n 3, 1) := by decide +kernel
theorem dX16_voice_26 : decode cX16_voice 26 = .ok (.goto 5, 3) := by decide +kernel
theorem dX16_voice_29 : decode cX16_voice 29 = .ok (.iload 4, 2) := by decide +kernel
theorem dX16_voice_31 : decode cX16_voice 31 = .ok (.ireturn, 1) := by decide +kernel
theorem dX16_badSteps_0 : decode cX16_badSteps 0 = .ok (.iconst 0, 1) := by decide +kernel
theorem dX16_badSteps_1 : decode cX16_badSteps 1 = .ok (.istore 5, 2) := by decide +kernel
theorem dX16_badSteps_3 : decode cX16_badSteps 3 = .ok (.iconst 0, 1) := by decide +kernel
theorem dX16_badSteps_4 : decode cX16_badSteps 4 = .ok (.istore 6, 2) := by decide +kernel
theorem dX16_badSteps_6 : decode cX16_badSteps 6 = .ok (.iload 6, 2) := by decide +kernel
theorem dX16_badSteps_8 : decode cX16_badSteps 8 = .ok (.iconst 4, 1) := by decide +kernel
theorem dX16_badSteps_9 : decode cX16_badSteps 9 = .ok (.if_icmp .ge 175, 3) := by decide +kernel
theorem dX16_badSteps_12 : decode cX16_badSteps 12 = .ok (.aload_n 0, 1) := by decide +kernel
theorem dX16_badSteps_13 : decode cX16_badSteps 13 = .ok (.getfield 453, 3) := by decide +kernel
theorem dX16_badSteps_16 : decode cX16_badSteps 16 = .ok (.ifCond .eq 168, 3) := by decide +kernel
theorem dX16_badSteps_19 : decode cX16_badSteps 19 = .ok (.iload 6, 2) := by decide +kernel
theorem dX16_badSteps_21 : decode cX16_badSteps 21 = .ok (.iconst 1, 1) := by decide +kernel
theorem dX16_badSteps_22 : decode cX16_badSteps 22 = .ok (.iadd, 1) := by decide +kernel
theorem dX16_badSteps_23 : decode cX16_badSteps 23 = .ok (.istore 7, 2) := by decide +kernel
theorem dX16_badSteps_25 : decode cX16_badSteps 25 = .ok (.iload 7, 2) := by decide +kernel
theorem dX16_badSteps_27 : decode cX16_badSteps 27 = .ok (.iconst 4, 1) := by decide +kernel
theorem dX16_badSteps_28 : decode cX16_badSteps 28 = .ok (.if_icmp .ge 150, 3) := by decide +kernel
theorem dX16_badSteps_31 : decode cX16_badSteps 31 = .ok (.aload_n 0, 1) := by decide +kernel
theorem dX16_badSteps_32 : decode cX16_badSteps 32 = .ok (.getfield 103, 3) := by decide +kernel
theorem dX16_badSteps_35 : decode cX16_badSteps 35 = .ok (.iload 7, 2) := by decide +kernel
theorem dX16_badSteps_37 : decode cX16_badSteps 37 = .ok (.iaload, 1) := by decide +kernel
theorem dX16_badSteps_38 : decode cX16_badSteps 38 = .ok (.aload_n 0, 1) := by decide +kernel
theorem dX16_badSteps_39 : decode cX16_badSteps 39 = .ok (.getfield 103, 3) := by decide +kernel
theorem dX16_badSteps_42 : decode cX16_badSteps 42 = .ok (.iload 6, 2) := by decide +kernel
theorem dX16_badSteps_44 : decode cX16_badSteps 44 = .ok (.iaload, 1) := by decide +kernel
theorem dX16_badSteps_45 : decode cX16_badSteps 45 = .ok (.isub, 1) := by decide +kernel
theorem dX16_badSteps_46 : decode cX16_badSteps 46 = .ok (.invokestatic 456, 3) := by decide +kernel
theorem dX16_badSteps_49 : decode cX16_badSteps 49 = .ok (.istore 8, 2) := by decide +kernel
theorem dX16_badSteps_51 : decode cX16_badSteps 51 = .ok (.aload_n 0, 1) := by decide +kernel
theorem dX16_badSteps_52 : decode cX16_badSteps 52 = .ok (.iload_n 1, 1) := by decide +kernel
theorem dX16_badSteps_53 : decode cX16_badSteps 53 = .ok (.iload_n 2, 1) := by decide +kernel
theorem dX16_badSteps_54 : decode cX16_badSteps 54 = .ok (.iload_n 3, 1) := by decide +kernel
theorem dX16_badSteps_55 : decode cX16_badSteps 55 = .ok (.iload 4, 2) := by decide +kernel
theorem dX16_badSteps_57 : decode cX16_badSteps 57 = .ok (.iload 7, 2) := by decide +kernel
theorem dX16_badSteps_59 : decode cX16_badSteps 59 = .ok (.invokevirtual 459, 3) := by decide +kernel
theorem dX16_badSteps_62 : decode cX16_badSteps 62 = .ok (.aload_n 0, 1) := by decide +kernel
theorem dX16_badSteps_63 : decode cX16_badSteps 63 = .ok (.iload_n 1, 1) := by decide +kernel
theorem dX16_badSteps_64 : decode cX16_badSteps 64 = .ok (.iload_n 2, 1) := by decide +kernel
theorem dX16_badSteps_65 : decode cX16_badSteps 65 = .ok (.iload_n 3, 1) := by decide +kernel
theorem dX16_badSteps_66 : decode cX16_badSteps 66 = .ok (.iload 4, 2) := by decide +kernel
theorem dX16_badSteps_68 : decode cX16_badSteps 68 = .ok (.iload 6, 2) := by decide +kernel
theorem dX16_badSteps_70 : decode cX16_badSteps 70 = .ok (.invokevirtual 459, 3) := by decide +kernel
theorem dX16_badSteps_73 : decode cX16_badSteps 73 = .ok (.isub, 1) := by decide +kernel
theorem dX16_badSteps_74 : decode cX16_badSteps 74 = .ok (.invokestatic 456, 3) := by decide +kernel
theorem dX16_badSteps_77 : decode cX16_badSteps 77 = .ok (.istore 9, 2) := by decide +kernel
theorem dX16_badSteps_79 : decode cX16_badSteps 79 = .ok (.aload_n 0, 1) := by decide +kernel
theorem dX16_badSteps_80 : decode cX16_badSteps 80 = .ok (.iload_n 1, 1) := by decide +kernel
theorem dX16_badSteps_81 : decode cX16_badSteps 81 = .ok (.iload_n 2, 1) := by decide +kernel
theorem dX16_badSteps_82 : decode cX16_badSteps 82 = .ok (.iload_n 3, 1) := by decide +kernel
theorem dX16_badSteps_83 : decode cX16_badSteps 83 = .ok (.iload 4, 2) := by decide +kernel
theorem dX16_badSteps_85 : decode cX16_badSteps 85 = .ok (.iload 6, 2) := by decide +kernel
theorem dX16_badSteps_87 : decode cX16_badSteps 87 = .ok (.invokevirtual 459, 3) := by decide +kernel
theorem dX16_badSteps_90 : decode cX16_badSteps 90 = .ok (.aload_n 0, 1) := by decide +kernel
theorem dX16_badSteps_91 : decode cX16_badSteps 91 = .ok (.getfield 103, 3) := by decide +kernel
theorem dX16_badSteps_94 : decode cX16_badSteps 94 = .ok (.iload 6, 2) := by decide +kernel
theorem dX16_badSteps_96 : decode cX16_badSteps 96 = .ok (.iaload, 1) := by decide +kernel
theorem dX16_badSteps_97 : decode cX16_badSteps 97 = .ok (.if_icmp .eq 28, 3) := by decide +kernel
theorem dX16_badSteps_100 : decode cX16_badSteps 100 = .ok (.aload_n 0, 1) := by decide +kernel
theorem dX16_badSteps_101 : decode cX16_badSteps 101 = .ok (.iload_n 1, 1) := by decide +kernel
theorem dX16_badSteps_102 : decode cX16_badSteps 102 = .ok (.iload_n 2, 1) := by decide +kernel
theorem dX16_badSteps_103 : decode cX16_badSteps 103 = .ok (.iload_n 3, 1) := by decide +kernel
theorem dX16_badSteps_104 : decode cX16_badSteps 104 = .ok (.iload 4, 2) := by decide +kernel
theorem dX16_badSteps_106 : decode cX16_badSteps 106 = .ok (.iload 7, 2) := by decide +kernel
theorem dX16_badSteps_108 : decode cX16_badSteps 108 = .ok (.invokevirtual 459, 3) := by decide +kernel
theorem dX16_badSteps_111 : decode cX16_badSteps 111 = .ok (.aload_n 0, 1) := by decide +kernel
theorem dX16_badSteps_112 : decode cX16_badSteps 112 = .ok (.getfield 103, 3) := by decide +kernel
theorem dX16_badSteps_115 : decode cX16_badSteps 115 = .ok (.iload 7, 2) := by decide +kernel
theorem dX16_badSteps_117 : decode cX16_badSteps 117 = .ok (.iaload, 1) := by decide +kernel
theorem dX16_badSteps_118 : decode cX16_badSteps 118 = .ok (.if_icmp .eq 7, 3) := by decide +kernel
theorem dX16_badSteps_121 : decode cX16_badSteps 121 = .ok (.iconst 1, 1) := by decide +kernel
theorem dX16_badSteps_122 : decode cX16_badSteps 122 = .ok (.goto 4, 3) := by decide +kernel
theorem dX16_badSteps_125 : decode cX16_badSteps 125 = .ok (.iconst 0, 1) := by decide +kernel
theorem dX16_badSteps_126 : decode cX16_badSteps 126 = .ok (.istore 10, 2) := by decide +kernel
theorem dX16_badSteps_128 : decode cX16_badSteps 128 = .ok (.iload 5, 2) := by decide +kernel
theorem dX16_badSteps_130 : decode cX16_badSteps 130 = .ok (.iload 10, 2) := by decide +kernel
theorem dX16_badSteps_132 : decode cX16_badSteps 132 = .ok (.ifCond .eq 36, 3) := by decide +kernel
theorem dX16_badSteps_135 : decode cX16_badSteps 135 = .ok (.iload 8, 2) := by decide +kernel
theorem dX16_badSteps_137 : decode cX16_badSteps 137 = .ok (.invokestatic 463, 3) := by decide +kernel
theorem dX16_badSteps_140 : decode cX16_badSteps 140 = .ok (.ifCond .eq 28, 3) := by decide +kernel
theorem dX16_badSteps_143 : decode cX16_badSteps 143 = .ok (.iload 9, 2) := by decide +kernel
theorem dX16_badSteps_145 : decode cX16_badSteps 145 = .ok (.invokestatic 463, 3) := by decide +kernel
theorem dX16_badSteps_148 : decode cX16_badSteps 148 = .ok (.ifCond .eq 20, 3) := by decide +kernel
theorem dX16_badSteps_151 : decode cX16_badSteps 151 = .ok (.iload 8, 2) := by decide +kernel
theorem dX16_badSteps_153 : decode cX16_badSteps 153 = .ok (.bipush 12, 2) := by decide +kernel
theorem dX16_badSteps_155 : decode cX16_badSteps 155 = .ok (.irem, 1) := by decide +kernel
theorem dX16_badSteps_156 : decode cX16_badSteps 156 = .ok (.iload 9, 2) := by decide +kernel
theorem dX16_badSteps_158 : decode cX16_badSteps 158 = .ok (.bipush 12, 2) := by decide +kernel
theorem dX16_badSteps_160 : decode cX16_badSteps 160 = .ok (.irem, 1) := by decide +kernel
theorem dX16_badSteps_161 : decode cX16_badSteps 161 = .ok (.if_icmp .ne 7, 3) := by decide +kernel
theorem dX16_badSteps_164 : decode cX16_badSteps 164 = .ok (.iconst 1, 1) := by decide +kernel
theorem dX16_badSteps_165 : decode cX16_badSteps 165 = .ok (.goto 4, 3) := by decide +kernel
theorem dX16_badSteps_168 : decode cX16_badSteps 168 = .ok (.iconst 0, 1) := by decide +kernel
theorem dX16_badSteps_169 : decode cX16_badSteps 169 = .ok (.iadd, 1) := by decide +kernel
theorem dX16_badSteps_170 : decode cX16_badSteps 170 = .ok (.istore 5, 2) := by decide +kernel
theorem dX16_badSteps_172 : decode cX16_badSteps 172 = .ok (.iinc 7 1, 3) := by decide +kernel
theorem dX16_badSteps_175 : decode cX16_badSteps 175 = .ok (.goto (-150), 3) := by decide +kernel
theorem dX16_badSteps_178 : decode cX16_badSteps 178 = .ok (.iinc 6 1, 3) := by decide +kernel
theorem dX16_badSteps_181 : decode cX16_badSteps 181 = .ok (.goto (-175), 3) := by decide +kernel
theorem dX16_badSteps_184 : decode cX16_badSteps 184 = .ok (.iload 5, 2) := by decide +kernel
theorem dX16_badSteps_186 : decode cX16_badSteps 186 = .ok (.ireturn, 1) := by decide +kernel
theorem dX16_far_0 : decode cX16_far 0 = .ok (.aload_n 0, 1) := by decide +kernel
theorem dX16_far_1 : decode cX16_far 1 = .ok (.getfield 453, 3) := by decide +kernel
theorem dX16_far_4 : decode cX16_far 4 = .ok (.ifCond .ne 27, 3) := by decide +kernel
theorem dX16_far_7 : decode cX16_far 7 = .ok (.iload_n 1, 1) := by decide +kernel
theorem dX16_far_8 : decode cX16_far 8 = .ok (.bipush 24, 2) := by decide +kernel
theorem dX16_far_10 : decode cX16_far 10 = .ok (.isub, 1) := by decide +kernel
theorem dX16_far_11 : decode cX16_far 11 = .ok (.invokestatic 456, 3) := by decide +kernel
theorem dX16_far_14 : decode cX16_far 14 = .ok (.iload_n 2, 1) := by decide +kernel
theorem dX16_far_15 : decode cX16_far 15 = .ok (.bipush 28, 2) := by decide +kernel
theorem dX16_far_17 : decode cX16_far 17 = .ok (.isub, 1) := by decide +kernel
theorem dX16_far_18 : decode cX16_far 18 = .ok (.invokestatic 456, 3) := by decide +kernel
theorem dX16_far_21 : decode cX16_far 21 = .ok (.iadd, 1) := by decide +kernel
theorem dX16_far_22 : decode cX16_far 22 = .ok (.iload_n 3, 1) := by decide +kernel
theorem dX16_far_23 : decode cX16_far 23 = .ok (.bipush 31, 2) := by decide +kernel
theorem dX16_far_25 : decode cX16_far 25 = .ok (.isub, 1) := by decide +kernel
theorem dX16_far_26 : decode cX16_far 26 = .ok (.invokestatic 456, 3) := by decide +kernel
theorem dX16_far_29 : decode cX16_far 29 = .ok (.iadd, 1) := by decide +kernel
theorem dX16_far_30 : decode cX16_far 30 = .ok (.ireturn, 1) := by decide +kernel
theorem dX16_far_31 : decode cX16_far 31 = .ok (.iload_n 1, 1) := by decide +kernel
theorem dX16_far_32 : decode cX16_far 32 = .ok (.aload_n 0, 1) := by decide +kernel
theorem dX16_far_33 : decode cX16_far 33 = .ok (.getfield 103, 3) := by decide +kernel
theorem dX16_far_36 : decode cX16_far 36 = .ok (.iconst 1, 1) := by decide +kernel
theorem dX16_far_37 : decode cX16_far 37 = .ok (.iaload, 1) := by decide +kernel
theorem dX16_far_38 : decode cX16_far 38 = .ok (.isub, 1) := by decide +kernel
theorem dX16_far_39 : decode cX16_far 39 = .ok (.invokestatic 456, 3) := by decide +kernel
theorem dX16_far_42 : decode cX16_far 42 = .ok (.iload_n 2, 1) := by decide +kernel
theorem dX16_far_43 : decode cX16_far 43 = .ok (.aload_n 0, 1) := by decide +kernel
theorem dX16_far_44 : decode cX16_far 44 = .ok (.getfield 103, 3) := by decide +kernel
theorem dX16_far_47 : decode cX16_far 47 = .ok (.iconst 2, 1) := by decide +kernel
theorem dX16_far_48 : decode cX16_far 48 = .ok (.iaload, 1) := by decide +kernel
theorem dX16_far_49 : decode cX16_far 49 = .ok (.isub, 1) := by decide +kernel
theorem dX16_far_50 : decode cX16_far 50 = .ok (.invokestatic 456, 3) := by decide +kernel
theorem dX16_far_53 : decode cX16_far 53 = .ok (.iadd, 1) := by decide +kernel
theorem dX16_far_54 : decode cX16_far 54 = .ok (.iload_n 3, 1) := by decide +kernel
theorem dX16_far_55 : decode cX16_far 55 = .ok (.aload_n 0, 1) := by decide +kernel
theorem dX16_far_56 : decode cX16_far 56 = .ok (.getfield 103, 3) := by decide +kernel
theorem dX16_far_59 : decode cX16_far 59 = .ok (.iconst 3, 1) := by decide +kernel
theorem dX16_far_60 : decode cX16_far 60 = .ok (.iaload, 1) := by decide +kernel
theorem dX16_far_61 : decode cX16_far 61 = .ok (.isub, 1) := by decide +kernel
theorem dX16_far_62 : decode cX16_far 62 = .ok (.invokestatic 456, 3) := by decide +kernel
theorem dX16_far_65 : decode cX16_far 65 = .ok (.iadd, 1) := by decide +kernel
theorem dX16_far_66 : decode cX16_far 66 = .ok (.ireturn, 1) := by decide +kernel
theorem dX16_areClasses_0 : decode cX16_areClasses 0 = .ok (.iconst 1, 1) := by decide +kernel
theorem dX16_areClasses_1 : decode cX16_areClasses 1 = .ok (.istore 6, 2) := by decide +kernel
theorem dX16_areClasses_3 : decode cX16_areClasses 3 = .ok (.iconst 0, 1) := by decide +kernel
theorem dX16_areClasses_4 : decode cX16_areClasses 4 = .ok (.istore 7, 2) := by decide +kernel
theorem dX16_areClasses_6 : decode cX16_areClasses 6 = .ok (.iload 7, 2) := by decide +kernel
theorem dX16_areClasses_8 : decode cX16_areClasses 8 = .ok (.iconst 3, 1) := by decide +kernel
theorem dX16_areClasses_9 : decode cX16_areClasses 9 = .ok (.if_icmp .ge 74, 3) := by decide +kernel
theorem dX16_areClasses_12 : decode cX16_areClasses 12 = .ok (.aload_n 0, 1) := by decide +kernel
theorem dX16_areClasses_13 : decode cX16_areClasses 13 = .ok (.iload 4, 2) := by decide +kernel
theorem dX16_areClasses_15 : decode cX16_areClasses 15 = .ok (.aload_n 0, 1) := by decide +kernel
theorem dX16_areClasses_16 : decode cX16_areClasses 16 = .ok (.iload 5, 2) := by decide +kernel
theorem dX16_areClasses_18 : decode cX16_areClasses 18 = .ok (.iload 7, 2) := by decide +kernel
theorem dX16_areClasses_20 : decode cX16_areClasses 20 = .ok (.invokevirtual 466, 3) := by decide +kernel
theorem dX16_areClasses_23 : decode cX16_areClasses 23 = .ok (.iadd, 1) := by decide +kernel
theorem dX16_areClasses_24 : decode cX16_areClasses 24 = .ok (.invokevirtual 470, 3) := by decide +kernel
theorem dX16_areClasses_27 : decode cX16_areClasses 27 = .ok (.istore 8, 2) := by decide +kernel
theorem dX16_areClasses_29 : decode cX16_areClasses 29 = .ok (.iload 6, 2) := by decide +kernel
theorem dX16_areClasses_31 : decode cX16_areClasses 31 = .ok (.ifCond .eq 43, 3) := by decide +kernel
theorem dX16_areClasses_34 : decode cX16_areClasses 34 = .ok (.bipush 36, 2) := by decide +kernel
theorem dX16_areClasses_36 : decode cX16_areClasses 36 = .ok (.iload_n 1, 1) := by decide +kernel
theorem dX16_areClasses_37 : decode cX16_areClasses 37 = .ok (.iadd, 1) := by decide +kernel
theorem dX16_areClasses_38 : decode cX16_areClasses 38 = .ok (.bipush 12, 2) := by decide +kernel
theorem dX16_areClasses_40 : decode cX16_areClasses 40 = .ok (.irem, 1) := by decide +kernel
theorem dX16_areClasses_41 : decode cX16_areClasses 41 = .ok (.iload 8, 2) := by decide +kernel
theorem dX16_areClasses_43 : decode cX16_areClasses 43 = .ok (.if_icmp .eq 27, 3) := by decide +kernel
theorem dX16_areClasses_46 : decode cX16_areClasses 46 = .ok (.bipush 36, 2) := by decide +kernel
theorem dX16_areClasses_48 : decode cX16_areClasses 48 = .ok (.iload_n 2, 1) := by decide +kernel
theorem dX16_areClasses_49 : decode cX16_areClasses 49 = .ok (.iadd, 1) := by decide +kernel
theorem dX16_areClasses_50 : decode cX16_areClasses 50 = .ok (.bipush 12, 2) := by decide +kernel
theorem dX16_areClasses_52 : decode cX16_areClasses 52 = .ok (.irem, 1) := by decide +kernel
theorem dX16_areClasses_53 : decode cX16_areClasses 53 = .ok (.iload 8, 2) := by decide +kernel
theorem dX16_areClasses_55 : decode cX16_areClasses 55 = .ok (.if_icmp .eq 15, 3) := by decide +kernel
theorem dX16_areClasses_58 : decode cX16_areClasses 58 = .ok (.bipush 36, 2) := by decide +kernel
theorem dX16_areClasses_60 : decode cX16_areClasses 60 = .ok (.iload_n 3, 1) := by decide +kernel
theorem dX16_areClasses_61 : decode cX16_areClasses 61 = .ok (.iadd, 1) := by decide +kernel
theorem dX16_areClasses_62 : decode cX16_areClasses 62 = .ok (.bipush 12, 2) := by decide +kernel
theorem dX16_areClasses_64 : decode cX16_areClasses 64 = .ok (.irem, 1) := by decide +kernel
theorem dX16_areClasses_65 : decode cX16_areClasses 65 = .ok (.iload 8, 2) := by decide +kernel
theorem dX16_areClasses_67 : decode cX16_areClasses 67 = .ok (.if_icmp .ne 7, 3) := by decide +kernel
theorem dX16_areClasses_70 : decode cX16_areClasses 70 = .ok (.iconst 1, 1) := by decide +kernel
theorem dX16_areClasses_71 : decode cX16_areClasses 71 = .ok (.goto 4, 3) := by decide +kernel
theorem dX16_areClasses_74 : decode cX16_areClasses 74 = .ok (.iconst 0, 1) := by decide +kernel
theorem dX16_areClasses_75 : decode cX16_areClasses 75 = .ok (.istore 6, 2) := by decide +kernel
theorem dX16_areClasses_77 : decode cX16_areClasses 77 = .ok (.iinc 7 1, 3) := by decide +kernel
theorem dX16_areClasses_80 : decode cX16_areClasses 80 = .ok (.goto (-74), 3) := by decide +kernel
theorem dX16_areClasses_83 : decode cX16_areClasses 83 = .ok (.iload 6, 2) := by decide +kernel
theorem dX16_areClasses_85 : decode cX16_areClasses 85 = .ok (.ireturn, 1) := by decide +kernel
theorem dX16_finds_0 : decode cX16_finds 0 = .ok (.bipush 99, 2) := by decide +kernel
theorem dX16_finds_2 : decode cX16_finds 2 = .ok (.istore 4, 2) := by decide +kernel
theorem dX16_finds_4 : decode cX16_finds 4 = .ok (.iconst 0, 1) := by decide +kernel
theorem dX16_finds_5 : decode cX16_finds 5 = .ok (.istore 5, 2) := by decide +kernel
theorem dX16_finds_7 : decode cX16_finds 7 = .ok (.bipush 12, 2) := by decide +kernel
theorem dX16_finds_9 : decode cX16_finds 9 = .ok (.istore 6, 2) := by decide +kernel
theorem dX16_finds_11 : decode cX16_finds 11 = .ok (.iload 6, 2) := by decide +kernel
theorem dX16_finds_13 : decode cX16_finds 13 = .ok (.bipush 48, 2) := by decide +kernel
theorem dX16_finds_15 : decode cX16_finds 15 = .ok (.if_icmp .gt 170, 3) := by decide +kernel
theorem dX16_finds_18 : decode cX16_finds 18 = .ok (.iload 6, 2) := by decide +kernel
theorem dX16_finds_20 : decode cX16_finds 20 = .ok (.iconst 1, 1) := by decide +kernel
theorem dX16_finds_21 : decode cX16_finds 21 = .ok (.iadd, 1) := by decide +kernel
theorem dX16_finds_22 : decode cX16_finds 22 = .ok (.istore 7, 2) := by decide +kernel
theorem dX16_finds_24 : decode cX16_finds 24 = .ok (.iload 7, 2) := by decide +kernel
theorem dX16_finds_26 : decode cX16_finds 26 = .ok (.bipush 48, 2) := by decide +kernel
theorem dX16_finds_28 : decode cX16_finds 28 = .ok (.if_icmp .gt 151, 3) := by decide +kernel
theorem dX16_finds_31 : decode cX16_finds 31 = .ok (.iload 7, 2) := by decide +kernel
theorem dX16_finds_33 : decode cX16_finds 33 = .ok (.iload 6, 2) := by decide +kernel
theorem dX16_finds_35 : decode cX16_finds 35 = .ok (.bipush 12, 2) := by decide +kernel
theorem dX16_finds_37 : decode cX16_finds 37 = .ok (.iadd, 1) := by decide +kernel
theorem dX16_finds_38 : decode cX16_finds 38 = .ok (.if_icmp .gt 141, 3) := by decide +kernel
theorem dX16_finds_41 : decode cX16_finds 41 = .ok (.iload 7, 2) := by decide +kernel
theorem dX16_finds_43 : decode cX16_finds 43 = .ok (.iconst 1, 1) := by decide +kernel
theorem dX16_finds_44 : decode cX16_finds 44 = .ok (.iadd, 1) := by decide +kernel
theorem dX16_finds_45 : decode cX16_finds 45 = .ok (.istore 8, 2) := by decide +kernel
theorem dX16_finds_47 : decode cX16_finds 47 = .ok (.iload 8, 2) := by decide +kernel
theorem dX16_finds_49 : decode cX16_finds 49 = .ok (.bipush 48, 2) := by decide +kernel
theorem dX16_finds_51 : decode cX16_finds 51 = .ok (.if_icmp .gt 122, 3) := by decide +kernel
theorem dX16_finds_54 : decode cX16_finds 54 = .ok (.iload 8, 2) := by decide +kernel
theorem dX16_finds_56 : decode cX16_finds 56 = .ok (.iload 6, 2) := by decide +kernel
theorem dX16_finds_58 : decode cX16_finds 58 = .ok (.bipush 12, 2) := by decide +kernel
theorem dX16_finds_60 : decode cX16_finds 60 = .ok (.iadd, 1) := by decide +kernel
theorem dX16_finds_61 : decode cX16_finds 61 = .ok (.if_icmp .gt 112, 3) := by decide +kernel
theorem dX16_finds_64 : decode cX16_finds 64 = .ok (.aload_n 0, 1) := by decide +kernel
theorem dX16_finds_65 : decode cX16_finds 65 = .ok (.iload 6, 2) := by decide +kernel
theorem dX16_finds_67 : decode cX16_finds 67 = .ok (.iload 7, 2) := by decide +kernel
theorem dX16_finds_69 : decode cX16_finds 69 = .ok (.iload 8, 2) := by decide +kernel
theorem dX16_finds_71 : decode cX16_finds 71 = .ok (.iload_n 2, 1) := by decide +kernel
theorem dX16_finds_72 : decode cX16_finds 72 = .ok (.iload_n 3, 1) := by decide +kernel
theorem dX16_finds_73 : decode cX16_finds 73 = .ok (.invokevirtual 473, 3) := by decide +kernel
theorem dX16_finds_76 : decode cX16_finds 76 = .ok (.ifCond .ne 6, 3) := by decide +kernel
theorem dX16_finds_79 : decode cX16_finds 79 = .ok (.goto 88, 3) := by decide +kernel
theorem dX16_finds_82 : decode cX16_finds 82 = .ok (.aload_n 0, 1) := by decide +kernel
theorem dX16_finds_83 : decode cX16_finds 83 = .ok (.iload_n 1, 1) := by decide +kernel
theorem dX16_finds_84 : decode cX16_finds 84 = .ok (.iload 6, 2) := by decide +kernel
theorem dX16_finds_86 : decode cX16_finds 86 = .ok (.iload 7, 2) := by decide +kernel
theorem dX16_finds_88 : decode cX16_finds 88 = .ok (.iload 8, 2) := by decide +kernel
theorem dX16_finds_90 : decode cX16_finds 90 = .ok (.invokevirtual 477, 3) := by decide +kernel
theorem dX16_finds_93 : decode cX16_finds 93 = .ok (.istore 9, 2) := by decide +kernel
theorem dX16_finds_95 : decode cX16_finds 95 = .ok (.iload 9, 2) := by decide +kernel
theorem dX16_finds_97 : decode cX16_finds 97 = .ok (.iload 4, 2) := by decide +kernel
theorem dX16_finds_99 : decode cX16_finds 99 = .ok (.if_icmp .gt 68, 3) := by decide +kernel
theorem dX16_finds_102 : decode cX16_finds 102 = .ok (.iload 9, 2) := by decide +kernel
theorem dX16_finds_104 : decode cX16_finds 104 = .ok (.iload 4, 2) := by decide +kernel
theorem dX16_finds_106 : decode cX16_finds 106 = .ok (.if_icmp .ne 21, 3) := by decide +kernel
theorem dX16_finds_109 : decode cX16_finds 109 = .ok (.aload_n 0, 1) := by decide +kernel
theorem dX16_finds_110 : decode cX16_finds 110 = .ok (.iload 6, 2) := by decide +kernel
theorem dX16_finds_112 : decode cX16_finds 112 = .ok (.iload 7, 2) := by decide +kernel
theorem dX16_finds_114 : decode cX16_finds 114 = .ok (.iload 8, 2) := by decide +kernel
theorem dX16_finds_116 : decode cX16_finds 116 = .ok (.invokevirtual 481, 3) := by decide +kernel
theorem dX16_finds_119 : decode cX16_finds 119 = .ok (.iload 5, 2) := by decide +kernel
theorem dX16_finds_121 : decode cX16_finds 121 = .ok (.if_icmp .lt 6, 3) := by decide +kernel
theorem dX16_finds_124 : decode cX16_finds 124 = .ok (.goto 43, 3) := by decide +kernel
theorem dX16_finds_127 : decode cX16_finds 127 = .ok (.iload 9, 2) := by decide +kernel
theorem dX16_finds_129 : decode cX16_finds 129 = .ok (.istore 4, 2) := by decide +kernel
theorem dX16_finds_131 : decode cX16_finds 131 = .ok (.aload_n 0, 1) := by decide +kernel
theorem dX16_finds_132 : decode cX16_finds 132 = .ok (.iload 6, 2) := by decide +kernel
theorem dX16_finds_134 : decode cX16_finds 134 = .ok (.iload 7, 2) := by decide +kernel
theorem dX16_finds_136 : decode cX16_finds 136 = .ok (.iload 8, 2) := by decide +kernel
theorem dX16_finds_138 : decode cX16_finds 138 = .ok (.invokevirtual 481, 3) := by decide +kernel
theorem dX16_finds_141 : decode cX16_finds 141 = .ok (.istore 5, 2) := by decide +kernel
theorem dX16_finds_143 : decode cX16_finds 143 = .ok (.aload_n 0, 1) := by decide +kernel
theorem dX16_finds_144 : decode cX16_finds 144 = .ok (.getfield 109, 3) := by decide +kernel
theorem dX16_finds_147 : decode cX16_finds 147 = .ok (.iconst 0, 1) := by decide +kernel
theorem dX16_finds_148 : decode cX16_finds 148 = .ok (.iload 6, 2) := by decide +kernel
theorem dX16_finds_150 : decode cX16_finds 150 = .ok (.iastore, 1) := by decide +kernel
theorem dX16_finds_151 : decode cX16_finds 151 = .ok (.aload_n 0, 1) := by decide +kernel
theorem dX16_finds_152 : decode cX16_finds 152 = .ok (.getfield 109, 3) := by decide +kernel
theorem dX16_finds_155 : decode cX16_finds 155 = .ok (.iconst 1, 1) := by decide +kernel
theorem dX16_finds_156 : decode cX16_finds 156 = .ok (.iload 7, 2) := by decide +kernel
theorem dX16_finds_158 : decode cX16_finds 158 = .ok (.iastore, 1) := by decide +kernel
theorem dX16_finds_159 : decode cX16_finds 159 = .ok (.aload_n 0, 1) := by decide +kernel
theorem dX16_finds_160 : decode cX16_finds 160 = .ok (.getfield 109, 3) := by decide +kernel
theorem dX16_finds_163 : decode cX16_finds 163 = .ok (.iconst 2, 1) := by decide +kernel
theorem dX16_finds_164 : decode cX16_finds 164 = .ok (.iload 8, 2) := by decide +kernel
theorem dX16_finds_166 : decode cX16_finds 166 = .ok (.iastore, 1) := by decide +kernel
theorem dX16_finds_167 : decode cX16_finds 167 = .ok (.iinc 8 1, 3) := by decide +kernel
theorem dX16_finds_170 : decode cX16_finds 170 = .ok (.goto (-123), 3) := by decide +kernel
theorem dX16_finds_173 : decode cX16_finds 173 = .ok (.iinc 7 1, 3) := by decide +kernel
theorem dX16_finds_176 : decode cX16_finds 176 = .ok (.goto (-152), 3) := by decide +kernel
theorem dX16_finds_179 : decode cX16_finds 179 = .ok (.iinc 6 1, 3) := by decide +kernel
theorem dX16_finds_182 : decode cX16_finds 182 = .ok (.goto (-171), 3) := by decide +kernel
theorem dX16_finds_185 : decode cX16_finds 185 = .ok (.iload 4, 2) := by decide +kernel
theorem dX16_finds_187 : decode cX16_finds 187 = .ok (.ireturn, 1) := by decide +kernel
theorem dX16_realise_0 : decode cX16_realise 0 = .ok (.iconst 0, 1) := by decide +kernel
theorem dX16_realise_1 : decode cX16_realise 1 = .ok (.iload_n 1, 1) := by decide +kernel
theorem dX16_realise_2 : decode cX16_realise 2 = .ok (.invokestatic 268, 3) := by decide +kernel
theorem dX16_realise_5 : decode cX16_realise 5 = .ok (.ifCond .ne 9, 3) := by decide +kernel
theorem dX16_realise_8 : decode cX16_realise 8 = .ok (.aload_n 0, 1) := by decide +kernel
theorem dX16_realise_9 : decode cX16_realise 9 = .ok (.iconst 1, 1) := by decide +kernel
theorem dX16_realise_10 : decode cX16_realise 10 = .ok (.invokevirtual 324, 3) := by decide +kernel
theorem dX16_realise_13 : decode cX16_realise 13 = .ok (.ireturn, 1) := by decide +kernel
theorem dX16_realise_14 : decode cX16_realise 14 = .ok (.iload_n 2, 1) := by decide +kernel
theorem dX16_realise_15 : decode cX16_realise 15 = .ok (.bipush 53, 2) := by decide +kernel
theorem dX16_realise_17 : decode cX16_realise 17 = .ok (.if_icmp .eq 27, 3) := by decide +kernel
theorem dX16_realise_20 : decode cX16_realise 20 = .ok (.iload_n 2, 1) := by decide +kernel
theorem dX16_realise_21 : decode cX16_realise 21 = .ok (.bipush 54, 2) := by decide +kernel
theorem dX16_realise_23 : decode cX16_realise 23 = .ok (.if_icmp .eq 21, 3) := by decide +kernel
theorem dX16_realise_26 : decode cX16_realise 26 = .ok (.iload_n 2, 1) := by decide +kernel
theorem dX16_realise_27 : decode cX16_realise 27 = .ok (.bipush 52, 2) := by decide +kernel
theorem dX16_realise_29 : decode cX16_realise 29 = .ok (.if_icmp .eq 15, 3) := by decide +kernel
theorem dX16_realise_32 : decode cX16_realise 32 = .ok (.iload_n 2, 1) := by decide +kernel
theorem dX16_realise_33 : decode cX16_realise 33 = .ok (.bipush 55, 2) := by decide +kernel
theorem dX16_realise_35 : decode cX16_realise 35 = .ok (.if_icmp .eq 9, 3) := by decide +kernel
theorem dX16_realise_38 : decode cX16_realise 38 = .ok (.aload_n 0, 1) := by decide +kernel
theorem dX16_realise_39 : decode cX16_realise 39 = .ok (.iconst 2, 1) := by decide +kernel
theorem dX16_realise_40 : decode cX16_realise 40 = .ok (.invokevirtual 324, 3) := by decide +kernel
theorem dX16_realise_43 : decode cX16_realise 43 = .ok (.ireturn, 1) := by decide +kernel
theorem dX16_realise_44 : decode cX16_realise 44 = .ok (.iconst 0, 1) := by decide +kernel
theorem dX16_realise_45 : decode cX16_realise 45 = .ok (.istore_n 3, 1) := by decide +kernel
theorem dX16_realise_46 : decode cX16_realise 46 = .ok (.iload_n 3, 1) := by decide +kernel
theorem dX16_realise_47 : decode cX16_realise 47 = .ok (.bipush 7, 2) := by decide +kernel
theorem dX16_realise_49 : decode cX16_realise 49 = .ok (.if_icmp .ge 24, 3) := by decide +kernel
theorem dX16_realise_52 : decode cX16_realise 52 = .ok (.aload_n 0, 1) := by decide +kernel
theorem dX16_realise_53 : decode cX16_realise 53 = .ok (.iload_n 3, 1) := by decide +kernel
theorem dX16_realise_54 : decode cX16_realise 54 = .ok (.invokevirtual 470, 3) := by decide +kernel
theorem dX16_realise_57 : decode cX16_realise 57 = .ok (.bipush 36, 2) := by decide +kernel
theorem dX16_realise_59 : decode cX16_realise 59 = .ok (.iload_n 1, 1) := by decide +kernel
theorem dX16_realise_60 : decode cX16_realise 60 = .ok (.iadd, 1) := by decide +kernel
theorem dX16_realise_61 : decode cX16_realise 61 = .ok (.bipush 12, 2) := by decide +kernel
theorem dX16_realise_63 : decode cX16_realise 63 = .ok (.irem, 1) := by decide +kernel
theorem dX16_realise_64 : decode cX16_realise 64 = .ok (.if_icmp .eq 9, 3) := by decide +kernel
theorem dX16_realise_67 : decode cX16_realise 67 = .ok (.iinc 3 1, 3) := by decide +kernel
theorem dX16_realise_70 : decode cX16_realise 70 = .ok (.goto (-24), 3) := by decide +kernel
theorem dX16_realise_73 : decode cX16_realise 73 = .ok (.iload_n 3, 1) := by decide +kernel
theorem dX16_realise_74 : decode cX16_realise 74 = .ok (.bipush 7, 2) := by decide +kernel
theorem dX16_realise_76 : decode cX16_realise 76 = .ok (.if_icmp .ne 9, 3) := by decide +kernel
theorem dX16_realise_79 : decode cX16_realise 79 = .ok (.aload_n 0, 1) := by decide +kernel
theorem dX16_realise_80 : decode cX16_realise 80 = .ok (.iconst 3, 1) := by decide +kernel
theorem dX16_realise_81 : decode cX16_realise 81 = .ok (.invokevirtual 324, 3) := by decide +kernel
theorem dX16_realise_84 : decode cX16_realise 84 = .ok (.ireturn, 1) := by decide +kernel
theorem dX16_realise_85 : decode cX16_realise 85 = .ok (.aload_n 0, 1) := by decide +kernel
theorem dX16_realise_86 : decode cX16_realise 86 = .ok (.iload_n 1, 1) := by decide +kernel
theorem dX16_realise_87 : decode cX16_realise 87 = .ok (.iload_n 3, 1) := by decide +kernel
theorem dX16_realise_88 : decode cX16_realise 88 = .ok (.iload_n 2, 1) := by decide +kernel
theorem dX16_realise_89 : decode cX16_realise 89 = .ok (.invokevirtual 485, 3) := by decide +kernel
theorem dX16_realise_92 : decode cX16_realise 92 = .ok (.istore 4, 2) := by decide +kernel
theorem dX16_realise_94 : decode cX16_realise 94 = .ok (.iconst 0, 1) := by decide +kernel
theorem dX16_realise_95 : decode cX16_realise 95 = .ok (.istore 5, 2) := by decide +kernel
theorem dX16_realise_97 : decode cX16_realise 97 = .ok (.iload 5, 2) := by decide +kernel
theorem dX16_realise_99 : decode cX16_realise 99 = .ok (.bipush 32, 2) := by decide +kernel
theorem dX16_realise_101 : decode cX16_realise 101 = .ok (.if_icmp .ge 24, 3) := by decide +kernel
theorem dX16_realise_104 : decode cX16_realise 104 = .ok (.iload 5, 2) := by decide +kernel
theorem dX16_realise_106 : decode cX16_realise 106 = .ok (.iload_n 1, 1) := by decide +kernel
theorem dX16_realise_107 : decode cX16_realise 107 = .ok (.if_icmp .eq 12, 3) := by decide +kernel
theorem dX16_realise_110 : decode cX16_realise 110 = .ok (.aload_n 0, 1) := by decide +kernel
theorem dX16_realise_111 : decode cX16_realise 111 = .ok (.iconst 0, 1) := by decide +kernel
theorem dX16_realise_112 : decode cX16_realise 112 = .ok (.iload 5, 2) := by decide +kernel
theorem dX16_realise_114 : decode cX16_realise 114 = .ok (.iconst 0, 1) := by decide +kernel
theorem dX16_realise_115 : decode cX16_realise 115 = .ok (.invokevirtual 351, 3) := by decide +kernel
theorem dX16_realise_118 : decode cX16_realise 118 = .ok (.pop, 1) := by decide +kernel
theorem dX16_realise_119 : decode cX16_realise 119 = .ok (.iinc 5 1, 3) := by decide +kernel
theorem dX16_realise_122 : decode cX16_realise 122 = .ok (.goto (-25), 3) := by decide +kernel
theorem dX16_realise_125 : decode cX16_realise 125 = .ok (.iconst 0, 1) := by decide +kernel
theorem dX16_realise_126 : decode cX16_realise 126 = .ok (.istore 5, 2) := by decide +kernel
theorem dX16_realise_128 : decode cX16_realise 128 = .ok (.iload 5, 2) := by decide +kernel
theorem dX16_realise_130 : decode cX16_realise 130 = .ok (.bipush 61, 2) := by decide +kernel
theorem dX16_realise_132 : decode cX16_realise 132 = .ok (.if_icmp .ge 51, 3) := by decide +kernel
theorem dX16_realise_135 : decode cX16_realise 135 = .ok (.iload 5, 2) := by decide +kernel
theorem dX16_realise_137 : decode cX16_realise 137 = .ok (.aload_n 0, 1) := by decide +kernel
theorem dX16_realise_138 : decode cX16_realise 138 = .ok (.getfield 109, 3) := by decide +kernel
theorem dX16_realise_141 : decode cX16_realise 141 = .ok (.iconst 0, 1) := by decide +kernel
theorem dX16_realise_142 : decode cX16_realise 142 = .ok (.iaload, 1) := by decide +kernel
theorem dX16_realise_143 : decode cX16_realise 143 = .ok (.if_icmp .eq 34, 3) := by decide +kernel
theorem dX16_realise_146 : decode cX16_realise 146 = .ok (.iload 5, 2) := by decide +kernel
theorem dX16_realise_148 : decode cX16_realise 148 = .ok (.aload_n 0, 1) := by decide +kernel
theorem dX16_realise_149 : decode cX16_realise 149 = .ok (.getfield 109, 3) := by decide +kernel
theorem dX16_realise_152 : decode cX16_realise 152 = .ok (.iconst 1, 1) := by decide +kernel
theorem dX16_realise_153 : decode cX16_realise 153 = .ok (.iaload, 1) := by decide +kernel
theorem dX16_realise_154 : decode cX16_realise 154 = .ok (.if_icmp .eq 23, 3) := by decide +kernel
theorem dX16_realise_157 : decode cX16_realise 157 = .ok (.iload 5, 2) := by decide +kernel
theorem dX16_realise_159 : decode cX16_realise 159 = .ok (.aload_n 0, 1) := by decide +kernel
theorem dX16_realise_160 : decode cX16_realise 160 = .ok (.getfield 109, 3) := by decide +kernel
theorem dX16_realise_163 : decode cX16_realise 163 = .ok (.iconst 2, 1) := by decide +kernel
theorem dX16_realise_164 : decode cX16_realise 164 = .ok (.iaload, 1) := by decide +kernel
theorem dX16_realise_165 : decode cX16_realise 165 = .ok (.if_icmp .eq 12, 3) := by decide +kernel
theorem dX16_realise_168 : decode cX16_realise 168 = .ok (.aload_n 0, 1) := by decide +kernel
theorem dX16_realise_169 : decode cX16_realise 169 = .ok (.iconst 1, 1) := by decide +kernel
theorem dX16_realise_170 : decode cX16_realise 170 = .ok (.iload 5, 2) := by decide +kernel
theorem dX16_realise_172 : decode cX16_realise 172 = .ok (.iconst 0, 1) := by decide +kernel
theorem dX16_realise_173 : decode cX16_realise 173 = .ok (.invokevirtual 351, 3) := by decide +kernel
theorem dX16_realise_176 : decode cX16_realise 176 = .ok (.pop, 1) := by decide +kernel
theorem dX16_realise_177 : decode cX16_realise 177 = .ok (.iinc 5 1, 3) := by decide +kernel
theorem dX16_realise_180 : decode cX16_realise 180 = .ok (.goto (-52), 3) := by decide +kernel
theorem dX16_realise_183 : decode cX16_realise 183 = .ok (.aload_n 0, 1) := by decide +kernel
theorem dX16_realise_184 : decode cX16_realise 184 = .ok (.iconst 0, 1) := by decide +kernel
theorem dX16_realise_185 : decode cX16_realise 185 = .ok (.iload_n 1, 1) := by decide +kernel
theorem dX16_realise_186 : decode cX16_realise 186 = .ok (.iconst 1, 1) := by decide +kernel
theorem dX16_realise_187 : decode cX16_realise 187 = .ok (.invokevirtual 351, 3) := by decide +kernel
theorem dX16_realise_190 : decode cX16_realise 190 = .ok (.pop, 1) := by decide +kernel
theorem dX16_realise_191 : decode cX16_realise 191 = .ok (.iconst 0, 1) := by decide +kernel
theorem dX16_realise_192 : decode cX16_realise 192 = .ok (.istore 5, 2) := by decide +kernel
theorem dX16_realise_194 : decode cX16_realise 194 = .ok (.iload 5, 2) := by decide +kernel
theorem dX16_realise_196 : decode cX16_realise 196 = .ok (.iconst 3, 1) := by decide +kernel
theorem dX16_realise_197 : decode cX16_realise 197 = .ok (.if_icmp .ge 39, 3) := by decide +kernel
theorem dX16_realise_200 : decode cX16_realise 200 = .ok (.aload_n 0, 1) := by decide +kernel
theorem dX16_realise_201 : decode cX16_realise 201 = .ok (.iconst 1, 1) := by decide +kernel
theorem dX16_realise_202 : decode cX16_realise 202 = .ok (.aload_n 0, 1) := by decide +kernel
theorem dX16_realise_203 : decode cX16_realise 203 = .ok (.getfield 109, 3) := by decide +kernel
theorem dX16_realise_206 : decode cX16_realise 206 = .ok (.iload 5, 2) := by decide +kernel
theorem dX16_realise_208 : decode cX16_realise 208 = .ok (.iaload, 1) := by decide +kernel
theorem dX16_realise_209 : decode cX16_realise 209 = .ok (.iconst 1, 1) := by decide +kernel
theorem dX16_realise_210 : decode cX16_realise 210 = .ok (.invokevirtual 351, 3) := by decide +kernel
theorem dX16_realise_213 : decode cX16_realise 213 = .ok (.pop, 1) := by decide +kernel
theorem dX16_realise_214 : decode cX16_realise 214 = .ok (.aload_n 0, 1) := by decide +kernel
theorem dX16_realise_215 : decode cX16_realise 215 = .ok (.getfield 103, 3) := by decide +kernel
theorem dX16_realise_218 : decode cX16_realise 218 = .ok (.iload 5, 2) := by decide +kernel
theorem dX16_realise_220 : decode cX16_realise 220 = .ok (.iconst 1, 1) := by decide +kernel
theorem dX16_realise_221 : decode cX16_realise 221 = .ok (.iadd, 1) := by decide +kernel
theorem dX16_realise_222 : decode cX16_realise 222 = .ok (.aload_n 0, 1) := by decide +kernel
theorem dX16_realise_223 : decode cX16_realise 223 = .ok (.getfield 109, 3) := by decide +kernel
theorem dX16_realise_226 : decode cX16_realise 226 = .ok (.iload 5, 2) := by decide +kernel
theorem dX16_realise_228 : decode cX16_realise 228 = .ok (.iaload, 1) := by decide +kernel
theorem dX16_realise_229 : decode cX16_realise 229 = .ok (.iastore, 1) := by decide +kernel
theorem dX16_realise_230 : decode cX16_realise 230 = .ok (.iinc 5 1, 3) := by decide +kernel
theorem dX16_realise_233 : decode cX16_realise 233 = .ok (.goto (-39), 3) := by decide +kernel
theorem dX16_realise_236 : decode cX16_realise 236 = .ok (.aload_n 0, 1) := by decide +kernel
theorem dX16_realise_237 : decode cX16_realise 237 = .ok (.getfield 103, 3) := by decide +kernel
theorem dX16_realise_240 : decode cX16_realise 240 = .ok (.iconst 0, 1) := by decide +kernel
theorem dX16_realise_241 : decode cX16_realise 241 = .ok (.iload_n 1, 1) := by decide +kernel
theorem dX16_realise_242 : decode cX16_realise 242 = .ok (.iastore, 1) := by decide +kernel
theorem dX16_realise_243 : decode cX16_realise 243 = .ok (.aload_n 0, 1) := by decide +kernel
theorem dX16_realise_244 : decode cX16_realise 244 = .ok (.iconst 1, 1) := by decide +kernel
theorem dX16_realise_245 : decode cX16_realise 245 = .ok (.putfield 453, 3) := by decide +kernel
theorem dX16_realise_248 : decode cX16_realise 248 = .ok (.aload_n 0, 1) := by decide +kernel
theorem dX16_realise_249 : decode cX16_realise 249 = .ok (.iload 4, 2) := by decide +kernel
theorem dX16_realise_251 : decode cX16_realise 251 = .ok (.invokevirtual 332, 3) := by decide +kernel
theorem dX16_realise_254 : decode cX16_realise 254 = .ok (.ireturn, 1) := by decide +kernel
theorem dX16_speakingShare_0 : decode cX16_speakingShare 0 = .ok (.aload_n 0, 1) := by decide +kernel
theorem dX16_speakingShare_1 : decode cX16_speakingShare 1 = .ok (.aload_n 0, 1) := by decide +kernel
theorem dX16_speakingShare_2 : decode cX16_speakingShare 2 = .ok (.getfield 251, 3) := by decide +kernel
theorem dX16_speakingShare_5 : decode cX16_speakingShare 5 = .ok (.ifCond .ne 7, 3) := by decide +kernel
theorem dX16_speakingShare_8 : decode cX16_speakingShare 8 = .ok (.iconst 1, 1) := by decide +kernel
theorem dX16_speakingShare_9 : decode cX16_speakingShare 9 = .ok (.goto 4, 3) := by decide +kernel
theorem dX16_speakingShare_12 : decode cX16_speakingShare 12 = .ok (.iconst 0, 1) := by decide +kernel
theorem dX16_speakingShare_13 : decode cX16_speakingShare 13 = .ok (.putfield 139, 3) := by decide +kernel
theorem dX16_speakingShare_16 : decode cX16_speakingShare 16 = .ok (.aload_n 0, 1) := by decide +kernel
theorem dX16_speakingShare_17 : decode cX16_speakingShare 17 = .ok (.getfield 251, 3) := by decide +kernel
theorem dX16_speakingShare_20 : decode cX16_speakingShare 20 = .ok (.ifCond .ne 7, 3) := by decide +kernel
theorem dX16_speakingShare_23 : decode cX16_speakingShare 23 = .ok (.fconst 0, 1) := by decide +kernel
theorem dX16_speakingShare_24 : decode cX16_speakingShare 24 = .ok (.goto 14, 3) := by decide +kernel
theorem dX16_speakingShare_27 : decode cX16_speakingShare 27 = .ok (.aload_n 0, 1) := by decide +kernel
theorem dX16_speakingShare_28 : decode cX16_speakingShare 28 = .ok (.invokevirtual 361, 3) := by decide +kernel
theorem dX16_speakingShare_31 : decode cX16_speakingShare 31 = .ok (.i2f, 1) := by decide +kernel
theorem dX16_speakingShare_32 : decode cX16_speakingShare 32 = .ok (.aload_n 0, 1) := by decide +kernel
theorem dX16_speakingShare_33 : decode cX16_speakingShare 33 = .ok (.getfield 251, 3) := by decide +kernel
theorem dX16_speakingShare_36 : decode cX16_speakingShare 36 = .ok (.i2f, 1) := by decide +kernel
theorem dX16_speakingShare_37 : decode cX16_speakingShare 37 = .ok (.fdiv, 1) := by decide +kernel
theorem dX16_speakingShare_38 : decode cX16_speakingShare 38 = .ok (.freturn, 1) := by decide +kernel
theorem dX16_meanPitch_0 : decode cX16_meanPitch 0 = .ok (.aload_n 0, 1) := by decide +kernel
theorem dX16_meanPitch_1 : decode cX16_meanPitch 1 = .ok (.invokevirtual 361, 3) := by decide +kernel
theorem dX16_meanPitch_4 : decode cX16_meanPitch 4 = .ok (.istore_n 1, 1) := by decide +kernel
theorem dX16_meanPitch_5 : decode cX16_meanPitch 5 = .ok (.aload_n 0, 1) := by decide +kernel
theorem dX16_meanPitch_6 : decode cX16_meanPitch 6 = .ok (.iload_n 1, 1) := by decide +kernel
theorem dX16_meanPitch_7 : decode cX16_meanPitch 7 = .ok (.ifCond .ne 7, 3) := by decide +kernel
theorem dX16_meanPitch_10 : decode cX16_meanPitch 10 = .ok (.iconst 1, 1) := by decide +kernel
theorem dX16_meanPitch_11 : decode cX16_meanPitch 11 = .ok (.goto 4, 3) := by decide +kernel
theorem dX16_meanPitch_14 : decode cX16_meanPitch 14 = .ok (.iconst 0, 1) := by decide +kernel
theorem dX16_meanPitch_15 : decode cX16_meanPitch 15 = .ok (.putfield 139, 3) := by decide +kernel
theorem dX16_meanPitch_18 : decode cX16_meanPitch 18 = .ok (.iload_n 1, 1) := by decide +kernel
theorem dX16_meanPitch_19 : decode cX16_meanPitch 19 = .ok (.ifCond .ne 5, 3) := by decide +kernel
theorem dX16_meanPitch_22 : decode cX16_meanPitch 22 = .ok (.dconst 0, 1) := by decide +kernel
theorem dX16_meanPitch_23 : decode cX16_meanPitch 23 = .ok (.dreturn, 1) := by decide +kernel
theorem dX16_meanPitch_24 : decode cX16_meanPitch 24 = .ok (.aload_n 0, 1) := by decide +kernel
theorem dX16_meanPitch_25 : decode cX16_meanPitch 25 = .ok (.invokevirtual 304, 3) := by decide +kernel
theorem dX16_meanPitch_28 : decode cX16_meanPitch 28 = .ok (.lconst 0, 1) := by decide +kernel
theorem dX16_meanPitch_29 : decode cX16_meanPitch 29 = .ok (.lstore_n 2, 1) := by decide +kernel
theorem dX16_meanPitch_30 : decode cX16_meanPitch 30 = .ok (.iconst 0, 1) := by decide +kernel
theorem dX16_meanPitch_31 : decode cX16_meanPitch 31 = .ok (.istore 4, 2) := by decide +kernel
theorem dX16_meanPitch_33 : decode cX16_meanPitch 33 = .ok (.iload 4, 2) := by decide +kernel
theorem dX16_meanPitch_35 : decode cX16_meanPitch 35 = .ok (.aload_n 0, 1) := by decide +kernel
theorem dX16_meanPitch_36 : decode cX16_meanPitch 36 = .ok (.getfield 251, 3) := by decide +kernel
theorem dX16_meanPitch_39 : decode cX16_meanPitch 39 = .ok (.if_icmp .ge 33, 3) := by decide +kernel
theorem dX16_meanPitch_42 : decode cX16_meanPitch 42 = .ok (.lload_n 2, 1) := by decide +kernel
theorem dX16_meanPitch_43 : decode cX16_meanPitch 43 = .ok (.aload_n 0, 1) := by decide +kernel
theorem dX16_meanPitch_44 : decode cX16_meanPitch 44 = .ok (.getfield 47, 3) := by decide +kernel
theorem dX16_meanPitch_47 : decode cX16_meanPitch 47 = .ok (.iload 4, 2) := by decide +kernel
theorem dX16_meanPitch_49 : decode cX16_meanPitch 49 = .ok (.baload, 1) := by decide +kernel
theorem dX16_meanPitch_50 : decode cX16_meanPitch 50 = .ok (.ifCond .eq 13, 3) := by decide +kernel
theorem dX16_meanPitch_53 : decode cX16_meanPitch 53 = .ok (.aload_n 0, 1) := by decide +kernel
theorem dX16_meanPitch_54 : decode cX16_meanPitch 54 = .ok (.iload 4, 2) := by decide +kernel
theorem dX16_meanPitch_56 : decode cX16_meanPitch 56 = .ok (.invokevirtual 371, 3) := by decide +kernel
theorem dX16_meanPitch_59 : decode cX16_meanPitch 59 = .ok (.i2l, 1) := by decide +kernel
theorem dX16_meanPitch_60 : decode cX16_meanPitch 60 = .ok (.goto 4, 3) := by decide +kernel
theorem dX16_meanPitch_63 : decode cX16_meanPitch 63 = .ok (.lconst 0, 1) := by decide +kernel
theorem dX16_meanPitch_64 : decode cX16_meanPitch 64 = .ok (.ladd, 1) := by decide +kernel
theorem dX16_meanPitch_65 : decode cX16_meanPitch 65 = .ok (.lstore_n 2, 1) := by decide +kernel
theorem dX16_meanPitch_66 : decode cX16_meanPitch 66 = .ok (.iinc 4 1, 3) := by decide +kernel
theorem dX16_meanPitch_69 : decode cX16_meanPitch 69 = .ok (.goto (-36), 3) := by decide +kernel
theorem dX16_meanPitch_72 : decode cX16_meanPitch 72 = .ok (.lload_n 2, 1) := by decide +kernel
theorem dX16_meanPitch_73 : decode cX16_meanPitch 73 = .ok (.l2d, 1) := by decide +kernel
theorem dX16_meanPitch_74 : decode cX16_meanPitch 74 = .ok (.iload_n 1, 1) := by decide +kernel
theorem dX16_meanPitch_75 : decode cX16_meanPitch 75 = .ok (.i2d, 1) := by decide +kernel
theorem dX16_meanPitch_76 : decode cX16_meanPitch 76 = .ok (.ddiv, 1) := by decide +kernel
theorem dX16_meanPitch_77 : decode cX16_meanPitch 77 = .ok (.dreturn, 1) := by decide +kernel
theorem dX16_isTrue_0 : decode cX16_isTrue 0 = .ok (.aload_n 0, 1) := by decide +kernel
theorem dX16_isTrue_1 : decode cX16_isTrue 1 = .ok (.iconst 1, 1) := by decide +kernel
theorem dX16_isTrue_2 : decode cX16_isTrue 2 = .ok (.invokevirtual 320, 3) := by decide +kernel
theorem dX16_isTrue_5 : decode cX16_isTrue 5 = .ok (.ireturn, 1) := by decide +kernel
theorem dJ5_init_d00df_0 : decode cJ5_init_d00df 0 = .ok (.aload_n 0, 1) := by decide +kernel
theorem dJ5_init_d00df_1 : decode cJ5_init_d00df 1 = .ok (.invokespecial 3, 3) := by decide +kernel
theorem dJ5_init_d00df_4 : decode cJ5_init_d00df 4 = .ok (.getstatic 18, 3) := by decide +kernel
theorem dJ5_init_d00df_7 : decode cJ5_init_d00df 7 = .ok (.ifCond .eq 18, 3) := by decide +kernel
theorem dJ5_init_d00df_10 : decode cJ5_init_d00df 10 = .ok (.aload_n 0, 1) := by decide +kernel
theorem dJ5_init_d00df_11 : decode cJ5_init_d00df 11 = .ok (.iload_n 1, 1) := by decide +kernel
theorem dJ5_init_d00df_12 : decode cJ5_init_d00df 12 = .ok (.newarray .byte, 2) := by decide +kernel
theorem dJ5_init_d00df_14 : decode cJ5_init_d00df 14 = .ok (.putfield 15, 3) := by decide +kernel
theorem dJ5_init_d00df_17 : decode cJ5_init_d00df 17 = .ok (.aload_n 0, 1) := by decide +kernel
theorem dJ5_init_d00df_18 : decode cJ5_init_d00df 18 = .ok (.iconst 0, 1) := by decide +kernel
theorem dJ5_init_d00df_19 : decode cJ5_init_d00df 19 = .ok (.putfield 22, 3) := by decide +kernel
theorem dJ5_init_d00df_22 : decode cJ5_init_d00df 22 = .ok (.goto 16, 3) := by decide +kernel
theorem dJ5_init_d00df_25 : decode cJ5_init_d00df 25 = .ok (.aload_n 0, 1) := by decide +kernel
theorem dJ5_init_d00df_26 : decode cJ5_init_d00df 26 = .ok (.iload_n 1, 1) := by decide +kernel
theorem dJ5_init_d00df_27 : decode cJ5_init_d00df 27 = .ok (.invokestatic 26, 3) := by decide +kernel
theorem dJ5_init_d00df_30 : decode cJ5_init_d00df 30 = .ok (.putfield 15, 3) := by decide +kernel
theorem dJ5_init_d00df_33 : decode cJ5_init_d00df 33 = .ok (.aload_n 0, 1) := by decide +kernel
theorem dJ5_init_d00df_34 : decode cJ5_init_d00df 34 = .ok (.iconst 1, 1) := by decide +kernel
theorem dJ5_init_d00df_35 : decode cJ5_init_d00df 35 = .ok (.putfield 22, 3) := by decide +kernel
theorem dJ5_init_d00df_38 : decode cJ5_init_d00df 38 = .ok (.return_, 1) := by decide +kernel
theorem dJ5_length_8abf5_0 : decode cJ5_length_8abf5 0 = .ok (.aload_n 0, 1) := by decide +kernel
theorem dJ5_length_8abf5_1 : decode cJ5_length_8abf5 1 = .ok (.getfield 79, 3) := by decide +kernel
theorem dJ5_length_8abf5_4 : decode cJ5_length_8abf5 4 = .ok (.ireturn, 1) := by decide +kernel
theorem dJ5_ensureCapacityInternal_d00df_0 : decode cJ5_ensureCapacityInternal_d00df 0 = .ok (.aload_n 0, 1) := by decide +kernel
theorem dJ5_ensureCapacityInternal_d00df_1 : decode cJ5_ensureCapacityInternal_d00df 1 = .ok (.getfield 15, 3) := by decide +kernel
theorem dJ5_ensureCapacityInternal_d00df_4 : decode cJ5_ensureCapacityInternal_d00df 4 = .ok (.arraylength, 1) := by decide +kernel
theorem dJ5_ensureCapacityInternal_d00df_5 : decode cJ5_ensureCapacityInternal_d00df 5 = .ok (.aload_n 0, 1) := by decide +kernel
theorem dJ5_ensureCapacityInternal_d00df_6 : decode cJ5_ensureCapacityInternal_d00df 6 = .ok (.getfield 22, 3) := by decide +kernel
theorem dJ5_ensureCapacityInternal_d00df_9 : decode cJ5_ensureCapacityInternal_d00df 9 = .ok (.ishr, 1) := by decide +kernel
theorem dJ5_ensureCapacityInternal_d00df_10 : decode cJ5_ensureCapacityInternal_d00df 10 = .ok (.istore_n 2, 1) := by decide +kernel
theorem dJ5_ensureCapacityInternal_d00df_11 : decode cJ5_ensureCapacityInternal_d00df 11 = .ok (.iload_n 1, 1) := by decide +kernel
theorem dJ5_ensureCapacityInternal_d00df_12 : decode cJ5_ensureCapacityInternal_d00df 12 = .ok (.iload_n 2, 1) := by decide +kernel
theorem dJ5_ensureCapacityInternal_d00df_13 : decode cJ5_ensureCapacityInternal_d00df 13 = .ok (.isub, 1) := by decide +kernel
theorem dJ5_ensureCapacityInternal_d00df_14 : decode cJ5_ensureCapacityInternal_d00df 14 = .ok (.ifCond .le 24, 3) := by decide +kernel
theorem dJ5_ensureCapacityInternal_d00df_17 : decode cJ5_ensureCapacityInternal_d00df 17 = .ok (.aload_n 0, 1) := by decide +kernel
theorem dJ5_ensureCapacityInternal_d00df_18 : decode cJ5_ensureCapacityInternal_d00df 18 = .ok (.aload_n 0, 1) := by decide +kernel
theorem dJ5_ensureCapacityInternal_d00df_19 : decode cJ5_ensureCapacityInternal_d00df 19 = .ok (.getfield 15, 3) := by decide +kernel
theorem dJ5_ensureCapacityInternal_d00df_22 : decode cJ5_ensureCapacityInternal_d00df 22 = .ok (.aload_n 0, 1) := by decide +kernel
theorem dJ5_ensureCapacityInternal_d00df_23 : decode cJ5_ensureCapacityInternal_d00df 23 = .ok (.iload_n 1, 1) := by decide +kernel
theorem dJ5_ensureCapacityInternal_d00df_24 : decode cJ5_ensureCapacityInternal_d00df 24 = .ok (.invokevirtual 104, 3) := by decide +kernel
theorem dJ5_ensureCapacityInternal_d00df_27 : decode cJ5_ensureCapacityInternal_d00df 27 = .ok (.aload_n 0, 1) := by decide +kernel
theorem dJ5_ensureCapacityInternal_d00df_28 : decode cJ5_ensureCapacityInternal_d00df 28 = .ok (.getfield 22, 3) := by decide +kernel
theorem dJ5_ensureCapacityInternal_d00df_31 : decode cJ5_ensureCapacityInternal_d00df 31 = .ok (.ishl, 1) := by decide +kernel
theorem dJ5_ensureCapacityInternal_d00df_32 : decode cJ5_ensureCapacityInternal_d00df 32 = .ok (.invokestatic 108, 3) := by decide +kernel
theorem dJ5_ensureCapacityInternal_d00df_35 : decode cJ5_ensureCapacityInternal_d00df 35 = .ok (.putfield 15, 3) := by decide +kernel
theorem dJ5_ensureCapacityInternal_d00df_38 : decode cJ5_ensureCapacityInternal_d00df 38 = .ok (.return_, 1) := by decide +kernel
theorem dJ5_newCapacity_0f7a4_0 : decode cJ5_newCapacity_0f7a4 0 = .ok (.aload_n 0, 1) := by decide +kernel
theorem dJ5_newCapacity_0f7a4_1 : decode cJ5_newCapacity_0f7a4 1 = .ok (.getfield 15, 3) := by decide +kernel
theorem dJ5_newCapacity_0f7a4_4 : decode cJ5_newCapacity_0f7a4 4 = .ok (.arraylength, 1) := by decide +kernel
theorem dJ5_newCapacity_0f7a4_5 : decode cJ5_newCapacity_0f7a4 5 = .ok (.istore_n 2, 1) := by decide +kernel
theorem dJ5_newCapacity_0f7a4_6 : decode cJ5_newCapacity_0f7a4 6 = .ok (.iload_n 1, 1) := by decide +kernel
theorem dJ5_newCapacity_0f7a4_7 : decode cJ5_newCapacity_0f7a4 7 = .ok (.aload_n 0, 1) := by decide +kernel
theorem dJ5_newCapacity_0f7a4_8 : decode cJ5_newCapacity_0f7a4 8 = .ok (.getfield 22, 3) := by decide +kernel
theorem dJ5_newCapacity_0f7a4_11 : decode cJ5_newCapacity_0f7a4 11 = .ok (.ishl, 1) := by decide +kernel
theorem dJ5_newCapacity_0f7a4_12 : decode cJ5_newCapacity_0f7a4 12 = .ok (.istore_n 3, 1) := by decide +kernel
theorem dJ5_newCapacity_0f7a4_13 : decode cJ5_newCapacity_0f7a4 13 = .ok (.iload_n 3, 1) := by decide +kernel
theorem dJ5_newCapacity_0f7a4_14 : decode cJ5_newCapacity_0f7a4 14 = .ok (.iload_n 2, 1) := by decide +kernel
theorem dJ5_newCapacity_0f7a4_15 : decode cJ5_newCapacity_0f7a4 15 = .ok (.isub, 1) := by decide +kernel
theorem dJ5_newCapacity_0f7a4_16 : decode cJ5_newCapacity_0f7a4 16 = .ok (.istore 4, 2) := by decide +kernel
theorem dJ5_newCapacity_0f7a4_18 : decode cJ5_newCapacity_0f7a4 18 = .ok (.iload_n 2, 1) := by decide +kernel
theorem dJ5_newCapacity_0f7a4_19 : decode cJ5_newCapacity_0f7a4 19 = .ok (.iload 4, 2) := by decide +kernel
theorem dJ5_newCapacity_0f7a4_21 : decode cJ5_newCapacity_0f7a4 21 = .ok (.iload_n 2, 1) := by decide +kernel
theorem dJ5_newCapacity_0f7a4_22 : decode cJ5_newCapacity_0f7a4 22 = .ok (.iconst 2, 1) := by decide +kernel
theorem dJ5_newCapacity_0f7a4_23 : decode cJ5_newCapacity_0f7a4 23 = .ok (.aload_n 0, 1) := by decide +kernel
theorem dJ5_newCapacity_0f7a4_24 : decode cJ5_newCapacity_0f7a4 24 = .ok (.getfield 22, 3) := by decide +kernel
theorem dJ5_newCapacity_0f7a4_27 : decode cJ5_newCapacity_0f7a4 27 = .ok (.ishl, 1) := by decide +kernel
theorem dJ5_newCapacity_0f7a4_28 : decode cJ5_newCapacity_0f7a4 28 = .ok (.iadd, 1) := by decide +kernel
theorem dJ5_newCapacity_0f7a4_29 : decode cJ5_newCapacity_0f7a4 29 = .ok (.invokestatic 114, 3) := by decide +kernel
theorem dJ5_newCapacity_0f7a4_32 : decode cJ5_newCapacity_0f7a4 32 = .ok (.istore 5, 2) := by decide +kernel
theorem dJ5_newCapacity_0f7a4_34 : decode cJ5_newCapacity_0f7a4 34 = .ok (.iload 5, 2) := by decide +kernel
theorem dJ5_newCapacity_0f7a4_36 : decode cJ5_newCapacity_0f7a4 36 = .ok (.ldc 39, 2) := by decide +kernel
theorem dJ5_newCapacity_0f7a4_38 : decode cJ5_newCapacity_0f7a4 38 = .ok (.if_icmp .ne 13, 3) := by decide +kernel
theorem dJ5_newCapacity_0f7a4_41 : decode cJ5_newCapacity_0f7a4 41 = .ok (.new 120, 3) := by decide +kernel
theorem dJ5_newCapacity_0f7a4_44 : decode cJ5_newCapacity_0f7a4 44 = .ok (.dup, 1) := by decide +kernel
theorem dJ5_newCapacity_0f7a4_45 : decode cJ5_newCapacity_0f7a4 45 = .ok (.ldc 122, 2) := by decide +kernel
theorem dJ5_newCapacity_0f7a4_47 : decode cJ5_newCapacity_0f7a4 47 = .ok (.invokespecial 124, 3) := by decide +kernel
theorem dJ5_newCapacity_0f7a4_50 : decode cJ5_newCapacity_0f7a4 50 = .ok (.athrow, 1) := by decide +kernel
theorem dJ5_newCapacity_0f7a4_51 : decode cJ5_newCapacity_0f7a4 51 = .ok (.iload 5, 2) := by decide +kernel
theorem dJ5_newCapacity_0f7a4_53 : decode cJ5_newCapacity_0f7a4 53 = .ok (.aload_n 0, 1) := by decide +kernel
theorem dJ5_newCapacity_0f7a4_54 : decode cJ5_newCapacity_0f7a4 54 = .ok (.getfield 22, 3) := by decide +kernel
theorem dJ5_newCapacity_0f7a4_57 : decode cJ5_newCapacity_0f7a4 57 = .ok (.ishr, 1) := by decide +kernel
theorem dJ5_newCapacity_0f7a4_58 : decode cJ5_newCapacity_0f7a4 58 = .ok (.ireturn, 1) := by decide +kernel
