/-! 23: decode rows -/
theorem dX0_init_0 : decode cX0_init 0 = .ok (.aload_n 0, 1) := by decide +kernel
theorem dX0_init_1 : decode cX0_init 1 = .ok (.invokespecial 3, 3) := by decide +kernel
theorem dX0_init_4 : decode cX0_init 4 = .ok (.aload_n 0, 1) := by decide +kernel
theorem dX0_init_5 : decode cX0_init 5 = .ok (.new 9, 3) := by decide +kernel
theorem dX0_init_8 : decode cX0_init 8 = .ok (.dup, 1) := by decide +kernel
theorem dX0_init_9 : decode cX0_init 9 = .ok (.invokespecial 11, 3) := by decide +kernel
theorem dX0_init_12 : decode cX0_init 12 = .ok (.putfield 12, 3) := by decide +kernel
theorem dX0_init_15 : decode cX0_init 15 = .ok (.aload_n 0, 1) := by decide +kernel
theorem dX0_init_16 : decode cX0_init 16 = .ok (.bipush 16, 2) := by decide +kernel
theorem dX0_init_18 : decode cX0_init 18 = .ok (.newarray .char, 2) := by decide +kernel
theorem dX0_init_20 : decode cX0_init 20 = .ok (.putfield 18, 3) := by decide +kernel
theorem dX0_init_23 : decode cX0_init 23 = .ok (.aload_n 0, 1) := by decide +kernel
theorem dX0_init_24 : decode cX0_init 24 = .ok (.bipush 16, 2) := by decide +kernel
theorem dX0_init_26 : decode cX0_init 26 = .ok (.newarray .int, 2) := by decide +kernel
theorem dX0_init_28 : decode cX0_init 28 = .ok (.putfield 22, 3) := by decide +kernel
theorem dX0_init_31 : decode cX0_init 31 = .ok (.aload_n 0, 1) := by decide +kernel
theorem dX0_init_32 : decode cX0_init 32 = .ok (.bipush 16, 2) := by decide +kernel
theorem dX0_init_34 : decode cX0_init 34 = .ok (.newarray .int, 2) := by decide +kernel
theorem dX0_init_36 : decode cX0_init 36 = .ok (.putfield 26, 3) := by decide +kernel
theorem dX0_init_39 : decode cX0_init 39 = .ok (.aload_n 0, 1) := by decide +kernel
theorem dX0_init_40 : decode cX0_init 40 = .ok (.bipush 16, 2) := by decide +kernel
theorem dX0_init_42 : decode cX0_init 42 = .ok (.newarray .boolean, 2) := by decide +kernel
theorem dX0_init_44 : decode cX0_init 44 = .ok (.putfield 29, 3) := by decide +kernel
theorem dX0_init_47 : decode cX0_init 47 = .ok (.iconst 0, 1) := by decide +kernel
theorem dX0_init_48 : decode cX0_init 48 = .ok (.istore_n 1, 1) := by decide +kernel
theorem dX0_init_49 : decode cX0_init 49 = .ok (.iload_n 1, 1) := by decide +kernel
theorem dX0_init_50 : decode cX0_init 50 = .ok (.iconst 3, 1) := by decide +kernel
theorem dX0_init_51 : decode cX0_init 51 = .ok (.if_icmp .ge 40, 3) := by decide +kernel
theorem dX0_init_54 : decode cX0_init 54 = .ok (.aload_n 0, 1) := by decide +kernel
theorem dX0_init_55 : decode cX0_init 55 = .ok (.getfield 12, 3) := by decide +kernel
theorem dX0_init_58 : decode cX0_init 58 = .ok (.new 33, 3) := by decide +kernel
theorem dX0_init_61 : decode cX0_init 61 = .ok (.dup, 1) := by decide +kernel
theorem dX0_init_62 : decode cX0_init 62 = .ok (.bipush 117, 2) := by decide +kernel
theorem dX0_init_64 : decode cX0_init 64 = .ok (.iload_n 1, 1) := by decide +kernel
theorem dX0_init_65 : decode cX0_init 65 = .ok (.aconst_null, 1) := by decide +kernel
theorem dX0_init_66 : decode cX0_init 66 = .ok (.new 35, 3) := by decide +kernel
theorem dX0_init_69 : decode cX0_init 69 = .ok (.dup, 1) := by decide +kernel
theorem dX0_init_70 : decode cX0_init 70 = .ok (.iload_n 1, 1) := by decide +kernel
theorem dX0_init_71 : decode cX0_init 71 = .ok (.iload_n 1, 1) := by decide +kernel
theorem dX0_init_72 : decode cX0_init 72 = .ok (.iconst 0, 1) := by decide +kernel
theorem dX0_init_73 : decode cX0_init 73 = .ok (.bipush 97, 2) := by decide +kernel
theorem dX0_init_75 : decode cX0_init 75 = .ok (.invokespecial 37, 3) := by decide +kernel
theorem dX0_init_78 : decode cX0_init 78 = .ok (.invokespecial 40, 3) := by decide +kernel
theorem dX0_init_81 : decode cX0_init 81 = .ok (.invokevirtual 43, 3) := by decide +kernel
theorem dX0_init_84 : decode cX0_init 84 = .ok (.pop, 1) := by decide +kernel
theorem dX0_init_85 : decode cX0_init 85 = .ok (.iinc 1 1, 3) := by decide +kernel
theorem dX0_init_88 : decode cX0_init 88 = .ok (.goto (-39), 3) := by decide +kernel
theorem dX0_init_91 : decode cX0_init 91 = .ok (.return_, 1) := by decide +kernel
theorem dX0_knobAt_0 : decode cX0_knobAt 0 = .ok (.iload_n 1, 1) := by decide +kernel
theorem dX0_knobAt_1 : decode cX0_knobAt 1 = .ok (.ifCond .lt 14, 3) := by decide +kernel
theorem dX0_knobAt_4 : decode cX0_knobAt 4 = .ok (.iload_n 1, 1) := by decide +kernel
theorem dX0_knobAt_5 : decode cX0_knobAt 5 = .ok (.aload_n 0, 1) := by decide +kernel
theorem dX0_knobAt_6 : decode cX0_knobAt 6 = .ok (.getfield 12, 3) := by decide +kernel
theorem dX0_knobAt_9 : decode cX0_knobAt 9 = .ok (.invokevirtual 47, 3) := by decide +kernel
theorem dX0_knobAt_12 : decode cX0_knobAt 12 = .ok (.if_icmp .lt 7, 3) := by decide +kernel
theorem dX0_knobAt_15 : decode cX0_knobAt 15 = .ok (.aconst_null, 1) := by decide +kernel
theorem dX0_knobAt_16 : decode cX0_knobAt 16 = .ok (.goto 14, 3) := by decide +kernel
theorem dX0_knobAt_19 : decode cX0_knobAt 19 = .ok (.aload_n 0, 1) := by decide +kernel
theorem dX0_knobAt_20 : decode cX0_knobAt 20 = .ok (.getfield 12, 3) := by decide +kernel
theorem dX0_knobAt_23 : decode cX0_knobAt 23 = .ok (.iload_n 1, 1) := by decide +kernel
theorem dX0_knobAt_24 : decode cX0_knobAt 24 = .ok (.invokevirtual 51, 3) := by decide +kernel
theorem dX0_knobAt_27 : decode cX0_knobAt 27 = .ok (.checkcast 33, 3) := by decide +kernel
theorem dX0_knobAt_30 : decode cX0_knobAt 30 = .ok (.areturn, 1) := by decide +kernel
theorem dX0_countsAsDrawn_0 : decode cX0_countsAsDrawn 0 = .ok (.aload_n 1, 1) := by decide +kernel
theorem dX0_countsAsDrawn_1 : decode cX0_countsAsDrawn 1 = .ok (.getfield 55, 3) := by decide +kernel
theorem dX0_countsAsDrawn_4 : decode cX0_countsAsDrawn 4 = .ok (.istore_n 2, 1) := by decide +kernel
theorem dX0_countsAsDrawn_5 : decode cX0_countsAsDrawn 5 = .ok (.aload_n 1, 1) := by decide +kernel
theorem dX0_countsAsDrawn_6 : decode cX0_countsAsDrawn 6 = .ok (.getfield 59, 3) := by decide +kernel
theorem dX0_countsAsDrawn_9 : decode cX0_countsAsDrawn 9 = .ok (.ifCond .ne 22, 3) := by decide +kernel
theorem dX0_countsAsDrawn_12 : decode cX0_countsAsDrawn 12 = .ok (.iload_n 2, 1) := by decide +kernel
theorem dX0_countsAsDrawn_13 : decode cX0_countsAsDrawn 13 = .ok (.ifCond .lt 22, 3) := by decide +kernel
theorem dX0_countsAsDrawn_16 : decode cX0_countsAsDrawn 16 = .ok (.iload_n 2, 1) := by decide +kernel
theorem dX0_countsAsDrawn_17 : decode cX0_countsAsDrawn 17 = .ok (.bipush 16, 2) := by decide +kernel
theorem dX0_countsAsDrawn_19 : decode cX0_countsAsDrawn 19 = .ok (.if_icmp .ge 16, 3) := by decide +kernel
theorem dX0_countsAsDrawn_22 : decode cX0_countsAsDrawn 22 = .ok (.aload_n 0, 1) := by decide +kernel
theorem dX0_countsAsDrawn_23 : decode cX0_countsAsDrawn 23 = .ok (.getfield 29, 3) := by decide +kernel
theorem dX0_countsAsDrawn_26 : decode cX0_countsAsDrawn 26 = .ok (.iload_n 2, 1) := by decide +kernel
theorem dX0_countsAsDrawn_27 : decode cX0_countsAsDrawn 27 = .ok (.baload, 1) := by decide +kernel
theorem dX0_countsAsDrawn_28 : decode cX0_countsAsDrawn 28 = .ok (.ifCond .eq 7, 3) := by decide +kernel
theorem dX0_countsAsDrawn_31 : decode cX0_countsAsDrawn 31 = .ok (.iconst 1, 1) := by decide +kernel
theorem dX0_countsAsDrawn_32 : decode cX0_countsAsDrawn 32 = .ok (.goto 4, 3) := by decide +kernel
theorem dX0_countsAsDrawn_35 : decode cX0_countsAsDrawn 35 = .ok (.iconst 0, 1) := by decide +kernel
theorem dX0_countsAsDrawn_36 : decode cX0_countsAsDrawn 36 = .ok (.ireturn, 1) := by decide +kernel
theorem dX0_isSounding_0 : decode cX0_isSounding 0 = .ok (.aload_n 1, 1) := by decide +kernel
theorem dX0_isSounding_1 : decode cX0_isSounding 1 = .ok (.getfield 63, 3) := by decide +kernel
theorem dX0_isSounding_4 : decode cX0_isSounding 4 = .ok (.astore_n 2, 1) := by decide +kernel
theorem dX0_isSounding_5 : decode cX0_isSounding 5 = .ok (.aload_n 2, 1) := by decide +kernel
theorem dX0_isSounding_6 : decode cX0_isSounding 6 = .ok (.ifnonnull 5, 3) := by decide +kernel
theorem dX0_isSounding_9 : decode cX0_isSounding 9 = .ok (.iconst 0, 1) := by decide +kernel
theorem dX0_isSounding_10 : decode cX0_isSounding 10 = .ok (.ireturn, 1) := by decide +kernel
theorem dX0_isSounding_11 : decode cX0_isSounding 11 = .ok (.aload_n 0, 1) := by decide +kernel
theorem dX0_isSounding_12 : decode cX0_isSounding 12 = .ok (.getfield 67, 3) := by decide +kernel
theorem dX0_isSounding_15 : decode cX0_isSounding 15 = .ok (.ifCond .ne 29, 3) := by decide +kernel
theorem dX0_isSounding_18 : decode cX0_isSounding 18 = .ok (.aload_n 0, 1) := by decide +kernel
theorem dX0_isSounding_19 : decode cX0_isSounding 19 = .ok (.aload_n 1, 1) := by decide +kernel
theorem dX0_isSounding_20 : decode cX0_isSounding 20 = .ok (.invokevirtual 70, 3) := by decide +kernel
theorem dX0_isSounding_23 : decode cX0_isSounding 23 = .ok (.ifCond .ne 21, 3) := by decide +kernel
theorem dX0_isSounding_26 : decode cX0_isSounding 26 = .ok (.aload_n 2, 1) := by decide +kernel
theorem dX0_isSounding_27 : decode cX0_isSounding 27 = .ok (.getfield 74, 3) := by decide +kernel
theorem dX0_isSounding_30 : decode cX0_isSounding 30 = .ok (.ifCond .le 18, 3) := by decide +kernel
theorem dX0_isSounding_33 : decode cX0_isSounding 33 = .ok (.aload_n 0, 1) := by decide +kernel
theorem dX0_isSounding_34 : decode cX0_isSounding 34 = .ok (.getfield 79, 3) := by decide +kernel
theorem dX0_isSounding_37 : decode cX0_isSounding 37 = .ok (.aload_n 2, 1) := by decide +kernel
theorem dX0_isSounding_38 : decode cX0_isSounding 38 = .ok (.getfield 74, 3) := by decide +kernel
theorem dX0_isSounding_41 : decode cX0_isSounding 41 = .ok (.if_icmp .lt 7, 3) := by decide +kernel
theorem dX0_isSounding_44 : decode cX0_isSounding 44 = .ok (.iconst 1, 1) := by decide +kernel
theorem dX0_isSounding_45 : decode cX0_isSounding 45 = .ok (.goto 4, 3) := by decide +kernel
theorem dX0_isSounding_48 : decode cX0_isSounding 48 = .ok (.iconst 0, 1) := by decide +kernel
theorem dX0_isSounding_49 : decode cX0_isSounding 49 = .ok (.ireturn, 1) := by decide +kernel
theorem dX0_trembles_0 : decode cX0_trembles 0 = .ok (.iconst 0, 1) := by decide +kernel
theorem dX0_trembles_1 : decode cX0_trembles 1 = .ok (.istore_n 2, 1) := by decide +kernel
theorem dX0_trembles_2 : decode cX0_trembles 2 = .ok (.iload_n 2, 1) := by decide +kernel
theorem dX0_trembles_3 : decode cX0_trembles 3 = .ok (.aload_n 0, 1) := by decide +kernel
theorem dX0_trembles_4 : decode cX0_trembles 4 = .ok (.getfield 12, 3) := by decide +kernel
theorem dX0_trembles_7 : decode cX0_trembles 7 = .ok (.invokevirtual 47, 3) := by decide +kernel
theorem dX0_trembles_10 : decode cX0_trembles 10 = .ok (.if_icmp .ge 48, 3) := by decide +kernel
theorem dX0_trembles_13 : decode cX0_trembles 13 = .ok (.aload_n 0, 1) := by decide +kernel
theorem dX0_trembles_14 : decode cX0_trembles 14 = .ok (.getfield 12, 3) := by decide +kernel
theorem dX0_trembles_17 : decode cX0_trembles 17 = .ok (.iload_n 2, 1) := by decide +kernel
theorem dX0_trembles_18 : decode cX0_trembles 18 = .ok (.invokevirtual 51, 3) := by decide +kernel
theorem dX0_trembles_21 : decode cX0_trembles 21 = .ok (.checkcast 33, 3) := by decide +kernel
theorem dX0_trembles_24 : decode cX0_trembles 24 = .ok (.astore_n 3, 1) := by decide +kernel
theorem dX0_trembles_25 : decode cX0_trembles 25 = .ok (.aload_n 3, 1) := by decide +kernel
theorem dX0_trembles_26 : decode cX0_trembles 26 = .ok (.getfield 82, 3) := by decide +kernel
theorem dX0_trembles_29 : decode cX0_trembles 29 = .ok (.bipush 116, 2) := by decide +kernel
theorem dX0_trembles_31 : decode cX0_trembles 31 = .ok (.if_icmp .ne 21, 3) := by decide +kernel
theorem dX0_trembles_34 : decode cX0_trembles 34 = .ok (.aload_n 3, 1) := by decide +kernel
theorem dX0_trembles_35 : decode cX0_trembles 35 = .ok (.getfield 86, 3) := by decide +kernel
theorem dX0_trembles_38 : decode cX0_trembles 38 = .ok (.iload_n 1, 1) := by decide +kernel
theorem dX0_trembles_39 : decode cX0_trembles 39 = .ok (.if_icmp .ne 13, 3) := by decide +kernel
theorem dX0_trembles_42 : decode cX0_trembles 42 = .ok (.aload_n 0, 1) := by decide +kernel
theorem dX0_trembles_43 : decode cX0_trembles 43 = .ok (.aload_n 3, 1) := by decide +kernel
theorem dX0_trembles_44 : decode cX0_trembles 44 = .ok (.invokevirtual 70, 3) := by decide +kernel
theorem dX0_trembles_47 : decode cX0_trembles 47 = .ok (.ifCond .eq 5, 3) := by decide +kernel
theorem dX0_trembles_50 : decode cX0_trembles 50 = .ok (.iconst 1, 1) := by decide +kernel
theorem dX0_trembles_51 : decode cX0_trembles 51 = .ok (.ireturn, 1) := by decide +kernel
theorem dX0_trembles_52 : decode cX0_trembles 52 = .ok (.iinc 2 1, 3) := by decide +kernel
theorem dX0_trembles_55 : decode cX0_trembles 55 = .ok (.goto (-53), 3) := by decide +kernel
theorem dX0_trembles_58 : decode cX0_trembles 58 = .ok (.iconst 0, 1) := by decide +kernel
theorem dX0_trembles_59 : decode cX0_trembles 59 = .ok (.ireturn, 1) := by decide +kernel
theorem dX0_isWay_0 : decode cX0_isWay 0 = .ok (.aload_n 1, 1) := by decide +kernel
theorem dX0_isWay_1 : decode cX0_isWay 1 = .ok (.getfield 89, 3) := by decide +kernel
theorem dX0_isWay_4 : decode cX0_isWay 4 = .ok (.ifnull 29, 3) := by decide +kernel
theorem dX0_isWay_7 : decode cX0_isWay 7 = .ok (.aload_n 0, 1) := by decide +kernel
theorem dX0_isWay_8 : decode cX0_isWay 8 = .ok (.aload_n 1, 1) := by decide +kernel
theorem dX0_isWay_9 : decode cX0_isWay 9 = .ok (.invokevirtual 70, 3) := by decide +kernel
theorem dX0_isWay_12 : decode cX0_isWay 12 = .ok (.aload_n 1, 1) := by decide +kernel
theorem dX0_isWay_13 : decode cX0_isWay 13 = .ok (.getfield 82, 3) := by decide +kernel
theorem dX0_isWay_16 : decode cX0_isWay 16 = .ok (.bipush 99, 2) := by decide +kernel
theorem dX0_isWay_18 : decode cX0_isWay 18 = .ok (.if_icmp .ne 7, 3) := by decide +kernel
theorem dX0_isWay_21 : decode cX0_isWay 21 = .ok (.iconst 1, 1) := by decide +kernel
theorem dX0_isWay_22 : decode cX0_isWay 22 = .ok (.goto 4, 3) := by decide +kernel
theorem dX0_isWay_25 : decode cX0_isWay 25 = .ok (.iconst 0, 1) := by decide +kernel
theorem dX0_isWay_26 : decode cX0_isWay 26 = .ok (.if_icmp .ne 7, 3) := by decide +kernel
theorem dX0_isWay_29 : decode cX0_isWay 29 = .ok (.iconst 1, 1) := by decide +kernel
theorem dX0_isWay_30 : decode cX0_isWay 30 = .ok (.goto 4, 3) := by decide +kernel
theorem dX0_isWay_33 : decode cX0_isWay 33 = .ok (.iconst 0, 1) := by decide +kernel
theorem dX0_isWay_34 : decode cX0_isWay 34 = .ok (.ireturn, 1) := by decide +kernel
theorem dX0_waysOf_0 : decode cX0_waysOf 0 = .ok (.iconst 0, 1) := by decide +kernel
theorem dX0_waysOf_1 : decode cX0_waysOf 1 = .ok (.istore 5, 2) := by decide +kernel
theorem dX0_waysOf_3 : decode cX0_waysOf 3 = .ok (.iconst 0, 1) := by decide +kernel
theorem dX0_waysOf_4 : decode cX0_waysOf 4 = .ok (.istore 6, 2) := by decide +kernel
theorem dX0_waysOf_6 : decode cX0_waysOf 6 = .ok (.iload 6, 2) := by decide +kernel
theorem dX0_waysOf_8 : decode cX0_waysOf 8 = .ok (.aload_n 0, 1) := by decide +kernel
theorem dX0_waysOf_9 : decode cX0_waysOf 9 = .ok (.getfield 12, 3) := by decide +kernel
theorem dX0_waysOf_12 : decode cX0_waysOf 12 = .ok (.invokevirtual 47, 3) := by decide +kernel
theorem dX0_waysOf_15 : decode cX0_waysOf 15 = .ok (.if_icmp .ge 74, 3) := by decide +kernel
theorem dX0_waysOf_18 : decode cX0_waysOf 18 = .ok (.aload_n 0, 1) := by decide +kernel
theorem dX0_waysOf_19 : decode cX0_waysOf 19 = .ok (.getfield 12, 3) := by decide +kernel
theorem dX0_waysOf_22 : decode cX0_waysOf 22 = .ok (.iload 6, 2) := by decide +kernel
theorem dX0_waysOf_24 : decode cX0_waysOf 24 = .ok (.invokevirtual 51, 3) := by decide +kernel
theorem dX0_waysOf_27 : decode cX0_waysOf 27 = .ok (.checkcast 33, 3) := by decide +kernel
theorem dX0_waysOf_30 : decode cX0_waysOf 30 = .ok (.astore 7, 2) := by decide +kernel
theorem dX0_waysOf_32 : decode cX0_waysOf 32 = .ok (.aload 7, 2) := by decide +kernel
theorem dX0_waysOf_34 : decode cX0_waysOf 34 = .ok (.getfield 89, 3) := by decide +kernel
theorem dX0_waysOf_37 : decode cX0_waysOf 37 = .ok (.astore 8, 2) := by decide +kernel
theorem dX0_waysOf_39 : decode cX0_waysOf 39 = .ok (.aload 8, 2) := by decide +kernel
theorem dX0_waysOf_41 : decode cX0_waysOf 41 = .ok (.ifnull 42, 3) := by decide +kernel
theorem dX0_waysOf_44 : decode cX0_waysOf 44 = .ok (.aload 8, 2) := by decide +kernel
theorem dX0_waysOf_46 : decode cX0_waysOf 46 = .ok (.getfield 93, 3) := by decide +kernel
theorem dX0_waysOf_49 : decode cX0_waysOf 49 = .ok (.iload_n 1, 1) := by decide +kernel
theorem dX0_waysOf_50 : decode cX0_waysOf 50 = .ok (.if_icmp .ne 33, 3) := by decide +kernel
theorem dX0_waysOf_53 : decode cX0_waysOf 53 = .ok (.aload_n 0, 1) := by decide +kernel
theorem dX0_waysOf_54 : decode cX0_waysOf 54 = .ok (.aload 7, 2) := by decide +kernel
theorem dX0_waysOf_56 : decode cX0_waysOf 56 = .ok (.invokevirtual 96, 3) := by decide +kernel
theorem dX0_waysOf_59 : decode cX0_waysOf 59 = .ok (.ifCond .eq 24, 3) := by decide +kernel
theorem dX0_waysOf_62 : decode cX0_waysOf 62 = .ok (.aload 8, 2) := by decide +kernel
theorem dX0_waysOf_64 : decode cX0_waysOf 64 = .ok (.iload_n 2, 1) := by decide +kernel
theorem dX0_waysOf_65 : decode cX0_waysOf 65 = .ok (.aload 8, 2) := by decide +kernel
theorem dX0_waysOf_67 : decode cX0_waysOf 67 = .ok (.getfield 99, 3) := by decide +kernel
theorem dX0_waysOf_70 : decode cX0_waysOf 70 = .ok (.isub, 1) := by decide +kernel
theorem dX0_waysOf_71 : decode cX0_waysOf 71 = .ok (.aload_n 3, 1) := by decide +kernel
theorem dX0_waysOf_72 : decode cX0_waysOf 72 = .ok (.iload 4, 2) := by decide +kernel
theorem dX0_waysOf_74 : decode cX0_waysOf 74 = .ok (.invokevirtual 102, 3) := by decide +kernel
theorem dX0_waysOf_77 : decode cX0_waysOf 77 = .ok (.ifCond .eq 6, 3) := by decide +kernel
theorem dX0_waysOf_80 : decode cX0_waysOf 80 = .ok (.iinc 5 1, 3) := by decide +kernel
theorem dX0_waysOf_83 : decode cX0_waysOf 83 = .ok (.iinc 6 1, 3) := by decide +kernel
theorem dX0_waysOf_86 : decode cX0_waysOf 86 = .ok (.goto (-80), 3) := by decide +kernel
theorem dX0_waysOf_89 : decode cX0_waysOf 89 = .ok (.iload 5, 2) := by decide +kernel
theorem dX0_waysOf_91 : decode cX0_waysOf 91 = .ok (.ireturn, 1) := by decide +kernel
theorem dX0_isSource_0 : decode cX0_isSource 0 = .ok (.iload_n 0, 1) := by decide +kernel
theorem dX0_isSource_1 : decode cX0_isSource 1 = .ok (.sipush 400, 3) := by decide +kernel
theorem dX0_isSource_4 : decode cX0_isSource 4 = .ok (.if_icmp .lt 18, 3) := by decide +kernel
theorem dX0_isSource_7 : decode cX0_isSource 7 = .ok (.iload_n 0, 1) := by decide +kernel
theorem dX0_isSource_8 : decode cX0_isSource 8 = .ok (.sipush 400, 3) := by decide +kernel
theorem dX0_isSource_11 : decode cX0_isSource 11 = .ok (.isub, 1) := by decide +kernel
theorem dX0_isSource_12 : decode cX0_isSource 12 = .ok (.iload_n 1, 1) := by decide +kernel
theorem dX0_isSource_13 : decode cX0_isSource 13 = .ok (.if_icmp .ge 7, 3) := by decide +kernel
theorem dX0_isSource_16 : decode cX0_isSource 16 = .ok (.iconst 1, 1) := by decide +kernel
theorem dX0_isSource_17 : decode cX0_isSource 17 = .ok (.goto 4, 3) := by decide +kernel
theorem dX0_isSource_20 : decode cX0_isSource 20 = .ok (.iconst 0, 1) := by decide +kernel
theorem dX0_isSource_21 : decode cX0_isSource 21 = .ok (.ireturn, 1) := by decide +kernel
theorem dX0_isSource_22 : decode cX0_isSource 22 = .ok (.iload_n 0, 1) := by decide +kernel
theorem dX0_isSource_23 : decode cX0_isSource 23 = .ok (.ifCond .lt 29, 3) := by decide +kernel
theorem dX0_isSource_26 : decode cX0_isSource 26 = .ok (.iload_n 0, 1) := by decide +kernel
theorem dX0_isSource_27 : decode cX0_isSource 27 = .ok (.bipush 100, 2) := by decide +kernel
theorem dX0_isSource_29 : decode cX0_isSource 29 = .ok (.if_icmp .lt 19, 3) := by decide +kernel
theorem dX0_isSource_32 : decode cX0_isSource 32 = .ok (.iload_n 0, 1) := by decide +kernel
theorem dX0_isSource_33 : decode cX0_isSource 33 = .ok (.bipush 100, 2) := by decide +kernel
theorem dX0_isSource_35 : decode cX0_isSource 35 = .ok (.idiv, 1) := by decide +kernel
theorem dX0_isSource_36 : decode cX0_isSource 36 = .ok (.iconst 1, 1) := by decide +kernel
theorem dX0_isSource_37 : decode cX0_isSource 37 = .ok (.isub, 1) := by decide +kernel
theorem dX0_isSource_38 : decode cX0_isSource 38 = .ok (.iload_n 0, 1) := by decide +kernel
theorem dX0_isSource_39 : decode cX0_isSource 39 = .ok (.bipush 100, 2) := by decide +kernel
theorem dX0_isSource_41 : decode cX0_isSource 41 = .ok (.irem, 1) := by decide +kernel
theorem dX0_isSource_42 : decode cX0_isSource 42 = .ok (.invokestatic 106, 3) := by decide +kernel
theorem dX0_isSource_45 : decode cX0_isSource 45 = .ok (.ifCond .lt 7, 3) := by decide +kernel
theorem dX0_isSource_48 : decode cX0_isSource 48 = .ok (.iconst 1, 1) := by decide +kernel
theorem dX0_isSource_49 : decode cX0_isSource 49 = .ok (.goto 4, 3) := by decide +kernel
theorem dX0_isSource_52 : decode cX0_isSource 52 = .ok (.iconst 0, 1) := by decide +kernel
theorem dX0_isSource_53 : decode cX0_isSource 53 = .ok (.ireturn, 1) := by decide +kernel
theorem dX0_putWires_0 : decode cX0_putWires 0 = .ok (.iload_n 1, 1) := by decide +kernel
theorem dX0_putWires_1 : decode cX0_putWires 1 = .ok (.ifCond .lt 31, 3) := by decide +kernel
theorem dX0_putWires_4 : decode cX0_putWires 4 = .ok (.iload_n 1, 1) := by decide +kernel
theorem dX0_putWires_5 : decode cX0_putWires 5 = .ok (.bipush 16, 2) := by decide +kernel
theorem dX0_putWires_7 : decode cX0_putWires 7 = .ok (.if_icmp .ge 25, 3) := by decide +kernel
theorem dX0_putWires_10 : decode cX0_putWires 10 = .ok (.aload_n 0, 1) := by decide +kernel
theorem dX0_putWires_11 : decode cX0_putWires 11 = .ok (.getfield 18, 3) := by decide +kernel
theorem dX0_putWires_14 : decode cX0_putWires 14 = .ok (.iload_n 1, 1) := by decide +kernel
theorem dX0_putWires_15 : decode cX0_putWires 15 = .ok (.iload_n 2, 1) := by decide +kernel
theorem dX0_putWires_16 : decode cX0_putWires 16 = .ok (.castore, 1) := by decide +kernel
theorem dX0_putWires_17 : decode cX0_putWires 17 = .ok (.aload_n 0, 1) := by decide +kernel
theorem dX0_putWires_18 : decode cX0_putWires 18 = .ok (.getfield 22, 3) := by decide +kernel
theorem dX0_putWires_21 : decode cX0_putWires 21 = .ok (.iload_n 1, 1) := by decide +kernel
theorem dX0_putWires_22 : decode cX0_putWires 22 = .ok (.iload_n 3, 1) := by decide +kernel
theorem dX0_putWires_23 : decode cX0_putWires 23 = .ok (.iastore, 1) := by decide +kernel
theorem dX0_putWires_24 : decode cX0_putWires 24 = .ok (.aload_n 0, 1) := by decide +kernel
theorem dX0_putWires_25 : decode cX0_putWires 25 = .ok (.getfield 26, 3) := by decide +kernel
theorem dX0_putWires_28 : decode cX0_putWires 28 = .ok (.iload_n 1, 1) := by decide +kernel
theorem dX0_putWires_29 : decode cX0_putWires 29 = .ok (.iload 4, 2) := by decide +kernel
theorem dX0_putWires_31 : decode cX0_putWires 31 = .ok (.iastore, 1) := by decide +kernel
theorem dX0_putWires_32 : decode cX0_putWires 32 = .ok (.return_, 1) := by decide +kernel
theorem dX0_isRelayOn_0 : decode cX0_isRelayOn 0 = .ok (.iload_n 1, 1) := by decide +kernel
theorem dX0_isRelayOn_1 : decode cX0_isRelayOn 1 = .ok (.ifCond .lt 22, 3) := by decide +kernel
theorem dX0_isRelayOn_4 : decode cX0_isRelayOn 4 = .ok (.iload_n 1, 1) := by decide +kernel
theorem dX0_isRelayOn_5 : decode cX0_isRelayOn 5 = .ok (.bipush 16, 2) := by decide +kernel
theorem dX0_isRelayOn_7 : decode cX0_isRelayOn 7 = .ok (.if_icmp .ge 16, 3) := by decide +kernel
theorem dX0_isRelayOn_10 : decode cX0_isRelayOn 10 = .ok (.aload_n 0, 1) := by decide +kernel
theorem dX0_isRelayOn_11 : decode cX0_isRelayOn 11 = .ok (.getfield 29, 3) := by decide +kernel
theorem dX0_isRelayOn_14 : decode cX0_isRelayOn 14 = .ok (.iload_n 1, 1) := by decide +kernel
theorem dX0_isRelayOn_15 : decode cX0_isRelayOn 15 = .ok (.baload, 1) := by decide +kernel
theorem dX0_isRelayOn_16 : decode cX0_isRelayOn 16 = .ok (.ifCond .eq 7, 3) := by decide +kernel
theorem dX0_isRelayOn_19 : decode cX0_isRelayOn 19 = .ok (.iconst 1, 1) := by decide +kernel
theorem dX0_isRelayOn_20 : decode cX0_isRelayOn 20 = .ok (.goto 4, 3) := by decide +kernel
theorem dX0_isRelayOn_23 : decode cX0_isRelayOn 23 = .ok (.iconst 0, 1) := by decide +kernel
theorem dX0_isRelayOn_24 : decode cX0_isRelayOn 24 = .ok (.ireturn, 1) := by decide +kernel
theorem dX0_findRelays_0 : decode cX0_findRelays 0 = .ok (.iconst 0, 1) := by decide +kernel
theorem dX0_findRelays_1 : decode cX0_findRelays 1 = .ok (.istore_n 2, 1) := by decide +kernel
theorem dX0_findRelays_2 : decode cX0_findRelays 2 = .ok (.iload_n 2, 1) := by decide +kernel
theorem dX0_findRelays_3 : decode cX0_findRelays 3 = .ok (.bipush 16, 2) := by decide +kernel
theorem dX0_findRelays_5 : decode cX0_findRelays 5 = .ok (.if_icmp .ge 52, 3) := by decide +kernel
theorem dX0_findRelays_8 : decode cX0_findRelays 8 = .ok (.aload_n 0, 1) := by decide +kernel
theorem dX0_findRelays_9 : decode cX0_findRelays 9 = .ok (.aload_n 0, 1) := by decide +kernel
theorem dX0_findRelays_10 : decode cX0_findRelays 10 = .ok (.getfield 22, 3) := by decide +kernel
theorem dX0_findRelays_13 : decode cX0_findRelays 13 = .ok (.iload_n 2, 1) := by decide +kernel
theorem dX0_findRelays_14 : decode cX0_findRelays 14 = .ok (.iaload, 1) := by decide +kernel
theorem dX0_findRelays_15 : decode cX0_findRelays 15 = .ok (.aload_n 1, 1) := by decide +kernel
theorem dX0_findRelays_16 : decode cX0_findRelays 16 = .ok (.invokevirtual 112, 3) := by decide +kernel
theorem dX0_findRelays_19 : decode cX0_findRelays 19 = .ok (.istore_n 3, 1) := by decide +kernel
theorem dX0_findRelays_20 : decode cX0_findRelays 20 = .ok (.aload_n 0, 1) := by decide +kernel
theorem dX0_findRelays_21 : decode cX0_findRelays 21 = .ok (.aload_n 0, 1) := by decide +kernel
theorem dX0_findRelays_22 : decode cX0_findRelays 22 = .ok (.getfield 26, 3) := by decide +kernel
theorem dX0_findRelays_25 : decode cX0_findRelays 25 = .ok (.iload_n 2, 1) := by decide +kernel
theorem dX0_findRelays_26 : decode cX0_findRelays 26 = .ok (.iaload, 1) := by decide +kernel
theorem dX0_findRelays_27 : decode cX0_findRelays 27 = .ok (.aload_n 1, 1) := by decide +kernel
theorem dX0_findRelays_28 : decode cX0_findRelays 28 = .ok (.invokevirtual 112, 3) := by decide +kernel
theorem dX0_findRelays_31 : decode cX0_findRelays 31 = .ok (.istore 4, 2) := by decide +kernel
theorem dX0_findRelays_33 : decode cX0_findRelays 33 = .ok (.aload_n 0, 1) := by decide +kernel
theorem dX0_findRelays_34 : decode cX0_findRelays 34 = .ok (.getfield 29, 3) := by decide +kernel
theorem dX0_findRelays_37 : decode cX0_findRelays 37 = .ok (.iload_n 2, 1) := by decide +kernel
theorem dX0_findRelays_38 : decode cX0_findRelays 38 = .ok (.aload_n 0, 1) := by decide +kernel
theorem dX0_findRelays_39 : decode cX0_findRelays 39 = .ok (.getfield 18, 3) := by decide +kernel
theorem dX0_findRelays_42 : decode cX0_findRelays 42 = .ok (.iload_n 2, 1) := by decide +kernel
theorem dX0_findRelays_43 : decode cX0_findRelays 43 = .ok (.caload, 1) := by decide +kernel
theorem dX0_findRelays_44 : decode cX0_findRelays 44 = .ok (.iload_n 3, 1) := by decide +kernel
theorem dX0_findRelays_45 : decode cX0_findRelays 45 = .ok (.iload 4, 2) := by decide +kernel
theorem dX0_findRelays_47 : decode cX0_findRelays 47 = .ok (.invokestatic 116, 3) := by decide +kernel
theorem dX0_findRelays_50 : decode cX0_findRelays 50 = .ok (.bastore, 1) := by decide +kernel
theorem dX0_findRelays_51 : decode cX0_findRelays 51 = .ok (.iinc 2 1, 3) := by decide +kernel
theorem dX0_findRelays_54 : decode cX0_findRelays 54 = .ok (.goto (-52), 3) := by decide +kernel
theorem dX0_findRelays_57 : decode cX0_findRelays 57 = .ok (.return_, 1) := by decide +kernel
theorem dX0_combines_0 : decode cX0_combines 0 = .ok (.iload_n 0, 1) := by decide +kernel
theorem dX0_combines_1 : decode cX0_combines 1 = .ok (.bipush 38, 2) := by decide +kernel
theorem dX0_combines_3 : decode cX0_combines 3 = .ok (.if_icmp .ne 17, 3) := by decide +kernel
theorem dX0_combines_6 : decode cX0_combines 6 = .ok (.iload_n 1, 1) := by decide +kernel
theorem dX0_combines_7 : decode cX0_combines 7 = .ok (.ifCond .eq 11, 3) := by decide +kernel
theorem dX0_combines_10 : decode cX0_combines 10 = .ok (.iload_n 2, 1) := by decide +kernel
theorem dX0_combines_11 : decode cX0_combines 11 = .ok (.ifCond .eq 7, 3) := by decide +kernel
theorem dX0_combines_14 : decode cX0_combines 14 = .ok (.iconst 1, 1) := by decide +kernel
theorem dX0_combines_15 : decode cX0_combines 15 = .ok (.goto 4, 3) := by decide +kernel
theorem dX0_combines_18 : decode cX0_combines 18 = .ok (.iconst 0, 1) := by decide +kernel
theorem dX0_combines_19 : decode cX0_combines 19 = .ok (.ireturn, 1) := by decide +kernel
theorem dX0_combines_20 : decode cX0_combines 20 = .ok (.iload_n 0, 1) := by decide +kernel
theorem dX0_combines_21 : decode cX0_combines 21 = .ok (.bipush 124, 2) := by decide +kernel
theorem dX0_combines_23 : decode cX0_combines 23 = .ok (.if_icmp .ne 17, 3) := by decide +kernel
theorem dX0_combines_26 : decode cX0_combines 26 = .ok (.iload_n 1, 1) := by decide +kernel
theorem dX0_combines_27 : decode cX0_combines 27 = .ok (.ifCond .ne 7, 3) := by decide +kernel
theorem dX0_combines_30 : decode cX0_combines 30 = .ok (.iload_n 2, 1) := by decide +kernel
theorem dX0_combines_31 : decode cX0_combines 31 = .ok (.ifCond .eq 7, 3) := by decide +kernel
theorem dX0_combines_34 : decode cX0_combines 34 = .ok (.iconst 1, 1) := by decide +kernel
theorem dX0_combines_35 : decode cX0_combines 35 = .ok (.goto 4, 3) := by decide +kernel
theorem dX0_combines_38 : decode cX0_combines 38 = .ok (.iconst 0, 1) := by decide +kernel
theorem dX0_combines_39 : decode cX0_combines 39 = .ok (.ireturn, 1) := by decide +kernel
theorem dX0_combines_40 : decode cX0_combines 40 = .ok (.iload_n 0, 1) := by decide +kernel
theorem dX0_combines_41 : decode cX0_combines 41 = .ok (.bipush 94, 2) := by decide +kernel
theorem dX0_combines_43 : decode cX0_combines 43 = .ok (.if_icmp .ne 14, 3) := by decide +kernel
theorem dX0_combines_46 : decode cX0_combines 46 = .ok (.iload_n 1, 1) := by decide +kernel
theorem dX0_combines_47 : decode cX0_combines 47 = .ok (.iload_n 2, 1) := by decide +kernel
theorem dX0_combines_48 : decode cX0_combines 48 = .ok (.if_icmp .eq 7, 3) := by decide +kernel
theorem dX0_combines_51 : decode cX0_combines 51 = .ok (.iconst 1, 1) := by decide +kernel
theorem dX0_combines_52 : decode cX0_combines 52 = .ok (.goto 4, 3) := by decide +kernel
theorem dX0_combines_55 : decode cX0_combines 55 = .ok (.iconst 0, 1) := by decide +kernel
theorem dX0_combines_56 : decode cX0_combines 56 = .ok (.ireturn, 1) := by decide +kernel
theorem dX0_combines_57 : decode cX0_combines 57 = .ok (.iload_n 0, 1) := by decide +kernel
theorem dX0_combines_58 : decode cX0_combines 58 = .ok (.bipush 33, 2) := by decide +kernel
theorem dX0_combines_60 : decode cX0_combines 60 = .ok (.if_icmp .ne 11, 3) := by decide +kernel
theorem dX0_combines_63 : decode cX0_combines 63 = .ok (.iload_n 1, 1) := by decide +kernel
theorem dX0_combines_64 : decode cX0_combines 64 = .ok (.ifCond .ne 7, 3) := by decide +kernel
theorem dX0_combines_67 : decode cX0_combines 67 = .ok (.iconst 1, 1) := by decide +kernel
theorem dX0_combines_68 : decode cX0_combines 68 = .ok (.goto 4, 3) := by decide +kernel
theorem dX0_combines_71 : decode cX0_combines 71 = .ok (.iconst 0, 1) := by decide +kernel
theorem dX0_combines_72 : decode cX0_combines 72 = .ok (.ireturn, 1) := by decide +kernel
theorem dX0_isSourceOn_0 : decode cX0_isSourceOn 0 = .ok (.iload_n 1, 1) := by decide +kernel
theorem dX0_isSourceOn_1 : decode cX0_isSourceOn 1 = .ok (.sipush 400, 3) := by decide +kernel
theorem dX0_isSourceOn_4 : decode cX0_isSourceOn 4 = .ok (.if_icmp .lt 13, 3) := by decide +kernel
theorem dX0_isSourceOn_7 : decode cX0_isSourceOn 7 = .ok (.aload_n 0, 1) := by decide +kernel
theorem dX0_isSourceOn_8 : decode cX0_isSourceOn 8 = .ok (.iload_n 1, 1) := by decide +kernel
theorem dX0_isSourceOn_9 : decode cX0_isSourceOn 9 = .ok (.sipush 400, 3) := by decide +kernel
theorem dX0_isSourceOn_12 : decode cX0_isSourceOn 12 = .ok (.isub, 1) := by decide +kernel
theorem dX0_isSourceOn_13 : decode cX0_isSourceOn 13 = .ok (.invokevirtual 120, 3) := by decide +kernel
theorem dX0_isSourceOn_16 : decode cX0_isSourceOn 16 = .ok (.ireturn, 1) := by decide +kernel
theorem dX0_isSourceOn_17 : decode cX0_isSourceOn 17 = .ok (.iload_n 1, 1) := by decide +kernel
theorem dX0_isSourceOn_18 : decode cX0_isSourceOn 18 = .ok (.bipush 100, 2) := by decide +kernel
theorem dX0_isSourceOn_20 : decode cX0_isSourceOn 20 = .ok (.if_icmp .lt 18, 3) := by decide +kernel
theorem dX0_isSourceOn_23 : decode cX0_isSourceOn 23 = .ok (.aload_n 2, 1) := by decide +kernel
theorem dX0_isSourceOn_24 : decode cX0_isSourceOn 24 = .ok (.iload_n 1, 1) := by decide +kernel
theorem dX0_isSourceOn_25 : decode cX0_isSourceOn 25 = .ok (.bipush 100, 2) := by decide +kernel
theorem dX0_isSourceOn_27 : decode cX0_isSourceOn 27 = .ok (.idiv, 1) := by decide +kernel
theorem dX0_isSourceOn_28 : decode cX0_isSourceOn 28 = .ok (.iconst 1, 1) := by decide +kernel
theorem dX0_isSourceOn_29 : decode cX0_isSourceOn 29 = .ok (.isub, 1) := by decide +kernel
theorem dX0_isSourceOn_30 : decode cX0_isSourceOn 30 = .ok (.iload_n 1, 1) := by decide +kernel
theorem dX0_isSourceOn_31 : decode cX0_isSourceOn 31 = .ok (.bipush 100, 2) := by decide +kernel
theorem dX0_isSourceOn_33 : decode cX0_isSourceOn 33 = .ok (.irem, 1) := by decide +kernel
theorem dX0_isSourceOn_34 : decode cX0_isSourceOn 34 = .ok (.invokevirtual 124, 3) := by decide +kernel
theorem dX0_isSourceOn_37 : decode cX0_isSourceOn 37 = .ok (.ireturn, 1) := by decide +kernel
theorem dX0_isSourceOn_38 : decode cX0_isSourceOn 38 = .ok (.aload_n 0, 1) := by decide +kernel
theorem dX0_isSourceOn_39 : decode cX0_isSourceOn 39 = .ok (.iload_n 1, 1) := by decide +kernel
theorem dX0_isSourceOn_40 : decode cX0_isSourceOn 40 = .ok (.invokevirtual 128, 3) := by decide +kernel
theorem dX0_isSourceOn_43 : decode cX0_isSourceOn 43 = .ok (.astore_n 3, 1) := by decide +kernel
theorem dX0_isSourceOn_44 : decode cX0_isSourceOn 44 = .ok (.aload_n 3, 1) := by decide +kernel
theorem dX0_isSourceOn_45 : decode cX0_isSourceOn 45 = .ok (.ifnull 14, 3) := by decide +kernel
theorem dX0_isSourceOn_48 : decode cX0_isSourceOn 48 = .ok (.aload_n 3, 1) := by decide +kernel
theorem dX0_isSourceOn_49 : decode cX0_isSourceOn 49 = .ok (.getfield 59, 3) := by decide +kernel
theorem dX0_isSourceOn_52 : decode cX0_isSourceOn 52 = .ok (.ifCond .eq 7, 3) := by decide +kernel
theorem dX0_isSourceOn_55 : decode cX0_isSourceOn 55 = .ok (.iconst 1, 1) := by decide +kernel
theorem dX0_isSourceOn_56 : decode cX0_isSourceOn 56 = .ok (.goto 4, 3) := by decide +kernel
theorem dX0_isSourceOn_59 : decode cX0_isSourceOn 59 = .ok (.iconst 0, 1) := by decide +kernel
theorem dX0_isSourceOn_60 : decode cX0_isSourceOn 60 = .ok (.ireturn, 1) := by decide +kernel
theorem dX0_allKnobs_0 : decode cX0_allKnobs 0 = .ok (.lconst 1, 1) := by decide +kernel
theorem dX0_allKnobs_1 : decode cX0_allKnobs 1 = .ok (.aload_n 0, 1) := by decide +kernel
theorem dX0_allKnobs_2 : decode cX0_allKnobs 2 = .ok (.getfield 12, 3) := by decide +kernel
theorem dX0_allKnobs_5 : decode cX0_allKnobs 5 = .ok (.invokevirtual 47, 3) := by decide +kernel
theorem dX0_allKnobs_8 : decode cX0_allKnobs 8 = .ok (.lshl, 1) := by decide +kernel
theorem dX0_allKnobs_9 : decode cX0_allKnobs 9 = .ok (.lconst 1, 1) := by decide +kernel
theorem dX0_allKnobs_10 : decode cX0_allKnobs 10 = .ok (.lsub, 1) := by decide +kernel
theorem dX0_allKnobs_11 : decode cX0_allKnobs 11 = .ok (.lreturn, 1) := by decide +kernel
theorem dX0_knobsInScope_0 : decode cX0_knobsInScope 0 = .ok (.lconst 0, 1) := by decide +kernel
theorem dX0_knobsInScope_1 : decode cX0_knobsInScope 1 = .ok (.lstore_n 1, 1) := by decide +kernel
theorem dX0_knobsInScope_2 : decode cX0_knobsInScope 2 = .ok (.iconst 0, 1) := by decide +kernel
theorem dX0_knobsInScope_3 : decode cX0_knobsInScope 3 = .ok (.istore_n 3, 1) := by decide +kernel
theorem dX0_knobsInScope_4 : decode cX0_knobsInScope 4 = .ok (.iload_n 3, 1) := by decide +kernel
theorem dX0_knobsInScope_5 : decode cX0_knobsInScope 5 = .ok (.aload_n 0, 1) := by decide +kernel
theorem dX0_knobsInScope_6 : decode cX0_knobsInScope 6 = .ok (.getfield 12, 3) := by decide +kernel
theorem dX0_knobsInScope_9 : decode cX0_knobsInScope 9 = .ok (.invokevirtual 47, 3) := by decide +kernel
theorem dX0_knobsInScope_12 : decode cX0_knobsInScope 12 = .ok (.if_icmp .ge 32, 3) := by decide +kernel
theorem dX0_knobsInScope_15 : decode cX0_knobsInScope 15 = .ok (.aload_n 0, 1) := by decide +kernel
theorem dX0_knobsInScope_16 : decode cX0_knobsInScope 16 = .ok (.getfield 12, 3) := by decide +kernel
theorem dX0_knobsInScope_19 : decode cX0_knobsInScope 19 = .ok (.iload_n 3, 1) := by decide +kernel
theorem dX0_knobsInScope_20 : decode cX0_knobsInScope 20 = .ok (.invokevirtual 51, 3) := by decide +kernel
theorem dX0_knobsInScope_23 : decode cX0_knobsInScope 23 = .ok (.checkcast 33, 3) := by decide +kernel
theorem dX0_knobsInScope_26 : decode cX0_knobsInScope 26 = .ok (.getfield 132, 3) := by decide +kernel
theorem dX0_knobsInScope_29 : decode cX0_knobsInScope 29 = .ok (.ifCond .eq 9, 3) := by decide +kernel
theorem dX0_knobsInScope_32 : decode cX0_knobsInScope 32 = .ok (.lload_n 1, 1) := by decide +kernel
theorem dX0_knobsInScope_33 : decode cX0_knobsInScope 33 = .ok (.lconst 1, 1) := by decide +kernel
theorem dX0_knobsInScope_34 : decode cX0_knobsInScope 34 = .ok (.iload_n 3, 1) := by decide +kernel
theorem dX0_knobsInScope_35 : decode cX0_knobsInScope 35 = .ok (.lshl, 1) := by decide +kernel
theorem dX0_knobsInScope_36 : decode cX0_knobsInScope 36 = .ok (.lor, 1) := by decide +kernel
theorem dX0_knobsInScope_37 : decode cX0_knobsInScope 37 = .ok (.lstore_n 1, 1) := by decide +kernel
theorem dX0_knobsInScope_38 : decode cX0_knobsInScope 38 = .ok (.iinc 3 1, 3) := by decide +kernel
theorem dX0_knobsInScope_41 : decode cX0_knobsInScope 41 = .ok (.goto (-37), 3) := by decide +kernel
theorem dX0_knobsInScope_44 : decode cX0_knobsInScope 44 = .ok (.lload_n 1, 1) := by decide +kernel
theorem dX0_knobsInScope_45 : decode cX0_knobsInScope 45 = .ok (.lreturn, 1) := by decide +kernel
theorem dX0_stopsOf_0 : decode cX0_stopsOf 0 = .ok (.lconst 0, 1) := by decide +kernel
theorem dX0_stopsOf_1 : decode cX0_stopsOf 1 = .ok (.lstore_n 2, 1) := by decide +kernel
theorem dX0_stopsOf_2 : decode cX0_stopsOf 2 = .ok (.iconst 0, 1) := by decide +kernel
theorem dX0_stopsOf_3 : decode cX0_stopsOf 3 = .ok (.istore 4, 2) := by decide +kernel
theorem dX0_stopsOf_5 : decode cX0_stopsOf 5 = .ok (.iload 4, 2) := by decide +kernel
theorem dX0_stopsOf_7 : decode cX0_stopsOf 7 = .ok (.aload_n 0, 1) := by decide +kernel
theorem dX0_stopsOf_8 : decode cX0_stopsOf 8 = .ok (.getfield 12, 3) := by decide +kernel
theorem dX0_stopsOf_11 : decode cX0_stopsOf 11 = .ok (.invokevirtual 47, 3) := by decide +kernel
theorem dX0_stopsOf_14 : decode cX0_stopsOf 14 = .ok (.if_icmp .ge 49, 3) := by decide +kernel
theorem dX0_stopsOf_17 : decode cX0_stopsOf 17 = .ok (.aload_n 0, 1) := by decide +kernel
theorem dX0_stopsOf_18 : decode cX0_stopsOf 18 = .ok (.getfield 12, 3) := by decide +kernel
theorem dX0_stopsOf_21 : decode cX0_stopsOf 21 = .ok (.iload 4, 2) := by decide +kernel
theorem dX0_stopsOf_23 : decode cX0_stopsOf 23 = .ok (.invokevirtual 51, 3) := by decide +kernel
theorem dX0_stopsOf_26 : decode cX0_stopsOf 26 = .ok (.checkcast 33, 3) := by decide +kernel
theorem dX0_stopsOf_29 : decode cX0_stopsOf 29 = .ok (.astore 5, 2) := by decide +kernel
theorem dX0_stopsOf_31 : decode cX0_stopsOf 31 = .ok (.aload 5, 2) := by decide +kernel
theorem dX0_stopsOf_33 : decode cX0_stopsOf 33 = .ok (.getfield 82, 3) := by decide +kernel
theorem dX0_stopsOf_36 : decode cX0_stopsOf 36 = .ok (.bipush 115, 2) := by decide +kernel
theorem dX0_stopsOf_38 : decode cX0_stopsOf 38 = .ok (.if_icmp .ne 19, 3) := by decide +kernel
theorem dX0_stopsOf_41 : decode cX0_stopsOf 41 = .ok (.aload 5, 2) := by decide +kernel
theorem dX0_stopsOf_43 : decode cX0_stopsOf 43 = .ok (.getfield 86, 3) := by decide +kernel
theorem dX0_stopsOf_46 : decode cX0_stopsOf 46 = .ok (.iload_n 1, 1) := by decide +kernel
theorem dX0_stopsOf_47 : decode cX0_stopsOf 47 = .ok (.if_icmp .ne 10, 3) := by decide +kernel
theorem dX0_stopsOf_50 : decode cX0_stopsOf 50 = .ok (.lload_n 2, 1) := by decide +kernel
theorem dX0_stopsOf_51 : decode cX0_stopsOf 51 = .ok (.lconst 1, 1) := by decide +kernel
theorem dX0_stopsOf_52 : decode cX0_stopsOf 52 = .ok (.iload 4, 2) := by decide +kernel
theorem dX0_stopsOf_54 : decode cX0_stopsOf 54 = .ok (.lshl, 1) := by decide +kernel
theorem dX0_stopsOf_55 : decode cX0_stopsOf 55 = .ok (.lor, 1) := by decide +kernel
theorem dX0_stopsOf_56 : decode cX0_stopsOf 56 = .ok (.lstore_n 2, 1) := by decide +kernel
theorem dX0_stopsOf_57 : decode cX0_stopsOf 57 = .ok (.iinc 4 1, 3) := by decide +kernel
theorem dX0_stopsOf_60 : decode cX0_stopsOf 60 = .ok (.goto (-55), 3) := by decide +kernel
theorem dX0_stopsOf_63 : decode cX0_stopsOf 63 = .ok (.lload_n 2, 1) := by decide +kernel
theorem dX0_stopsOf_64 : decode cX0_stopsOf 64 = .ok (.lreturn, 1) := by decide +kernel
theorem dX0_drawnAmong_0 : decode cX0_drawnAmong 0 = .ok (.lconst 0, 1) := by decide +kernel
theorem dX0_drawnAmong_1 : decode cX0_drawnAmong 1 = .ok (.lstore_n 3, 1) := by decide +kernel
theorem dX0_drawnAmong_2 : decode cX0_drawnAmong 2 = .ok (.iconst 0, 1) := by decide +kernel
theorem dX0_drawnAmong_3 : decode cX0_drawnAmong 3 = .ok (.istore 5, 2) := by decide +kernel
theorem dX0_drawnAmong_5 : decode cX0_drawnAmong 5 = .ok (.iload 5, 2) := by decide +kernel
theorem dX0_drawnAmong_7 : decode cX0_drawnAmong 7 = .ok (.aload_n 0, 1) := by decide +kernel
theorem dX0_drawnAmong_8 : decode cX0_drawnAmong 8 = .ok (.getfield 12, 3) := by decide +kernel
theorem dX0_drawnAmong_11 : decode cX0_drawnAmong 11 = .ok (.invokevirtual 47, 3) := by decide +kernel
theorem dX0_drawnAmong_14 : decode cX0_drawnAmong 14 = .ok (.if_icmp .ge 34, 3) := by decide +kernel
theorem dX0_drawnAmong_17 : decode cX0_drawnAmong 17 = .ok (.aload_n 0, 1) := by decide +kernel
theorem dX0_drawnAmong_18 : decode cX0_drawnAmong 18 = .ok (.getfield 12, 3) := by decide +kernel
theorem dX0_drawnAmong_21 : decode cX0_drawnAmong 21 = .ok (.iload 5, 2) := by decide +kernel
theorem dX0_drawnAmong_23 : decode cX0_drawnAmong 23 = .ok (.invokevirtual 51, 3) := by decide +kernel
theorem dX0_drawnAmong_26 : decode cX0_drawnAmong 26 = .ok (.checkcast 33, 3) := by decide +kernel
theorem dX0_drawnAmong_29 : decode cX0_drawnAmong 29 = .ok (.getfield 59, 3) := by decide +kernel
theorem dX0_drawnAmong_32 : decode cX0_drawnAmong 32 = .ok (.ifCond .eq 10, 3) := by decide +kernel
theorem dX0_drawnAmong_35 : decode cX0_drawnAmong 35 = .ok (.lload_n 3, 1) := by decide +kernel
theorem dX0_drawnAmong_36 : decode cX0_drawnAmong 36 = .ok (.lconst 1, 1) := by decide +kernel
theorem dX0_drawnAmong_37 : decode cX0_drawnAmong 37 = .ok (.iload 5, 2) := by decide +kernel
theorem dX0_drawnAmong_39 : decode cX0_drawnAmong 39 = .ok (.lshl, 1) := by decide +kernel
theorem dX0_drawnAmong_40 : decode cX0_drawnAmong 40 = .ok (.lor, 1) := by decide +kernel
theorem dX0_drawnAmong_41 : decode cX0_drawnAmong 41 = .ok (.lstore_n 3, 1) := by decide +kernel
theorem dX0_drawnAmong_42 : decode cX0_drawnAmong 42 = .ok (.iinc 5 1, 3) := by decide +kernel
theorem dX0_drawnAmong_45 : decode cX0_drawnAmong 45 = .ok (.goto (-40), 3) := by decide +kernel
theorem dX0_drawnAmong_48 : decode cX0_drawnAmong 48 = .ok (.lload_n 3, 1) := by decide +kernel
theorem dX0_drawnAmong_49 : decode cX0_drawnAmong 49 = .ok (.lload_n 1, 1) := by decide +kernel
theorem dX0_drawnAmong_50 : decode cX0_drawnAmong 50 = .ok (.land, 1) := by decide +kernel
theorem dX0_drawnAmong_51 : decode cX0_drawnAmong 51 = .ok (.lreturn, 1) := by decide +kernel
theorem dX0_moveTo_0 : decode cX0_moveTo 0 = .ok (.iconst 0, 1) := by decide +kernel
theorem dX0_moveTo_1 : decode cX0_moveTo 1 = .ok (.istore 5, 2) := by decide +kernel
theorem dX0_moveTo_3 : decode cX0_moveTo 3 = .ok (.iconst 0, 1) := by decide +kernel
theorem dX0_moveTo_4 : decode cX0_moveTo 4 = .ok (.istore 6, 2) := by decide +kernel
theorem dX0_moveTo_6 : decode cX0_moveTo 6 = .ok (.iload 6, 2) := by decide +kernel
theorem dX0_moveTo_8 : decode cX0_moveTo 8 = .ok (.aload_n 0, 1) := by decide +kernel
theorem dX0_moveTo_9 : decode cX0_moveTo 9 = .ok (.getfield 12, 3) := by decide +kernel
theorem dX0_moveTo_12 : decode cX0_moveTo 12 = .ok (.invokevirtual 47, 3) := by decide +kernel
theorem dX0_moveTo_15 : decode cX0_moveTo 15 = .ok (.if_icmp .ge 80, 3) := by decide +kernel
theorem dX0_moveTo_18 : decode cX0_moveTo 18 = .ok (.aload_n 0, 1) := by decide +kernel
theorem dX0_moveTo_19 : decode cX0_moveTo 19 = .ok (.getfield 12, 3) := by decide +kernel
theorem dX0_moveTo_22 : decode cX0_moveTo 22 = .ok (.iload 6, 2) := by decide +kernel
theorem dX0_moveTo_24 : decode cX0_moveTo 24 = .ok (.invokevirtual 51, 3) := by decide +kernel
theorem dX0_moveTo_27 : decode cX0_moveTo 27 = .ok (.checkcast 33, 3) := by decide +kernel
theorem dX0_moveTo_30 : decode cX0_moveTo 30 = .ok (.astore 7, 2) := by decide +kernel
theorem dX0_moveTo_32 : decode cX0_moveTo 32 = .ok (.lload_n 3, 1) := by decide +kernel
theorem dX0_moveTo_33 : decode cX0_moveTo 33 = .ok (.iload 6, 2) := by decide +kernel
theorem dX0_moveTo_35 : decode cX0_moveTo 35 = .ok (.lshr, 1) := by decide +kernel
theorem dX0_moveTo_36 : decode cX0_moveTo 36 = .ok (.lconst 1, 1) := by decide +kernel
theorem dX0_moveTo_37 : decode cX0_moveTo 37 = .ok (.land, 1) := by decide +kernel
theorem dX0_moveTo_38 : decode cX0_moveTo 38 = .ok (.lconst 1, 1) := by decide +kernel
theorem dX0_moveTo_39 : decode cX0_moveTo 39 = .ok (.lcmp, 1) := by decide +kernel
theorem dX0_moveTo_40 : decode cX0_moveTo 40 = .ok (.ifCond .ne 7, 3) := by decide +kernel
theorem dX0_moveTo_43 : decode cX0_moveTo 43 = .ok (.iconst 1, 1) := by decide +kernel
theorem dX0_moveTo_44 : decode cX0_moveTo 44 = .ok (.goto 4, 3) := by decide +kernel
theorem dX0_moveTo_47 : decode cX0_moveTo 47 = .ok (.iconst 0, 1) := by decide +kernel
theorem dX0_moveTo_48 : decode cX0_moveTo 48 = .ok (.istore 8, 2) := by decide +kernel
theorem dX0_moveTo_50 : decode cX0_moveTo 50 = .ok (.lload_n 1, 1) := by decide +kernel
theorem dX0_moveTo_51 : decode cX0_moveTo 51 = .ok (.iload 6, 2) := by decide +kernel
theorem dX0_moveTo_53 : decode cX0_moveTo 53 = .ok (.lshr, 1) := by decide +kernel
theorem dX0_moveTo_54 : decode cX0_moveTo 54 = .ok (.lconst 1, 1) := by decide +kernel
theorem dX0_moveTo_55 : decode cX0_moveTo 55 = .ok (.land, 1) := by decide +kernel
theorem dX0_moveTo_56 : decode cX0_moveTo 56 = .ok (.lconst 1, 1) := by decide +kernel
theorem dX0_moveTo_57 : decode cX0_moveTo 57 = .ok (.lcmp, 1) := by decide +kernel
theorem dX0_moveTo_58 : decode cX0_moveTo 58 = .ok (.ifCond .ne 31, 3) := by decide +kernel
theorem dX0_moveTo_61 : decode cX0_moveTo 61 = .ok (.aload 7, 2) := by decide +kernel
theorem dX0_moveTo_63 : decode cX0_moveTo 63 = .ok (.getfield 135, 3) := by decide +kernel
theorem dX0_moveTo_66 : decode cX0_moveTo 66 = .ok (.ifCond .ne 23, 3) := by decide +kernel
theorem dX0_moveTo_69 : decode cX0_moveTo 69 = .ok (.aload 7, 2) := by decide +kernel
theorem dX0_moveTo_71 : decode cX0_moveTo 71 = .ok (.getfield 59, 3) := by decide +kernel
theorem dX0_moveTo_74 : decode cX0_moveTo 74 = .ok (.iload 8, 2) := by decide +kernel
theorem dX0_moveTo_76 : decode cX0_moveTo 76 = .ok (.if_icmp .eq 13, 3) := by decide +kernel
theorem dX0_moveTo_79 : decode cX0_moveTo 79 = .ok (.aload 7, 2) := by decide +kernel
theorem dX0_moveTo_81 : decode cX0_moveTo 81 = .ok (.iload 8, 2) := by decide +kernel
theorem dX0_moveTo_83 : decode cX0_moveTo 83 = .ok (.putfield 59, 3) := by decide +kernel
theorem dX0_moveTo_86 : decode cX0_moveTo 86 = .ok (.iinc 5 1, 3) := by decide +kernel
theorem dX0_moveTo_89 : decode cX0_moveTo 89 = .ok (.iinc 6 1, 3) := by decide +kernel
theorem dX0_moveTo_92 : decode cX0_moveTo 92 = .ok (.goto (-86), 3) := by decide +kernel
theorem dX0_moveTo_95 : decode cX0_moveTo 95 = .ok (.iload 5, 2) := by decide +kernel
theorem dX0_moveTo_97 : decode cX0_moveTo 97 = .ok (.ireturn, 1) := by decide +kernel
theorem dX1_init_0 : decode cX1_init 0 = .ok (.aload_n 0, 1) := by decide +kernel
theorem dX1_init_1 : decode cX1_init 1 = .ok (.invokespecial 3, 3) := by decide +kernel
theorem dX1_init_4 : decode cX1_init 4 = .ok (.aload_n 0, 1) := by decide +kernel
theorem dX1_init_5 : decode cX1_init 5 = .ok (.iconst 1, 1) := by decide +kernel
theorem dX1_init_6 : decode cX1_init 6 = .ok (.putfield 9, 3) := by decide +kernel
theorem dX1_init_9 : decode cX1_init 9 = .ok (.aload_n 0, 1) := by decide +kernel
theorem dX1_init_10 : decode cX1_init 10 = .ok (.iconst 4, 1) := by decide +kernel
theorem dX1_init_11 : decode cX1_init 11 = .ok (.newarray .int, 2) := by decide +kernel
theorem dX1_init_13 : decode cX1_init 13 = .ok (.putfield 15, 3) := by decide +kernel
theorem dX1_init_16 : decode cX1_init 16 = .ok (.aload_n 0, 1) := by decide +kernel
theorem dX1_init_17 : decode cX1_init 17 = .ok (.iconst 4, 1) := by decide +kernel
theorem dX1_init_18 : decode cX1_init 18 = .ok (.newarray .int, 2) := by decide +kernel
theorem dX1_init_20 : decode cX1_init 20 = .ok (.putfield 19, 3) := by decide +kernel
theorem dX1_init_23 : decode cX1_init 23 = .ok (.aload_n 0, 1) := by decide +kernel
theorem dX1_init_24 : decode cX1_init 24 = .ok (.iconst 4, 1) := by decide +kernel
theorem dX1_init_25 : decode cX1_init 25 = .ok (.newarray .int, 2) := by decide +kernel
theorem dX1_init_27 : decode cX1_init 27 = .ok (.putfield 22, 3) := by decide +kernel
theorem dX1_init_30 : decode cX1_init 30 = .ok (.return_, 1) := by decide +kernel
theorem dX1_stepsOf_0 : decode cX1_stepsOf 0 = .ok (.iload_n 0, 1) := by decide +kernel
theorem dX1_stepsOf_1 : decode cX1_stepsOf 1 = .ok (.bipush 53, 2) := by decide +kernel
theorem dX1_stepsOf_3 : decode cX1_stepsOf 3 = .ok (.if_icmp .ne 7, 3) := by decide +kernel
theorem dX1_stepsOf_6 : decode cX1_stepsOf 6 = .ok (.getstatic 32, 3) := by decide +kernel
theorem dX1_stepsOf_9 : decode cX1_stepsOf 9 = .ok (.areturn, 1) := by decide +kernel
theorem dX1_stepsOf_10 : decode cX1_stepsOf 10 = .ok (.iload_n 0, 1) := by decide +kernel
theorem dX1_stepsOf_11 : decode cX1_stepsOf 11 = .ok (.bipush 54, 2) := by decide +kernel
theorem dX1_stepsOf_13 : decode cX1_stepsOf 13 = .ok (.if_icmp .ne 7, 3) := by decide +kernel
theorem dX1_stepsOf_16 : decode cX1_stepsOf 16 = .ok (.getstatic 35, 3) := by decide +kernel
theorem dX1_stepsOf_19 : decode cX1_stepsOf 19 = .ok (.areturn, 1) := by decide +kernel
theorem dX1_stepsOf_20 : decode cX1_stepsOf 20 = .ok (.iload_n 0, 1) := by decide +kernel
theorem dX1_stepsOf_21 : decode cX1_stepsOf 21 = .ok (.bipush 52, 2) := by decide +kernel
theorem dX1_stepsOf_23 : decode cX1_stepsOf 23 = .ok (.if_icmp .ne 7, 3) := by decide +kernel
theorem dX1_stepsOf_26 : decode cX1_stepsOf 26 = .ok (.getstatic 38, 3) := by decide +kernel
theorem dX1_stepsOf_29 : decode cX1_stepsOf 29 = .ok (.areturn, 1) := by decide +kernel
theorem dX1_stepsOf_30 : decode cX1_stepsOf 30 = .ok (.iload_n 0, 1) := by decide +kernel
theorem dX1_stepsOf_31 : decode cX1_stepsOf 31 = .ok (.bipush 55, 2) := by decide +kernel
theorem dX1_stepsOf_33 : decode cX1_stepsOf 33 = .ok (.if_icmp .ne 9, 3) := by decide +kernel
theorem dX1_stepsOf_36 : decode cX1_stepsOf 36 = .ok (.getstatic 41, 3) := by decide +kernel
theorem dX1_stepsOf_39 : decode cX1_stepsOf 39 = .ok (.goto 6, 3) := by decide +kernel
theorem dX1_stepsOf_42 : decode cX1_stepsOf 42 = .ok (.getstatic 44, 3) := by decide +kernel
theorem dX1_stepsOf_45 : decode cX1_stepsOf 45 = .ok (.areturn, 1) := by decide +kernel
theorem dX1_degreeOf_0 : decode cX1_degreeOf 0 = .ok (.aload_n 0, 1) := by decide +kernel
theorem dX1_degreeOf_1 : decode cX1_degreeOf 1 = .ok (.getfield 9, 3) := by decide +kernel
theorem dX1_degreeOf_4 : decode cX1_degreeOf 4 = .ok (.ifCond .eq 9, 3) := by decide +kernel
theorem dX1_degreeOf_7 : decode cX1_degreeOf 7 = .ok (.getstatic 47, 3) := by decide +kernel
theorem dX1_degreeOf_10 : decode cX1_degreeOf 10 = .ok (.goto 6, 3) := by decide +kernel
theorem dX1_degreeOf_13 : decode cX1_degreeOf 13 = .ok (.getstatic 50, 3) := by decide +kernel
theorem dX1_degreeOf_16 : decode cX1_degreeOf 16 = .ok (.astore_n 2, 1) := by decide +kernel
theorem dX1_degreeOf_17 : decode cX1_degreeOf 17 = .ok (.iconst 0, 1) := by decide +kernel
theorem dX1_degreeOf_18 : decode cX1_degreeOf 18 = .ok (.istore_n 3, 1) := by decide +kernel
theorem dX1_degreeOf_19 : decode cX1_degreeOf 19 = .ok (.iload_n 3, 1) := by decide +kernel
theorem dX1_degreeOf_20 : decode cX1_degreeOf 20 = .ok (.aload_n 2, 1) := by decide +kernel
theorem dX1_degreeOf_21 : decode cX1_degreeOf 21 = .ok (.arraylength, 1) := by decide +kernel
theorem dX1_degreeOf_22 : decode cX1_degreeOf 22 = .ok (.if_icmp .ge 29, 3) := by decide +kernel
theorem dX1_degreeOf_25 : decode cX1_degreeOf 25 = .ok (.aload_n 0, 1) := by decide +kernel
theorem dX1_degreeOf_26 : decode cX1_degreeOf 26 = .ok (.getfield 25, 3) := by decide +kernel
theorem dX1_degreeOf_29 : decode cX1_degreeOf 29 = .ok (.aload_n 2, 1) := by decide +kernel
theorem dX1_degreeOf_30 : decode cX1_degreeOf 30 = .ok (.iload_n 3, 1) := by decide +kernel
theorem dX1_degreeOf_31 : decode cX1_degreeOf 31 = .ok (.iaload, 1) := by decide +kernel
theorem dX1_degreeOf_32 : decode cX1_degreeOf 32 = .ok (.iadd, 1) := by decide +kernel
theorem dX1_degreeOf_33 : decode cX1_degreeOf 33 = .ok (.bipush 12, 2) := by decide +kernel
theorem dX1_degreeOf_35 : decode cX1_degreeOf 35 = .ok (.irem, 1) := by decide +kernel
theorem dX1_degreeOf_36 : decode cX1_degreeOf 36 = .ok (.iload_n 1, 1) := by decide +kernel
theorem dX1_degreeOf_37 : decode cX1_degreeOf 37 = .ok (.bipush 12, 2) := by decide +kernel
theorem dX1_degreeOf_39 : decode cX1_degreeOf 39 = .ok (.irem, 1) := by decide +kernel
theorem dX1_degreeOf_40 : decode cX1_degreeOf 40 = .ok (.if_icmp .ne 5, 3) := by decide +kernel
theorem dX1_degreeOf_43 : decode cX1_degreeOf 43 = .ok (.iload_n 3, 1) := by decide +kernel
theorem dX1_degreeOf_44 : decode cX1_degreeOf 44 = .ok (.ireturn, 1) := by decide +kernel
theorem dX1_degreeOf_45 : decode cX1_degreeOf 45 = .ok (.iinc 3 1, 3) := by decide +kernel
theorem dX1_degreeOf_48 : decode cX1_degreeOf 48 = .ok (.goto (-29), 3) := by decide +kernel
theorem dX1_degreeOf_51 : decode cX1_degreeOf 51 = .ok (.iconst (-1), 1) := by decide +kernel
theorem dX1_degreeOf_52 : decode cX1_degreeOf 52 = .ok (.ireturn, 1) := by decide +kernel
theorem dX1_choose_0 : decode cX1_choose 0 = .ok (.aload_n 0, 1) := by decide +kernel
theorem dX1_choose_1 : decode cX1_choose 1 = .ok (.iload_n 1, 1) := by decide +kernel
theorem dX1_choose_2 : decode cX1_choose 2 = .ok (.invokevirtual 53, 3) := by decide +kernel
theorem dX1_choose_5 : decode cX1_choose 5 = .ok (.istore_n 3, 1) := by decide +kernel
theorem dX1_choose_6 : decode cX1_choose 6 = .ok (.aload_n 0, 1) := by decide +kernel
theorem dX1_choose_7 : decode cX1_choose 7 = .ok (.getfield 19, 3) := by decide +kernel
theorem dX1_choose_10 : decode cX1_choose 10 = .ok (.iconst 0, 1) := by decide +kernel
theorem dX1_choose_11 : decode cX1_choose 11 = .ok (.bipush 36, 2) := by decide +kernel
theorem dX1_choose_13 : decode cX1_choose 13 = .ok (.iload_n 1, 1) := by decide +kernel
theorem dX1_choose_14 : decode cX1_choose 14 = .ok (.iadd, 1) := by decide +kernel
theorem dX1_choose_15 : decode cX1_choose 15 = .ok (.iastore, 1) := by decide +kernel
theorem dX1_choose_16 : decode cX1_choose 16 = .ok (.aload_n 0, 1) := by decide +kernel
theorem dX1_choose_17 : decode cX1_choose 17 = .ok (.ldc 57, 2) := by decide +kernel
theorem dX1_choose_19 : decode cX1_choose 19 = .ok (.putfield 58, 3) := by decide +kernel
theorem dX1_choose_22 : decode cX1_choose 22 = .ok (.aload_n 0, 1) := by decide +kernel
theorem dX1_choose_23 : decode cX1_choose 23 = .ok (.ldc 57, 2) := by decide +kernel
theorem dX1_choose_25 : decode cX1_choose 25 = .ok (.putfield 61, 3) := by decide +kernel
theorem dX1_choose_28 : decode cX1_choose 28 = .ok (.bipush 12, 2) := by decide +kernel
theorem dX1_choose_30 : decode cX1_choose 30 = .ok (.istore 4, 2) := by decide +kernel
theorem dX1_choose_32 : decode cX1_choose 32 = .ok (.iload 4, 2) := by decide +kernel
theorem dX1_choose_34 : decode cX1_choose 34 = .ok (.bipush 48, 2) := by decide +kernel
theorem dX1_choose_36 : decode cX1_choose 36 = .ok (.if_icmp .gt 114, 3) := by decide +kernel
theorem dX1_choose_39 : decode cX1_choose 39 = .ok (.bipush 48, 2) := by decide +kernel
theorem dX1_choose_41 : decode cX1_choose 41 = .ok (.iload 4, 2) := by decide +kernel
theorem dX1_choose_43 : decode cX1_choose 43 = .ok (.bipush 12, 2) := by decide +kernel
theorem dX1_choose_45 : decode cX1_choose 45 = .ok (.iadd, 1) := by decide +kernel
theorem dX1_choose_46 : decode cX1_choose 46 = .ok (.invokestatic 64, 3) := by decide +kernel
theorem dX1_choose_49 : decode cX1_choose 49 = .ok (.istore 5, 2) := by decide +kernel
theorem dX1_choose_51 : decode cX1_choose 51 = .ok (.iload 4, 2) := by decide +kernel
theorem dX1_choose_53 : decode cX1_choose 53 = .ok (.iconst 1, 1) := by decide +kernel
theorem dX1_choose_54 : decode cX1_choose 54 = .ok (.iadd, 1) := by decide +kernel
theorem dX1_choose_55 : decode cX1_choose 55 = .ok (.istore 6, 2) := by decide +kernel
theorem dX1_choose_57 : decode cX1_choose 57 = .ok (.iload 6, 2) := by decide +kernel
theorem dX1_choose_59 : decode cX1_choose 59 = .ok (.iload 5, 2) := by decide +kernel
theorem dX1_choose_61 : decode cX1_choose 61 = .ok (.if_icmp .ge 83, 3) := by decide +kernel
theorem dX1_choose_64 : decode cX1_choose 64 = .ok (.aload_n 0, 1) := by decide +kernel
theorem dX1_choose_65 : decode cX1_choose 65 = .ok (.iload_n 3, 1) := by decide +kernel
theorem dX1_choose_66 : decode cX1_choose 66 = .ok (.aload_n 2, 1) := by decide +kernel
theorem dX1_choose_67 : decode cX1_choose 67 = .ok (.iload 4, 2) := by decide +kernel
theorem dX1_choose_69 : decode cX1_choose 69 = .ok (.invokevirtual 70, 3) := by decide +kernel
theorem dX1_choose_72 : decode cX1_choose 72 = .ok (.ifCond .eq 72, 3) := by decide +kernel
theorem dX1_choose_75 : decode cX1_choose 75 = .ok (.iload 6, 2) := by decide +kernel
theorem dX1_choose_77 : decode cX1_choose 77 = .ok (.iconst 1, 1) := by decide +kernel
theorem dX1_choose_78 : decode cX1_choose 78 = .ok (.iadd, 1) := by decide +kernel
theorem dX1_choose_79 : decode cX1_choose 79 = .ok (.istore 7, 2) := by decide +kernel
theorem dX1_choose_81 : decode cX1_choose 81 = .ok (.iload 7, 2) := by decide +kernel
theorem dX1_choose_83 : decode cX1_choose 83 = .ok (.iload 5, 2) := by decide +kernel
theorem dX1_choose_85 : decode cX1_choose 85 = .ok (.if_icmp .gt 53, 3) := by decide +kernel
theorem dX1_choose_88 : decode cX1_choose 88 = .ok (.aload_n 0, 1) := by decide +kernel
theorem dX1_choose_89 : decode cX1_choose 89 = .ok (.iload_n 3, 1) := by decide +kernel
theorem dX1_choose_90 : decode cX1_choose 90 = .ok (.aload_n 2, 1) := by decide +kernel
theorem dX1_choose_91 : decode cX1_choose 91 = .ok (.iload 6, 2) := by decide +kernel
theorem dX1_choose_93 : decode cX1_choose 93 = .ok (.invokevirtual 70, 3) := by decide +kernel
theorem dX1_choose_96 : decode cX1_choose 96 = .ok (.ifCond .eq 42, 3) := by decide +kernel
theorem dX1_choose_99 : decode cX1_choose 99 = .ok (.aload_n 0, 1) := by decide +kernel
theorem dX1_choose_100 : decode cX1_choose 100 = .ok (.iload_n 3, 1) := by decide +kernel
theorem dX1_choose_101 : decode cX1_choose 101 = .ok (.aload_n 2, 1) := by decide +kernel
theorem dX1_choose_102 : decode cX1_choose 102 = .ok (.iload 7, 2) := by decide +kernel
theorem dX1_choose_104 : decode cX1_choose 104 = .ok (.invokevirtual 70, 3) := by decide +kernel
theorem dX1_choose_107 : decode cX1_choose 107 = .ok (.ifCond .eq 25, 3) := by decide +kernel
theorem dX1_choose_110 : decode cX1_choose 110 = .ok (.iload 4, 2) := by decide +kernel
theorem dX1_choose_112 : decode cX1_choose 112 = .ok (.iload 6, 2) := by decide +kernel
theorem dX1_choose_114 : decode cX1_choose 114 = .ok (.iload 7, 2) := by decide +kernel
theorem dX1_choose_116 : decode cX1_choose 116 = .ok (.invokestatic 74, 3) := by decide +kernel
theorem dX1_choose_119 : decode cX1_choose 119 = .ok (.ifCond .eq 13, 3) := by decide +kernel
theorem dX1_choose_122 : decode cX1_choose 122 = .ok (.aload_n 0, 1) := by decide +kernel
theorem dX1_choose_123 : decode cX1_choose 123 = .ok (.iload 4, 2) := by decide +kernel
theorem dX1_choose_125 : decode cX1_choose 125 = .ok (.iload 6, 2) := by decide +kernel
theorem dX1_choose_127 : decode cX1_choose 127 = .ok (.iload 7, 2) := by decide +kernel
theorem dX1_choose_129 : decode cX1_choose 129 = .ok (.invokevirtual 78, 3) := by decide +kernel
theorem dX1_choose_132 : decode cX1_choose 132 = .ok (.iinc 7 1, 3) := by decide +kernel
theorem dX1_choose_135 : decode cX1_choose 135 = .ok (.goto (-54), 3) := by decide +kernel
theorem dX1_choose_138 : decode cX1_choose 138 = .ok (.iinc 6 1, 3) := by decide +kernel
theorem dX1_choose_141 : decode cX1_choose 141 = .ok (.goto (-84), 3) := by decide +kernel
theorem dX1_choose_144 : decode cX1_choose 144 = .ok (.iinc 4 1, 3) := by decide +kernel
theorem dX1_choose_147 : decode cX1_choose 147 = .ok (.goto (-115), 3) := by decide +kernel
theorem dX1_choose_150 : decode cX1_choose 150 = .ok (.aload_n 0, 1) := by decide +kernel
theorem dX1_choose_151 : decode cX1_choose 151 = .ok (.getfield 22, 3) := by decide +kernel
theorem dX1_choose_154 : decode cX1_choose 154 = .ok (.iconst 0, 1) := by decide +kernel
theorem dX1_choose_155 : decode cX1_choose 155 = .ok (.aload_n 0, 1) := by decide +kernel
theorem dX1_choose_156 : decode cX1_choose 156 = .ok (.getfield 15, 3) := by decide +kernel
theorem dX1_choose_159 : decode cX1_choose 159 = .ok (.iconst 0, 1) := by decide +kernel
theorem dX1_choose_160 : decode cX1_choose 160 = .ok (.iconst 4, 1) := by decide +kernel
theorem dX1_choose_161 : decode cX1_choose 161 = .ok (.invokestatic 82, 3) := by decide +kernel
theorem dX1_choose_164 : decode cX1_choose 164 = .ok (.aload_n 0, 1) := by decide +kernel
theorem dX1_choose_165 : decode cX1_choose 165 = .ok (.iconst 1, 1) := by decide +kernel
theorem dX1_choose_166 : decode cX1_choose 166 = .ok (.putfield 29, 3) := by decide +kernel
theorem dX1_choose_169 : decode cX1_choose 169 = .ok (.aload_n 0, 1) := by decide +kernel
theorem dX1_choose_170 : decode cX1_choose 170 = .ok (.getfield 58, 3) := by decide +kernel
theorem dX1_choose_173 : decode cX1_choose 173 = .ok (.ireturn, 1) := by decide +kernel
theorem dX1_asks_0 : decode cX1_asks 0 = .ok (.aload_n 0, 1) := by decide +kernel
theorem dX1_asks_1 : decode cX1_asks 1 = .ok (.iload_n 3, 1) := by decide +kernel
theorem dX1_asks_2 : decode cX1_asks 2 = .ok (.invokevirtual 53, 3) := by decide +kernel
theorem dX1_asks_5 : decode cX1_asks 5 = .ok (.istore 4, 2) := by decide +kernel
theorem dX1_asks_7 : decode cX1_asks 7 = .ok (.iload 4, 2) := by decide +kernel
theorem dX1_asks_9 : decode cX1_asks 9 = .ok (.ifCond .ge 5, 3) := by decide +kernel
theorem dX1_asks_12 : decode cX1_asks 12 = .ok (.iconst 0, 1) := by decide +kernel
theorem dX1_asks_13 : decode cX1_asks 13 = .ok (.ireturn, 1) := by decide +kernel
theorem dX1_asks_14 : decode cX1_asks 14 = .ok (.aload_n 2, 1) := by decide +kernel
theorem dX1_asks_15 : decode cX1_asks 15 = .ok (.astore 5, 2) := by decide +kernel
theorem dX1_asks_17 : decode cX1_asks 17 = .ok (.aload 5, 2) := by decide +kernel
theorem dX1_asks_19 : decode cX1_asks 19 = .ok (.arraylength, 1) := by decide +kernel
theorem dX1_asks_20 : decode cX1_asks 20 = .ok (.istore 6, 2) := by decide +kernel
theorem dX1_asks_22 : decode cX1_asks 22 = .ok (.iconst 0, 1) := by decide +kernel
theorem dX1_asks_23 : decode cX1_asks 23 = .ok (.istore 7, 2) := by decide +kernel
theorem dX1_asks_25 : decode cX1_asks 25 = .ok (.iload 7, 2) := by decide +kernel
theorem dX1_asks_27 : decode cX1_asks 27 = .ok (.iload 6, 2) := by decide +kernel
theorem dX1_asks_29 : decode cX1_asks 29 = .ok (.if_icmp .ge 32, 3) := by decide +kernel
theorem dX1_asks_32 : decode cX1_asks 32 = .ok (.aload 5, 2) := by decide +kernel
theorem dX1_asks_34 : decode cX1_asks 34 = .ok (.iload 7, 2) := by decide +kernel
theorem dX1_asks_36 : decode cX1_asks 36 = .ok (.iaload, 1) := by decide +kernel
theorem dX1_asks_37 : decode cX1_asks 37 = .ok (.istore 8, 2) := by decide +kernel
theorem dX1_asks_39 : decode cX1_asks 39 = .ok (.iload_n 1, 1) := by decide +kernel
theorem dX1_asks_40 : decode cX1_asks 40 = .ok (.iload 8, 2) := by decide +kernel
theorem dX1_asks_42 : decode cX1_asks 42 = .ok (.iadd, 1) := by decide +kernel
theorem dX1_asks_43 : decode cX1_asks 43 = .ok (.getstatic 47, 3) := by decide +kernel
theorem dX1_asks_46 : decode cX1_asks 46 = .ok (.arraylength, 1) := by decide +kernel
theorem dX1_asks_47 : decode cX1_asks 47 = .ok (.irem, 1) := by decide +kernel
theorem dX1_asks_48 : decode cX1_asks 48 = .ok (.iload 4, 2) := by decide +kernel
theorem dX1_asks_50 : decode cX1_asks 50 = .ok (.if_icmp .ne 5, 3) := by decide +kernel
theorem dX1_asks_53 : decode cX1_asks 53 = .ok (.iconst 1, 1) := by decide +kernel
theorem dX1_asks_54 : decode cX1_asks 54 = .ok (.ireturn, 1) := by decide +kernel
theorem dX1_asks_55 : decode cX1_asks 55 = .ok (.iinc 7 1, 3) := by decide +kernel
theorem dX1_asks_58 : decode cX1_asks 58 = .ok (.goto (-33), 3) := by decide +kernel
theorem dX1_asks_61 : decode cX1_asks 61 = .ok (.iconst 0, 1) := by decide +kernel
theorem dX1_asks_62 : decode cX1_asks 62 = .ok (.ireturn, 1) := by decide +kernel
theorem dX1_areApart_0 : decode cX1_areApart 0 = .ok (.iload_n 1, 1) := by decide +kernel
theorem dX1_areApart_1 : decode cX1_areApart 1 = .ok (.iload_n 0, 1) := by decide +kernel
theorem dX1_areApart_2 : decode cX1_areApart 2 = .ok (.isub, 1) := by decide +kernel
theorem dX1_areApart_3 : decode cX1_areApart 3 = .ok (.bipush 12, 2) := by decide +kernel
theorem dX1_areApart_5 : decode cX1_areApart 5 = .ok (.irem, 1) := by decide +kernel
theorem dX1_areApart_6 : decode cX1_areApart 6 = .ok (.ifCond .eq 25, 3) := by decide +kernel
theorem dX1_areApart_9 : decode cX1_areApart 9 = .ok (.iload_n 2, 1) := by decide +kernel
theorem dX1_areApart_10 : decode cX1_areApart 10 = .ok (.iload_n 1, 1) := by decide +kernel
theorem dX1_areApart_11 : decode cX1_areApart 11 = .ok (.isub, 1) := by decide +kernel
theorem dX1_areApart_12 : decode cX1_areApart 12 = .ok (.bipush 12, 2) := by decide +kernel
theorem dX1_areApart_14 : decode cX1_areApart 14 = .ok (.irem, 1) := by decide +kernel
theorem dX1_areApart_15 : decode cX1_areApart 15 = .ok (.ifCond .eq 16, 3) := by decide +kernel
theorem dX1_areApart_18 : decode cX1_areApart 18 = .ok (.iload_n 2, 1) := by decide +kernel
theorem dX1_areApart_19 : decode cX1_areApart 19 = .ok (.iload_n 0, 1) := by decide +kernel
theorem dX1_areApart_20 : decode cX1_areApart 20 = .ok (.isub, 1) := by decide +kernel
theorem dX1_areApart_21 : decode cX1_areApart 21 = .ok (.bipush 12, 2) := by decide +kernel
theorem dX1_areApart_23 : decode cX1_areApart 23 = .ok (.irem, 1) := by decide +kernel
theorem dX1_areApart_24 : decode cX1_areApart 24 = .ok (.ifCond .eq 7, 3) := by decide +kernel
theorem dX1_areApart_27 : decode cX1_areApart 27 = .ok (.iconst 1, 1) := by decide +kernel
theorem dX1_areApart_28 : decode cX1_areApart 28 = .ok (.goto 4, 3) := by decide +kernel
theorem dX1_areApart_31 : decode cX1_areApart 31 = .ok (.iconst 0, 1) := by decide +kernel
theorem dX1_areApart_32 : decode cX1_areApart 32 = .ok (.ireturn, 1) := by decide +kernel
theorem dX1_weigh_0 : decode cX1_weigh 0 = .ok (.aload_n 0, 1) := by decide +kernel
theorem dX1_weigh_1 : decode cX1_weigh 1 = .ok (.getfield 19, 3) := by decide +kernel
theorem dX1_weigh_4 : decode cX1_weigh 4 = .ok (.iconst 1, 1) := by decide +kernel
theorem dX1_weigh_5 : decode cX1_weigh 5 = .ok (.bipush 36, 2) := by decide +kernel
theorem dX1_weigh_7 : decode cX1_weigh 7 = .ok (.iload_n 1, 1) := by decide +kernel
theorem dX1_weigh_8 : decode cX1_weigh 8 = .ok (.iadd, 1) := by decide +kernel
theorem dX1_weigh_9 : decode cX1_weigh 9 = .ok (.iastore, 1) := by decide +kernel
theorem dX1_weigh_10 : decode cX1_weigh 10 = .ok (.aload_n 0, 1) := by decide +kernel
theorem dX1_weigh_11 : decode cX1_weigh 11 = .ok (.getfield 19, 3) := by decide +kernel
theorem dX1_weigh_14 : decode cX1_weigh 14 = .ok (.iconst 2, 1) := by decide +kernel
theorem dX1_weigh_15 : decode cX1_weigh 15 = .ok (.bipush 36, 2) := by decide +kernel
theorem dX1_weigh_17 : decode cX1_weigh 17 = .ok (.iload_n 2, 1) := by decide +kernel
theorem dX1_weigh_18 : decode cX1_weigh 18 = .ok (.iadd, 1) := by decide +kernel
theorem dX1_weigh_19 : decode cX1_weigh 19 = .ok (.iastore, 1) := by decide +kernel
theorem dX1_weigh_20 : decode cX1_weigh 20 = .ok (.aload_n 0, 1) := by decide +kernel
theorem dX1_weigh_21 : decode cX1_weigh 21 = .ok (.getfield 19, 3) := by decide +kernel
theorem dX1_weigh_24 : decode cX1_weigh 24 = .ok (.iconst 3, 1) := by decide +kernel
theorem dX1_weigh_25 : decode cX1_weigh 25 = .ok (.bipush 36, 2) := by decide +kernel
theorem dX1_weigh_27 : decode cX1_weigh 27 = .ok (.iload_n 3, 1) := by decide +kernel
theorem dX1_weigh_28 : decode cX1_weigh 28 = .ok (.iadd, 1) := by decide +kernel
theorem dX1_weigh_29 : decode cX1_weigh 29 = .ok (.iastore, 1) := by decide +kernel
theorem dX1_weigh_30 : decode cX1_weigh 30 = .ok (.aload_n 0, 1) := by decide +kernel
theorem dX1_weigh_31 : decode cX1_weigh 31 = .ok (.invokevirtual 88, 3) := by decide +kernel
theorem dX1_weigh_34 : decode cX1_weigh 34 = .ok (.istore 4, 2) := by decide +kernel
theorem dX1_weigh_36 : decode cX1_weigh 36 = .ok (.aload_n 0, 1) := by decide +kernel
theorem dX1_weigh_37 : decode cX1_weigh 37 = .ok (.iload_n 1, 1) := by decide +kernel
theorem dX1_weigh_38 : decode cX1_weigh 38 = .ok (.iconst 1, 1) := by decide +kernel
theorem dX1_weigh_39 : decode cX1_weigh 39 = .ok (.bipush 24, 2) := by decide +kernel
theorem dX1_weigh_41 : decode cX1_weigh 41 = .ok (.invokevirtual 92, 3) := by decide +kernel
theorem dX1_weigh_44 : decode cX1_weigh 44 = .ok (.aload_n 0, 1) := by decide +kernel
theorem dX1_weigh_45 : decode cX1_weigh 45 = .ok (.iload_n 2, 1) := by decide +kernel
theorem dX1_weigh_46 : decode cX1_weigh 46 = .ok (.iconst 2, 1) := by decide +kernel
theorem dX1_weigh_47 : decode cX1_weigh 47 = .ok (.bipush 28, 2) := by decide +kernel
theorem dX1_weigh_49 : decode cX1_weigh 49 = .ok (.invokevirtual 92, 3) := by decide +kernel
theorem dX1_weigh_52 : decode cX1_weigh 52 = .ok (.iadd, 1) := by decide +kernel
theorem dX1_weigh_53 : decode cX1_weigh 53 = .ok (.aload_n 0, 1) := by decide +kernel
theorem dX1_weigh_54 : decode cX1_weigh 54 = .ok (.iload_n 3, 1) := by decide +kernel
theorem dX1_weigh_55 : decode cX1_weigh 55 = .ok (.iconst 3, 1) := by decide +kernel
theorem dX1_weigh_56 : decode cX1_weigh 56 = .ok (.bipush 31, 2) := by decide +kernel
theorem dX1_weigh_58 : decode cX1_weigh 58 = .ok (.invokevirtual 92, 3) := by decide +kernel
theorem dX1_weigh_61 : decode cX1_weigh 61 = .ok (.iadd, 1) := by decide +kernel
theorem dX1_weigh_62 : decode cX1_weigh 62 = .ok (.istore 5, 2) := by decide +kernel
theorem dX1_weigh_64 : decode cX1_weigh 64 = .ok (.iload 4, 2) := by decide +kernel
theorem dX1_weigh_66 : decode cX1_weigh 66 = .ok (.aload_n 0, 1) := by decide +kernel
theorem dX1_weigh_67 : decode cX1_weigh 67 = .ok (.getfield 58, 3) := by decide +kernel
theorem dX1_weigh_70 : decode cX1_weigh 70 = .ok (.if_icmp .lt 21, 3) := by decide +kernel
theorem dX1_weigh_73 : decode cX1_weigh 73 = .ok (.iload 4, 2) := by decide +kernel
theorem dX1_weigh_75 : decode cX1_weigh 75 = .ok (.aload_n 0, 1) := by decide +kernel
theorem dX1_weigh_76 : decode cX1_weigh 76 = .ok (.getfield 58, 3) := by decide +kernel
theorem dX1_weigh_79 : decode cX1_weigh 79 = .ok (.if_icmp .ne 38, 3) := by decide +kernel
theorem dX1_weigh_82 : decode cX1_weigh 82 = .ok (.iload 5, 2) := by decide +kernel
theorem dX1_weigh_84 : decode cX1_weigh 84 = .ok (.aload_n 0, 1) := by decide +kernel
theorem dX1_weigh_85 : decode cX1_weigh 85 = .ok (.getfield 61, 3) := by decide +kernel
theorem dX1_weigh_88 : decode cX1_weigh 88 = .ok (.if_icmp .ge 29, 3) := by decide +kernel
theorem dX1_weigh_91 : decode cX1_weigh 91 = .ok (.aload_n 0, 1) := by decide +kernel
theorem dX1_weigh_92 : decode cX1_weigh 92 = .ok (.iload 4, 2) := by decide +kernel
theorem dX1_weigh_94 : decode cX1_weigh 94 = .ok (.putfield 58, 3) := by decide +kernel
theorem dX1_weigh_97 : decode cX1_weigh 97 = .ok (.aload_n 0, 1) := by decide +kernel
theorem dX1_weigh_98 : decode cX1_weigh 98 = .ok (.iload 5, 2) := by decide +kernel
theorem dX1_weigh_100 : decode cX1_weigh 100 = .ok (.putfield 61, 3) := by decide +kernel
theorem dX1_weigh_103 : decode cX1_weigh 103 = .ok (.aload_n 0, 1) := by decide +kernel
theorem dX1_weigh_104 : decode cX1_weigh 104 = .ok (.getfield 19, 3) := by decide +kernel
theorem dX1_weigh_107 : decode cX1_weigh 107 = .ok (.iconst 0, 1) := by decide +kernel
theorem dX1_weigh_108 : decode cX1_weigh 108 = .ok (.aload_n 0, 1) := by decide +kernel
theorem dX1_weigh_109 : decode cX1_weigh 109 = .ok (.getfield 22, 3) := by decide +kernel
theorem dX1_weigh_112 : decode cX1_weigh 112 = .ok (.iconst 0, 1) := by decide +kernel
theorem dX1_weigh_113 : decode cX1_weigh 113 = .ok (.iconst 4, 1) := by decide +kernel
theorem dX1_weigh_114 : decode cX1_weigh 114 = .ok (.invokestatic 82, 3) := by decide +kernel
theorem dX1_weigh_117 : decode cX1_weigh 117 = .ok (.return_, 1) := by decide +kernel
theorem dX1_way_0 : decode cX1_way 0 = .ok (.iload_n 1, 1) := by decide +kernel
theorem dX1_way_1 : decode cX1_way 1 = .ok (.aload_n 0, 1) := by decide +kernel
theorem dX1_way_2 : decode cX1_way 2 = .ok (.getfield 29, 3) := by decide +kernel
theorem dX1_way_5 : decode cX1_way 5 = .ok (.ifCond .eq 11, 3) := by decide +kernel
theorem dX1_way_8 : decode cX1_way 8 = .ok (.aload_n 0, 1) := by decide +kernel
theorem dX1_way_9 : decode cX1_way 9 = .ok (.iload_n 2, 1) := by decide +kernel
theorem dX1_way_10 : decode cX1_way 10 = .ok (.invokevirtual 96, 3) := by decide +kernel
theorem dX1_way_13 : decode cX1_way 13 = .ok (.goto 4, 3) := by decide +kernel
theorem dX1_way_16 : decode cX1_way 16 = .ok (.iload_n 3, 1) := by decide +kernel
theorem dX1_way_17 : decode cX1_way 17 = .ok (.isub, 1) := by decide +kernel
theorem dX1_way_18 : decode cX1_way 18 = .ok (.invokestatic 99, 3) := by decide +kernel
theorem dX1_way_21 : decode cX1_way 21 = .ok (.ireturn, 1) := by decide +kernel
theorem dX1_badSteps_0 : decode cX1_badSteps 0 = .ok (.iconst 0, 1) := by decide +kernel
theorem dX1_badSteps_1 : decode cX1_badSteps 1 = .ok (.istore_n 1, 1) := by decide +kernel
theorem dX1_badSteps_2 : decode cX1_badSteps 2 = .ok (.iconst 0, 1) := by decide +kernel
theorem dX1_badSteps_3 : decode cX1_badSteps 3 = .ok (.istore_n 2, 1) := by decide +kernel
theorem dX1_badSteps_4 : decode cX1_badSteps 4 = .ok (.aload_n 0, 1) := by decide +kernel
theorem dX1_badSteps_5 : decode cX1_badSteps 5 = .ok (.getfield 29, 3) := by decide +kernel
theorem dX1_badSteps_8 : decode cX1_badSteps 8 = .ok (.ifCond .eq 46, 3) := by decide +kernel
theorem dX1_badSteps_11 : decode cX1_badSteps 11 = .ok (.iload_n 2, 1) := by decide +kernel
theorem dX1_badSteps_12 : decode cX1_badSteps 12 = .ok (.iconst 4, 1) := by decide +kernel
theorem dX1_badSteps_13 : decode cX1_badSteps 13 = .ok (.if_icmp .ge 41, 3) := by decide +kernel
theorem dX1_badSteps_16 : decode cX1_badSteps 16 = .ok (.iload_n 2, 1) := by decide +kernel
theorem dX1_badSteps_17 : decode cX1_badSteps 17 = .ok (.iconst 1, 1) := by decide +kernel
theorem dX1_badSteps_18 : decode cX1_badSteps 18 = .ok (.iadd, 1) := by decide +kernel
theorem dX1_badSteps_19 : decode cX1_badSteps 19 = .ok (.istore_n 3, 1) := by decide +kernel
theorem dX1_badSteps_20 : decode cX1_badSteps 20 = .ok (.iload_n 3, 1) := by decide +kernel
theorem dX1_badSteps_21 : decode cX1_badSteps 21 = .ok (.iconst 4, 1) := by decide +kernel
theorem dX1_badSteps_22 : decode cX1_badSteps 22 = .ok (.if_icmp .ge 26, 3) := by decide +kernel
theorem dX1_badSteps_25 : decode cX1_badSteps 25 = .ok (.iload_n 1, 1) := by decide +kernel
theorem dX1_badSteps_26 : decode cX1_badSteps 26 = .ok (.aload_n 0, 1) := by decide +kernel
theorem dX1_badSteps_27 : decode cX1_badSteps 27 = .ok (.iload_n 2, 1) := by decide +kernel
theorem dX1_badSteps_28 : decode cX1_badSteps 28 = .ok (.iload_n 3, 1) := by decide +kernel
theorem dX1_badSteps_29 : decode cX1_badSteps 29 = .ok (.invokevirtual 102, 3) := by decide +kernel
theorem dX1_badSteps_32 : decode cX1_badSteps 32 = .ok (.ifCond .eq 7, 3) := by decide +kernel
theorem dX1_badSteps_35 : decode cX1_badSteps 35 = .ok (.iconst 1, 1) := by decide +kernel
theorem dX1_badSteps_36 : decode cX1_badSteps 36 = .ok (.goto 4, 3) := by decide +kernel
theorem dX1_badSteps_39 : decode cX1_badSteps 39 = .ok (.iconst 0, 1) := by decide +kernel
theorem dX1_badSteps_40 : decode cX1_badSteps 40 = .ok (.iadd, 1) := by decide +kernel
theorem dX1_badSteps_41 : decode cX1_badSteps 41 = .ok (.istore_n 1, 1) := by decide +kernel
theorem dX1_badSteps_42 : decode cX1_badSteps 42 = .ok (.iinc 3 1, 3) := by decide +kernel
theorem dX1_badSteps_45 : decode cX1_badSteps 45 = .ok (.goto (-25), 3) := by decide +kernel
theorem dX1_badSteps_48 : decode cX1_badSteps 48 = .ok (.iinc 2 1, 3) := by decide +kernel
theorem dX1_badSteps_51 : decode cX1_badSteps 51 = .ok (.goto (-47), 3) := by decide +kernel
theorem dX1_badSteps_54 : decode cX1_badSteps 54 = .ok (.iload_n 1, 1) := by decide +kernel
theorem dX1_badSteps_55 : decode cX1_badSteps 55 = .ok (.ireturn, 1) := by decide +kernel
theorem dX1_isBadStep_0 : decode cX1_isBadStep 0 = .ok (.aload_n 0, 1) := by decide +kernel
theorem dX1_isBadStep_1 : decode cX1_isBadStep 1 = .ok (.getfield 15, 3) := by decide +kernel
theorem dX1_isBadStep_4 : decode cX1_isBadStep 4 = .ok (.iload_n 1, 1) := by decide +kernel
theorem dX1_isBadStep_5 : decode cX1_isBadStep 5 = .ok (.iaload, 1) := by decide +kernel
theorem dX1_isBadStep_6 : decode cX1_isBadStep 6 = .ok (.aload_n 0, 1) := by decide +kernel
theorem dX1_isBadStep_7 : decode cX1_isBadStep 7 = .ok (.getfield 15, 3) := by decide +kernel
theorem dX1_isBadStep_10 : decode cX1_isBadStep 10 = .ok (.iload_n 2, 1) := by decide +kernel
theorem dX1_isBadStep_11 : decode cX1_isBadStep 11 = .ok (.iaload, 1) := by decide +kernel
theorem dX1_isBadStep_12 : decode cX1_isBadStep 12 = .ok (.isub, 1) := by decide +kernel
theorem dX1_isBadStep_13 : decode cX1_isBadStep 13 = .ok (.invokestatic 99, 3) := by decide +kernel
theorem dX1_isBadStep_16 : decode cX1_isBadStep 16 = .ok (.istore_n 3, 1) := by decide +kernel
theorem dX1_isBadStep_17 : decode cX1_isBadStep 17 = .ok (.aload_n 0, 1) := by decide +kernel
theorem dX1_isBadStep_18 : decode cX1_isBadStep 18 = .ok (.getfield 19, 3) := by decide +kernel
theorem dX1_isBadStep_21 : decode cX1_isBadStep 21 = .ok (.iload_n 1, 1) := by decide +kernel
theorem dX1_isBadStep_22 : decode cX1_isBadStep 22 = .ok (.iaload, 1) := by decide +kernel
theorem dX1_isBadStep_23 : decode cX1_isBadStep 23 = .ok (.aload_n 0, 1) := by decide +kernel
theorem dX1_isBadStep_24 : decode cX1_isBadStep 24 = .ok (.getfield 19, 3) := by decide +kernel
theorem dX1_isBadStep_27 : decode cX1_isBadStep 27 = .ok (.iload_n 2, 1) := by decide +kernel
theorem dX1_isBadStep_28 : decode cX1_isBadStep 28 = .ok (.iaload, 1) := by decide +kernel
theorem dX1_isBadStep_29 : decode cX1_isBadStep 29 = .ok (.isub, 1) := by decide +kernel
theorem dX1_isBadStep_30 : decode cX1_isBadStep 30 = .ok (.invokestatic 99, 3) := by decide +kernel
theorem dX1_isBadStep_33 : decode cX1_isBadStep 33 = .ok (.istore 4, 2) := by decide +kernel
theorem dX1_isBadStep_35 : decode cX1_isBadStep 35 = .ok (.iload_n 3, 1) := by decide +kernel
theorem dX1_isBadStep_36 : decode cX1_isBadStep 36 = .ok (.bipush 12, 2) := by decide +kernel
theorem dX1_isBadStep_38 : decode cX1_isBadStep 38 = .ok (.irem, 1) := by decide +kernel
theorem dX1_isBadStep_39 : decode cX1_isBadStep 39 = .ok (.bipush 7, 2) := by decide +kernel
theorem dX1_isBadStep_41 : decode cX1_isBadStep 41 = .ok (.if_icmp .eq 14, 3) := by decide +kernel
theorem dX1_isBadStep_44 : decode cX1_isBadStep 44 = .ok (.iload_n 3, 1) := by decide +kernel
theorem dX1_isBadStep_45 : decode cX1_isBadStep 45 = .ok (.ifCond .le 14, 3) := by decide +kernel
theorem dX1_isBadStep_48 : decode cX1_isBadStep 48 = .ok (.iload_n 3, 1) := by decide +kernel
theorem dX1_isBadStep_49 : decode cX1_isBadStep 49 = .ok (.bipush 12, 2) := by decide +kernel
theorem dX1_isBadStep_51 : decode cX1_isBadStep 51 = .ok (.irem, 1) := by decide +kernel
theorem dX1_isBadStep_52 : decode cX1_isBadStep 52 = .ok (.ifCond .ne 7, 3) := by decide +kernel
theorem dX1_isBadStep_55 : decode cX1_isBadStep 55 = .ok (.iconst 1, 1) := by decide +kernel
theorem dX1_isBadStep_56 : decode cX1_isBadStep 56 = .ok (.goto 4, 3) := by decide +kernel
theorem dX1_isBadStep_59 : decode cX1_isBadStep 59 = .ok (.iconst 0, 1) := by decide +kernel
theorem dX1_isBadStep_60 : decode cX1_isBadStep 60 = .ok (.istore 5, 2) := by decide +kernel
theorem dX1_isBadStep_62 : decode cX1_isBadStep 62 = .ok (.iload 4, 2) := by decide +kernel
theorem dX1_isBadStep_64 : decode cX1_isBadStep 64 = .ok (.ifCond .le 19, 3) := by decide +kernel
theorem dX1_isBadStep_67 : decode cX1_isBadStep 67 = .ok (.iload 4, 2) := by decide +kernel
theorem dX1_isBadStep_69 : decode cX1_isBadStep 69 = .ok (.bipush 12, 2) := by decide +kernel
theorem dX1_isBadStep_71 : decode cX1_isBadStep 71 = .ok (.irem, 1) := by decide +kernel
theorem dX1_isBadStep_72 : decode cX1_isBadStep 72 = .ok (.iload_n 3, 1) := by decide +kernel
theorem dX1_isBadStep_73 : decode cX1_isBadStep 73 = .ok (.bipush 12, 2) := by decide +kernel
theorem dX1_isBadStep_75 : decode cX1_isBadStep 75 = .ok (.irem, 1) := by decide +kernel
theorem dX1_isBadStep_76 : decode cX1_isBadStep 76 = .ok (.if_icmp .ne 7, 3) := by decide +kernel
theorem dX1_isBadStep_79 : decode cX1_isBadStep 79 = .ok (.iconst 1, 1) := by decide +kernel
theorem dX1_isBadStep_80 : decode cX1_isBadStep 80 = .ok (.goto 4, 3) := by decide +kernel
theorem dX1_isBadStep_83 : decode cX1_isBadStep 83 = .ok (.iconst 0, 1) := by decide +kernel
theorem dX1_isBadStep_84 : decode cX1_isBadStep 84 = .ok (.istore 6, 2) := by decide +kernel
theorem dX1_isBadStep_86 : decode cX1_isBadStep 86 = .ok (.iload 5, 2) := by decide +kernel
theorem dX1_isBadStep_88 : decode cX1_isBadStep 88 = .ok (.ifCond .eq 42, 3) := by decide +kernel
theorem dX1_isBadStep_91 : decode cX1_isBadStep 91 = .ok (.iload 6, 2) := by decide +kernel
theorem dX1_isBadStep_93 : decode cX1_isBadStep 93 = .ok (.ifCond .eq 37, 3) := by decide +kernel
theorem dX1_isBadStep_96 : decode cX1_isBadStep 96 = .ok (.aload_n 0, 1) := by decide +kernel
theorem dX1_isBadStep_97 : decode cX1_isBadStep 97 = .ok (.getfield 19, 3) := by decide +kernel
theorem dX1_isBadStep_100 : decode cX1_isBadStep 100 = .ok (.iload_n 1, 1) := by decide +kernel
theorem dX1_isBadStep_101 : decode cX1_isBadStep 101 = .ok (.iaload, 1) := by decide +kernel
theorem dX1_isBadStep_102 : decode cX1_isBadStep 102 = .ok (.aload_n 0, 1) := by decide +kernel
theorem dX1_isBadStep_103 : decode cX1_isBadStep 103 = .ok (.getfield 15, 3) := by decide +kernel
theorem dX1_isBadStep_106 : decode cX1_isBadStep 106 = .ok (.iload_n 1, 1) := by decide +kernel
theorem dX1_isBadStep_107 : decode cX1_isBadStep 107 = .ok (.iaload, 1) := by decide +kernel
theorem dX1_isBadStep_108 : decode cX1_isBadStep 108 = .ok (.if_icmp .eq 22, 3) := by decide +kernel
theorem dX1_isBadStep_111 : decode cX1_isBadStep 111 = .ok (.aload_n 0, 1) := by decide +kernel
theorem dX1_isBadStep_112 : decode cX1_isBadStep 112 = .ok (.getfield 19, 3) := by decide +kernel
theorem dX1_isBadStep_115 : decode cX1_isBadStep 115 = .ok (.iload_n 2, 1) := by decide +kernel
theorem dX1_isBadStep_116 : decode cX1_isBadStep 116 = .ok (.iaload, 1) := by decide +kernel
theorem dX1_isBadStep_117 : decode cX1_isBadStep 117 = .ok (.aload_n 0, 1) := by decide +kernel
theorem dX1_isBadStep_118 : decode cX1_isBadStep 118 = .ok (.getfield 15, 3) := by decide +kernel
theorem dX1_isBadStep_121 : decode cX1_isBadStep 121 = .ok (.iload_n 2, 1) := by decide +kernel
theorem dX1_isBadStep_122 : decode cX1_isBadStep 122 = .ok (.iaload, 1) := by decide +kernel
theorem dX1_isBadStep_123 : decode cX1_isBadStep 123 = .ok (.if_icmp .eq 7, 3) := by decide +kernel
theorem dX1_isBadStep_126 : decode cX1_isBadStep 126 = .ok (.iconst 1, 1) := by decide +kernel
theorem dX1_isBadStep_127 : decode cX1_isBadStep 127 = .ok (.goto 4, 3) := by decide +kernel
theorem dX1_isBadStep_130 : decode cX1_isBadStep 130 = .ok (.iconst 0, 1) := by decide +kernel
theorem dX1_isBadStep_131 : decode cX1_isBadStep 131 = .ok (.ireturn, 1) := by decide +kernel
theorem dX1_keyOf_0 : decode cX1_keyOf 0 = .ok (.iload_n 1, 1) := by decide +kernel
theorem dX1_keyOf_1 : decode cX1_keyOf 1 = .ok (.ifCond .lt 8, 3) := by decide +kernel
theorem dX1_keyOf_4 : decode cX1_keyOf 4 = .ok (.iload_n 1, 1) := by decide +kernel
theorem dX1_keyOf_5 : decode cX1_keyOf 5 = .ok (.iconst 4, 1) := by decide +kernel
theorem dX1_keyOf_6 : decode cX1_keyOf 6 = .ok (.if_icmp .lt 7, 3) := by decide +kernel
theorem dX1_keyOf_9 : decode cX1_keyOf 9 = .ok (.iconst (-1), 1) := by decide +kernel
theorem dX1_keyOf_10 : decode cX1_keyOf 10 = .ok (.goto 12, 3) := by decide +kernel
theorem dX1_keyOf_13 : decode cX1_keyOf 13 = .ok (.aload_n 0, 1) := by decide +kernel
theorem dX1_keyOf_14 : decode cX1_keyOf 14 = .ok (.getfield 15, 3) := by decide +kernel
theorem dX1_keyOf_17 : decode cX1_keyOf 17 = .ok (.iload_n 1, 1) := by decide +kernel
theorem dX1_keyOf_18 : decode cX1_keyOf 18 = .ok (.iaload, 1) := by decide +kernel
theorem dX1_keyOf_19 : decode cX1_keyOf 19 = .ok (.bipush 36, 2) := by decide +kernel
theorem dX1_keyOf_21 : decode cX1_keyOf 21 = .ok (.isub, 1) := by decide +kernel
theorem dX1_keyOf_22 : decode cX1_keyOf 22 = .ok (.ireturn, 1) := by decide +kernel
theorem dX1_isOfChord_0 : decode cX1_isOfChord 0 = .ok (.iload_n 1, 1) := by decide +kernel
theorem dX1_isOfChord_1 : decode cX1_isOfChord 1 = .ok (.ifCond .ne 18, 3) := by decide +kernel
theorem dX1_isOfChord_4 : decode cX1_isOfChord 4 = .ok (.iload_n 2, 1) := by decide +kernel
theorem dX1_isOfChord_5 : decode cX1_isOfChord 5 = .ok (.aload_n 0, 1) := by decide +kernel
theorem dX1_isOfChord_6 : decode cX1_isOfChord 6 = .ok (.iconst 0, 1) := by decide +kernel
theorem dX1_isOfChord_7 : decode cX1_isOfChord 7 = .ok (.invokevirtual 96, 3) := by decide +kernel
theorem dX1_isOfChord_10 : decode cX1_isOfChord 10 = .ok (.if_icmp .ne 7, 3) := by decide +kernel
theorem dX1_isOfChord_13 : decode cX1_isOfChord 13 = .ok (.iconst 1, 1) := by decide +kernel
theorem dX1_isOfChord_14 : decode cX1_isOfChord 14 = .ok (.goto 4, 3) := by decide +kernel
theorem dX1_isOfChord_17 : decode cX1_isOfChord 17 = .ok (.iconst 0, 1) := by decide +kernel
theorem dX1_isOfChord_18 : decode cX1_isOfChord 18 = .ok (.ireturn, 1) := by decide +kernel
theorem dX1_isOfChord_19 : decode cX1_isOfChord 19 = .ok (.iload_n 2, 1) := by decide +kernel
theorem dX1_isOfChord_20 : decode cX1_isOfChord 20 = .ok (.aload_n 0, 1) := by decide +kernel
theorem dX1_isOfChord_21 : decode cX1_isOfChord 21 = .ok (.iconst 1, 1) := by decide +kernel
theorem dX1_isOfChord_22 : decode cX1_isOfChord 22 = .ok (.invokevirtual 96, 3) := by decide +kernel
theorem dX1_isOfChord_25 : decode cX1_isOfChord 25 = .ok (.if_icmp .eq 21, 3) := by decide +kernel
theorem dX1_isOfChord_28 : decode cX1_isOfChord 28 = .ok (.iload_n 2, 1) := by decide +kernel
theorem dX1_isOfChord_29 : decode cX1_isOfChord 29 = .ok (.aload_n 0, 1) := by decide +kernel
theorem dX1_isOfChord_30 : decode cX1_isOfChord 30 = .ok (.iconst 2, 1) := by decide +kernel
theorem dX1_isOfChord_31 : decode cX1_isOfChord 31 = .ok (.invokevirtual 96, 3) := by decide +kernel
theorem dX1_isOfChord_34 : decode cX1_isOfChord 34 = .ok (.if_icmp .eq 12, 3) := by decide +kernel
theorem dX1_isOfChord_37 : decode cX1_isOfChord 37 = .ok (.iload_n 2, 1) := by decide +kernel
theorem dX1_isOfChord_38 : decode cX1_isOfChord 38 = .ok (.aload_n 0, 1) := by decide +kernel
theorem dX1_isOfChord_39 : decode cX1_isOfChord 39 = .ok (.iconst 3, 1) := by decide +kernel
theorem dX1_isOfChord_40 : decode cX1_isOfChord 40 = .ok (.invokevirtual 96, 3) := by decide +kernel
theorem dX1_isOfChord_43 : decode cX1_isOfChord 43 = .ok (.if_icmp .ne 7, 3) := by decide +kernel
theorem dX1_isOfChord_46 : decode cX1_isOfChord 46 = .ok (.iconst 1, 1) := by decide +kernel
theorem dX1_isOfChord_47 : decode cX1_isOfChord 47 = .ok (.goto 4, 3) := by decide +kernel
theorem dX1_isOfChord_50 : decode cX1_isOfChord 50 = .ok (.iconst 0, 1) := by decide +kernel
theorem dX1_isOfChord_51 : decode cX1_isOfChord 51 = .ok (.ireturn, 1) := by decide +kernel
theorem dX2_init_0 : decode cX2_init 0 = .ok (.aload_n 0, 1) := by decide +kernel
theorem dX2_init_1 : decode cX2_init 1 = .ok (.invokespecial 1, 3) := by decide +kernel
theorem dX2_init_4 : decode cX2_init 4 = .ok (.aload_n 0, 1) := by decide +kernel
theorem dX2_init_5 : decode cX2_init 5 = .ok (.iload_n 1, 1) := by decide +kernel
theorem dX2_init_6 : decode cX2_init 6 = .ok (.putfield 7, 3) := by decide +kernel
theorem dX2_init_9 : decode cX2_init 9 = .ok (.aload_n 0, 1) := by decide +kernel
theorem dX2_init_10 : decode cX2_init 10 = .ok (.iload_n 2, 1) := by decide +kernel
theorem dX2_init_11 : decode cX2_init 11 = .ok (.putfield 13, 3) := by decide +kernel
theorem dX2_init_14 : decode cX2_init 14 = .ok (.aload_n 0, 1) := by decide +kernel
theorem dX2_init_15 : decode cX2_init 15 = .ok (.iload_n 3, 1) := by decide +kernel
theorem dX2_init_16 : decode cX2_init 16 = .ok (.putfield 16, 3) := by decide +kernel
theorem dX2_init_19 : decode cX2_init 19 = .ok (.aload_n 0, 1) := by decide +kernel
theorem dX2_init_20 : decode cX2_init 20 = .ok (.iload 4, 2) := by decide +kernel
theorem dX2_init_22 : decode cX2_init 22 = .ok (.putfield 19, 3) := by decide +kernel
theorem dX2_init_25 : decode cX2_init 25 = .ok (.return_, 1) := by decide +kernel
theorem dX2_takes_0 : decode cX2_takes 0 = .ok (.aload_n 2, 1) := by decide +kernel
theorem dX2_takes_1 : decode cX2_takes 1 = .ok (.aload_n 0, 1) := by decide +kernel
theorem dX2_takes_2 : decode cX2_takes 2 = .ok (.getfield 7, 3) := by decide +kernel
theorem dX2_takes_5 : decode cX2_takes 5 = .ok (.iload_n 1, 1) := by decide +kernel
theorem dX2_takes_6 : decode cX2_takes 6 = .ok (.invokevirtual 23, 3) := by decide +kernel
theorem dX2_takes_9 : decode cX2_takes 9 = .ok (.ifCond .ne 5, 3) := by decide +kernel
theorem dX2_takes_12 : decode cX2_takes 12 = .ok (.iconst 0, 1) := by decide +kernel
theorem dX2_takes_13 : decode cX2_takes 13 = .ok (.ireturn, 1) := by decide +kernel
theorem dX2_takes_14 : decode cX2_takes 14 = .ok (.aload_n 0, 1) := by decide +kernel
theorem dX2_takes_15 : decode cX2_takes 15 = .ok (.getfield 19, 3) := by decide +kernel
theorem dX2_takes_18 : decode cX2_takes 18 = .ok (.bipush 109, 2) := by decide +kernel
theorem dX2_takes_20 : decode cX2_takes 20 = .ok (.if_icmp .ne 21, 3) := by decide +kernel
theorem dX2_takes_23 : decode cX2_takes 23 = .ok (.iload_n 1, 1) := by decide +kernel
theorem dX2_takes_24 : decode cX2_takes 24 = .ok (.aload_n 2, 1) := by decide +kernel
theorem dX2_takes_25 : decode cX2_takes 25 = .ok (.aload_n 0, 1) := by decide +kernel
theorem dX2_takes_26 : decode cX2_takes 26 = .ok (.getfield 7, 3) := by decide +kernel
theorem dX2_takes_29 : decode cX2_takes 29 = .ok (.invokevirtual 29, 3) := by decide +kernel
theorem dX2_takes_32 : decode cX2_takes 32 = .ok (.if_icmp .ne 7, 3) := by decide +kernel
theorem dX2_takes_35 : decode cX2_takes 35 = .ok (.iconst 1, 1) := by decide +kernel
theorem dX2_takes_36 : decode cX2_takes 36 = .ok (.goto 4, 3) := by decide +kernel
theorem dX2_takes_39 : decode cX2_takes 39 = .ok (.iconst 0, 1) := by decide +kernel
theorem dX2_takes_40 : decode cX2_takes 40 = .ok (.ireturn, 1) := by decide +kernel
theorem dX2_takes_41 : decode cX2_takes 41 = .ok (.aload_n 0, 1) := by decide +kernel
theorem dX2_takes_42 : decode cX2_takes 42 = .ok (.getfield 19, 3) := by decide +kernel
theorem dX2_takes_45 : decode cX2_takes 45 = .ok (.bipush 98, 2) := by decide +kernel
theorem dX2_takes_47 : decode cX2_takes 47 = .ok (.if_icmp .ne 21, 3) := by decide +kernel
theorem dX2_takes_50 : decode cX2_takes 50 = .ok (.iload_n 1, 1) := by decide +kernel
theorem dX2_takes_51 : decode cX2_takes 51 = .ok (.aload_n 2, 1) := by decide +kernel
theorem dX2_takes_52 : decode cX2_takes 52 = .ok (.aload_n 0, 1) := by decide +kernel
theorem dX2_takes_53 : decode cX2_takes 53 = .ok (.getfield 7, 3) := by decide +kernel
theorem dX2_takes_56 : decode cX2_takes 56 = .ok (.invokevirtual 33, 3) := by decide +kernel
theorem dX2_takes_59 : decode cX2_takes 59 = .ok (.if_icmp .ne 7, 3) := by decide +kernel
theorem dX2_takes_62 : decode cX2_takes 62 = .ok (.iconst 1, 1) := by decide +kernel
theorem dX2_takes_63 : decode cX2_takes 63 = .ok (.goto 4, 3) := by decide +kernel
theorem dX2_takes_66 : decode cX2_takes 66 = .ok (.iconst 0, 1) := by decide +kernel
theorem dX2_takes_67 : decode cX2_takes 67 = .ok (.ireturn, 1) := by decide +kernel
theorem dX2_takes_68 : decode cX2_takes 68 = .ok (.aload_n 0, 1) := by decide +kernel
theorem dX2_takes_69 : decode cX2_takes 69 = .ok (.getfield 19, 3) := by decide +kernel
theorem dX2_takes_72 : decode cX2_takes 72 = .ok (.bipush 97, 2) := by decide +kernel
theorem dX2_takes_74 : decode cX2_takes 74 = .ok (.if_icmp .eq 16, 3) := by decide +kernel
theorem dX2_takes_77 : decode cX2_takes 77 = .ok (.aload_n 2, 1) := by decide +kernel
theorem dX2_takes_78 : decode cX2_takes 78 = .ok (.aload_n 0, 1) := by decide +kernel
theorem dX2_takes_79 : decode cX2_takes 79 = .ok (.getfield 7, 3) := by decide +kernel
theorem dX2_takes_82 : decode cX2_takes 82 = .ok (.iload_n 1, 1) := by decide +kernel
theorem dX2_takes_83 : decode cX2_takes 83 = .ok (.invokevirtual 36, 3) := by decide +kernel
theorem dX2_takes_86 : decode cX2_takes 86 = .ok (.iload_n 3, 1) := by decide +kernel
theorem dX2_takes_87 : decode cX2_takes 87 = .ok (.if_icmp .ne 7, 3) := by decide +kernel
theorem dX2_takes_90 : decode cX2_takes 90 = .ok (.iconst 1, 1) := by decide +kernel
theorem dX2_takes_91 : decode cX2_takes 91 = .ok (.goto 4, 3) := by decide +kernel
theorem dX2_takes_94 : decode cX2_takes 94 = .ok (.iconst 0, 1) := by decide +kernel
theorem dX2_takes_95 : decode cX2_takes 95 = .ok (.ireturn, 1) := by decide +kernel
theorem dX3_init_0 : decode cX3_init 0 = .ok (.aload_n 0, 1) := by decide +kernel
theorem dX3_init_1 : decode cX3_init 1 = .ok (.invokespecial 3, 3) := by decide +kernel
theorem dX3_init_4 : decode cX3_init 4 = .ok (.aload_n 0, 1) := by decide +kernel
theorem dX3_init_5 : decode cX3_init 5 = .ok (.sipush 183, 3) := by decide +kernel
theorem dX3_init_8 : decode cX3_init 8 = .ok (.newarray .boolean, 2) := by decide +kernel
theorem dX3_init_10 : decode cX3_init 10 = .ok (.putfield 9, 3) := by decide +kernel
theorem dX3_init_13 : decode cX3_init 13 = .ok (.aload_n 0, 1) := by decide +kernel
theorem dX3_init_14 : decode cX3_init 14 = .ok (.sipush 183, 3) := by decide +kernel
theorem dX3_init_17 : decode cX3_init 17 = .ok (.newarray .int, 2) := by decide +kernel
theorem dX3_init_19 : decode cX3_init 19 = .ok (.putfield 15, 3) := by decide +kernel
theorem dX3_init_22 : decode cX3_init 22 = .ok (.aload_n 0, 1) := by decide +kernel
theorem dX3_init_23 : decode cX3_init 23 = .ok (.iconst 3, 1) := by decide +kernel
theorem dX3_init_24 : decode cX3_init 24 = .ok (.newarray .int, 2) := by decide +kernel
theorem dX3_init_26 : decode cX3_init 26 = .ok (.putfield 19, 3) := by decide +kernel
theorem dX3_init_29 : decode cX3_init 29 = .ok (.aload_n 0, 1) := by decide +kernel
theorem dX3_init_30 : decode cX3_init 30 = .ok (.iconst 3, 1) := by decide +kernel
theorem dX3_init_31 : decode cX3_init 31 = .ok (.newarray .int, 2) := by decide +kernel
theorem dX3_init_33 : decode cX3_init 33 = .ok (.putfield 22, 3) := by decide +kernel
theorem dX3_init_36 : decode cX3_init 36 = .ok (.aload_n 0, 1) := by decide +kernel
theorem dX3_init_37 : decode cX3_init 37 = .ok (.iconst (-1), 1) := by decide +kernel
theorem dX3_init_38 : decode cX3_init 38 = .ok (.putfield 25, 3) := by decide +kernel
theorem dX3_init_41 : decode cX3_init 41 = .ok (.aload_n 0, 1) := by decide +kernel
theorem dX3_init_42 : decode cX3_init 42 = .ok (.getfield 19, 3) := by decide +kernel
theorem dX3_init_45 : decode cX3_init 45 = .ok (.iconst (-1), 1) := by decide +kernel
theorem dX3_init_46 : decode cX3_init 46 = .ok (.invokestatic 29, 3) := by decide +kernel
theorem dX3_init_49 : decode cX3_init 49 = .ok (.aload_n 0, 1) := by decide +kernel
theorem dX3_init_50 : decode cX3_init 50 = .ok (.getfield 22, 3) := by decide +kernel
theorem dX3_init_53 : decode cX3_init 53 = .ok (.iconst (-1), 1) := by decide +kernel
theorem dX3_init_54 : decode cX3_init 54 = .ok (.invokestatic 29, 3) := by decide +kernel
theorem dX3_init_57 : decode cX3_init 57 = .ok (.return_, 1) := by decide +kernel
theorem dX3_countOf_0 : decode cX3_countOf 0 = .ok (.iload_n 0, 1) := by decide +kernel
theorem dX3_countOf_1 : decode cX3_countOf 1 = .ok (.ifCond .ne 8, 3) := by decide +kernel
theorem dX3_countOf_4 : decode cX3_countOf 4 = .ok (.bipush 32, 2) := by decide +kernel
theorem dX3_countOf_6 : decode cX3_countOf 6 = .ok (.goto 5, 3) := by decide +kernel
theorem dX3_countOf_9 : decode cX3_countOf 9 = .ok (.bipush 61, 2) := by decide +kernel
theorem dX3_countOf_11 : decode cX3_countOf 11 = .ok (.ireturn, 1) := by decide +kernel
theorem dX3_indexOf_0 : decode cX3_indexOf 0 = .ok (.iload_n 0, 1) := by decide +kernel
theorem dX3_indexOf_1 : decode cX3_indexOf 1 = .ok (.ifCond .lt 18, 3) := by decide +kernel
theorem dX3_indexOf_4 : decode cX3_indexOf 4 = .ok (.iload_n 0, 1) := by decide +kernel
theorem dX3_indexOf_5 : decode cX3_indexOf 5 = .ok (.iconst 3, 1) := by decide +kernel
theorem dX3_indexOf_6 : decode cX3_indexOf 6 = .ok (.if_icmp .ge 13, 3) := by decide +kernel
theorem dX3_indexOf_9 : decode cX3_indexOf 9 = .ok (.iload_n 1, 1) := by decide +kernel
theorem dX3_indexOf_10 : decode cX3_indexOf 10 = .ok (.ifCond .lt 9, 3) := by decide +kernel
theorem dX3_indexOf_13 : decode cX3_indexOf 13 = .ok (.iload_n 1, 1) := by decide +kernel
theorem dX3_indexOf_14 : decode cX3_indexOf 14 = .ok (.bipush 61, 2) := by decide +kernel
theorem dX3_indexOf_16 : decode cX3_indexOf 16 = .ok (.if_icmp .lt 5, 3) := by decide +kernel
theorem dX3_indexOf_19 : decode cX3_indexOf 19 = .ok (.iconst (-1), 1) := by decide +kernel
theorem dX3_indexOf_20 : decode cX3_indexOf 20 = .ok (.ireturn, 1) := by decide +kernel
theorem dX3_indexOf_21 : decode cX3_indexOf 21 = .ok (.iload_n 0, 1) := by decide +kernel
theorem dX3_indexOf_22 : decode cX3_indexOf 22 = .ok (.ifCond .ne 13, 3) := by decide +kernel
theorem dX3_indexOf_25 : decode cX3_indexOf 25 = .ok (.iload_n 1, 1) := by decide +kernel
theorem dX3_indexOf_26 : decode cX3_indexOf 26 = .ok (.bipush 32, 2) := by decide +kernel
theorem dX3_indexOf_28 : decode cX3_indexOf 28 = .ok (.if_icmp .lt 7, 3) := by decide +kernel
theorem dX3_indexOf_31 : decode cX3_indexOf 31 = .ok (.iconst (-1), 1) := by decide +kernel
theorem dX3_indexOf_32 : decode cX3_indexOf 32 = .ok (.goto 9, 3) := by decide +kernel
theorem dX3_indexOf_35 : decode cX3_indexOf 35 = .ok (.iload_n 0, 1) := by decide +kernel
theorem dX3_indexOf_36 : decode cX3_indexOf 36 = .ok (.bipush 61, 2) := by decide +kernel
theorem dX3_indexOf_38 : decode cX3_indexOf 38 = .ok (.imul, 1) := by decide +kernel
theorem dX3_indexOf_39 : decode cX3_indexOf 39 = .ok (.iload_n 1, 1) := by decide +kernel
theorem dX3_indexOf_40 : decode cX3_indexOf 40 = .ok (.iadd, 1) := by decide +kernel
theorem dX3_indexOf_41 : decode cX3_indexOf 41 = .ok (.ireturn, 1) := by decide +kernel
theorem dX3_isPressed_0 : decode cX3_isPressed 0 = .ok (.iload_n 1, 1) := by decide +kernel
theorem dX3_isPressed_1 : decode cX3_isPressed 1 = .ok (.iload_n 2, 1) := by decide +kernel
theorem dX3_isPressed_2 : decode cX3_isPressed 2 = .ok (.invokestatic 35, 3) := by decide +kernel
theorem dX3_isPressed_5 : decode cX3_isPressed 5 = .ok (.istore_n 3, 1) := by decide +kernel
theorem dX3_isPressed_6 : decode cX3_isPressed 6 = .ok (.iload_n 3, 1) := by decide +kernel
theorem dX3_isPressed_7 : decode cX3_isPressed 7 = .ok (.ifCond .lt 16, 3) := by decide +kernel
theorem dX3_isPressed_10 : decode cX3_isPressed 10 = .ok (.aload_n 0, 1) := by decide +kernel
theorem dX3_isPressed_11 : decode cX3_isPressed 11 = .ok (.getfield 9, 3) := by decide +kernel
theorem dX3_isPressed_14 : decode cX3_isPressed 14 = .ok (.iload_n 3, 1) := by decide +kernel
theorem dX3_isPressed_15 : decode cX3_isPressed 15 = .ok (.baload, 1) := by decide +kernel
theorem dX3_isPressed_16 : decode cX3_isPressed 16 = .ok (.ifCond .eq 7, 3) := by decide +kernel
theorem dX3_isPressed_19 : decode cX3_isPressed 19 = .ok (.iconst 1, 1) := by decide +kernel
theorem dX3_isPressed_20 : decode cX3_isPressed 20 = .ok (.goto 4, 3) := by decide +kernel
theorem dX3_isPressed_23 : decode cX3_isPressed 23 = .ok (.iconst 0, 1) := by decide +kernel
theorem dX3_isPressed_24 : decode cX3_isPressed 24 = .ok (.ireturn, 1) := by decide +kernel
theorem dX3_tickOf_0 : decode cX3_tickOf 0 = .ok (.iload_n 1, 1) := by decide +kernel
theorem dX3_tickOf_1 : decode cX3_tickOf 1 = .ok (.iload_n 2, 1) := by decide +kernel
theorem dX3_tickOf_2 : decode cX3_tickOf 2 = .ok (.invokestatic 35, 3) := by decide +kernel
theorem dX3_tickOf_5 : decode cX3_tickOf 5 = .ok (.istore_n 3, 1) := by decide +kernel
theorem dX3_tickOf_6 : decode cX3_tickOf 6 = .ok (.iload_n 3, 1) := by decide +kernel
theorem dX3_tickOf_7 : decode cX3_tickOf 7 = .ok (.ifCond .ge 7, 3) := by decide +kernel
theorem dX3_tickOf_10 : decode cX3_tickOf 10 = .ok (.iconst (-1), 1) := by decide +kernel
theorem dX3_tickOf_11 : decode cX3_tickOf 11 = .ok (.goto 9, 3) := by decide +kernel
theorem dX3_tickOf_14 : decode cX3_tickOf 14 = .ok (.aload_n 0, 1) := by decide +kernel
theorem dX3_tickOf_15 : decode cX3_tickOf 15 = .ok (.getfield 15, 3) := by decide +kernel
theorem dX3_tickOf_18 : decode cX3_tickOf 18 = .ok (.iload_n 3, 1) := by decide +kernel
theorem dX3_tickOf_19 : decode cX3_tickOf 19 = .ok (.iaload, 1) := by decide +kernel
theorem dX3_tickOf_20 : decode cX3_tickOf 20 = .ok (.ireturn, 1) := by decide +kernel
theorem dX3_lowestOf_0 : decode cX3_lowestOf 0 = .ok (.iload_n 1, 1) := by decide +kernel
theorem dX3_lowestOf_1 : decode cX3_lowestOf 1 = .ok (.ifCond .lt 8, 3) := by decide +kernel
theorem dX3_lowestOf_4 : decode cX3_lowestOf 4 = .ok (.iload_n 1, 1) := by decide +kernel
theorem dX3_lowestOf_5 : decode cX3_lowestOf 5 = .ok (.iconst 3, 1) := by decide +kernel
theorem dX3_lowestOf_6 : decode cX3_lowestOf 6 = .ok (.if_icmp .lt 7, 3) := by decide +kernel
theorem dX3_lowestOf_9 : decode cX3_lowestOf 9 = .ok (.iconst (-1), 1) := by decide +kernel
theorem dX3_lowestOf_10 : decode cX3_lowestOf 10 = .ok (.goto 9, 3) := by decide +kernel
theorem dX3_lowestOf_13 : decode cX3_lowestOf 13 = .ok (.aload_n 0, 1) := by decide +kernel
theorem dX3_lowestOf_14 : decode cX3_lowestOf 14 = .ok (.getfield 19, 3) := by decide +kernel
theorem dX3_lowestOf_17 : decode cX3_lowestOf 17 = .ok (.iload_n 1, 1) := by decide +kernel
theorem dX3_lowestOf_18 : decode cX3_lowestOf 18 = .ok (.iaload, 1) := by decide +kernel
theorem dX3_lowestOf_19 : decode cX3_lowestOf 19 = .ok (.ireturn, 1) := by decide +kernel
theorem dX3_highestOf_0 : decode cX3_highestOf 0 = .ok (.iload_n 1, 1) := by decide +kernel
theorem dX3_highestOf_1 : decode cX3_highestOf 1 = .ok (.ifCond .lt 8, 3) := by decide +kernel
theorem dX3_highestOf_4 : decode cX3_highestOf 4 = .ok (.iload_n 1, 1) := by decide +kernel
theorem dX3_highestOf_5 : decode cX3_highestOf 5 = .ok (.iconst 3, 1) := by decide +kernel
theorem dX3_highestOf_6 : decode cX3_highestOf 6 = .ok (.if_icmp .lt 7, 3) := by decide +kernel
theorem dX3_highestOf_9 : decode cX3_highestOf 9 = .ok (.iconst (-1), 1) := by decide +kernel
theorem dX3_highestOf_10 : decode cX3_highestOf 10 = .ok (.goto 9, 3) := by decide +kernel
theorem dX3_highestOf_13 : decode cX3_highestOf 13 = .ok (.aload_n 0, 1) := by decide +kernel
theorem dX3_highestOf_14 : decode cX3_highestOf 14 = .ok (.getfield 22, 3) := by decide +kernel
theorem dX3_highestOf_17 : decode cX3_highestOf 17 = .ok (.iload_n 1, 1) := by decide +kernel
theorem dX3_highestOf_18 : decode cX3_highestOf 18 = .ok (.iaload, 1) := by decide +kernel
theorem dX3_highestOf_19 : decode cX3_highestOf 19 = .ok (.ireturn, 1) := by decide +kernel
theorem dX3_isAnyPressed_0 : decode cX3_isAnyPressed 0 = .ok (.aload_n 0, 1) := by decide +kernel
theorem dX3_isAnyPressed_1 : decode cX3_isAnyPressed 1 = .ok (.getfield 19, 3) := by decide +kernel
theorem dX3_isAnyPressed_4 : decode cX3_isAnyPressed 4 = .ok (.iconst 0, 1) := by decide +kernel
theorem dX3_isAnyPressed_5 : decode cX3_isAnyPressed 5 = .ok (.iaload, 1) := by decide +kernel
theorem dX3_isAnyPressed_6 : decode cX3_isAnyPressed 6 = .ok (.ifCond .ge 21, 3) := by decide +kernel
theorem dX3_isAnyPressed_9 : decode cX3_isAnyPressed 9 = .ok (.aload_n 0, 1) := by decide +kernel
theorem dX3_isAnyPressed_10 : decode cX3_isAnyPressed 10 = .ok (.getfield 19, 3) := by decide +kernel
theorem dX3_isAnyPressed_13 : decode cX3_isAnyPressed 13 = .ok (.iconst 1, 1) := by decide +kernel
theorem dX3_isAnyPressed_14 : decode cX3_isAnyPressed 14 = .ok (.iaload, 1) := by decide +kernel
theorem dX3_isAnyPressed_15 : decode cX3_isAnyPressed 15 = .ok (.ifCond .ge 12, 3) := by decide +kernel
theorem dX3_isAnyPressed_18 : decode cX3_isAnyPressed 18 = .ok (.aload_n 0, 1) := by decide +kernel
theorem dX3_isAnyPressed_19 : decode cX3_isAnyPressed 19 = .ok (.getfield 19, 3) := by decide +kernel
theorem dX3_isAnyPressed_22 : decode cX3_isAnyPressed 22 = .ok (.iconst 2, 1) := by decide +kernel
theorem dX3_isAnyPressed_23 : decode cX3_isAnyPressed 23 = .ok (.iaload, 1) := by decide +kernel
theorem dX3_isAnyPressed_24 : decode cX3_isAnyPressed 24 = .ok (.ifCond .lt 7, 3) := by decide +kernel
theorem dX3_isAnyPressed_27 : decode cX3_isAnyPressed 27 = .ok (.iconst 1, 1) := by decide +kernel
theorem dX3_isAnyPressed_28 : decode cX3_isAnyPressed 28 = .ok (.goto 4, 3) := by decide +kernel
theorem dX3_isAnyPressed_31 : decode cX3_isAnyPressed 31 = .ok (.iconst 0, 1) := by decide +kernel
theorem dX3_isAnyPressed_32 : decode cX3_isAnyPressed 32 = .ok (.ireturn, 1) := by decide +kernel
theorem dX3_put_0 : decode cX3_put 0 = .ok (.iload_n 1, 1) := by decide +kernel
theorem dX3_put_1 : decode cX3_put 1 = .ok (.iload_n 2, 1) := by decide +kernel
theorem dX3_put_2 : decode cX3_put 2 = .ok (.invokestatic 35, 3) := by decide +kernel
theorem dX3_put_5 : decode cX3_put 5 = .ok (.istore 5, 2) := by decide +kernel
theorem dX3_put_7 : decode cX3_put 7 = .ok (.iload 5, 2) := by decide +kernel
theorem dX3_put_9 : decode cX3_put 9 = .ok (.ifCond .lt 14, 3) := by decide +kernel
theorem dX3_put_12 : decode cX3_put 12 = .ok (.aload_n 0, 1) := by decide +kernel
theorem dX3_put_13 : decode cX3_put 13 = .ok (.getfield 9, 3) := by decide +kernel
theorem dX3_put_16 : decode cX3_put 16 = .ok (.iload 5, 2) := by decide +kernel
theorem dX3_put_18 : decode cX3_put 18 = .ok (.baload, 1) := by decide +kernel
theorem dX3_put_19 : decode cX3_put 19 = .ok (.iload_n 3, 1) := by decide +kernel
theorem dX3_put_20 : decode cX3_put 20 = .ok (.if_icmp .ne 5, 3) := by decide +kernel
theorem dX3_put_23 : decode cX3_put 23 = .ok (.iconst 0, 1) := by decide +kernel
theorem dX3_put_24 : decode cX3_put 24 = .ok (.ireturn, 1) := by decide +kernel
theorem dX3_put_25 : decode cX3_put 25 = .ok (.aload_n 0, 1) := by decide +kernel
theorem dX3_put_26 : decode cX3_put 26 = .ok (.getfield 9, 3) := by decide +kernel
theorem dX3_put_29 : decode cX3_put 29 = .ok (.iload 5, 2) := by decide +kernel
theorem dX3_put_31 : decode cX3_put 31 = .ok (.iload_n 3, 1) := by decide +kernel
theorem dX3_put_32 : decode cX3_put 32 = .ok (.bastore, 1) := by decide +kernel
theorem dX3_put_33 : decode cX3_put 33 = .ok (.iload_n 3, 1) := by decide +kernel
theorem dX3_put_34 : decode cX3_put 34 = .ok (.ifCond .eq 18, 3) := by decide +kernel
theorem dX3_put_37 : decode cX3_put 37 = .ok (.aload_n 0, 1) := by decide +kernel
theorem dX3_put_38 : decode cX3_put 38 = .ok (.getfield 15, 3) := by decide +kernel
theorem dX3_put_41 : decode cX3_put 41 = .ok (.iload 5, 2) := by decide +kernel
theorem dX3_put_43 : decode cX3_put 43 = .ok (.iload 4, 2) := by decide +kernel
theorem dX3_put_45 : decode cX3_put 45 = .ok (.iastore, 1) := by decide +kernel
theorem dX3_put_46 : decode cX3_put 46 = .ok (.aload_n 0, 1) := by decide +kernel
theorem dX3_put_47 : decode cX3_put 47 = .ok (.iload 4, 2) := by decide +kernel
theorem dX3_put_49 : decode cX3_put 49 = .ok (.putfield 25, 3) := by decide +kernel
theorem dX3_put_52 : decode cX3_put 52 = .ok (.aload_n 0, 1) := by decide +kernel
theorem dX3_put_53 : decode cX3_put 53 = .ok (.getfield 19, 3) := by decide +kernel
theorem dX3_put_56 : decode cX3_put 56 = .ok (.iload_n 1, 1) := by decide +kernel
theorem dX3_put_57 : decode cX3_put 57 = .ok (.aload_n 0, 1) := by decide +kernel
theorem dX3_put_58 : decode cX3_put 58 = .ok (.iload_n 1, 1) := by decide +kernel
theorem dX3_put_59 : decode cX3_put 59 = .ok (.iconst 0, 1) := by decide +kernel
theorem dX3_put_60 : decode cX3_put 60 = .ok (.iconst 1, 1) := by decide +kernel
theorem dX3_put_61 : decode cX3_put 61 = .ok (.invokevirtual 39, 3) := by decide +kernel
theorem dX3_put_64 : decode cX3_put 64 = .ok (.iastore, 1) := by decide +kernel
theorem dX3_put_65 : decode cX3_put 65 = .ok (.aload_n 0, 1) := by decide +kernel
theorem dX3_put_66 : decode cX3_put 66 = .ok (.getfield 22, 3) := by decide +kernel
theorem dX3_put_69 : decode cX3_put 69 = .ok (.iload_n 1, 1) := by decide +kernel
theorem dX3_put_70 : decode cX3_put 70 = .ok (.aload_n 0, 1) := by decide +kernel
theorem dX3_put_71 : decode cX3_put 71 = .ok (.iload_n 1, 1) := by decide +kernel
theorem dX3_put_72 : decode cX3_put 72 = .ok (.iload_n 1, 1) := by decide +kernel
theorem dX3_put_73 : decode cX3_put 73 = .ok (.invokestatic 43, 3) := by decide +kernel
theorem dX3_put_76 : decode cX3_put 76 = .ok (.iconst 1, 1) := by decide +kernel
theorem dX3_put_77 : decode cX3_put 77 = .ok (.isub, 1) := by decide +kernel
theorem dX3_put_78 : decode cX3_put 78 = .ok (.iconst (-1), 1) := by decide +kernel
theorem dX3_put_79 : decode cX3_put 79 = .ok (.invokevirtual 39, 3) := by decide +kernel
theorem dX3_put_82 : decode cX3_put 82 = .ok (.iastore, 1) := by decide +kernel
theorem dX3_put_83 : decode cX3_put 83 = .ok (.iconst 1, 1) := by decide +kernel
theorem dX3_put_84 : decode cX3_put 84 = .ok (.ireturn, 1) := by decide +kernel
theorem dX3_firstPressed_0 : decode cX3_firstPressed 0 = .ok (.iload_n 2, 1) := by decide +kernel
theorem dX3_firstPressed_1 : decode cX3_firstPressed 1 = .ok (.istore 4, 2) := by decide +kernel
theorem dX3_firstPressed_3 : decode cX3_firstPressed 3 = .ok (.iconst 0, 1) := by decide +kernel
theorem dX3_firstPressed_4 : decode cX3_firstPressed 4 = .ok (.istore 5, 2) := by decide +kernel
theorem dX3_firstPressed_6 : decode cX3_firstPressed 6 = .ok (.iload 5, 2) := by decide +kernel
theorem dX3_firstPressed_8 : decode cX3_firstPressed 8 = .ok (.iload_n 1, 1) := by decide +kernel
theorem dX3_firstPressed_9 : decode cX3_firstPressed 9 = .ok (.invokestatic 43, 3) := by decide +kernel
theorem dX3_firstPressed_12 : decode cX3_firstPressed 12 = .ok (.if_icmp .ge 28, 3) := by decide +kernel
theorem dX3_firstPressed_15 : decode cX3_firstPressed 15 = .ok (.aload_n 0, 1) := by decide +kernel
theorem dX3_firstPressed_16 : decode cX3_firstPressed 16 = .ok (.iload_n 1, 1) := by decide +kernel
theorem dX3_firstPressed_17 : decode cX3_firstPressed 17 = .ok (.iload 4, 2) := by decide +kernel
theorem dX3_firstPressed_19 : decode cX3_firstPressed 19 = .ok (.invokevirtual 47, 3) := by decide +kernel
theorem dX3_firstPressed_22 : decode cX3_firstPressed 22 = .ok (.ifCond .eq 6, 3) := by decide +kernel
theorem dX3_firstPressed_25 : decode cX3_firstPressed 25 = .ok (.iload 4, 2) := by decide +kernel
theorem dX3_firstPressed_27 : decode cX3_firstPressed 27 = .ok (.ireturn, 1) := by decide +kernel
theorem dX3_firstPressed_28 : decode cX3_firstPressed 28 = .ok (.iload 4, 2) := by decide +kernel
theorem dX3_firstPressed_30 : decode cX3_firstPressed 30 = .ok (.iload_n 3, 1) := by decide +kernel
theorem dX3_firstPressed_31 : decode cX3_firstPressed 31 = .ok (.iadd, 1) := by decide +kernel
theorem dX3_firstPressed_32 : decode cX3_firstPressed 32 = .ok (.istore 4, 2) := by decide +kernel
theorem dX3_firstPressed_34 : decode cX3_firstPressed 34 = .ok (.iinc 5 1, 3) := by decide +kernel
theorem dX3_firstPressed_37 : decode cX3_firstPressed 37 = .ok (.goto (-31), 3) := by decide +kernel
theorem dX3_firstPressed_40 : decode cX3_firstPressed 40 = .ok (.iconst (-1), 1) := by decide +kernel
theorem dX3_firstPressed_41 : decode cX3_firstPressed 41 = .ok (.ireturn, 1) := by decide +kernel
theorem dX4_init_0 : decode cX4_init 0 = .ok (.aload_n 0, 1) := by decide +kernel
theorem dX4_init_1 : decode cX4_init 1 = .ok (.invokespecial 1, 3) := by decide +kernel
theorem dX4_init_4 : decode cX4_init 4 = .ok (.aload_n 0, 1) := by decide +kernel
theorem dX4_init_5 : decode cX4_init 5 = .ok (.iconst 1, 1) := by decide +kernel
theorem dX4_init_6 : decode cX4_init 6 = .ok (.putfield 7, 3) := by decide +kernel
theorem dX4_init_9 : decode cX4_init 9 = .ok (.aload_n 0, 1) := by decide +kernel
theorem dX4_init_10 : decode cX4_init 10 = .ok (.iconst (-1), 1) := by decide +kernel
theorem dX4_init_11 : decode cX4_init 11 = .ok (.putfield 13, 3) := by decide +kernel
theorem dX4_init_14 : decode cX4_init 14 = .ok (.aload_n 0, 1) := by decide +kernel
theorem dX4_init_15 : decode cX4_init 15 = .ok (.iload_n 1, 1) := by decide +kernel
theorem dX4_init_16 : decode cX4_init 16 = .ok (.putfield 17, 3) := by decide +kernel
theorem dX4_init_19 : decode cX4_init 19 = .ok (.aload_n 0, 1) := by decide +kernel
theorem dX4_init_20 : decode cX4_init 20 = .ok (.iload_n 2, 1) := by decide +kernel
theorem dX4_init_21 : decode cX4_init 21 = .ok (.putfield 21, 3) := by decide +kernel
theorem dX4_init_24 : decode cX4_init 24 = .ok (.aload_n 0, 1) := by decide +kernel
theorem dX4_init_25 : decode cX4_init 25 = .ok (.aload_n 3, 1) := by decide +kernel
theorem dX4_init_26 : decode cX4_init 26 = .ok (.putfield 24, 3) := by decide +kernel
theorem dX4_init_29 : decode cX4_init 29 = .ok (.aload_n 0, 1) := by decide +kernel
theorem dX4_init_30 : decode cX4_init 30 = .ok (.aload 4, 2) := by decide +kernel
theorem dX4_init_32 : decode cX4_init 32 = .ok (.putfield 28, 3) := by decide +kernel
theorem dX4_init_35 : decode cX4_init 35 = .ok (.return_, 1) := by decide +kernel
theorem dX5_init_0 : decode cX5_init 0 = .ok (.aload_n 0, 1) := by decide +kernel
theorem dX5_init_1 : decode cX5_init 1 = .ok (.invokespecial 5, 3) := by decide +kernel
theorem dX5_init_4 : decode cX5_init 4 = .ok (.aload_n 0, 1) := by decide +kernel
theorem dX5_init_5 : decode cX5_init 5 = .ok (.bipush 80, 2) := by decide +kernel
theorem dX5_init_7 : decode cX5_init 7 = .ok (.newarray .boolean, 2) := by decide +kernel
theorem dX5_init_9 : decode cX5_init 9 = .ok (.putfield 11, 3) := by decide +kernel
theorem dX5_init_12 : decode cX5_init 12 = .ok (.aload_n 0, 1) := by decide +kernel
theorem dX5_init_13 : decode cX5_init 13 = .ok (.bipush 80, 2) := by decide +kernel
theorem dX5_init_15 : decode cX5_init 15 = .ok (.newarray .long, 2) := by decide +kernel
theorem dX5_init_17 : decode cX5_init 17 = .ok (.putfield 15, 3) := by decide +kernel
theorem dX5_init_20 : decode cX5_init 20 = .ok (.aload_n 0, 1) := by decide +kernel
theorem dX5_init_21 : decode cX5_init 21 = .ok (.bipush 80, 2) := by decide +kernel
theorem dX5_init_23 : decode cX5_init 23 = .ok (.newarray .long, 2) := by decide +kernel
theorem dX5_init_25 : decode cX5_init 25 = .ok (.putfield 19, 3) := by decide +kernel
theorem dX5_init_28 : decode cX5_init 28 = .ok (.aload_n 0, 1) := by decide +kernel
theorem dX5_init_29 : decode cX5_init 29 = .ok (.bipush 16, 2) := by decide +kernel
theorem dX5_init_31 : decode cX5_init 31 = .ok (.newarray .int, 2) := by decide +kernel
theorem dX5_init_33 : decode cX5_init 33 = .ok (.putfield 22, 3) := by decide +kernel
theorem dX5_init_36 : decode cX5_init 36 = .ok (.aload_n 0, 1) := by decide +kernel
theorem dX5_init_37 : decode cX5_init 37 = .ok (.iconst 4, 1) := by decide +kernel
theorem dX5_init_38 : decode cX5_init 38 = .ok (.newarray .int, 2) := by decide +kernel
theorem dX5_init_40 : decode cX5_init 40 = .ok (.putfield 26, 3) := by decide +kernel
theorem dX5_init_43 : decode cX5_init 43 = .ok (.aload_n 0, 1) := by decide +kernel
theorem dX5_init_44 : decode cX5_init 44 = .ok (.iconst 4, 1) := by decide +kernel
theorem dX5_init_45 : decode cX5_init 45 = .ok (.newarray .int, 2) := by decide +kernel
theorem dX5_init_47 : decode cX5_init 47 = .ok (.putfield 29, 3) := by decide +kernel
theorem dX5_init_50 : decode cX5_init 50 = .ok (.aload_n 0, 1) := by decide +kernel
theorem dX5_init_51 : decode cX5_init 51 = .ok (.bipush 80, 2) := by decide +kernel
theorem dX5_init_53 : decode cX5_init 53 = .ok (.newarray .long, 2) := by decide +kernel
theorem dX5_init_55 : decode cX5_init 55 = .ok (.putfield 32, 3) := by decide +kernel
theorem dX5_init_58 : decode cX5_init 58 = .ok (.aload_n 0, 1) := by decide +kernel
theorem dX5_init_59 : decode cX5_init 59 = .ok (.bipush 80, 2) := by decide +kernel
theorem dX5_init_61 : decode cX5_init 61 = .ok (.newarray .long, 2) := by decide +kernel
theorem dX5_init_63 : decode cX5_init 63 = .ok (.putfield 35, 3) := by decide +kernel
theorem dX5_init_66 : decode cX5_init 66 = .ok (.aload_n 0, 1) := by decide +kernel
theorem dX5_init_67 : decode cX5_init 67 = .ok (.getfield 22, 3) := by decide +kernel
theorem dX5_init_70 : decode cX5_init 70 = .ok (.iconst (-1), 1) := by decide +kernel
theorem dX5_init_71 : decode cX5_init 71 = .ok (.invokestatic 38, 3) := by decide +kernel
theorem dX5_init_74 : decode cX5_init 74 = .ok (.aload_n 0, 1) := by decide +kernel
theorem dX5_init_75 : decode cX5_init 75 = .ok (.getfield 26, 3) := by decide +kernel
theorem dX5_init_78 : decode cX5_init 78 = .ok (.iconst (-1), 1) := by decide +kernel
theorem dX5_init_79 : decode cX5_init 79 = .ok (.invokestatic 38, 3) := by decide +kernel
theorem dX5_init_82 : decode cX5_init 82 = .ok (.return_, 1) := by decide +kernel
theorem dX5_isClaimed_0 : decode cX5_isClaimed 0 = .ok (.aload_n 0, 1) := by decide +kernel
theorem dX5_isClaimed_1 : decode cX5_isClaimed 1 = .ok (.getfield 26, 3) := by decide +kernel
theorem dX5_isClaimed_4 : decode cX5_isClaimed 4 = .ok (.aload_n 0, 1) := by decide +kernel
theorem dX5_isClaimed_5 : decode cX5_isClaimed 5 = .ok (.getfield 48, 3) := by decide +kernel
theorem dX5_isClaimed_8 : decode cX5_isClaimed 8 = .ok (.iaload, 1) := by decide +kernel
theorem dX5_isClaimed_9 : decode cX5_isClaimed 9 = .ok (.ifCond .lt 7, 3) := by decide +kernel
theorem dX5_isClaimed_12 : decode cX5_isClaimed 12 = .ok (.iconst 1, 1) := by decide +kernel
theorem dX5_isClaimed_13 : decode cX5_isClaimed 13 = .ok (.goto 4, 3) := by decide +kernel
theorem dX5_isClaimed_16 : decode cX5_isClaimed 16 = .ok (.iconst 0, 1) := by decide +kernel
theorem dX5_isClaimed_17 : decode cX5_isClaimed 17 = .ok (.ireturn, 1) := by decide +kernel
theorem dX5_isClaimedByAnother_0 : decode cX5_isClaimedByAnother 0 = .ok (.aload_n 0, 1) := by decide +kernel
theorem dX5_isClaimedByAnother_1 : decode cX5_isClaimedByAnother 1 = .ok (.invokevirtual 51, 3) := by decide +kernel
theorem dX5_isClaimedByAnother_4 : decode cX5_isClaimedByAnother 4 = .ok (.ifCond .eq 23, 3) := by decide +kernel
theorem dX5_isClaimedByAnother_7 : decode cX5_isClaimedByAnother 7 = .ok (.aload_n 0, 1) := by decide +kernel
theorem dX5_isClaimedByAnother_8 : decode cX5_isClaimedByAnother 8 = .ok (.getfield 26, 3) := by decide +kernel
theorem dX5_isClaimedByAnother_11 : decode cX5_isClaimedByAnother 11 = .ok (.aload_n 0, 1) := by decide +kernel
theorem dX5_isClaimedByAnother_12 : decode cX5_isClaimedByAnother 12 = .ok (.getfield 48, 3) := by decide +kernel
theorem dX5_isClaimedByAnother_15 : decode cX5_isClaimedByAnother 15 = .ok (.iaload, 1) := by decide +kernel
theorem dX5_isClaimedByAnother_16 : decode cX5_isClaimedByAnother 16 = .ok (.aload_n 0, 1) := by decide +kernel
theorem dX5_isClaimedByAnother_17 : decode cX5_isClaimedByAnother 17 = .ok (.getfield 44, 3) := by decide +kernel
theorem dX5_isClaimedByAnother_20 : decode cX5_isClaimedByAnother 20 = .ok (.if_icmp .eq 7, 3) := by decide +kernel
theorem dX5_isClaimedByAnother_23 : decode cX5_isClaimedByAnother 23 = .ok (.iconst 1, 1) := by decide +kernel
theorem dX5_isClaimedByAnother_24 : decode cX5_isClaimedByAnother 24 = .ok (.goto 4, 3) := by decide +kernel
theorem dX5_isClaimedByAnother_27 : decode cX5_isClaimedByAnother 27 = .ok (.iconst 0, 1) := by decide +kernel
theorem dX5_isClaimedByAnother_28 : decode cX5_isClaimedByAnother 28 = .ok (.ireturn, 1) := by decide +kernel
theorem dX5_placeOf_0 : decode cX5_placeOf 0 = .ok (.iload_n 0, 1) := by decide +kernel
theorem dX5_placeOf_1 : decode cX5_placeOf 1 = .ok (.iconst (-1), 1) := by decide +kernel
theorem dX5_placeOf_2 : decode cX5_placeOf 2 = .ok (.if_icmp .ne 19, 3) := by decide +kernel
theorem dX5_placeOf_5 : decode cX5_placeOf 5 = .ok (.iload_n 1, 1) := by decide +kernel
theorem dX5_placeOf_6 : decode cX5_placeOf 6 = .ok (.ifCond .lt 13, 3) := by decide +kernel
theorem dX5_placeOf_9 : decode cX5_placeOf 9 = .ok (.iload_n 1, 1) := by decide +kernel
theorem dX5_placeOf_10 : decode cX5_placeOf 10 = .ok (.bipush 8, 2) := by decide +kernel
theorem dX5_placeOf_12 : decode cX5_placeOf 12 = .ok (.if_icmp .ge 7, 3) := by decide +kernel
theorem dX5_placeOf_15 : decode cX5_placeOf 15 = .ok (.iload_n 1, 1) := by decide +kernel
theorem dX5_placeOf_16 : decode cX5_placeOf 16 = .ok (.goto 4, 3) := by decide +kernel
theorem dX5_placeOf_19 : decode cX5_placeOf 19 = .ok (.iconst (-1), 1) := by decide +kernel
theorem dX5_placeOf_20 : decode cX5_placeOf 20 = .ok (.ireturn, 1) := by decide +kernel
theorem dX5_placeOf_21 : decode cX5_placeOf 21 = .ok (.iload_n 0, 1) := by decide +kernel
theorem dX5_placeOf_22 : decode cX5_placeOf 22 = .ok (.invokestatic 55, 3) := by decide +kernel
theorem dX5_placeOf_25 : decode cX5_placeOf 25 = .ok (.ifCond .eq 16, 3) := by decide +kernel
theorem dX5_placeOf_28 : decode cX5_placeOf 28 = .ok (.iload_n 1, 1) := by decide +kernel
theorem dX5_placeOf_29 : decode cX5_placeOf 29 = .ok (.ifCond .lt 12, 3) := by decide +kernel
theorem dX5_placeOf_32 : decode cX5_placeOf 32 = .ok (.iload_n 1, 1) := by decide +kernel
theorem dX5_placeOf_33 : decode cX5_placeOf 33 = .ok (.iconst 4, 1) := by decide +kernel
theorem dX5_placeOf_34 : decode cX5_placeOf 34 = .ok (.if_icmp .ge 7, 3) := by decide +kernel
theorem dX5_placeOf_37 : decode cX5_placeOf 37 = .ok (.iconst 1, 1) := by decide +kernel
theorem dX5_placeOf_38 : decode cX5_placeOf 38 = .ok (.goto 4, 3) := by decide +kernel
theorem dX5_placeOf_41 : decode cX5_placeOf 41 = .ok (.iconst 0, 1) := by decide +kernel
theorem dX5_placeOf_42 : decode cX5_placeOf 42 = .ok (.istore_n 2, 1) := by decide +kernel
theorem dX5_placeOf_43 : decode cX5_placeOf 43 = .ok (.iload_n 2, 1) := by decide +kernel
theorem dX5_placeOf_44 : decode cX5_placeOf 44 = .ok (.ifCond .eq 14, 3) := by decide +kernel
theorem dX5_placeOf_47 : decode cX5_placeOf 47 = .ok (.bipush 8, 2) := by decide +kernel
theorem dX5_placeOf_49 : decode cX5_placeOf 49 = .ok (.iload_n 0, 1) := by decide +kernel
theorem dX5_placeOf_50 : decode cX5_placeOf 50 = .ok (.iconst 4, 1) := by decide +kernel
theorem dX5_placeOf_51 : decode cX5_placeOf 51 = .ok (.imul, 1) := by decide +kernel
theorem dX5_placeOf_52 : decode cX5_placeOf 52 = .ok (.iadd, 1) := by decide +kernel
theorem dX5_placeOf_53 : decode cX5_placeOf 53 = .ok (.iload_n 1, 1) := by decide +kernel
theorem dX5_placeOf_54 : decode cX5_placeOf 54 = .ok (.iadd, 1) := by decide +kernel
theorem dX5_placeOf_55 : decode cX5_placeOf 55 = .ok (.goto 4, 3) := by decide +kernel
theorem dX5_placeOf_58 : decode cX5_placeOf 58 = .ok (.iconst (-1), 1) := by decide +kernel
theorem dX5_placeOf_59 : decode cX5_placeOf 59 = .ok (.ireturn, 1) := by decide +kernel
theorem dX5_indexOf_0 : decode cX5_indexOf 0 = .ok (.iload_n 1, 1) := by decide +kernel
theorem dX5_indexOf_1 : decode cX5_indexOf 1 = .ok (.ifCond .lt 9, 3) := by decide +kernel
theorem dX5_indexOf_4 : decode cX5_indexOf 4 = .ok (.iload_n 1, 1) := by decide +kernel
theorem dX5_indexOf_5 : decode cX5_indexOf 5 = .ok (.bipush 20, 2) := by decide +kernel
theorem dX5_indexOf_7 : decode cX5_indexOf 7 = .ok (.if_icmp .lt 7, 3) := by decide +kernel
theorem dX5_indexOf_10 : decode cX5_indexOf 10 = .ok (.iconst (-1), 1) := by decide +kernel
theorem dX5_indexOf_11 : decode cX5_indexOf 11 = .ok (.goto 12, 3) := by decide +kernel
theorem dX5_indexOf_14 : decode cX5_indexOf 14 = .ok (.aload_n 0, 1) := by decide +kernel
theorem dX5_indexOf_15 : decode cX5_indexOf 15 = .ok (.getfield 48, 3) := by decide +kernel
theorem dX5_indexOf_18 : decode cX5_indexOf 18 = .ok (.bipush 20, 2) := by decide +kernel
theorem dX5_indexOf_20 : decode cX5_indexOf 20 = .ok (.imul, 1) := by decide +kernel
theorem dX5_indexOf_21 : decode cX5_indexOf 21 = .ok (.iload_n 1, 1) := by decide +kernel
theorem dX5_indexOf_22 : decode cX5_indexOf 22 = .ok (.iadd, 1) := by decide +kernel
theorem dX5_indexOf_23 : decode cX5_indexOf 23 = .ok (.ireturn, 1) := by decide +kernel
theorem dX5_keep_0 : decode cX5_keep 0 = .ok (.aload_n 0, 1) := by decide +kernel
theorem dX5_keep_1 : decode cX5_keep 1 = .ok (.iload_n 1, 1) := by decide +kernel
theorem dX5_keep_2 : decode cX5_keep 2 = .ok (.invokevirtual 59, 3) := by decide +kernel
theorem dX5_keep_5 : decode cX5_keep 5 = .ok (.istore 6, 2) := by decide +kernel
theorem dX5_keep_7 : decode cX5_keep 7 = .ok (.iload 6, 2) := by decide +kernel
theorem dX5_keep_9 : decode cX5_keep 9 = .ok (.ifCond .lt 28, 3) := by decide +kernel
theorem dX5_keep_12 : decode cX5_keep 12 = .ok (.aload_n 0, 1) := by decide +kernel
theorem dX5_keep_13 : decode cX5_keep 13 = .ok (.getfield 11, 3) := by decide +kernel
theorem dX5_keep_16 : decode cX5_keep 16 = .ok (.iload 6, 2) := by decide +kernel
theorem dX5_keep_18 : decode cX5_keep 18 = .ok (.iconst 1, 1) := by decide +kernel
theorem dX5_keep_19 : decode cX5_keep 19 = .ok (.bastore, 1) := by decide +kernel
theorem dX5_keep_20 : decode cX5_keep 20 = .ok (.aload_n 0, 1) := by decide +kernel
theorem dX5_keep_21 : decode cX5_keep 21 = .ok (.getfield 15, 3) := by decide +kernel
theorem dX5_keep_24 : decode cX5_keep 24 = .ok (.iload 6, 2) := by decide +kernel
theorem dX5_keep_26 : decode cX5_keep 26 = .ok (.lload_n 2, 1) := by decide +kernel
theorem dX5_keep_27 : decode cX5_keep 27 = .ok (.lastore, 1) := by decide +kernel
theorem dX5_keep_28 : decode cX5_keep 28 = .ok (.aload_n 0, 1) := by decide +kernel
theorem dX5_keep_29 : decode cX5_keep 29 = .ok (.getfield 19, 3) := by decide +kernel
theorem dX5_keep_32 : decode cX5_keep 32 = .ok (.iload 6, 2) := by decide +kernel
theorem dX5_keep_34 : decode cX5_keep 34 = .ok (.lload 4, 2) := by decide +kernel
theorem dX5_keep_36 : decode cX5_keep 36 = .ok (.lastore, 1) := by decide +kernel
theorem dX5_keep_37 : decode cX5_keep 37 = .ok (.return_, 1) := by decide +kernel
theorem dX5_isKept_0 : decode cX5_isKept 0 = .ok (.aload_n 0, 1) := by decide +kernel
theorem dX5_isKept_1 : decode cX5_isKept 1 = .ok (.iload_n 1, 1) := by decide +kernel
theorem dX5_isKept_2 : decode cX5_isKept 2 = .ok (.invokevirtual 59, 3) := by decide +kernel
theorem dX5_isKept_5 : decode cX5_isKept 5 = .ok (.istore_n 2, 1) := by decide +kernel
theorem dX5_isKept_6 : decode cX5_isKept 6 = .ok (.iload_n 2, 1) := by decide +kernel
theorem dX5_isKept_7 : decode cX5_isKept 7 = .ok (.ifCond .lt 16, 3) := by decide +kernel
theorem dX5_isKept_10 : decode cX5_isKept 10 = .ok (.aload_n 0, 1) := by decide +kernel
theorem dX5_isKept_11 : decode cX5_isKept 11 = .ok (.getfield 11, 3) := by decide +kernel
theorem dX5_isKept_14 : decode cX5_isKept 14 = .ok (.iload_n 2, 1) := by decide +kernel
theorem dX5_isKept_15 : decode cX5_isKept 15 = .ok (.baload, 1) := by decide +kernel
theorem dX5_isKept_16 : decode cX5_isKept 16 = .ok (.ifCond .eq 7, 3) := by decide +kernel
theorem dX5_isKept_19 : decode cX5_isKept 19 = .ok (.iconst 1, 1) := by decide +kernel
theorem dX5_isKept_20 : decode cX5_isKept 20 = .ok (.goto 4, 3) := by decide +kernel
theorem dX5_isKept_23 : decode cX5_isKept 23 = .ok (.iconst 0, 1) := by decide +kernel
theorem dX5_isKept_24 : decode cX5_isKept 24 = .ok (.ireturn, 1) := by decide +kernel
theorem dX5_keptBy_0 : decode cX5_keptBy 0 = .ok (.aload_n 0, 1) := by decide +kernel
theorem dX5_keptBy_1 : decode cX5_keptBy 1 = .ok (.iload_n 1, 1) := by decide +kernel
theorem dX5_keptBy_2 : decode cX5_keptBy 2 = .ok (.invokevirtual 59, 3) := by decide +kernel
theorem dX5_keptBy_5 : decode cX5_keptBy 5 = .ok (.istore_n 2, 1) := by decide +kernel
theorem dX5_keptBy_6 : decode cX5_keptBy 6 = .ok (.iload_n 2, 1) := by decide +kernel
theorem dX5_keptBy_7 : decode cX5_keptBy 7 = .ok (.ifCond .ge 7, 3) := by decide +kernel
theorem dX5_keptBy_10 : decode cX5_keptBy 10 = .ok (.lconst 0, 1) := by decide +kernel
theorem dX5_keptBy_11 : decode cX5_keptBy 11 = .ok (.goto 9, 3) := by decide +kernel
theorem dX5_keptBy_14 : decode cX5_keptBy 14 = .ok (.aload_n 0, 1) := by decide +kernel
theorem dX5_keptBy_15 : decode cX5_keptBy 15 = .ok (.getfield 15, 3) := by decide +kernel
theorem dX5_keptBy_18 : decode cX5_keptBy 18 = .ok (.iload_n 2, 1) := by decide +kernel
theorem dX5_keptBy_19 : decode cX5_keptBy 19 = .ok (.laload, 1) := by decide +kernel
theorem dX5_keptBy_20 : decode cX5_keptBy 20 = .ok (.lreturn, 1) := by decide +kernel
theorem dX5_drawnBy_0 : decode cX5_drawnBy 0 = .ok (.aload_n 0, 1) := by decide +kernel
theorem dX5_drawnBy_1 : decode cX5_drawnBy 1 = .ok (.iload_n 1, 1) := by decide +kernel
theorem dX5_drawnBy_2 : decode cX5_drawnBy 2 = .ok (.invokevirtual 59, 3) := by decide +kernel
theorem dX5_drawnBy_5 : decode cX5_drawnBy 5 = .ok (.istore_n 2, 1) := by decide +kernel
theorem dX5_drawnBy_6 : decode cX5_drawnBy 6 = .ok (.iload_n 2, 1) := by decide +kernel
theorem dX5_drawnBy_7 : decode cX5_drawnBy 7 = .ok (.ifCond .ge 7, 3) := by decide +kernel
theorem dX5_drawnBy_10 : decode cX5_drawnBy 10 = .ok (.lconst 0, 1) := by decide +kernel
theorem dX5_drawnBy_11 : decode cX5_drawnBy 11 = .ok (.goto 9, 3) := by decide +kernel
theorem dX5_drawnBy_14 : decode cX5_drawnBy 14 = .ok (.aload_n 0, 1) := by decide +kernel
theorem dX5_drawnBy_15 : decode cX5_drawnBy 15 = .ok (.getfield 19, 3) := by decide +kernel
theorem dX5_drawnBy_18 : decode cX5_drawnBy 18 = .ok (.iload_n 2, 1) := by decide +kernel
theorem dX5_drawnBy_19 : decode cX5_drawnBy 19 = .ok (.laload, 1) := by decide +kernel
theorem dX5_drawnBy_20 : decode cX5_drawnBy 20 = .ok (.lreturn, 1) := by decide +kernel
theorem dX5_reversibleKnob_0 : decode cX5_reversibleKnob 0 = .ok (.iload_n 1, 1) := by decide +kernel
theorem dX5_reversibleKnob_1 : decode cX5_reversibleKnob 1 = .ok (.ifCond .lt 12, 3) := by decide +kernel
theorem dX5_reversibleKnob_4 : decode cX5_reversibleKnob 4 = .ok (.iload_n 1, 1) := by decide +kernel
theorem dX5_reversibleKnob_5 : decode cX5_reversibleKnob 5 = .ok (.iconst 4, 1) := by decide +kernel
theorem dX5_reversibleKnob_6 : decode cX5_reversibleKnob 6 = .ok (.if_icmp .ge 7, 3) := by decide +kernel
theorem dX5_reversibleKnob_9 : decode cX5_reversibleKnob 9 = .ok (.iconst 1, 1) := by decide +kernel
theorem dX5_reversibleKnob_10 : decode cX5_reversibleKnob 10 = .ok (.goto 4, 3) := by decide +kernel
theorem dX5_reversibleKnob_13 : decode cX5_reversibleKnob 13 = .ok (.iconst 0, 1) := by decide +kernel
theorem dX5_reversibleKnob_14 : decode cX5_reversibleKnob 14 = .ok (.istore_n 2, 1) := by decide +kernel
theorem dX5_reversibleKnob_15 : decode cX5_reversibleKnob 15 = .ok (.iload_n 2, 1) := by decide +kernel
theorem dX5_reversibleKnob_16 : decode cX5_reversibleKnob 16 = .ok (.ifCond .eq 19, 3) := by decide +kernel
theorem dX5_reversibleKnob_19 : decode cX5_reversibleKnob 19 = .ok (.aload_n 0, 1) := by decide +kernel
theorem dX5_reversibleKnob_20 : decode cX5_reversibleKnob 20 = .ok (.getfield 22, 3) := by decide +kernel
theorem dX5_reversibleKnob_23 : decode cX5_reversibleKnob 23 = .ok (.aload_n 0, 1) := by decide +kernel
theorem dX5_reversibleKnob_24 : decode cX5_reversibleKnob 24 = .ok (.getfield 48, 3) := by decide +kernel
theorem dX5_reversibleKnob_27 : decode cX5_reversibleKnob 27 = .ok (.iconst 4, 1) := by decide +kernel
theorem dX5_reversibleKnob_28 : decode cX5_reversibleKnob 28 = .ok (.imul, 1) := by decide +kernel
theorem dX5_reversibleKnob_29 : decode cX5_reversibleKnob 29 = .ok (.iload_n 1, 1) := by decide +kernel
theorem dX5_reversibleKnob_30 : decode cX5_reversibleKnob 30 = .ok (.iadd, 1) := by decide +kernel
theorem dX5_reversibleKnob_31 : decode cX5_reversibleKnob 31 = .ok (.iaload, 1) := by decide +kernel
theorem dX5_reversibleKnob_32 : decode cX5_reversibleKnob 32 = .ok (.goto 4, 3) := by decide +kernel
theorem dX5_reversibleKnob_35 : decode cX5_reversibleKnob 35 = .ok (.iconst (-1), 1) := by decide +kernel
theorem dX5_reversibleKnob_36 : decode cX5_reversibleKnob 36 = .ok (.ireturn, 1) := by decide +kernel
theorem dX5_keepReversible_0 : decode cX5_keepReversible 0 = .ok (.iload_n 1, 1) := by decide +kernel
theorem dX5_keepReversible_1 : decode cX5_keepReversible 1 = .ok (.ifCond .lt 22, 3) := by decide +kernel
theorem dX5_keepReversible_4 : decode cX5_keepReversible 4 = .ok (.iload_n 1, 1) := by decide +kernel
theorem dX5_keepReversible_5 : decode cX5_keepReversible 5 = .ok (.iconst 4, 1) := by decide +kernel
theorem dX5_keepReversible_6 : decode cX5_keepReversible 6 = .ok (.if_icmp .ge 17, 3) := by decide +kernel
theorem dX5_keepReversible_9 : decode cX5_keepReversible 9 = .ok (.aload_n 0, 1) := by decide +kernel
theorem dX5_keepReversible_10 : decode cX5_keepReversible 10 = .ok (.getfield 22, 3) := by decide +kernel
theorem dX5_keepReversible_13 : decode cX5_keepReversible 13 = .ok (.aload_n 0, 1) := by decide +kernel
theorem dX5_keepReversible_14 : decode cX5_keepReversible 14 = .ok (.getfield 48, 3) := by decide +kernel
theorem dX5_keepReversible_17 : decode cX5_keepReversible 17 = .ok (.iconst 4, 1) := by decide +kernel
theorem dX5_keepReversible_18 : decode cX5_keepReversible 18 = .ok (.imul, 1) := by decide +kernel
theorem dX5_keepReversible_19 : decode cX5_keepReversible 19 = .ok (.iload_n 1, 1) := by decide +kernel
theorem dX5_keepReversible_20 : decode cX5_keepReversible 20 = .ok (.iadd, 1) := by decide +kernel
theorem dX5_keepReversible_21 : decode cX5_keepReversible 21 = .ok (.iload_n 2, 1) := by decide +kernel
theorem dX5_keepReversible_22 : decode cX5_keepReversible 22 = .ok (.iastore, 1) := by decide +kernel
theorem dX5_keepReversible_23 : decode cX5_keepReversible 23 = .ok (.return_, 1) := by decide +kernel
theorem dX5_frames_0 : decode cX5_frames 0 = .ok (.aload_n 0, 1) := by decide +kernel
theorem dX5_frames_1 : decode cX5_frames 1 = .ok (.getfield 29, 3) := by decide +kernel
theorem dX5_frames_4 : decode cX5_frames 4 = .ok (.aload_n 0, 1) := by decide +kernel
theorem dX5_frames_5 : decode cX5_frames 5 = .ok (.getfield 44, 3) := by decide +kernel
theorem dX5_frames_8 : decode cX5_frames 8 = .ok (.iaload, 1) := by decide +kernel
theorem dX5_frames_9 : decode cX5_frames 9 = .ok (.ireturn, 1) := by decide +kernel
theorem dX5_insertFrame_0 : decode cX5_insertFrame 0 = .ok (.aload_n 0, 1) := by decide +kernel
theorem dX5_insertFrame_1 : decode cX5_insertFrame 1 = .ok (.invokevirtual 63, 3) := by decide +kernel
theorem dX5_insertFrame_4 : decode cX5_insertFrame 4 = .ok (.istore 6, 2) := by decide +kernel
theorem dX5_insertFrame_6 : decode cX5_insertFrame 6 = .ok (.iload_n 1, 1) := by decide +kernel
theorem dX5_insertFrame_7 : decode cX5_insertFrame 7 = .ok (.ifCond .lt 16, 3) := by decide +kernel
theorem dX5_insertFrame_10 : decode cX5_insertFrame 10 = .ok (.iload_n 1, 1) := by decide +kernel
theorem dX5_insertFrame_11 : decode cX5_insertFrame 11 = .ok (.iload 6, 2) := by decide +kernel
theorem dX5_insertFrame_13 : decode cX5_insertFrame 13 = .ok (.if_icmp .gt 10, 3) := by decide +kernel
theorem dX5_insertFrame_16 : decode cX5_insertFrame 16 = .ok (.iload 6, 2) := by decide +kernel
theorem dX5_insertFrame_18 : decode cX5_insertFrame 18 = .ok (.bipush 20, 2) := by decide +kernel
theorem dX5_insertFrame_20 : decode cX5_insertFrame 20 = .ok (.if_icmp .lt 4, 3) := by decide +kernel
theorem dX5_insertFrame_23 : decode cX5_insertFrame 23 = .ok (.return_, 1) := by decide +kernel
theorem dX5_insertFrame_24 : decode cX5_insertFrame 24 = .ok (.aload_n 0, 1) := by decide +kernel
theorem dX5_insertFrame_25 : decode cX5_insertFrame 25 = .ok (.getfield 44, 3) := by decide +kernel
theorem dX5_insertFrame_28 : decode cX5_insertFrame 28 = .ok (.bipush 20, 2) := by decide +kernel
theorem dX5_insertFrame_30 : decode cX5_insertFrame 30 = .ok (.imul, 1) := by decide +kernel
theorem dX5_insertFrame_31 : decode cX5_insertFrame 31 = .ok (.iload_n 1, 1) := by decide +kernel
theorem dX5_insertFrame_32 : decode cX5_insertFrame 32 = .ok (.iadd, 1) := by decide +kernel
theorem dX5_insertFrame_33 : decode cX5_insertFrame 33 = .ok (.istore 7, 2) := by decide +kernel
theorem dX5_insertFrame_35 : decode cX5_insertFrame 35 = .ok (.aload_n 0, 1) := by decide +kernel
theorem dX5_insertFrame_36 : decode cX5_insertFrame 36 = .ok (.getfield 32, 3) := by decide +kernel
theorem dX5_insertFrame_39 : decode cX5_insertFrame 39 = .ok (.iload 7, 2) := by decide +kernel
theorem dX5_insertFrame_41 : decode cX5_insertFrame 41 = .ok (.aload_n 0, 1) := by decide +kernel
theorem dX5_insertFrame_42 : decode cX5_insertFrame 42 = .ok (.getfield 32, 3) := by decide +kernel
theorem dX5_insertFrame_45 : decode cX5_insertFrame 45 = .ok (.iload 7, 2) := by decide +kernel
theorem dX5_insertFrame_47 : decode cX5_insertFrame 47 = .ok (.iconst 1, 1) := by decide +kernel
theorem dX5_insertFrame_48 : decode cX5_insertFrame 48 = .ok (.iadd, 1) := by decide +kernel
theorem dX5_insertFrame_49 : decode cX5_insertFrame 49 = .ok (.iload 6, 2) := by decide +kernel
theorem dX5_insertFrame_51 : decode cX5_insertFrame 51 = .ok (.iload_n 1, 1) := by decide +kernel
theorem dX5_insertFrame_52 : decode cX5_insertFrame 52 = .ok (.isub, 1) := by decide +kernel
theorem dX5_insertFrame_53 : decode cX5_insertFrame 53 = .ok (.invokestatic 67, 3) := by decide +kernel
theorem dX5_insertFrame_56 : decode cX5_insertFrame 56 = .ok (.aload_n 0, 1) := by decide +kernel
theorem dX5_insertFrame_57 : decode cX5_insertFrame 57 = .ok (.getfield 35, 3) := by decide +kernel
theorem dX5_insertFrame_60 : decode cX5_insertFrame 60 = .ok (.iload 7, 2) := by decide +kernel
theorem dX5_insertFrame_62 : decode cX5_insertFrame 62 = .ok (.aload_n 0, 1) := by decide +kernel
theorem dX5_insertFrame_63 : decode cX5_insertFrame 63 = .ok (.getfield 35, 3) := by decide +kernel
theorem dX5_insertFrame_66 : decode cX5_insertFrame 66 = .ok (.iload 7, 2) := by decide +kernel
theorem dX5_insertFrame_68 : decode cX5_insertFrame 68 = .ok (.iconst 1, 1) := by decide +kernel
theorem dX5_insertFrame_69 : decode cX5_insertFrame 69 = .ok (.iadd, 1) := by decide +kernel
theorem dX5_insertFrame_70 : decode cX5_insertFrame 70 = .ok (.iload 6, 2) := by decide +kernel
theorem dX5_insertFrame_72 : decode cX5_insertFrame 72 = .ok (.iload_n 1, 1) := by decide +kernel
theorem dX5_insertFrame_73 : decode cX5_insertFrame 73 = .ok (.isub, 1) := by decide +kernel
theorem dX5_insertFrame_74 : decode cX5_insertFrame 74 = .ok (.invokestatic 67, 3) := by decide +kernel
theorem dX5_insertFrame_77 : decode cX5_insertFrame 77 = .ok (.aload_n 0, 1) := by decide +kernel
theorem dX5_insertFrame_78 : decode cX5_insertFrame 78 = .ok (.getfield 32, 3) := by decide +kernel
theorem dX5_insertFrame_81 : decode cX5_insertFrame 81 = .ok (.iload 7, 2) := by decide +kernel
theorem dX5_insertFrame_83 : decode cX5_insertFrame 83 = .ok (.lload_n 2, 1) := by decide +kernel
theorem dX5_insertFrame_84 : decode cX5_insertFrame 84 = .ok (.lastore, 1) := by decide +kernel
theorem dX5_insertFrame_85 : decode cX5_insertFrame 85 = .ok (.aload_n 0, 1) := by decide +kernel
theorem dX5_insertFrame_86 : decode cX5_insertFrame 86 = .ok (.getfield 35, 3) := by decide +kernel
theorem dX5_insertFrame_89 : decode cX5_insertFrame 89 = .ok (.iload 7, 2) := by decide +kernel
theorem dX5_insertFrame_91 : decode cX5_insertFrame 91 = .ok (.lload 4, 2) := by decide +kernel
theorem dX5_insertFrame_93 : decode cX5_insertFrame 93 = .ok (.lastore, 1) := by decide +kernel
theorem dX5_insertFrame_94 : decode cX5_insertFrame 94 = .ok (.aload_n 0, 1) := by decide +kernel
theorem dX5_insertFrame_95 : decode cX5_insertFrame 95 = .ok (.getfield 29, 3) := by decide +kernel
theorem dX5_insertFrame_98 : decode cX5_insertFrame 98 = .ok (.aload_n 0, 1) := by decide +kernel
theorem dX5_insertFrame_99 : decode cX5_insertFrame 99 = .ok (.getfield 44, 3) := by decide +kernel
theorem dX5_insertFrame_102 : decode cX5_insertFrame 102 = .ok (.dup2, 1) := by decide +kernel
theorem dX5_insertFrame_103 : decode cX5_insertFrame 103 = .ok (.iaload, 1) := by decide +kernel
theorem dX5_insertFrame_104 : decode cX5_insertFrame 104 = .ok (.iconst 1, 1) := by decide +kernel
theorem dX5_insertFrame_105 : decode cX5_insertFrame 105 = .ok (.iadd, 1) := by decide +kernel
theorem dX5_insertFrame_106 : decode cX5_insertFrame 106 = .ok (.iastore, 1) := by decide +kernel
theorem dX5_insertFrame_107 : decode cX5_insertFrame 107 = .ok (.return_, 1) := by decide +kernel
theorem dX5_keptByFrame_0 : decode cX5_keptByFrame 0 = .ok (.iload_n 1, 1) := by decide +kernel
theorem dX5_keptByFrame_1 : decode cX5_keptByFrame 1 = .ok (.ifCond .lt 11, 3) := by decide +kernel
theorem dX5_keptByFrame_4 : decode cX5_keptByFrame 4 = .ok (.iload_n 1, 1) := by decide +kernel
theorem dX5_keptByFrame_5 : decode cX5_keptByFrame 5 = .ok (.aload_n 0, 1) := by decide +kernel
theorem dX5_keptByFrame_6 : decode cX5_keptByFrame 6 = .ok (.invokevirtual 63, 3) := by decide +kernel
theorem dX5_keptByFrame_9 : decode cX5_keptByFrame 9 = .ok (.if_icmp .lt 7, 3) := by decide +kernel
theorem dX5_keptByFrame_12 : decode cX5_keptByFrame 12 = .ok (.lconst 0, 1) := by decide +kernel
theorem dX5_keptByFrame_13 : decode cX5_keptByFrame 13 = .ok (.goto 17, 3) := by decide +kernel
theorem dX5_keptByFrame_16 : decode cX5_keptByFrame 16 = .ok (.aload_n 0, 1) := by decide +kernel
theorem dX5_keptByFrame_17 : decode cX5_keptByFrame 17 = .ok (.getfield 32, 3) := by decide +kernel
theorem dX5_keptByFrame_20 : decode cX5_keptByFrame 20 = .ok (.aload_n 0, 1) := by decide +kernel
theorem dX5_keptByFrame_21 : decode cX5_keptByFrame 21 = .ok (.getfield 44, 3) := by decide +kernel
theorem dX5_keptByFrame_24 : decode cX5_keptByFrame 24 = .ok (.bipush 20, 2) := by decide +kernel
theorem dX5_keptByFrame_26 : decode cX5_keptByFrame 26 = .ok (.imul, 1) := by decide +kernel
theorem dX5_keptByFrame_27 : decode cX5_keptByFrame 27 = .ok (.iload_n 1, 1) := by decide +kernel
theorem dX5_keptByFrame_28 : decode cX5_keptByFrame 28 = .ok (.iadd, 1) := by decide +kernel
theorem dX5_keptByFrame_29 : decode cX5_keptByFrame 29 = .ok (.laload, 1) := by decide +kernel
theorem dX5_keptByFrame_30 : decode cX5_keptByFrame 30 = .ok (.lreturn, 1) := by decide +kernel
theorem dX5_drawnByFrame_0 : decode cX5_drawnByFrame 0 = .ok (.iload_n 1, 1) := by decide +kernel
theorem dX5_drawnByFrame_1 : decode cX5_drawnByFrame 1 = .ok (.ifCond .lt 11, 3) := by decide +kernel
theorem dX5_drawnByFrame_4 : decode cX5_drawnByFrame 4 = .ok (.iload_n 1, 1) := by decide +kernel
theorem dX5_drawnByFrame_5 : decode cX5_drawnByFrame 5 = .ok (.aload_n 0, 1) := by decide +kernel
theorem dX5_drawnByFrame_6 : decode cX5_drawnByFrame 6 = .ok (.invokevirtual 63, 3) := by decide +kernel
theorem dX5_drawnByFrame_9 : decode cX5_drawnByFrame 9 = .ok (.if_icmp .lt 7, 3) := by decide +kernel
theorem dX5_drawnByFrame_12 : decode cX5_drawnByFrame 12 = .ok (.lconst 0, 1) := by decide +kernel
theorem dX5_drawnByFrame_13 : decode cX5_drawnByFrame 13 = .ok (.goto 17, 3) := by decide +kernel
theorem dX5_drawnByFrame_16 : decode cX5_drawnByFrame 16 = .ok (.aload_n 0, 1) := by decide +kernel
theorem dX5_drawnByFrame_17 : decode cX5_drawnByFrame 17 = .ok (.getfield 35, 3) := by decide +kernel
theorem dX5_drawnByFrame_20 : decode cX5_drawnByFrame 20 = .ok (.aload_n 0, 1) := by decide +kernel
theorem dX5_drawnByFrame_21 : decode cX5_drawnByFrame 21 = .ok (.getfield 44, 3) := by decide +kernel
theorem dX5_drawnByFrame_24 : decode cX5_drawnByFrame 24 = .ok (.bipush 20, 2) := by decide +kernel
theorem dX5_drawnByFrame_26 : decode cX5_drawnByFrame 26 = .ok (.imul, 1) := by decide +kernel
theorem dX5_drawnByFrame_27 : decode cX5_drawnByFrame 27 = .ok (.iload_n 1, 1) := by decide +kernel
theorem dX5_drawnByFrame_28 : decode cX5_drawnByFrame 28 = .ok (.iadd, 1) := by decide +kernel
theorem dX5_drawnByFrame_29 : decode cX5_drawnByFrame 29 = .ok (.laload, 1) := by decide +kernel
theorem dX5_drawnByFrame_30 : decode cX5_drawnByFrame 30 = .ok (.lreturn, 1) := by decide +kernel
theorem dX6_init_0 : decode cX6_init 0 = .ok (.aload_n 0, 1) := by decide +kernel
theorem dX6_init_1 : decode cX6_init 1 = .ok (.invokespecial 3, 3) := by decide +kernel
theorem dX6_init_4 : decode cX6_init 4 = .ok (.aload_n 0, 1) := by decide +kernel
theorem dX6_init_5 : decode cX6_init 5 = .ok (.bipush (-5), 2) := by decide +kernel
theorem dX6_init_7 : decode cX6_init 7 = .ok (.putfield 9, 3) := by decide +kernel
theorem dX6_init_10 : decode cX6_init 10 = .ok (.aload_n 0, 1) := by decide +kernel
theorem dX6_init_11 : decode cX6_init 11 = .ok (.bipush 45, 2) := by decide +kernel
theorem dX6_init_13 : decode cX6_init 13 = .ok (.putfield 15, 3) := by decide +kernel
theorem dX6_init_16 : decode cX6_init 16 = .ok (.return_, 1) := by decide +kernel
theorem dX6_allReasons_0 : decode cX6_allReasons 0 = .ok (.aload_n 0, 1) := by decide +kernel
theorem dX6_allReasons_1 : decode cX6_allReasons 1 = .ok (.getfield 19, 3) := by decide +kernel
theorem dX6_allReasons_4 : decode cX6_allReasons 4 = .ok (.ifCond .eq 12, 3) := by decide +kernel
theorem dX6_allReasons_7 : decode cX6_allReasons 7 = .ok (.aload_n 0, 1) := by decide +kernel
theorem dX6_allReasons_8 : decode cX6_allReasons 8 = .ok (.getfield 23, 3) := by decide +kernel
theorem dX6_allReasons_11 : decode cX6_allReasons 11 = .ok (.iconst 1, 1) := by decide +kernel
theorem dX6_allReasons_12 : decode cX6_allReasons 12 = .ok (.iadd, 1) := by decide +kernel
theorem dX6_allReasons_13 : decode cX6_allReasons 13 = .ok (.goto 7, 3) := by decide +kernel
theorem dX6_allReasons_16 : decode cX6_allReasons 16 = .ok (.aload_n 0, 1) := by decide +kernel
theorem dX6_allReasons_17 : decode cX6_allReasons 17 = .ok (.getfield 23, 3) := by decide +kernel
theorem dX6_allReasons_20 : decode cX6_allReasons 20 = .ok (.ireturn, 1) := by decide +kernel
theorem dX6_isBlown_0 : decode cX6_isBlown 0 = .ok (.aload_n 0, 1) := by decide +kernel
theorem dX6_isBlown_1 : decode cX6_isBlown 1 = .ok (.getfield 15, 3) := by decide +kernel
theorem dX6_isBlown_4 : decode cX6_isBlown 4 = .ok (.bipush 99, 2) := by decide +kernel
theorem dX6_isBlown_6 : decode cX6_isBlown 6 = .ok (.if_icmp .eq 19, 3) := by decide +kernel
theorem dX6_isBlown_9 : decode cX6_isBlown 9 = .ok (.aload_n 0, 1) := by decide +kernel
theorem dX6_isBlown_10 : decode cX6_isBlown 10 = .ok (.getfield 15, 3) := by decide +kernel
theorem dX6_isBlown_13 : decode cX6_isBlown 13 = .ok (.bipush 100, 2) := by decide +kernel
theorem dX6_isBlown_15 : decode cX6_isBlown 15 = .ok (.if_icmp .eq 14, 3) := by decide +kernel
theorem dX6_isBlown_18 : decode cX6_isBlown 18 = .ok (.aload_n 0, 1) := by decide +kernel
theorem dX6_isBlown_19 : decode cX6_isBlown 19 = .ok (.getfield 26, 3) := by decide +kernel
theorem dX6_isBlown_22 : decode cX6_isBlown 22 = .ok (.ifCond .eq 7, 3) := by decide +kernel
theorem dX6_isBlown_25 : decode cX6_isBlown 25 = .ok (.iconst 1, 1) := by decide +kernel
theorem dX6_isBlown_26 : decode cX6_isBlown 26 = .ok (.goto 4, 3) := by decide +kernel
theorem dX6_isBlown_29 : decode cX6_isBlown 29 = .ok (.iconst 0, 1) := by decide +kernel
theorem dX6_isBlown_30 : decode cX6_isBlown 30 = .ok (.ireturn, 1) := by decide +kernel
theorem dX6_movePallet_0 : decode cX6_movePallet 0 = .ok (.aload_n 0, 1) := by decide +kernel
theorem dX6_movePallet_1 : decode cX6_movePallet 1 = .ok (.getfield 29, 3) := by decide +kernel
theorem dX6_movePallet_4 : decode cX6_movePallet 4 = .ok (.aload_n 0, 1) := by decide +kernel
theorem dX6_movePallet_5 : decode cX6_movePallet 5 = .ok (.getfield 26, 3) := by decide +kernel
theorem dX6_movePallet_8 : decode cX6_movePallet 8 = .ok (.if_icmp .eq 13, 3) := by decide +kernel
theorem dX6_movePallet_11 : decode cX6_movePallet 11 = .ok (.iload_n 1, 1) := by decide +kernel
theorem dX6_movePallet_12 : decode cX6_movePallet 12 = .ok (.aload_n 0, 1) := by decide +kernel
theorem dX6_movePallet_13 : decode cX6_movePallet 13 = .ok (.getfield 32, 3) := by decide +kernel
theorem dX6_movePallet_16 : decode cX6_movePallet 16 = .ok (.isub, 1) := by decide +kernel
theorem dX6_movePallet_17 : decode cX6_movePallet 17 = .ok (.iload_n 2, 1) := by decide +kernel
theorem dX6_movePallet_18 : decode cX6_movePallet 18 = .ok (.if_icmp .ge 4, 3) := by decide +kernel
theorem dX6_movePallet_21 : decode cX6_movePallet 21 = .ok (.return_, 1) := by decide +kernel
theorem dX6_movePallet_22 : decode cX6_movePallet 22 = .ok (.aload_n 0, 1) := by decide +kernel
theorem dX6_movePallet_23 : decode cX6_movePallet 23 = .ok (.getfield 26, 3) := by decide +kernel
theorem dX6_movePallet_26 : decode cX6_movePallet 26 = .ok (.ifCond .eq 16, 3) := by decide +kernel
theorem dX6_movePallet_29 : decode cX6_movePallet 29 = .ok (.aload_n 0, 1) := by decide +kernel
theorem dX6_movePallet_30 : decode cX6_movePallet 30 = .ok (.iconst 0, 1) := by decide +kernel
theorem dX6_movePallet_31 : decode cX6_movePallet 31 = .ok (.putfield 26, 3) := by decide +kernel
theorem dX6_movePallet_34 : decode cX6_movePallet 34 = .ok (.aload_n 0, 1) := by decide +kernel
theorem dX6_movePallet_35 : decode cX6_movePallet 35 = .ok (.iload_n 1, 1) := by decide +kernel
theorem dX6_movePallet_36 : decode cX6_movePallet 36 = .ok (.putfield 9, 3) := by decide +kernel
theorem dX6_movePallet_39 : decode cX6_movePallet 39 = .ok (.goto 18, 3) := by decide +kernel
theorem dX6_movePallet_42 : decode cX6_movePallet 42 = .ok (.iload_n 1, 1) := by decide +kernel
theorem dX6_movePallet_43 : decode cX6_movePallet 43 = .ok (.aload_n 0, 1) := by decide +kernel
theorem dX6_movePallet_44 : decode cX6_movePallet 44 = .ok (.getfield 9, 3) := by decide +kernel
theorem dX6_movePallet_47 : decode cX6_movePallet 47 = .ok (.isub, 1) := by decide +kernel
theorem dX6_movePallet_48 : decode cX6_movePallet 48 = .ok (.iload_n 3, 1) := by decide +kernel
theorem dX6_movePallet_49 : decode cX6_movePallet 49 = .ok (.if_icmp .lt 8, 3) := by decide +kernel
theorem dX6_movePallet_52 : decode cX6_movePallet 52 = .ok (.aload_n 0, 1) := by decide +kernel
theorem dX6_movePallet_53 : decode cX6_movePallet 53 = .ok (.iconst 1, 1) := by decide +kernel
theorem dX6_movePallet_54 : decode cX6_movePallet 54 = .ok (.putfield 26, 3) := by decide +kernel
theorem dX6_movePallet_57 : decode cX6_movePallet 57 = .ok (.return_, 1) := by decide +kernel
theorem dX7_init_0 : decode cX7_init 0 = .ok (.aload_n 0, 1) := by decide +kernel
theorem dX7_init_1 : decode cX7_init 1 = .ok (.invokespecial 3, 3) := by decide +kernel
theorem dX7_init_4 : decode cX7_init 4 = .ok (.aload_n 0, 1) := by decide +kernel
theorem dX7_init_5 : decode cX7_init 5 = .ok (.iload_n 1, 1) := by decide +kernel
theorem dX7_init_6 : decode cX7_init 6 = .ok (.putfield 9, 3) := by decide +kernel
