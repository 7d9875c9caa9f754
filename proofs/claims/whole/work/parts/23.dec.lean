theorem dX0_init_0 : decode cX0_init 0 = .ok (.aload_n 0, 1) := by decide +kernel
theorem dX0_init_1 : decode cX0_init 1 = .ok (.invokespecial 3, 3) := by decide +kernel
theorem dX0_init_4 : decode cX0_init 4 = .ok (.aload_n 0, 1) := by decide +kernel
theorem dX0_init_5 : decode cX0_init 5 = .ok (.new 9, 3) := by decide +kernel
theorem dX0_init_8 : decode cX0_init 8 = .ok (.dup, 1) := by decide +kernel
theorem dX0_init_9 : decode cX0_init 9 = .ok (.invokespecial 11, 3) := by decide +kernel
theorem dX0_init_12 : decode cX0_init 12 = .ok (.putfield 12, 3) := by decide +kernel
theorem dX0_init_15 : decode cX0_init 15 = .ok (.aload_n 0, 1) := by decide +kernel
theorem dX0_init_16 : decode cX0_init 16 = .ok (.bipush 16, 2) := by decide +kernel
theorem dX0_init_18 : decode cX0_init 18 = .ok (.newarray .char, 2) := by decide +kernel
theorem dX0_init_20 : decode cX0_init 20 = .ok (.putfield 18, 3) := by decide +kernel
theorem dX0_init_23 : decode cX0_init 23 = .ok (.aload_n 0, 1) := by decide +kernel
theorem dX0_init_24 : decode cX0_init 24 = .ok (.bipush 16, 2) := by decide +kernel
theorem dX0_init_26 : decode cX0_init 26 = .ok (.newarray .int, 2) := by decide +kernel
theorem dX0_init_28 : decode cX0_init 28 = .ok (.putfield 22, 3) := by decide +kernel
theorem dX0_init_31 : decode cX0_init 31 = .ok (.aload_n 0, 1) := by decide +kernel
theorem dX0_init_32 : decode cX0_init 32 = .ok (.bipush 16, 2) := by decide +kernel
theorem dX0_init_34 : decode cX0_init 34 = .ok (.newarray .int, 2) := by decide +kernel
theorem dX0_init_36 : decode cX0_init 36 = .ok (.putfield 26, 3) := by decide +kernel
theorem dX0_init_39 : decode cX0_init 39 = .ok (.aload_n 0, 1) := by decide +kernel
theorem dX0_init_40 : decode cX0_init 40 = .ok (.bipush 16, 2) := by decide +kernel
theorem dX0_init_42 : decode cX0_init 42 = .ok (.newarray .boolean, 2) := by decide +kernel
theorem dX0_init_44 : decode cX0_init 44 = .ok (.putfield 29, 3) := by decide +kernel
theorem dX0_init_47 : decode cX0_init 47 = .ok (.iconst 0, 1) := by decide +kernel
theorem dX0_init_48 : decode cX0_init 48 = .ok (.istore_n 1, 1) := by decide +kernel
theorem dX0_init_49 : decode cX0_init 49 = .ok (.iload_n 1, 1) := by decide +kernel
theorem dX0_init_50 : decode cX0_init 50 = .ok (.iconst 3, 1) := by decide +kernel
theorem dX0_init_51 : decode cX0_init 51 = .ok (.if_icmp .ge 40, 3) := by decide +kernel
theorem dX0_init_54 : decode cX0_init 54 = .ok (.aload_n 0, 1) := by decide +kernel
theorem dX0_init_55 : decode cX0_init 55 = .ok (.getfield 12, 3) := by decide +kernel
theorem dX0_init_58 : decode cX0_init 58 = .ok (.new 33, 3) := by decide +kernel
theorem dX0_init_61 : decode cX0_init 61 = .ok (.dup, 1) := by decide +kernel
theorem dX0_init_62 : decode cX0_init 62 = .ok (.bipush 117, 2) := by decide +kernel
theorem dX0_init_64 : decode cX0_init 64 = .ok (.iload_n 1, 1) := by decide +kernel
theorem dX0_init_65 : decode cX0_init 65 = .ok (.aconst_null, 1) := by decide +kernel
theorem dX0_init_66 : decode cX0_init 66 = .ok (.new 35, 3) := by decide +kernel
theorem dX0_init_69 : decode cX0_init 69 = .ok (.dup, 1) := by decide +kernel
theorem dX0_init_70 : decode cX0_init 70 = .ok (.iload_n 1, 1) := by decide +kernel
theorem dX0_init_71 : decode cX0_init 71 = .ok (.iload_n 1, 1) := by decide +kernel
theorem dX0_init_72 : decode cX0_init 72 = .ok (.iconst 0, 1) := by decide +kernel
theorem dX0_init_73 : decode cX0_init 73 = .ok (.bipush 97, 2) := by decide +kernel
theorem dX0_init_75 : decode cX0_init 75 = .ok (.invokespecial 37, 3) := by decide +kernel
theorem dX0_init_78 : decode cX0_init 78 = .ok (.invokespecial 40, 3) := by decide +kernel
theorem dX0_init_81 : decode cX0_init 81 = .ok (.invokevirtual 43, 3) := by decide +kernel
theorem dX0_init_84 : decode cX0_init 84 = .ok (.pop, 1) := by decide +kernel
theorem dX0_init_85 : decode cX0_init 85 = .ok (.iinc 1 1, 3) := by decide +kernel
theorem dX0_init_88 : decode cX0_init 88 = .ok (.goto (-39), 3) := by decide +kernel
theorem dX0_init_91 : decode cX0_init 91 = .ok (.return_, 1) := by decide +kernel
theorem dX0_knobAt_0 : decode cX0_knobAt 0 = .ok (.iload_n 1, 1) := by decide +kernel
theorem dX0_knobAt_1 : decode cX0_knobAt 1 = .ok (.ifCond .lt 14, 3) := by decide +kernel
theorem dX0_knobAt_4 : decode cX0_knobAt 4 = .ok (.iload_n 1, 1) := by decide +kernel
theorem dX0_knobAt_5 : decode cX0_knobAt 5 = .ok (.aload_n 0, 1) := by decide +kernel
theorem dX0_knobAt_6 : decode cX0_knobAt 6 = .ok (.getfield 12, 3) := by decide +kernel
theorem dX0_knobAt_9 : decode cX0_knobAt 9 = .ok (.invokevirtual 47, 3) := by decide +kernel
theorem dX0_knobAt_12 : decode cX0_knobAt 12 = .ok (.if_icmp .lt 7, 3) := by decide +kernel
theorem dX0_knobAt_15 : decode cX0_knobAt 15 = .ok (.aconst_null, 1) := by decide +kernel
theorem dX0_knobAt_16 : decode cX0_knobAt 16 = .ok (.goto 14, 3) := by decide +kernel
theorem dX0_knobAt_19 : decode cX0_knobAt 19 = .ok (.aload_n 0, 1) := by decide +kernel
theorem dX0_knobAt_20 : decode cX0_knobAt 20 = .ok (.getfield 12, 3) := by decide +kernel
theorem dX0_knobAt_23 : decode cX0_knobAt 23 = .ok (.iload_n 1, 1) := by decide +kernel
theorem dX0_knobAt_24 : decode cX0_knobAt 24 = .ok (.invokevirtual 51, 3) := by decide +kernel
theorem dX0_knobAt_27 : decode cX0_knobAt 27 = .ok (.checkcast 33, 3) := by decide +kernel
theorem dX0_knobAt_30 : decode cX0_knobAt 30 = .ok (.areturn, 1) := by decide +kernel
theorem dX0_countsAsDrawn_0 : decode cX0_countsAsDrawn 0 = .ok (.aload_n 1, 1) := by decide +kernel
theorem dX0_countsAsDrawn_1 : decode cX0_countsAsDrawn 1 = .ok (.getfield 55, 3) := by decide +kernel
theorem dX0_countsAsDrawn_4 : decode cX0_countsAsDrawn 4 = .ok (.istore_n 2, 1) := by decide +kernel
theorem dX0_countsAsDrawn_5 : decode cX0_countsAsDrawn 5 = .ok (.aload_n 1, 1) := by decide +kernel
theorem dX0_countsAsDrawn_6 : decode cX0_countsAsDrawn 6 = .ok (.getfield 59, 3) := by decide +kernel
theorem dX0_countsAsDrawn_9 : decode cX0_countsAsDrawn 9 = .ok (.ifCond .ne 22, 3) := by decide +kernel
theorem dX0_countsAsDrawn_12 : decode cX0_countsAsDrawn 12 = .ok (.iload_n 2, 1) := by decide +kernel
theorem dX0_countsAsDrawn_13 : decode cX0_countsAsDrawn 13 = .ok (.ifCond .lt 22, 3) := by decide +kernel
theorem dX0_countsAsDrawn_16 : decode cX0_countsAsDrawn 16 = .ok (.iload_n 2, 1) := by decide +kernel
theorem dX0_countsAsDrawn_17 : decode cX0_countsAsDrawn 17 = .ok (.bipush 16, 2) := by decide +kernel
theorem dX0_countsAsDrawn_19 : decode cX0_countsAsDrawn 19 = .ok (.if_icmp .ge 16, 3) := by decide +kernel
theorem dX0_countsAsDrawn_22 : decode cX0_countsAsDrawn 22 = .ok (.aload_n 0, 1) := by decide +kernel
theorem dX0_countsAsDrawn_23 : decode cX0_countsAsDrawn 23 = .ok (.getfield 29, 3) := by decide +kernel
theorem dX0_countsAsDrawn_26 : decode cX0_countsAsDrawn 26 = .ok (.iload_n 2, 1) := by decide +kernel
theorem dX0_countsAsDrawn_27 : decode cX0_countsAsDrawn 27 = .ok (.baload, 1) := by decide +kernel
theorem dX0_countsAsDrawn_28 : decode cX0_countsAsDrawn 28 = .ok (.ifCond .eq 7, 3) := by decide +kernel
theorem dX0_countsAsDrawn_31 : decode cX0_countsAsDrawn 31 = .ok (.iconst 1, 1) := by decide +kernel
theorem dX0_countsAsDrawn_32 : decode cX0_countsAsDrawn 32 = .ok (.goto 4, 3) := by decide +kernel
theorem dX0_countsAsDrawn_35 : decode cX0_countsAsDrawn 35 = .ok (.iconst 0, 1) := by decide +kernel
theorem dX0_countsAsDrawn_36 : decode cX0_countsAsDrawn 36 = .ok (.ireturn, 1) := by decide +kernel
theorem dX0_isSounding_0 : decode cX0_isSounding 0 = .ok (.aload_n 1, 1) := by decide +kernel
theorem dX0_isSounding_1 : decode cX0_isSounding 1 = .ok (.getfield 63, 3) := by decide +kernel
theorem dX0_isSounding_4 : decode cX0_isSounding 4 = .ok (.astore_n 2, 1) := by decide +kernel
theorem dX0_isSounding_5 : decode cX0_isSounding 5 = .ok (.aload_n 2, 1) := by decide +kernel
theorem dX0_isSounding_6 : decode cX0_isSounding 6 = .ok (.ifnonnull 5, 3) := by decide +kernel
theorem dX0_isSounding_9 : decode cX0_isSounding 9 = .ok (.iconst 0, 1) := by decide +kernel
theorem dX0_isSounding_10 : decode cX0_isSounding 10 = .ok (.ireturn, 1) := by decide +kernel
theorem dX0_isSounding_11 : decode cX0_isSounding 11 = .ok (.aload_n 0, 1) := by decide +kernel
theorem dX0_isSounding_12 : decode cX0_isSounding 12 = .ok (.getfield 67, 3) := by decide +kernel
theorem dX0_isSounding_15 : decode cX0_isSounding 15 = .ok (.ifCond .ne 29, 3) := by decide +kernel
theorem dX0_isSounding_18 : decode cX0_isSounding 18 = .ok (.aload_n 0, 1) := by decide +kernel
theorem dX0_isSounding_19 : decode cX0_isSounding 19 = .ok (.aload_n 1, 1) := by decide +kernel
theorem dX0_isSounding_20 : decode cX0_isSounding 20 = .ok (.invokevirtual 70, 3) := by decide +kernel
theorem dX0_isSounding_23 : decode cX0_isSounding 23 = .ok (.ifCond .ne 21, 3) := by decide +kernel
theorem dX0_isSounding_26 : decode cX0_isSounding 26 = .ok (.aload_n 2, 1) := by decide +kernel
theorem dX0_isSounding_27 : decode cX0_isSounding 27 = .ok (.getfield 74, 3) := by decide +kernel
theorem dX0_isSounding_30 : decode cX0_isSounding 30 = .ok (.ifCond .le 18, 3) := by decide +kernel
theorem dX0_isSounding_33 : decode cX0_isSounding 33 = .ok (.aload_n 0, 1) := by decide +kernel
theorem dX0_isSounding_34 : decode cX0_isSounding 34 = .ok (.getfield 79, 3) := by decide +kernel
theorem dX0_isSounding_37 : decode cX0_isSounding 37 = .ok (.aload_n 2, 1) := by decide +kernel
theorem dX0_isSounding_38 : decode cX0_isSounding 38 = .ok (.getfield 74, 3) := by decide +kernel
theorem dX0_isSounding_41 : decode cX0_isSounding 41 = .ok (.if_icmp .lt 7, 3) := by decide +kernel
theorem dX0_isSounding_44 : decode cX0_isSounding 44 = .ok (.iconst 1, 1) := by decide +kernel
theorem dX0_isSounding_45 : decode cX0_isSounding 45 = .ok (.goto 4, 3) := by decide +kernel
theorem dX0_isSounding_48 : decode cX0_isSounding 48 = .ok (.iconst 0, 1) := by decide +kernel
theorem dX0_isSounding_49 : decode cX0_isSounding 49 = .ok (.ireturn, 1) := by decide +kernel
theorem dX0_trembles_0 : decode cX0_trembles 0 = .ok (.iconst 0, 1) := by decide +kernel
theorem dX0_trembles_1 : decode cX0_trembles 1 = .ok (.istore_n 2, 1) := by decide +kernel
theorem dX0_trembles_2 : decode cX0_trembles 2 = .ok (.iload_n 2, 1) := by decide +kernel
theorem dX0_trembles_3 : decode cX0_trembles 3 = .ok (.aload_n 0, 1) := by decide +kernel
theorem dX0_trembles_4 : decode cX0_trembles 4 = .ok (.getfield 12, 3) := by decide +kernel
theorem dX0_trembles_7 : decode cX0_trembles 7 = .ok (.invokevirtual 47, 3) := by decide +kernel
theorem dX0_trembles_10 : decode cX0_trembles 10 = .ok (.if_icmp .ge 48, 3) := by decide +kernel
theorem dX0_trembles_13 : decode cX0_trembles 13 = .ok (.aload_n 0, 1) := by decide +kernel
theorem dX0_trembles_14 : decode cX0_trembles 14 = .ok (.getfield 12, 3) := by decide +kernel
theorem dX0_trembles_17 : decode cX0_trembles 17 = .ok (.iload_n 2, 1) := by decide +kernel
theorem dX0_trembles_18 : decode cX0_trembles 18 = .ok (.invokevirtual 51, 3) := by decide +kernel
theorem dX0_trembles_21 : decode cX0_trembles 21 = .ok (.checkcast 33, 3) := by decide +kernel
theorem dX0_trembles_24 : decode cX0_trembles 24 = .ok (.astore_n 3, 1) := by decide +kernel
theorem dX0_trembles_25 : decode cX0_trembles 25 = .ok (.aload_n 3, 1) := by decide +kernel
theorem dX0_trembles_26 : decode cX0_trembles 26 = .ok (.getfield 82, 3) := by decide +kernel
theorem dX0_trembles_29 : decode cX0_trembles 29 = .ok (.bipush 116, 2) := by decide +kernel
theorem dX0_trembles_31 : decode cX0_trembles 31 = .ok (.if_icmp .ne 21, 3) := by decide +kernel
theorem dX0_trembles_34 : decode cX0_trembles 34 = .ok (.aload_n 3, 1) := by decide +kernel
theorem dX0_trembles_35 : decode cX0_trembles 35 = .ok (.getfield 86, 3) := by decide +kernel
theorem dX0_trembles_38 : decode cX0_trembles 38 = .ok (.iload_n 1, 1) := by decide +kernel
theorem dX0_trembles_39 : decode cX0_trembles 39 = .ok (.if_icmp .ne 13, 3) := by decide +kernel
theorem dX0_trembles_42 : decode cX0_trembles 42 = .ok (.aload_n 0, 1) := by decide +kernel
theorem dX0_trembles_43 : decode cX0_trembles 43 = .ok (.aload_n 3, 1) := by decide +kernel
theorem dX0_trembles_44 : decode cX0_trembles 44 = .ok (.invokevirtual 70, 3) := by decide +kernel
theorem dX0_trembles_47 : decode cX0_trembles 47 = .ok (.ifCond .eq 5, 3) := by decide +kernel
theorem dX0_trembles_50 : decode cX0_trembles 50 = .ok (.iconst 1, 1) := by decide +kernel
theorem dX0_trembles_51 : decode cX0_trembles 51 = .ok (.ireturn, 1) := by decide +kernel
theorem dX0_trembles_52 : decode cX0_trembles 52 = .ok (.iinc 2 1, 3) := by decide +kernel
theorem dX0_trembles_55 : decode cX0_trembles 55 = .ok (.goto (-53), 3) := by decide +kernel
theorem dX0_trembles_58 : decode cX0_trembles 58 = .ok (.iconst 0, 1) := by decide +kernel
theorem dX0_trembles_59 : decode cX0_trembles 59 = .ok (.ireturn, 1) := by decide +kernel
theorem dX0_isWay_0 : decode cX0_isWay 0 = .ok (.aload_n 1, 1) := by decide +kernel
theorem dX0_isWay_1 : decode cX0_isWay 1 = .ok (.getfield 89, 3) := by decide +kernel
theorem dX0_isWay_4 : decode cX0_isWay 4 = .ok (.ifnull 29, 3) := by decide +kernel
theorem dX0_isWay_7 : decode cX0_isWay 7 = .ok (.aload_n 0, 1) := by decide +kernel
theorem dX0_isWay_8 : decode cX0_isWay 8 = .ok (.aload_n 1, 1) := by decide +kernel
theorem dX0_isWay_9 : decode cX0_isWay 9 = .ok (.invokevirtual 70, 3) := by decide +kernel
theorem dX0_isWay_12 : decode cX0_isWay 12 = .ok (.aload_n 1, 1) := by decide +kernel
theorem dX0_isWay_13 : decode cX0_isWay 13 = .ok (.getfield 82, 3) := by decide +kernel
theorem dX0_isWay_16 : decode cX0_isWay 16 = .ok (.bipush 99, 2) := by decide +kernel
theorem dX0_isWay_18 : decode cX0_isWay 18 = .ok (.if_icmp .ne 7, 3) := by decide +kernel
theorem dX0_isWay_21 : decode cX0_isWay 21 = .ok (.iconst 1, 1) := by decide +kernel
theorem dX0_isWay_22 : decode cX0_isWay 22 = .ok (.goto 4, 3) := by decide +kernel
theorem dX0_isWay_25 : decode cX0_isWay 25 = .ok (.iconst 0, 1) := by decide +kernel
theorem dX0_isWay_26 : decode cX0_isWay 26 = .ok (.if_icmp .ne 7, 3) := by decide +kernel
theorem dX0_isWay_29 : decode cX0_isWay 29 = .ok (.iconst 1, 1) := by decide +kernel
theorem dX0_isWay_30 : decode cX0_isWay 30 = .ok (.goto 4, 3) := by decide +kernel
theorem dX0_isWay_33 : decode cX0_isWay 33 = .ok (.iconst 0, 1) := by decide +kernel
theorem dX0_isWay_34 : decode cX0_isWay 34 = .ok (.ireturn, 1) := by decide +kernel
theorem dX0_waysOf_0 : decode cX0_waysOf 0 = .ok (.iconst 0, 1) := by decide +kernel
theorem dX0_waysOf_1 : decode cX0_waysOf 1 = .ok (.istore 5, 2) := by decide +kernel
theorem dX0_waysOf_3 : decode cX0_waysOf 3 = .ok (.iconst 0, 1) := by decide +kernel
theorem dX0_waysOf_4 : decode cX0_waysOf 4 = .ok (.istore 6, 2) := by decide +kernel
theorem dX0_waysOf_6 : decode cX0_waysOf 6 = .ok (.iload 6, 2) := by decide +kernel
theorem dX0_waysOf_8 : decode cX0_waysOf 8 = .ok (.aload_n 0, 1) := by decide +kernel
theorem dX0_waysOf_9 : decode cX0_waysOf 9 = .ok (.getfield 12, 3) := by decide +kernel
theorem dX0_waysOf_12 : decode cX0_waysOf 12 = .ok (.invokevirtual 47, 3) := by decide +kernel
theorem dX0_waysOf_15 : decode cX0_waysOf 15 = .ok (.if_icmp .ge 74, 3) := by decide +kernel
theorem dX0_waysOf_18 : decode cX0_waysOf 18 = .ok (.aload_n 0, 1) := by decide +kernel
theorem dX0_waysOf_19 : decode cX0_waysOf 19 = .ok (.getfield 12, 3) := by decide +kernel
theorem dX0_waysOf_22 : decode cX0_waysOf 22 = .ok (.iload 6, 2) := by decide +kernel
theorem dX0_waysOf_24 : decode cX0_waysOf 24 = .ok (.invokevirtual 51, 3) := by decide +kernel
theorem dX0_waysOf_27 : decode cX0_waysOf 27 = .ok (.checkcast 33, 3) := by decide +kernel
theorem dX0_waysOf_30 : decode cX0_waysOf 30 = .ok (.astore 7, 2) := by decide +kernel
theorem dX0_waysOf_32 : decode cX0_waysOf 32 = .ok (.aload 7, 2) := by decide +kernel
theorem dX0_waysOf_34 : decode cX0_waysOf 34 = .ok (.getfield 89, 3) := by decide +kernel
theorem dX0_waysOf_37 : decode cX0_waysOf 37 = .ok (.astore 8, 2) := by decide +kernel
theorem dX0_waysOf_39 : decode cX0_waysOf 39 = .ok (.aload 8, 2) := by decide +kernel
theorem dX0_waysOf_41 : decode cX0_waysOf 41 = .ok (.ifnull 42, 3) := by decide +kernel
theorem dX0_waysOf_44 : decode cX0_waysOf 44 = .ok (.aload 8, 2) := by decide +kernel
theorem dX0_waysOf_46 : decode cX0_waysOf 46 = .ok (.getfield 93, 3) := by decide +kernel
theorem dX0_waysOf_49 : decode cX0_waysOf 49 = .ok (.iload_n 1, 1) := by decide +kernel
theorem dX0_waysOf_50 : decode cX0_waysOf 50 = .ok (.if_icmp .ne 33, 3) := by decide +kernel
theorem dX0_waysOf_53 : decode cX0_waysOf 53 = .ok (.aload_n 0, 1) := by decide +kernel
theorem dX0_waysOf_54 : decode cX0_waysOf 54 = .ok (.aload 7, 2) := by decide +kernel
theorem dX0_waysOf_56 : decode cX0_waysOf 56 = .ok (.invokevirtual 96, 3) := by decide +kernel
theorem dX0_waysOf_59 : decode cX0_waysOf 59 = .ok (.ifCond .eq 24, 3) := by decide +kernel
theorem dX0_waysOf_62 : decode cX0_waysOf 62 = .ok (.aload 8, 2) := by decide +kernel
theorem dX0_waysOf_64 : decode cX0_waysOf 64 = .ok (.iload_n 2, 1) := by decide +kernel
theorem dX0_waysOf_65 : decode cX0_waysOf 65 = .ok (.aload 8, 2) := by decide +kernel
theorem dX0_waysOf_67 : decode cX0_waysOf 67 = .ok (.getfield 99, 3) := by decide +kernel
theorem dX0_waysOf_70 : decode cX0_waysOf 70 = .ok (.isub, 1) := by decide +kernel
theorem dX0_waysOf_71 : decode cX0_waysOf 71 = .ok (.aload_n 3, 1) := by decide +kernel
theorem dX0_waysOf_72 : decode cX0_waysOf 72 = .ok (.iload 4, 2) := by decide +kernel
theorem dX0_waysOf_74 : decode cX0_waysOf 74 = .ok (.invokevirtual 102, 3) := by decide +kernel
theorem dX0_waysOf_77 : decode cX0_waysOf 77 = .ok (.ifCond .eq 6, 3) := by decide +kernel
theorem dX0_waysOf_80 : decode cX0_waysOf 80 = .ok (.iinc 5 1, 3) := by decide +kernel
theorem dX0_waysOf_83 : decode cX0_waysOf 83 = .ok (.iinc 6 1, 3) := by decide +kernel
theorem dX0_waysOf_86 : decode cX0_waysOf 86 = .ok (.goto (-80), 3) := by decide +kernel
theorem dX0_waysOf_89 : decode cX0_waysOf 89 = .ok (.iload 5, 2) := by decide +kernel
theorem dX0_waysOf_91 : decode cX0_waysOf 91 = .ok (.ireturn, 1) := by decide +kernel
theorem dX0_isSource_0 : decode cX0_isSource 0 = .ok (.iload_n 0, 1) := by decide +kernel
theorem dX0_isSource_1 : decode cX0_isSource 1 = .ok (.sipush 400, 3) := by decide +kernel
theorem dX0_isSource_4 : decode cX0_isSource 4 = .ok (.if_icmp .lt 18, 3) := by decide +kernel
theorem dX0_isSource_7 : decode cX0_isSource 7 = .ok (.iload_n 0, 1) := by decide +kernel
theorem dX0_isSource_8 : decode cX0_isSource 8 = .ok (.sipush 400, 3) := by decide +kernel
theorem dX0_isSource_11 : decode cX0_isSource 11 = .ok (.isub, 1) := by decide +kernel
theorem dX0_isSource_12 : decode cX0_isSource 12 = .ok (.iload_n 1, 1) := by decide +kernel
theorem dX0_isSource_13 : decode cX0_isSource 13 = .ok (.if_icmp .ge 7, 3) := by decide +kernel
theorem dX0_isSource_16 : decode cX0_isSource 16 = .ok (.iconst 1, 1) := by decide +kernel
theorem dX0_isSource_17 : decode cX0_isSource 17 = .ok (.goto 4, 3) := by decide +kernel
theorem dX0_isSource_20 : decode cX0_isSource 20 = .ok (.iconst 0, 1) := by decide +kernel
theorem dX0_isSource_21 : decode cX0_isSource 21 = .ok (.ireturn, 1) := by decide +kernel
theorem dX0_isSource_22 : decode cX0_isSource 22 = .ok (.iload_n 0, 1) := by decide +kernel
theorem dX0_isSource_23 : decode cX0_isSource 23 = .ok (.ifCond .lt 29, 3) := by decide +kernel
theorem dX0_isSource_26 : decode cX0_isSource 26 = .ok (.iload_n 0, 1) := by decide +kernel
theorem dX0_isSource_27 : decode cX0_isSource 27 = .ok (.bipush 100, 2) := by decide +kernel
theorem dX0_isSource_29 : decode cX0_isSource 29 = .ok (.if_icmp .lt 19, 3) := by decide +kernel
theorem dX0_isSource_32 : decode cX0_isSource 32 = .ok (.iload_n 0, 1) := by decide +kernel
theorem dX0_isSource_33 : decode cX0_isSource 33 = .ok (.bipush 100, 2) := by decide +kernel
theorem dX0_isSource_35 : decode cX0_isSource 35 = .ok (.idiv, 1) := by decide +kernel
theorem dX0_isSource_36 : decode cX0_isSource 36 = .ok (.iconst 1, 1) := by decide +kernel
theorem dX0_isSource_37 : decode cX0_isSource 37 = .ok (.isub, 1) := by decide +kernel
theorem dX0_isSource_38 : decode cX0_isSource 38 = .ok (.iload_n 0, 1) := by decide +kernel
theorem dX0_isSource_39 : decode cX0_isSource 39 = .ok (.bipush 100, 2) := by decide +kernel
theorem dX0_isSource_41 : decode cX0_isSource 41 = .ok (.irem, 1) := by decide +kernel
theorem dX0_isSource_42 : decode cX0_isSource 42 = .ok (.invokestatic 106, 3) := by decide +kernel
theorem dX0_isSource_45 : decode cX0_isSource 45 = .ok (.ifCond .lt 7, 3) := by decide +kernel
theorem dX0_isSource_48 : decode cX0_isSource 48 = .ok (.iconst 1, 1) := by decide +kernel
theorem dX0_isSource_49 : decode cX0_isSource 49 = .ok (.goto 4, 3) := by decide +kernel
theorem dX0_isSource_52 : decode cX0_isSource 52 = .ok (.iconst 0, 1) := by decide +kernel
theorem dX0_isSource_53 : decode cX0_isSource 53 = .ok (.ireturn, 1) := by decide +kernel
theorem dX0_putWires_0 : decode cX0_putWires 0 = .ok (.iload_n 1, 1) := by decide +kernel
theorem dX0_putWires_1 : decode cX0_putWires 1 = .ok (.ifCond .lt 31, 3) := by decide +kernel
theorem dX0_putWires_4 : decode cX0_putWires 4 = .ok (.iload_n 1, 1) := by decide +kernel
theorem dX0_putWires_5 : decode cX0_putWires 5 = .ok (.bipush 16, 2) := by decide +kernel
theorem dX0_putWires_7 : decode cX0_putWires 7 = .ok (.if_icmp .ge 25, 3) := by decide +kernel
theorem dX0_putWires_10 : decode cX0_putWires 10 = .ok (.aload_n 0, 1) := by decide +kernel
theorem dX0_putWires_11 : decode cX0_putWires 11 = .ok (.getfield 18, 3) := by decide +kernel
theorem dX0_putWires_14 : decode cX0_putWires 14 = .ok (.iload_n 1, 1) := by decide +kernel
theorem dX0_putWires_15 : decode cX0_putWires 15 = .ok (.iload_n 2, 1) := by decide +kernel
theorem dX0_putWires_16 : decode cX0_putWires 16 = .ok (.castore, 1) := by decide +kernel
theorem dX0_putWires_17 : decode cX0_putWires 17 = .ok (.aload_n 0, 1) := by decide +kernel
theorem dX0_putWires_18 : decode cX0_putWires 18 = .ok (.getfield 22, 3) := by decide +kernel
theorem dX0_putWires_21 : decode cX0_putWires 21 = .ok (.iload_n 1, 1) := by decide +kernel
theorem dX0_putWires_22 : decode cX0_putWires 22 = .ok (.iload_n 3, 1) := by decide +kernel
theorem dX0_putWires_23 : decode cX0_putWires 23 = .ok (.iastore, 1) := by decide +kernel
theorem dX0_putWires_24 : decode cX0_putWires 24 = .ok (.aload_n 0, 1) := by decide +kernel
theorem dX0_putWires_25 : decode cX0_putWires 25 = .ok (.getfield 26, 3) := by decide +kernel
theorem dX0_putWires_28 : decode cX0_putWires 28 = .ok (.iload_n 1, 1) := by decide +kernel
theorem dX0_putWires_29 : decode cX0_putWires 29 = .ok (.iload 4, 2) := by decide +kernel
theorem dX0_putWires_31 : decode cX0_putWires 31 = .ok (.iastore, 1) := by decide +kernel
theorem dX0_putWires_32 : decode cX0_putWires 32 = .ok (.return_, 1) := by decide +kernel
theorem dX0_isRelayOn_0 : decode cX0_isRelayOn 0 = .ok (.iload_n 1, 1) := by decide +kernel
theorem dX0_isRelayOn_1 : decode cX0_isRelayOn 1 = .ok (.ifCond .lt 22, 3) := by decide +kernel
theorem dX0_isRelayOn_4 : decode cX0_isRelayOn 4 = .ok (.iload_n 1, 1) := by decide +kernel
theorem dX0_isRelayOn_5 : decode cX0_isRelayOn 5 = .ok (.bipush 16, 2) := by decide +kernel
theorem dX0_isRelayOn_7 : decode cX0_isRelayOn 7 = .ok (.if_icmp .ge 16, 3) := by decide +kernel
theorem dX0_isRelayOn_10 : decode cX0_isRelayOn 10 = .ok (.aload_n 0, 1) := by decide +kernel
theorem dX0_isRelayOn_11 : decode cX0_isRelayOn 11 = .ok (.getfield 29, 3) := by decide +kernel
theorem dX0_isRelayOn_14 : decode cX0_isRelayOn 14 = .ok (.iload_n 1, 1) := by decide +kernel
theorem dX0_isRelayOn_15 : decode cX0_isRelayOn 15 = .ok (.baload, 1) := by decide +kernel
theorem dX0_isRelayOn_16 : decode cX0_isRelayOn 16 = .ok (.ifCond .eq 7, 3) := by decide +kernel
theorem dX0_isRelayOn_19 : decode cX0_isRelayOn 19 = .ok (.iconst 1, 1) := by decide +kernel
theorem dX0_isRelayOn_20 : decode cX0_isRelayOn 20 = .ok (.goto 4, 3) := by decide +kernel
theorem dX0_isRelayOn_23 : decode cX0_isRelayOn 23 = .ok (.iconst 0, 1) := by decide +kernel
theorem dX0_isRelayOn_24 : decode cX0_isRelayOn 24 = .ok (.ireturn, 1) := by decide +kernel
theorem dX0_findRelays_0 : decode cX0_findRelays 0 = .ok (.iconst 0, 1) := by decide +kernel
theorem dX0_findRelays_1 : decode cX0_findRelays 1 = .ok (.istore_n 2, 1) := by decide +kernel
theorem dX0_findRelays_2 : decode cX0_findRelays 2 = .ok (.iload_n 2, 1) := by decide +kernel
theorem dX0_findRelays_3 : decode cX0_findRelays 3 = .ok (.bipush 16, 2) := by decide +kernel
theorem dX0_findRelays_5 : decode cX0_findRelays 5 = .ok (.if_icmp .ge 52, 3) := by decide +kernel
theorem dX0_findRelays_8 : decode cX0_findRelays 8 = .ok (.aload_n 0, 1) := by decide +kernel
theorem dX0_findRelays_9 : decode cX0_findRelays 9 = .ok (.aload_n 0, 1) := by decide +kernel
theorem dX0_findRelays_10 : decode cX0_findRelays 10 = .ok (.getfield 22, 3) := by decide +kernel
theorem dX0_findRelays_13 : decode cX0_findRelays 13 = .ok (.iload_n 2, 1) := by decide +kernel
theorem dX0_findRelays_14 : decode cX0_findRelays 14 = .ok (.iaload, 1) := by decide +kernel
theorem dX0_findRelays_15 : decode cX0_findRelays 15 = .ok (.aload_n 1, 1) := by decide +kernel
theorem dX0_findRelays_16 : decode cX0_findRelays 16 = .ok (.invokevirtual 112, 3) := by decide +kernel
theorem dX0_findRelays_19 : decode cX0_findRelays 19 = .ok (.istore_n 3, 1) := by decide +kernel
theorem dX0_findRelays_20 : decode cX0_findRelays 20 = .ok (.aload_n 0, 1) := by decide +kernel
theorem dX0_findRelays_21 : decode cX0_findRelays 21 = .ok (.aload_n 0, 1) := by decide +kernel
theorem dX0_findRelays_22 : decode cX0_findRelays 22 = .ok (.getfield 26, 3) := by decide +kernel
theorem dX0_findRelays_25 : decode cX0_findRelays 25 = .ok (.iload_n 2, 1) := by decide +kernel
theorem dX0_findRelays_26 : decode cX0_findRelays 26 = .ok (.iaload, 1) := by decide +kernel
theorem dX0_findRelays_27 : decode cX0_findRelays 27 = .ok (.aload_n 1, 1) := by decide +kernel
theorem dX0_findRelays_28 : decode cX0_findRelays 28 = .ok (.invokevirtual 112, 3) := by decide +kernel
theorem dX0_findRelays_31 : decode cX0_findRelays 31 = .ok (.istore 4, 2) := by decide +kernel
theorem dX0_findRelays_33 : decode cX0_findRelays 33 = .ok (.aload_n 0, 1) := by decide +kernel
theorem dX0_findRelays_34 : decode cX0_findRelays 34 = .ok (.getfield 29, 3) := by decide +kernel
theorem dX0_findRelays_37 : decode cX0_findRelays 37 = .ok (.iload_n 2, 1) := by decide +kernel
theorem dX0_findRelays_38 : decode cX0_findRelays 38 = .ok (.aload_n 0, 1) := by decide +kernel
theorem dX0_findRelays_39 : decode cX0_findRelays 39 = .ok (.getfield 18, 3) := by decide +kernel
theorem dX0_findRelays_42 : decode cX0_findRelays 42 = .ok (.iload_n 2, 1) := by decide +kernel
theorem dX0_findRelays_43 : decode cX0_findRelays 43 = .ok (.caload, 1) := by decide +kernel
theorem dX0_findRelays_44 : decode cX0_findRelays 44 = .ok (.iload_n 3, 1) := by decide +kernel
theorem dX0_findRelays_45 : decode cX0_findRelays 45 = .ok (.iload 4, 2) := by decide +kernel
theorem dX0_findRelays_47 : decode cX0_findRelays 47 = .ok (.invokestatic 116, 3) := by decide +kernel
theorem dX0_findRelays_50 : decode cX0_findRelays 50 = .ok (.bastore, 1) := by decide +kernel
theorem dX0_findRelays_51 : decode cX0_findRelays 51 = .ok (.iinc 2 1, 3) := by decide +kernel
theorem dX0_findRelays_54 : decode cX0_findRelays 54 = .ok (.goto (-52), 3) := by decide +kernel
theorem dX0_findRelays_57 : decode cX0_findRelays 57 = .ok (.return_, 1) := by decide +kernel
theorem dX0_combines_0 : decode cX0_combines 0 = .ok (.iload_n 0, 1) := by decide +kernel
theorem dX0_combines_1 : decode cX0_combines 1 = .ok (.bipush 38, 2) := by decide +kernel
theorem dX0_combines_3 : decode cX0_combines 3 = .ok (.if_icmp .ne 17, 3) := by decide +kernel
theorem dX0_combines_6 : decode cX0_combines 6 = .ok (.iload_n 1, 1) := by decide +kernel
theorem dX0_combines_7 : decode cX0_combines 7 = .ok (.ifCond .eq 11, 3) := by decide +kernel
theorem dX0_combines_10 : decode cX0_combines 10 = .ok (.iload_n 2, 1) := by decide +kernel
theorem dX0_combines_11 : decode cX0_combines 11 = .ok (.ifCond .eq 7, 3) := by decide +kernel
theorem dX0_combines_14 : decode cX0_combines 14 = .ok (.iconst 1, 1) := by decide +kernel
theorem dX0_combines_15 : decode cX0_combines 15 = .ok (.goto 4, 3) := by decide +kernel
theorem dX0_combines_18 : decode cX0_combines 18 = .ok (.iconst 0, 1) := by decide +kernel
theorem dX0_combines_19 : decode cX0_combines 19 = .ok (.ireturn, 1) := by decide +kernel
theorem dX0_combines_20 : decode cX0_combines 20 = .ok (.iload_n 0, 1) := by decide +kernel
theorem dX0_combines_21 : decode cX0_combines 21 = .ok (.bipush 124, 2) := by decide +kernel
theorem dX0_combines_23 : decode cX0_combines 23 = .ok (.if_icmp .ne 17, 3) := by decide +kernel
theorem dX0_combines_26 : decode cX0_combines 26 = .ok (.iload_n 1, 1) := by decide +kernel
theorem dX0_combines_27 : decode cX0_combines 27 = .ok (.ifCond .ne 7, 3) := by decide +kernel
theorem dX0_combines_30 : decode cX0_combines 30 = .ok (.iload_n 2, 1) := by decide +kernel
theorem dX0_combines_31 : decode cX0_combines 31 = .ok (.ifCond .eq 7, 3) := by decide +kernel
theorem dX0_combines_34 : decode cX0_combines 34 = .ok (.iconst 1, 1) := by decide +kernel
theorem dX0_combines_35 : decode cX0_combines 35 = .ok (.goto 4, 3) := by decide +kernel
theorem dX0_combines_38 : decode cX0_combines 38 = .ok (.iconst 0, 1) := by decide +kernel
theorem dX0_combines_39 : decode cX0_combines 39 = .ok (.ireturn, 1) := by decide +kernel
theorem dX0_combines_40 : decode cX0_combines 40 = .ok (.iload_n 0, 1) := by decide +kernel
theorem dX0_combines_41 : decode cX0_combines 41 = .ok (.bipush 94, 2) := by decide +kernel
theorem dX0_combines_43 : decode cX0_combines 43 = .ok (.if_icmp .ne 14, 3) := by decide +kernel
theorem dX0_combines_46 : decode cX0_combines 46 = .ok (.iload_n 1, 1) := by decide +kernel
theorem dX0_combines_47 : decode cX0_combines 47 = .ok (.iload_n 2, 1) := by decide +kernel
theorem dX0_combines_48 : decode cX0_combines 48 = .ok (.if_icmp .eq 7, 3) := by decide +kernel
theorem dX0_combines_51 : decode cX0_combines 51 = .ok (.iconst 1, 1) := by decide +kernel
theorem dX0_combines_52 : decode cX0_combines 52 = .ok (.goto 4, 3) := by decide +kernel
theorem dX0_combines_55 : decode cX0_combines 55 = .ok (.iconst 0, 1) := by decide +kernel
theorem dX0_combines_56 : decode cX0_combines 56 = .ok (.ireturn, 1) := by decide +kernel
theorem dX0_combines_57 : decode cX0_combines 57 = .ok (.iload_n 0, 1) := by decide +kernel
theorem dX0_combines_58 : decode cX0_combines 58 = .ok (.bipush 33, 2) := by decide +kernel
theorem dX0_combines_60 : decode cX0_combines 60 = .ok (.if_icmp .ne 11, 3) := by decide +kernel
theorem dX0_combines_63 : decode cX0_combines 63 = .ok (.iload_n 1, 1) := by decide +kernel
theorem dX0_combines_64 : decode cX0_combines 64 = .ok (.ifCond .ne 7, 3) := by decide +kernel
theorem dX0_combines_67 : decode cX0_combines 67 = .ok (.iconst 1, 1) := by decide +kernel
theorem dX0_combines_68 : decode cX0_combines 68 = .ok (.goto 4, 3) := by decide +kernel
theorem dX0_combines_71 : decode cX0_combines 71 = .ok (.iconst 0, 1) := by decide +kernel
theorem dX0_combines_72 : decode cX0_combines 72 = .ok (.ireturn, 1) := by decide +kernel
theorem dX0_isSourceOn_0 : decode cX0_isSourceOn 0 = .ok (.iload_n 1, 1) := by decide +kernel
theorem dX0_isSourceOn_1 : decode cX0_isSourceOn 1 = .ok (.sipush 400, 3) := by decide +kernel
theorem dX0_isSourceOn_4 : decode cX0_isSourceOn 4 = .ok (.if_icmp .lt 13, 3) := by decide +kernel
theorem dX0_isSourceOn_7 : decode cX0_isSourceOn 7 = .ok (.aload_n 0, 1) := by decide +kernel
theorem dX0_isSourceOn_8 : decode cX0_isSourceOn 8 = .ok (.iload_n 1, 1) := by decide +kernel
theorem dX0_isSourceOn_9 : decode cX0_isSourceOn 9 = .ok (.sipush 400, 3) := by decide +kernel
theorem dX0_isSourceOn_12 : decode cX0_isSourceOn 12 = .ok (.isub, 1) := by decide +kernel
theorem dX0_isSourceOn_13 : decode cX0_isSourceOn 13 = .ok (.invokevirtual 120, 3) := by decide +kernel
theorem dX0_isSourceOn_16 : decode cX0_isSourceOn 16 = .ok (.ireturn, 1) := by decide +kernel
theorem dX0_isSourceOn_17 : decode cX0_isSourceOn 17 = .ok (.iload_n 1, 1) := by decide +kernel
theorem dX0_isSourceOn_18 : decode cX0_isSourceOn 18 = .ok (.bipush 100, 2) := by decide +kernel
theorem dX0_isSourceOn_20 : decode cX0_isSourceOn 20 = .ok (.if_icmp .lt 18, 3) := by decide +kernel
theorem dX0_isSourceOn_23 : decode cX0_isSourceOn 23 = .ok (.aload_n 2, 1) := by decide +kernel
theorem dX0_isSourceOn_24 : decode cX0_isSourceOn 24 = .ok (.iload_n 1, 1) := by decide +kernel
theorem dX0_isSourceOn_25 : decode cX0_isSourceOn 25 = .ok (.bipush 100, 2) := by decide +kernel
theorem dX0_isSourceOn_27 : decode cX0_isSourceOn 27 = .ok (.idiv, 1) := by decide +kernel
theorem dX0_isSourceOn_28 : decode cX0_isSourceOn 28 = .ok (.iconst 1, 1) := by decide +kernel
theorem dX0_isSourceOn_29 : decode cX0_isSourceOn 29 = .ok (.isub, 1) := by decide +kernel
theorem dX0_isSourceOn_30 : decode cX0_isSourceOn 30 = .ok (.iload_n 1, 1) := by decide +kernel
theorem dX0_isSourceOn_31 : decode cX0_isSourceOn 31 = .ok (.bipush 100, 2) := by decide +kernel
theorem dX0_isSourceOn_33 : decode cX0_isSourceOn 33 = .ok (.irem, 1) := by decide +kernel
theorem dX0_isSourceOn_34 : decode cX0_isSourceOn 34 = .ok (.invokevirtual 124, 3) := by decide +kernel
theorem dX0_isSourceOn_37 : decode cX0_isSourceOn 37 = .ok (.ireturn, 1) := by decide +kernel
theorem dX0_isSourceOn_38 : decode cX0_isSourceOn 38 = .ok (.aload_n 0, 1) := by decide +kernel
theorem dX0_isSourceOn_39 : decode cX0_isSourceOn 39 = .ok (.iload_n 1, 1) := by decide +kernel
theorem dX0_isSourceOn_40 : decode cX0_isSourceOn 40 = .ok (.invokevirtual 128, 3) := by decide +kernel
theorem dX0_isSourceOn_43 : decode cX0_isSourceOn 43 = .ok (.astore_n 3, 1) := by decide +kernel
theorem dX0_isSourceOn_44 : decode cX0_isSourceOn 44 = .ok (.aload_n 3, 1) := by decide +kernel
theorem dX0_isSourceOn_45 : decode cX0_isSourceOn 45 = .ok (.ifnull 14, 3) := by decide +kernel
theorem dX0_isSourceOn_48 : decode cX0_isSourceOn 48 = .ok (.aload_n 3, 1) := by decide +kernel
theorem dX0_isSourceOn_49 : decode cX0_isSourceOn 49 = .ok (.getfield 59, 3) := by decide +kernel
theorem dX0_isSourceOn_52 : decode cX0_isSourceOn 52 = .ok (.ifCond .eq 7, 3) := by decide +kernel
theorem dX0_isSourceOn_55 : decode cX0_isSourceOn 55 = .ok (.iconst 1, 1) := by decide +kernel
theorem dX0_isSourceOn_56 : decode cX0_isSourceOn 56 = .ok (.goto 4, 3) := by decide +kernel
theorem dX0_isSourceOn_59 : decode cX0_isSourceOn 59 = .ok (.iconst 0, 1) := by decide +kernel
theorem dX0_isSourceOn_60 : decode cX0_isSourceOn 60 = .ok (.ireturn, 1) := by decide +kernel
theorem dX0_allKnobs_0 : decode cX0_allKnobs 0 = .ok (.lconst 1, 1) := by decide +kernel
theorem dX0_allKnobs_1 : decode cX0_allKnobs 1 = .ok (.aload_n 0, 1) := by decide +kernel
theorem dX0_allKnobs_2 : decode cX0_allKnobs 2 = .ok (.getfield 12, 3) := by decide +kernel
theorem dX0_allKnobs_5 : decode cX0_allKnobs 5 = .ok (.invokevirtual 47, 3) := by decide +kernel
theorem dX0_allKnobs_8 : decode cX0_allKnobs 8 = .ok (.lshl, 1) := by decide +kernel
theorem dX0_allKnobs_9 : decode cX0_allKnobs 9 = .ok (.lconst 1, 1) := by decide +kernel
theorem dX0_allKnobs_10 : decode cX0_allKnobs 10 = .ok (.lsub, 1) := by decide +kernel
theorem dX0_allKnobs_11 : decode cX0_allKnobs 11 = .ok (.lreturn, 1) := by decide +kernel
theorem dX0_knobsInScope_0 : decode cX0_knobsInScope 0 = .ok (.lconst 0, 1) := by decide +kernel
theorem dX0_knobsInScope_1 : decode cX0_knobsInScope 1 = .ok (.lstore_n 1, 1) := by decide +kernel
theorem dX0_knobsInScope_2 : decode cX0_knobsInScope 2 = .ok (.iconst 0, 1) := by decide +kernel
theorem dX0_knobsInScope_3 : decode cX0_knobsInScope 3 = .ok (.istore_n 3, 1) := by decide +kernel
theorem dX0_knobsInScope_4 : decode cX0_knobsInScope 4 = .ok (.iload_n 3, 1) := by decide +kernel
theorem dX0_knobsInScope_5 : decode cX0_knobsInScope 5 = .ok (.aload_n 0, 1) := by decide +kernel
theorem dX0_knobsInScope_6 : decode cX0_knobsInScope 6 = .ok (.getfield 12, 3) := by decide +kernel
theorem dX0_knobsInScope_9 : decode cX0_knobsInScope 9 = .ok (.invokevirtual 47, 3) := by decide +kernel
theorem dX0_knobsInScope_12 : decode cX0_knobsInScope 12 = .ok (.if_icmp .ge 32, 3) := by decide +kernel
theorem dX0_knobsInScope_15 : decode cX0_knobsInScope 15 = .ok (.aload_n 0, 1) := by decide +kernel
theorem dX0_knobsInScope_16 : decode cX0_knobsInScope 16 = .ok (.getfield 12, 3) := by decide +kernel
theorem dX0_knobsInScope_19 : decode cX0_knobsInScope 19 = .ok (.iload_n 3, 1) := by decide +kernel
theorem dX0_knobsInScope_20 : decode cX0_knobsInScope 20 = .ok (.invokevirtual 51, 3) := by decide +kernel
theorem dX0_knobsInScope_23 : decode cX0_knobsInScope 23 = .ok (.checkcast 33, 3) := by decide +kernel
theorem dX0_knobsInScope_26 : decode cX0_knobsInScope 26 = .ok (.getfield 132, 3) := by decide +kernel
theorem dX0_knobsInScope_29 : decode cX0_knobsInScope 29 = .ok (.ifCond .eq 9, 3) := by decide +kernel
theorem dX0_knobsInScope_32 : decode cX0_knobsInScope 32 = .ok (.lload_n 1, 1) := by decide +kernel
theorem dX0_knobsInScope_33 : decode cX0_knobsInScope 33 = .ok (.lconst 1, 1) := by decide +kernel
theorem dX0_knobsInScope_34 : decode cX0_knobsInScope 34 = .ok (.iload_n 3, 1) := by decide +kernel
theorem dX0_knobsInScope_35 : decode cX0_knobsInScope 35 = .ok (.lshl, 1) := by decide +kernel
theorem dX0_knobsInScope_36 : decode cX0_knobsInScope 36 = .ok (.lor, 1) := by decide +kernel
theorem dX0_knobsInScope_37 : decode cX0_knobsInScope 37 = .ok (.lstore_n 1, 1) := by decide +kernel
theorem dX0_knobsInScope_38 : decode cX0_knobsInScope 38 = .ok (.iinc 3 1, 3) := by decide +kernel
theorem dX0_knobsInScope_41 : decode cX0_knobsInScope 41 = .ok (.goto (-37), 3) := by decide +kernel
theorem dX0_knobsInScope_44 : decode cX0_knobsInScope 44 = .ok (.lload_n 1, 1) := by decide +kernel
theorem dX0_knobsInScope_45 : decode cX0_knobsInScope 45 = .ok (.lreturn, 1) := by decide +kernel
theorem dX0_stopsOf_0 : decode cX0_stopsOf 0 = .ok (.lconst 0, 1) := by decide +kernel
theorem dX0_stopsOf_1 : decode cX0_stopsOf 1 = .ok (.lstore_n 2, 1) := by decide +kernel
theorem dX0_stopsOf_2 : decode cX0_stopsOf 2 = .ok (.iconst 0, 1) := by decide +kernel
theorem dX0_stopsOf_3 : decode cX0_stopsOf 3 = .ok (.istore 4, 2) := by decide +kernel
theorem dX0_stopsOf_5 : decode cX0_stopsOf 5 = .ok (.iload 4, 2) := by decide +kernel
theorem dX0_stopsOf_7 : decode cX0_stopsOf 7 = .ok (.aload_n 0, 1) := by decide +kernel
theorem dX0_stopsOf_8 : decode cX0_stopsOf 8 = .ok (.getfield 12, 3) := by decide +kernel
theorem dX0_stopsOf_11 : decode cX0_stopsOf 11 = .ok (.invokevirtual 47, 3) := by decide +kernel
theorem dX0_stopsOf_14 : decode cX0_stopsOf 14 = .ok (.if_icmp .ge 49, 3) := by decide +kernel
theorem dX0_stopsOf_17 : decode cX0_stopsOf 17 = .ok (.aload_n 0, 1) := by decide +kernel
theorem dX0_stopsOf_18 : decode cX0_stopsOf 18 = .ok (.getfield 12, 3) := by decide +kernel
theorem dX0_stopsOf_21 : decode cX0_stopsOf 21 = .ok (.iload 4, 2) := by decide +kernel
theorem dX0_stopsOf_23 : decode cX0_stopsOf 23 = .ok (.invokevirtual 51, 3) := by decide +kernel
theorem dX0_stopsOf_26 : decode cX0_stopsOf 26 = .ok (.checkcast 33, 3) := by decide +kernel
theorem dX0_stopsOf_29 : decode cX0_stopsOf 29 = .ok (.astore 5, 2) := by decide +kernel
theorem dX0_stopsOf_31 : decode cX0_stopsOf 31 = .ok (.aload 5, 2) := by decide +kernel
theorem dX0_stopsOf_33 : decode cX0_stopsOf 33 = .ok (.getfield 82, 3) := by decide +kernel
theorem dX0_stopsOf_36 : decode cX0_stopsOf 36 = .ok (.bipush 115, 2) := by decide +kernel
theorem dX0_stopsOf_38 : decode cX0_stopsOf 38 = .ok (.if_icmp .ne 19, 3) := by decide +kernel
theorem dX0_stopsOf_41 : decode cX0_stopsOf 41 = .ok (.aload 5, 2) := by decide +kernel
theorem dX0_stopsOf_43 : decode cX0_stopsOf 43 = .ok (.getfield 86, 3) := by decide +kernel
theorem dX0_stopsOf_46 : decode cX0_stopsOf 46 = .ok (.iload_n 1, 1) := by decide +kernel
theorem dX0_stopsOf_47 : decode cX0_stopsOf 47 = .ok (.if_icmp .ne 10, 3) := by decide +kernel
theorem dX0_stopsOf_50 : decode cX0_stopsOf 50 = .ok (.lload_n 2, 1) := by decide +kernel
theorem dX0_stopsOf_51 : decode cX0_stopsOf 51 = .ok (.lconst 1, 1) := by decide +kernel
theorem dX0_stopsOf_52 : decode cX0_stopsOf 52 = .ok (.iload 4, 2) := by decide +kernel
theorem dX0_stopsOf_54 : decode cX0_stopsOf 54 = .ok (.lshl, 1) := by decide +kernel
theorem dX0_stopsOf_55 : decode cX0_stopsOf 55 = .ok (.lor, 1) := by decide +kernel
theorem dX0_stopsOf_56 : decode cX0_stopsOf 56 = .ok (.lstore_n 2, 1) := by decide +kernel
theorem dX0_stopsOf_57 : decode cX0_stopsOf 57 = .ok (.iinc 4 1, 3) := by decide +kernel
theorem dX0_stopsOf_60 : decode cX0_stopsOf 60 = .ok (.goto (-55), 3) := by decide +kernel
theorem dX0_stopsOf_63 : decode cX0_stopsOf 63 = .ok (.lload_n 2, 1) := by decide +kernel
theorem dX0_stopsOf_64 : decode cX0_stopsOf 64 = .ok (.lreturn, 1) := by decide +kernel
theorem dX0_drawnAmong_0 : decode cX0_drawnAmong 0 = .ok (.lconst 0, 1) := by decide +kernel
theorem dX0_drawnAmong_1 : decode cX0_drawnAmong 1 = .ok (.lstore_n 3, 1) := by decide +kernel
theorem dX0_drawnAmong_2 : decode cX0_drawnAmong 2 = .ok (.iconst 0, 1) := by decide +kernel
theorem dX0_drawnAmong_3 : decode cX0_drawnAmong 3 = .ok (.istore 5, 2) := by decide +kernel
theorem dX0_drawnAmong_5 : decode cX0_drawnAmong 5 = .ok (.iload 5, 2) := by decide +kernel
theorem dX0_drawnAmong_7 : decode cX0_drawnAmong 7 = .ok (.aload_n 0, 1) := by decide +kernel
theorem dX0_drawnAmong_8 : decode cX0_drawnAmong 8 = .ok (.getfield 12, 3) := by decide +kernel
theorem dX0_drawnAmong_11 : decode cX0_drawnAmong 11 = .ok (.invokevirtual 47, 3) := by decide +kernel
theorem dX0_drawnAmong_14 : decode cX0_drawnAmong 14 = .ok (.if_icmp .ge 34, 3) := by decide +kernel
theorem dX0_drawnAmong_17 : decode cX0_drawnAmong 17 = .ok (.aload_n 0, 1) := by decide +kernel
theorem dX0_drawnAmong_18 : decode cX0_drawnAmong 18 = .ok (.getfield 12, 3) := by decide +kernel
theorem dX0_drawnAmong_21 : decode cX0_drawnAmong 21 = .ok (.iload 5, 2) := by decide +kernel
theorem dX0_drawnAmong_23 : decode cX0_drawnAmong 23 = .ok (.invokevirtual 51, 3) := by decide +kernel
theorem dX0_drawnAmong_26 : decode cX0_drawnAmong 26 = .ok (.checkcast 33, 3) := by decide +kernel
theorem dX0_drawnAmong_29 : decode cX0_drawnAmong 29 = .ok (.getfield 59, 3) := by decide +kernel
theorem dX0_drawnAmong_32 : decode cX0_drawnAmong 32 = .ok (.ifCond .eq 10, 3) := by decide +kernel
theorem dX0_drawnAmong_35 : decode cX0_drawnAmong 35 = .ok (.lload_n 3, 1) := by decide +kernel
theorem dX0_drawnAmong_36 : decode cX0_drawnAmong 36 = .ok (.lconst 1, 1) := by decide +kernel
theorem dX0_drawnAmong_37 : decode cX0_drawnAmong 37 = .ok (.iload 5, 2) := by decide +kernel
theorem dX0_drawnAmong_39 : decode cX0_drawnAmong 39 = .ok (.lshl, 1) := by decide +kernel
theorem dX0_drawnAmong_40 : decode cX0_drawnAmong 40 = .ok (.lor, 1) := by decide +kernel
theorem dX0_drawnAmong_41 : decode cX0_drawnAmong 41 = .ok (.lstore_n 3, 1) := by decide +kernel
theorem dX0_drawnAmong_42 : decode cX0_drawnAmong 42 = .ok (.iinc 5 1, 3) := by decide +kernel
theorem dX0_drawnAmong_45 : decode cX0_drawnAmong 45 = .ok (.goto (-40), 3) := by decide +kernel
theorem dX0_drawnAmong_48 : decode cX0_drawnAmong 48 = .ok (.lload_n 3, 1) := by decide +kernel
theorem dX0_drawnAmong_49 : decode cX0_drawnAmong 49 = .ok (.lload_n 1, 1) := by decide +kernel
theorem dX0_drawnAmong_50 : decode cX0_drawnAmong 50 = .ok (.land, 1) := by decide +kernel
theorem dX0_drawnAmong_51 : decode cX0_drawnAmong 51 = .ok (.lreturn, 1) := by decide +kernel
theorem dX0_moveTo_0 : decode cX0_moveTo 0 = .ok (.iconst 0, 1) := by decide +kernel
theorem dX0_moveTo_1 : decode cX0_moveTo 1 = .ok (.istore 5, 2) := by decide +kernel
theorem dX0_moveTo_3 : decode cX0_moveTo 3 = .ok (.iconst 0, 1) := by decide +kernel
theorem dX0_moveTo_4 : decode cX0_moveTo 4 = .ok (.istore 6, 2) := by decide +kernel
theorem dX0_moveTo_6 : decode cX0_moveTo 6 = .ok (.iload 6, 2) := by decide +kernel
theorem dX0_moveTo_8 : decode cX0_moveTo 8 = .ok (.aload_n 0, 1) := by decide +kernel
theorem dX0_moveTo_9 : decode cX0_moveTo 9 = .ok (.getfield 12, 3) := by decide +kernel
theorem dX0_moveTo_12 : decode cX0_moveTo 12 = .ok (.invokevirtual 47, 3) := by decide +kernel
theorem dX0_moveTo_15 : decode cX0_moveTo 15 = .ok (.if_icmp .ge 80, 3) := by decide +kernel
theorem dX0_moveTo_18 : decode cX0_moveTo 18 = .ok (.aload_n 0, 1) := by decide +kernel
theorem dX0_moveTo_19 : decode cX0_moveTo 19 = .ok (.getfield 12, 3) := by decide +kernel
theorem dX0_moveTo_22 : decode cX0_moveTo 22 = .ok (.iload 6, 2) := by decide +kernel
theorem dX0_moveTo_24 : decode cX0_moveTo 24 = .ok (.invokevirtual 51, 3) := by decide +kernel
theorem dX0_moveTo_27 : decode cX0_moveTo 27 = .ok (.checkcast 33, 3) := by decide +kernel
theorem dX0_moveTo_30 : decode cX0_moveTo 30 = .ok (.astore 7, 2) := by decide +kernel
theorem dX0_moveTo_32 : decode cX0_moveTo 32 = .ok (.lload_n 3, 1) := by decide +kernel
theorem dX0_moveTo_33 : decode cX0_moveTo 33 = .ok (.iload 6, 2) := by decide +kernel
theorem dX0_moveTo_35 : decode cX0_moveTo 35 = .ok (.lshr, 1) := by decide +kernel
theorem dX0_moveTo_36 : decode cX0_moveTo 36 = .ok (.lconst 1, 1) := by decide +kernel
theorem dX0_moveTo_37 : decode cX0_moveTo 37 = .ok (.land, 1) := by decide +kernel
theorem dX0_moveTo_38 : decode cX0_moveTo 38 = .ok (.lconst 1, 1) := by decide +kernel
theorem dX0_moveTo_39 : decode cX0_moveTo 39 = .ok (.lcmp, 1) := by decide +kernel
theorem dX0_moveTo_40 : decode cX0_moveTo 40 = .ok (.ifCond .ne 7, 3) := by decide +kernel
theorem dX0_moveTo_43 : decode cX0_moveTo 43 = .ok (.iconst 1, 1) := by decide +kernel
theorem dX0_moveTo_44 : decode cX0_moveTo 44 = .ok (.goto 4, 3) := by decide +kernel
theorem dX0_moveTo_47 : decode cX0_moveTo 47 = .ok (.iconst 0, 1) := by decide +kernel
theorem dX0_moveTo_48 : decode cX0_moveTo 48 = .ok (.istore 8, 2) := by decide +kernel
theorem dX0_moveTo_50 : decode cX0_moveTo 50 = .ok (.lload_n 1, 1) := by decide +kernel
theorem dX0_moveTo_51 : decode cX0_moveTo 51 = .ok (.iload 6, 2) := by decide +kernel
theorem dX0_moveTo_53 : decode cX0_moveTo 53 = .ok (.lshr, 1) := by decide +kernel
theorem dX0_moveTo_54 : decode cX0_moveTo 54 = .ok (.lconst 1, 1) := by decide +kernel
theorem dX0_moveTo_55 : decode cX0_moveTo 55 = .ok (.land, 1) := by decide +kernel
theorem dX0_moveTo_56 : decode cX0_moveTo 56 = .ok (.lconst 1, 1) := by decide +kernel
theorem dX0_moveTo_57 : decode cX0_moveTo 57 = .ok (.lcmp, 1) := by decide +kernel
theorem dX0_moveTo_58 : decode cX0_moveTo 58 = .ok (.ifCond .ne 31, 3) := by decide +kernel
theorem dX0_moveTo_61 : decode cX0_moveTo 61 = .ok (.aload 7, 2) := by decide +kernel
theorem dX0_moveTo_63 : decode cX0_moveTo 63 = .ok (.getfield 135, 3) := by decide +kernel
theorem dX0_moveTo_66 : decode cX0_moveTo 66 = .ok (.ifCond .ne 23, 3) := by decide +kernel
theorem dX0_moveTo_69 : decode cX0_moveTo 69 = .ok (.aload 7, 2) := by decide +kernel
theorem dX0_moveTo_71 : decode cX0_moveTo 71 = .ok (.getfield 59, 3) := by decide +kernel
theorem dX0_moveTo_74 : decode cX0_moveTo 74 = .ok (.iload 8, 2) := by decide +kernel
theorem dX0_moveTo_76 : decode cX0_moveTo 76 = .ok (.if_icmp .eq 13, 3) := by decide +kernel
theorem dX0_moveTo_79 : decode cX0_moveTo 79 = .ok (.aload 7, 2) := by decide +kernel
theorem dX0_moveTo_81 : decode cX0_moveTo 81 = .ok (.iload 8, 2) := by decide +kernel
theorem dX0_moveTo_83 : decode cX0_moveTo 83 = .ok (.putfield 59, 3) := by decide +kernel
theorem dX0_moveTo_86 : decode cX0_moveTo 86 = .ok (.iinc 5 1, 3) := by decide +kernel
theorem dX0_moveTo_89 : decode cX0_moveTo 89 = .ok (.iinc 6 1, 3) := by decide +kernel
theorem dX0_moveTo_92 : decode cX0_moveTo 92 = .ok (.goto (-86), 3) := by decide +kernel
theorem dX0_moveTo_95 : decode cX0_moveTo 95 = .ok (.iload 5, 2) := by decide +kernel
theorem dX0_moveTo_97 : decode cX0_moveTo 97 = .ok (.ireturn, 1) := by decide +kernel
theorem dX1_init_0 : decode cX1_init 0 = .ok (.aload_n 0, 1) := by decide +kernel
theorem dX1_init_1 : decode cX1_init 1 = .ok (.invokespecial 3, 3) := by decide +kernel
theorem dX1_init_4 : decode cX1_init 4 = .ok (.aload_n 0, 1) := by decide +kernel
theorem dX1_init_5 : decode cX1_init 5 = .ok (.iconst 1, 1) := by decide +kernel
theorem dX1_init_6 : decode cX1_init 6 = .ok (.putfield 9, 3) := by decide +kernel
theorem dX1_init_9 : decode cX1_init 9 = .ok (.aload_n 0, 1) := by decide +kernel
theorem dX1_init_10 : decode cX1_init 10 = .ok (.iconst 4, 1) := by decide +kernel
theorem dX1_init_11 : decode cX1_init 11 = .ok (.newarray .int, 2) := by decide +kernel
theorem dX1_init_13 : decode cX1_init 13 = .ok (.putfield 15, 3) := by decide +kernel
theorem dX1_init_16 : decode cX1_init 16 = .ok (.aload_n 0, 1) := by decide +kernel
theorem dX1_init_17 : decode cX1_init 17 = .ok (.iconst 4, 1) := by decide +kernel
theorem dX1_init_18 : decode cX1_init 18 = .ok (.newarray .int, 2) := by decide +kernel
theorem dX1_init_20 : decode cX1_init 20 = .ok (.putfield 19, 3) := by decide +kernel
theorem dX1_init_23 : decode cX1_init 23 = .ok (.aload_n 0, 1) := by decide +kernel
theorem dX1_init_24 : decode cX1_init 24 = .ok (.iconst 4, 1) := by decide +kernel
theorem dX1_init_25 : decode cX1_init 25 = .ok (.newarray .int, 2) := by decide +kernel
theorem dX1_init_27 : decode cX1_init 27 = .ok (.putfield 22, 3) := by decide +kernel
theorem dX1_init_30 : decode cX1_init 30 = .ok (.return_, 1) := by decide +kernel
theorem dX1_begin_0 : decode cX1_begin 0 = .ok (.aload_n 0, 1) := by decide +kernel
theorem dX1_begin_1 : decode cX1_begin 1 = .ok (.iload_n 1, 1) := by decide +kernel
theorem dX1_begin_2 : decode cX1_begin 2 = .ok (.putfield 25, 3) := by decide +kernel
theorem dX1_begin_5 : decode cX1_begin 5 = .ok (.aload_n 0, 1) := by decide +kernel
theorem dX1_begin_6 : decode cX1_begin 6 = .ok (.iload_n 2, 1) := by decide +kernel
theorem dX1_begin_7 : decode cX1_begin 7 = .ok (.putfield 9, 3) := by decide +kernel
theorem dX1_begin_10 : decode cX1_begin 10 = .ok (.aload_n 0, 1) := by decide +kernel
theorem dX1_begin_11 : decode cX1_begin 11 = .ok (.iconst 0, 1) := by decide +kernel
theorem dX1_begin_12 : decode cX1_begin 12 = .ok (.putfield 29, 3) := by decide +kernel
theorem dX1_begin_15 : decode cX1_begin 15 = .ok (.return_, 1) := by decide +kernel
theorem dX1_stepsOf_0 : decode cX1_stepsOf 0 = .ok (.iload_n 0, 1) := by decide +kernel
theorem dX1_stepsOf_1 : decode cX1_stepsOf 1 = .ok (.bipush 53, 2) := by decide +kernel
theorem dX1_stepsOf_3 : decode cX1_stepsOf 3 = .ok (.if_icmp .ne 7, 3) := by decide +kernel
theorem dX1_stepsOf_6 : decode cX1_stepsOf 6 = .ok (.getstatic 32, 3) := by decide +kernel
theorem dX1_stepsOf_9 : decode cX1_stepsOf 9 = .ok (.areturn, 1) := by decide +kernel
theorem dX1_stepsOf_10 : decode cX1_stepsOf 10 = .ok (.iload_n 0, 1) := by decide +kernel
theorem dX1_stepsOf_11 : decode cX1_stepsOf 11 = .ok (.bipush 54, 2) := by decide +kernel
theorem dX1_stepsOf_13 : decode cX1_stepsOf 13 = .ok (.if_icmp .ne 7, 3) := by decide +kernel
theorem dX1_stepsOf_16 : decode cX1_stepsOf 16 = .ok (.getstatic 35, 3) := by decide +kernel
theorem dX1_stepsOf_19 : decode cX1_stepsOf 19 = .ok (.areturn, 1) := by decide +kernel
theorem dX1_stepsOf_20 : decode cX1_stepsOf 20 = .ok (.iload_n 0, 1) := by decide +kernel
theorem dX1_stepsOf_21 : decode cX1_stepsOf 21 = .ok (.bipush 52, 2) := by decide +kernel
theorem dX1_stepsOf_23 : decode cX1_stepsOf 23 = .ok (.if_icmp .ne 7, 3) := by decide +kernel
theorem dX1_stepsOf_26 : decode cX1_stepsOf 26 = .ok (.getstatic 38, 3) := by decide +kernel
theorem dX1_stepsOf_29 : decode cX1_stepsOf 29 = .ok (.areturn, 1) := by decide +kernel
theorem dX1_stepsOf_30 : decode cX1_stepsOf 30 = .ok (.iload_n 0, 1) := by decide +kernel
theorem dX1_stepsOf_31 : decode cX1_stepsOf 31 = .ok (.bipush 55, 2) := by decide +kernel
theorem dX1_stepsOf_33 : decode cX1_stepsOf 33 = .ok (.if_icmp .ne 9, 3) := by decide +kernel
theorem dX1_stepsOf_36 : decode cX1_stepsOf 36 = .ok (.getstatic 41, 3) := by decide +kernel
theorem dX1_stepsOf_39 : decode cX1_stepsOf 39 = .ok (.goto 6, 3) := by decide +kernel
theorem dX1_stepsOf_42 : decode cX1_stepsOf 42 = .ok (.getstatic 44, 3) := by decide +kernel
theorem dX1_stepsOf_45 : decode cX1_stepsOf 45 = .ok (.areturn, 1) := by decide +kernel
theorem dX1_degreeOf_0 : decode cX1_degreeOf 0 = .ok (.aload_n 0, 1) := by decide +kernel
theorem dX1_degreeOf_1 : decode cX1_degreeOf 1 = .ok (.getfield 9, 3) := by decide +kernel
theorem dX1_degreeOf_4 : decode cX1_degreeOf 4 = .ok (.ifCond .eq 9, 3) := by decide +kernel
theorem dX1_degreeOf_7 : decode cX1_degreeOf 7 = .ok (.getstatic 47, 3) := by decide +kernel
theorem dX1_degreeOf_10 : decode cX1_degreeOf 10 = .ok (.goto 6, 3) := by decide +kernel
theorem dX1_degreeOf_13 : decode cX1_degreeOf 13 = .ok (.getstatic 50, 3) := by decide +kernel
theorem dX1_degreeOf_16 : decode cX1_degreeOf 16 = .ok (.astore_n 2, 1) := by decide +kernel
theorem dX1_degreeOf_17 : decode cX1_degreeOf 17 = .ok (.iconst 0, 1) := by decide +kernel
theorem dX1_degreeOf_18 : decode cX1_degreeOf 18 = .ok (.istore_n 3, 1) := by decide +kernel
theorem dX1_degreeOf_19 : decode cX1_degreeOf 19 = .ok (.iload_n 3, 1) := by decide +kernel
theorem dX1_degreeOf_20 : decode cX1_degreeOf 20 = .ok (.aload_n 2, 1) := by decide +kernel
theorem dX1_degreeOf_21 : decode cX1_degreeOf 21 = .ok (.arraylength, 1) := by decide +kernel
theorem dX1_degreeOf_22 : decode cX1_degreeOf 22 = .ok (.if_icmp .ge 29, 3) := by decide +kernel
theorem dX1_degreeOf_25 : decode cX1_degreeOf 25 = .ok (.aload_n 0, 1) := by decide +kernel
theorem dX1_degreeOf_26 : decode cX1_degreeOf 26 = .ok (.getfield 25, 3) := by decide +kernel
theorem dX1_degreeOf_29 : decode cX1_degreeOf 29 = .ok (.aload_n 2, 1) := by decide +kernel
theorem dX1_degreeOf_30 : decode cX1_degreeOf 30 = .ok (.iload_n 3, 1) := by decide +kernel
theorem dX1_degreeOf_31 : decode cX1_degreeOf 31 = .ok (.iaload, 1) := by decide +kernel
theorem dX1_degreeOf_32 : decode cX1_degreeOf 32 = .ok (.iadd, 1) := by decide +kernel
theorem dX1_degreeOf_33 : decode cX1_degreeOf 33 = .ok (.bipush 12, 2) := by decide +kernel
theorem dX1_degreeOf_35 : decode cX1_degreeOf 35 = .ok (.irem, 1) := by decide +kernel
theorem dX1_degreeOf_36 : decode cX1_degreeOf 36 = .ok (.iload_n 1, 1) := by decide +kernel
theorem dX1_degreeOf_37 : decode cX1_degreeOf 37 = .ok (.bipush 12, 2) := by decide +kernel
theorem dX1_degreeOf_39 : decode cX1_degreeOf 39 = .ok (.irem, 1) := by decide +kernel
theorem dX1_degreeOf_40 : decode cX1_degreeOf 40 = .ok (.if_icmp .ne 5, 3) := by decide +kernel
theorem dX1_degreeOf_43 : decode cX1_degreeOf 43 = .ok (.iload_n 3, 1) := by decide +kernel
theorem dX1_degreeOf_44 : decode cX1_degreeOf 44 = .ok (.ireturn, 1) := by decide +kernel
theorem dX1_degreeOf_45 : decode cX1_degreeOf 45 = .ok (.iinc 3 1, 3) := by decide +kernel
theorem dX1_degreeOf_48 : decode cX1_degreeOf 48 = .ok (.goto (-29), 3) := by decide +kernel
theorem dX1_degreeOf_51 : decode cX1_degreeOf 51 = .ok (.iconst (-1), 1) := by decide +kernel
theorem dX1_degreeOf_52 : decode cX1_degreeOf 52 = .ok (.ireturn, 1) := by decide +kernel
theorem dX1_choose_0 : decode cX1_choose 0 = .ok (.aload_n 0, 1) := by decide +kernel
theorem dX1_choose_1 : decode cX1_choose 1 = .ok (.iload_n 1, 1) := by decide +kernel
theorem dX1_choose_2 : decode cX1_choose 2 = .ok (.invokevirtual 53, 3) := by decide +kernel
theorem dX1_choose_5 : decode cX1_choose 5 = .ok (.istore_n 3, 1) := by decide +kernel
theorem dX1_choose_6 : decode cX1_choose 6 = .ok (.aload_n 0, 1) := by decide +kernel
theorem dX1_choose_7 : decode cX1_choose 7 = .ok (.getfield 19, 3) := by decide +kernel
theorem dX1_choose_10 : decode cX1_choose 10 = .ok (.iconst 0, 1) := by decide +kernel
theorem dX1_choose_11 : decode cX1_choose 11 = .ok (.bipush 36, 2) := by decide +kernel
theorem dX1_choose_13 : decode cX1_choose 13 = .ok (.iload_n 1, 1) := by decide +kernel
theorem dX1_choose_14 : decode cX1_choose 14 = .ok (.iadd, 1) := by decide +kernel
theorem dX1_choose_15 : decode cX1_choose 15 = .ok (.iastore, 1) := by decide +kernel
theorem dX1_choose_16 : decode cX1_choose 16 = .ok (.aload_n 0, 1) := by decide +kernel
theorem dX1_choose_17 : decode cX1_choose 17 = .ok (.ldc 57, 2) := by decide +kernel
theorem dX1_choose_19 : decode cX1_choose 19 = .ok (.putfield 58, 3) := by decide +kernel
theorem dX1_choose_22 : decode cX1_choose 22 = .ok (.aload_n 0, 1) := by decide +kernel
theorem dX1_choose_23 : decode cX1_choose 23 = .ok (.ldc 57, 2) := by decide +kernel
theorem dX1_choose_25 : decode cX1_choose 25 = .ok (.putfield 61, 3) := by decide +kernel
theorem dX1_choose_28 : decode cX1_choose 28 = .ok (.bipush 12, 2) := by decide +kernel
theorem dX1_choose_30 : decode cX1_choose 30 = .ok (.istore 4, 2) := by decide +kernel
theorem dX1_choose_32 : decode cX1_choose 32 = .ok (.iload 4, 2) := by decide +kernel
theorem dX1_choose_34 : decode cX1_choose 34 = .ok (.bipush 48, 2) := by decide +kernel
theorem dX1_choose_36 : decode cX1_choose 36 = .ok (.if_icmp .gt 114, 3) := by decide +kernel
theorem dX1_choose_39 : decode cX1_choose 39 = .ok (.bipush 48, 2) := by decide +kernel
theorem dX1_choose_41 : decode cX1_choose 41 = .ok (.iload 4, 2) := by decide +kernel
theorem dX1_choose_43 : decode cX1_choose 43 = .ok (.bipush 12, 2) := by decide +kernel
theorem dX1_choose_45 : decode cX1_choose 45 = .ok (.iadd, 1) := by decide +kernel
theorem dX1_choose_46 : decode cX1_choose 46 = .ok (.invokestatic 64, 3) := by decide +kernel
theorem dX1_choose_49 : decode cX1_choose 49 = .ok (.istore 5, 2) := by decide +kernel
theorem dX1_choose_51 : decode cX1_choose 51 = .ok (.iload 4, 2) := by decide +kernel
theorem dX1_choose_53 : decode cX1_choose 53 = .ok (.iconst 1, 1) := by decide +kernel
theorem dX1_choose_54 : decode cX1_choose 54 = .ok (.iadd, 1) := by decide +kernel
theorem dX1_choose_55 : decode cX1_choose 55 = .ok (.istore 6, 2) := by decide +kernel
theorem dX1_choose_57 : decode cX1_choose 57 = .ok (.iload 6, 2) := by decide +kernel
theorem dX1_choose_59 : decode cX1_choose 59 = .ok (.iload 5, 2) := by decide +kernel
theorem dX1_choose_61 : decode cX1_choose 61 = .ok (.if_icmp .ge 83, 3) := by decide +kernel
theorem dX1_choose_64 : decode cX1_choose 64 = .ok (.aload_n 0, 1) := by decide +kernel
theorem dX1_choose_65 : decode cX1_choose 65 = .ok (.iload_n 3, 1) := by decide +kernel
theorem dX1_choose_66 : decode cX1_choose 66 = .ok (.aload_n 2, 1) := by decide +kernel
theorem dX1_choose_67 : decode cX1_choose 67 = .ok (.iload 4, 2) := by decide +kernel
theorem dX1_choose_69 : decode cX1_choose 69 = .ok (.invokevirtual 70, 3) := by decide +kernel
theorem dX1_choose_72 : decode cX1_choose 72 = .ok (.ifCond .eq 72, 3) := by decide +kernel
theorem dX1_choose_75 : decode cX1_choose 75 = .ok (.iload 6, 2) := by decide +kernel
theorem dX1_choose_77 : decode cX1_choose 77 = .ok (.iconst 1, 1) := by decide +kernel
theorem dX1_choose_78 : decode cX1_choose 78 = .ok (.iadd, 1) := by decide +kernel
theorem dX1_choose_79 : decode cX1_choose 79 = .ok (.istore 7, 2) := by decide +kernel
theorem dX1_choose_81 : decode cX1_choose 81 = .ok (.iload 7, 2) := by decide +kernel
theorem dX1_choose_83 : decode cX1_choose 83 = .ok (.iload 5, 2) := by decide +kernel
theorem dX1_choose_85 : decode cX1_choose 85 = .ok (.if_icmp .gt 53, 3) := by decide +kernel
theorem dX1_choose_88 : decode cX1_choose 88 = .ok (.aload_n 0, 1) := by decide +kernel
theorem dX1_choose_89 : decode cX1_choose 89 = .ok (.iload_n 3, 1) := by decide +kernel
theorem dX1_choose_90 : decode cX1_choose 90 = .ok (.aload_n 2, 1) := by decide +kernel
theorem dX1_choose_91 : decode cX1_choose 91 = .ok (.iload 6, 2) := by decide +kernel
theorem dX1_choose_93 : decode cX1_choose 93 = .ok (.invokevirtual 70, 3) := by decide +kernel
theorem dX1_choose_96 : decode cX1_choose 96 = .ok (.ifCond .eq 42, 3) := by decide +kernel
theorem dX1_choose_99 : decode cX1_choose 99 = .ok (.aload_n 0, 1) := by decide +kernel
theorem dX1_choose_100 : decode cX1_choose 100 = .ok (.iload_n 3, 1) := by decide +kernel
theorem dX1_choose_101 : decode cX1_choose 101 = .ok (.aload_n 2, 1) := by decide +kernel
theorem dX1_choose_102 : decode cX1_choose 102 = .ok (.iload 7, 2) := by decide +kernel
theorem dX1_choose_104 : decode cX1_choose 104 = .ok (.invokevirtual 70, 3) := by decide +kernel
theorem dX1_choose_107 : decode cX1_choose 107 = .ok (.ifCond .eq 25, 3) := by decide +kernel
theorem dX1_choose_110 : decode cX1_choose 110 = .ok (.iload 4, 2) := by decide +kernel
theorem dX1_choose_112 : decode cX1_choose 112 = .ok (.iload 6, 2) := by decide +kernel
theorem dX1_choose_114 : decode cX1_choose 114 = .ok (.iload 7, 2) := by decide +kernel
theorem dX1_choose_116 : decode cX1_choose 116 = .ok (.invokestatic 74, 3) := by decide +kernel
theorem dX1_choose_119 : decode cX1_choose 119 = .ok (.ifCond .eq 13, 3) := by decide +kernel
theorem dX1_choose_122 : decode cX1_choose 122 = .ok (.aload_n 0, 1) := by decide +kernel
theorem dX1_choose_123 : decode cX1_choose 123 = .ok (.iload 4, 2) := by decide +kernel
theorem dX1_choose_125 : decode cX1_choose 125 = .ok (.iload 6, 2) := by decide +kernel
theorem dX1_choose_127 : decode cX1_choose 127 = .ok (.iload 7, 2) := by decide +kernel
theorem dX1_choose_129 : decode cX1_choose 129 = .ok (.invokevirtual 78, 3) := by decide +kernel
theorem dX1_choose_132 : decode cX1_choose 132 = .ok (.iinc 7 1, 3) := by decide +kernel
theorem dX1_choose_135 : decode cX1_choose 135 = .ok (.goto (-54), 3) := by decide +kernel
theorem dX1_choose_138 : decode cX1_choose 138 = .ok (.iinc 6 1, 3) := by decide +kernel
theorem dX1_choose_141 : decode cX1_choose 141 = .ok (.goto (-84), 3) := by decide +kernel
theorem dX1_choose_144 : decode cX1_choose 144 = .ok (.iinc 4 1, 3) := by decide +kernel
theorem dX1_choose_147 : decode cX1_choose 147 = .ok (.goto (-115), 3) := by decide +kernel
theorem dX1_choose_150 : decode cX1_choose 150 = .ok (.aload_n 0, 1) := by decide +kernel
theorem dX1_choose_151 : decode cX1_choose 151 = .ok (.getfield 22, 3) := by decide +kernel
theorem dX1_choose_154 : decode cX1_choose 154 = .ok (.iconst 0, 1) := by decide +kernel
theorem dX1_choose_155 : decode cX1_choose 155 = .ok (.aload_n 0, 1) := by decide +kernel
theorem dX1_choose_156 : decode cX1_choose 156 = .ok (.getfield 15, 3) := by decide +kernel
theorem dX1_choose_159 : decode cX1_choose 159 = .ok (.iconst 0, 1) := by decide +kernel
theorem dX1_choose_160 : decode cX1_choose 160 = .ok (.iconst 4, 1) := by decide +kernel
theorem dX1_choose_161 : decode cX1_choose 161 = .ok (.invokestatic 82, 3) := by decide +kernel
theorem dX1_choose_164 : decode cX1_choose 164 = .ok (.aload_n 0, 1) := by decide +kernel
theorem dX1_choose_165 : decode cX1_choose 165 = .ok (.iconst 1, 1) := by decide +kernel
theorem dX1_choose_166 : decode cX1_choose 166 = .ok (.putfield 29, 3) := by decide +kernel
theorem dX1_choose_169 : decode cX1_choose 169 = .ok (.aload_n 0, 1) := by decide +kernel
theorem dX1_choose_170 : decode cX1_choose 170 = .ok (.getfield 58, 3) := by decide +kernel
theorem dX1_choose_173 : decode cX1_choose 173 = .ok (.ireturn, 1) := by decide +kernel
theorem dX1_asks_0 : decode cX1_asks 0 = .ok (.aload_n 0, 1) := by decide +kernel
theorem dX1_asks_1 : decode cX1_asks 1 = .ok (.iload_n 3, 1) := by decide +kernel
theorem dX1_asks_2 : decode cX1_asks 2 = .ok (.invokevirtual 53, 3) := by decide +kernel
theorem dX1_asks_5 : decode cX1_asks 5 = .ok (.istore 4, 2) := by decide +kernel
theorem dX1_asks_7 : decode cX1_asks 7 = .ok (.iload 4, 2) := by decide +kernel
theorem dX1_asks_9 : decode cX1_asks 9 = .ok (.ifCond .ge 5, 3) := by decide +kernel
theorem dX1_asks_12 : decode cX1_asks 12 = .ok (.iconst 0, 1) := by decide +kernel
theorem dX1_asks_13 : decode cX1_asks 13 = .ok (.ireturn, 1) := by decide +kernel
theorem dX1_asks_14 : decode cX1_asks 14 = .ok (.aload_n 2, 1) := by decide +kernel
theorem dX1_asks_15 : decode cX1_asks 15 = .ok (.astore 5, 2) := by decide +kernel
theorem dX1_asks_17 : decode cX1_asks 17 = .ok (.aload 5, 2) := by decide +kernel
theorem dX1_asks_19 : decode cX1_asks 19 = .ok (.arraylength, 1) := by decide +kernel
theorem dX1_asks_20 : decode cX1_asks 20 = .ok (.istore 6, 2) := by decide +kernel
theorem dX1_asks_22 : decode cX1_asks 22 = .ok (.iconst 0, 1) := by decide +kernel
theorem dX1_asks_23 : decode cX1_asks 23 = .ok (.istore 7, 2) := by decide +kernel
theorem dX1_asks_25 : decode cX1_asks 25 = .ok (.iload 7, 2) := by decide +kernel
theorem dX1_asks_27 : decode cX1_asks 27 = .ok (.iload 6, 2) := by decide +kernel
theorem dX1_asks_29 : decode cX1_asks 29 = .ok (.if_icmp .ge 32, 3) := by decide +kernel
theorem dX1_asks_32 : decode cX1_asks 32 = .ok (.aload 5, 2) := by decide +kernel
theorem dX1_asks_34 : decode cX1_asks 34 = .ok (.iload 7, 2) := by decide +kernel
theorem dX1_asks_36 : decode cX1_asks 36 = .ok (.iaload, 1) := by decide +kernel
theorem dX1_asks_37 : decode cX1_asks 37 = .ok (.istore 8, 2) := by decide +kernel
theorem dX1_asks_39 : decode cX1_asks 39 = .ok (.iload_n 1, 1) := by decide +kernel
theorem dX1_asks_40 : decode cX1_asks 40 = .ok (.iload 8, 2) := by decide +kernel
theorem dX1_asks_42 : decode cX1_asks 42 = .ok (.iadd, 1) := by decide +kernel
theorem dX1_asks_43 : decode cX1_asks 43 = .ok (.getstatic 47, 3) := by decide +kernel
theorem dX1_asks_46 : decode cX1_asks 46 = .ok (.arraylength, 1) := by decide +kernel
theorem dX1_asks_47 : decode cX1_asks 47 = .ok (.irem, 1) := by decide +kernel
theorem dX1_asks_48 : decode cX1_asks 48 = .ok (.iload 4, 2) := by decide +kernel
theorem dX1_asks_50 : decode cX1_asks 50 = .ok (.if_icmp .ne 5, 3) := by decide +kernel
theorem dX1_asks_53 : decode cX1_asks 53 = .ok (.iconst 1, 1) := by decide +kernel
theorem dX1_asks_54 : decode cX1_asks 54 = .ok (.ireturn, 1) := by decide +kernel
theorem dX1_asks_55 : decode cX1_asks 55 = .ok (.iinc 7 1, 3) := by decide +kernel
theorem dX1_asks_58 : decode cX1_asks 58 = .ok (.goto (-33), 3) := by decide +kernel
theorem dX1_asks_61 : decode cX1_asks 61 = .ok (.iconst 0, 1) := by decide +kernel
theorem dX1_asks_62 : decode cX1_asks 62 = .ok (.ireturn, 1) := by decide +kernel
theorem dX1_areApart_0 : decode cX1_areApart 0 = .ok (.iload_n 1, 1) := by decide +kernel
theorem dX1_areApart_1 : decode cX1_areApart 1 = .ok (.iload_n 0, 1) := by decide +kernel
theorem dX1_areApart_2 : decode cX1_areApart 2 = .ok (.isub, 1) := by decide +kernel
theorem dX1_areApart_3 : decode cX1_areApart 3 = .ok (.bipush 12, 2) := by decide +kernel
theorem dX1_areApart_5 : decode cX1_areApart 5 = .ok (.irem, 1) := by decide +kernel
theorem dX1_areApart_6 : decode cX1_areApart 6 = .ok (.ifCond .eq 25, 3) := by decide +kernel
theorem dX1_areApart_9 : decode cX1_areApart 9 = .ok (.iload_n 2, 1) := by decide +kernel
theorem dX1_areApart_10 : decode cX1_areApart 10 = .ok (.iload_n 1, 1) := by decide +kernel
theorem dX1_areApart_11 : decode cX1_areApart 11 = .ok (.isub, 1) := by decide +kernel
theorem dX1_areApart_12 : decode cX1_areApart 12 = .ok (.bipush 12, 2) := by decide +kernel
theorem dX1_areApart_14 : decode cX1_areApart 14 = .ok (.irem, 1) := by decide +kernel
theorem dX1_areApart_15 : decode cX1_areApart 15 = .ok (.ifCond .eq 16, 3) := by decide +kernel
theorem dX1_areApart_18 : decode cX1_areApart 18 = .ok (.iload_n 2, 1) := by decide +kernel
theorem dX1_areApart_19 : decode cX1_areApart 19 = .ok (.iload_n 0, 1) := by decide +kernel
theorem dX1_areApart_20 : decode cX1_areApart 20 = .ok (.isub, 1) := by decide +kernel
theorem dX1_areApart_21 : decode cX1_areApart 21 = .ok (.bipush 12, 2) := by decide +kernel
theorem dX1_areApart_23 : decode cX1_areApart 23 = .ok (.irem, 1) := by decide +kernel
theorem dX1_areApart_24 : decode cX1_areApart 24 = .ok (.ifCond .eq 7, 3) := by decide +kernel
theorem dX1_areApart_27 : decode cX1_areApart 27 = .ok (.iconst 1, 1) := by decide +kernel
theorem dX1_areApart_28 : decode cX1_areApart 28 = .ok (.goto 4, 3) := by decide +kernel
theorem dX1_areApart_31 : decode cX1_areApart 31 = .ok (.iconst 0, 1) := by decide +kernel
theorem dX1_areApart_32 : decode cX1_areApart 32 = .ok (.ireturn, 1) := by decide +kernel
theorem dX1_weigh_0 : decode cX1_weigh 0 = .ok (.aload_n 0, 1) := by decide +kernel
theorem dX1_weigh_1 : decode cX1_weigh 1 = .ok (.getfield 19, 3) := by decide +kernel
theorem dX1_weigh_4 : decode cX1_weigh 4 = .ok (.iconst 1, 1) := by decide +kernel
theorem dX1_weigh_5 : decode cX1_weigh 5 = .ok (.bipush 36, 2) := by decide +kernel
theorem dX1_weigh_7 : decode cX1_weigh 7 = .ok (.iload_n 1, 1) := by decide +kernel
theorem dX1_weigh_8 : decode cX1_weigh 8 = .ok (.iadd, 1) := by decide +kernel
theorem dX1_weigh_9 : decode cX1_weigh 9 = .ok (.iastore, 1) := by decide +kernel
theorem dX1_weigh_10 : decode cX1_weigh 10 = .ok (.aload_n 0, 1) := by decide +kernel
theorem dX1_weigh_11 : decode cX1_weigh 11 = .ok (.getfield 19, 3) := by decide +kernel
theorem dX1_weigh_14 : decode cX1_weigh 14 = .ok (.iconst 2, 1) := by decide +kernel
theorem dX1_weigh_15 : decode cX1_weigh 15 = .ok (.bipush 36, 2) := by decide +kernel
theorem dX1_weigh_17 : decode cX1_weigh 17 = .ok (.iload_n 2, 1) := by decide +kernel
theorem dX1_weigh_18 : decode cX1_weigh 18 = .ok (.iadd, 1) := by decide +kernel
theorem dX1_weigh_19 : decode cX1_weigh 19 = .ok (.iastore, 1) := by decide +kernel
theorem dX1_weigh_20 : decode cX1_weigh 20 = .ok (.aload_n 0, 1) := by decide +kernel
theorem dX1_weigh_21 : decode cX1_weigh 21 = .ok (.getfield 19, 3) := by decide +kernel
theorem dX1_weigh_24 : decode cX1_weigh 24 = .ok (.iconst 3, 1) := by decide +kernel
theorem dX1_weigh_25 : decode cX1_weigh 25 = .ok (.bipush 36, 2) := by decide +kernel
theorem dX1_weigh_27 : decode cX1_weigh 27 = .ok (.iload_n 3, 1) := by decide +kernel
theorem dX1_weigh_28 : decode cX1_weigh 28 = .ok (.iadd, 1) := by decide +kernel
theorem dX1_weigh_29 : decode cX1_weigh 29 = .ok (.iastore, 1) := by decide +kernel
theorem dX1_weigh_30 : decode cX1_weigh 30 = .ok (.aload_n 0, 1) := by decide +kernel
theorem dX1_weigh_31 : decode cX1_weigh 31 = .ok (.invokevirtual 88, 3) := by decide +kernel
theorem dX1_weigh_34 : decode cX1_weigh 34 = .ok (.istore 4, 2) := by decide +kernel
theorem dX1_weigh_36 : decode cX1_weigh 36 = .ok (.aload_n 0, 1) := by decide +kernel
theorem dX1_weigh_37 : decode cX1_weigh 37 = .ok (.iload_n 1, 1) := by decide +kernel
theorem dX1_weigh_38 : decode cX1_weigh 38 = .ok (.iconst 1, 1) := by decide +kernel
theorem dX1_weigh_39 : decode cX1_weigh 39 = .ok (.bipush 24, 2) := by decide +kernel
theorem dX1_weigh_41 : decode cX1_weigh 41 = .ok (.invokevirtual 92, 3) := by decide +kernel
theorem dX1_weigh_44 : decode cX1_weigh 44 = .ok (.aload_n 0, 1) := by decide +kernel
theorem dX1_weigh_45 : decode cX1_weigh 45 = .ok (.iload_n 2, 1) := by decide +kernel
theorem dX1_weigh_46 : decode cX1_weigh 46 = .ok (.iconst 2, 1) := by decide +kernel
theorem dX1_weigh_47 : decode cX1_weigh 47 = .ok (.bipush 28, 2) := by decide +kernel
theorem dX1_weigh_49 : decode cX1_weigh 49 = .ok (.invokevirtual 92, 3) := by decide +kernel
theorem dX1_weigh_52 : decode cX1_weigh 52 = .ok (.iadd, 1) := by decide +kernel
theorem dX1_weigh_53 : decode cX1_weigh 53 = .ok (.aload_n 0, 1) := by decide +kernel
theorem dX1_weigh_54 : decode cX1_weigh 54 = .ok (.iload_n 3, 1) := by decide +kernel
theorem dX1_weigh_55 : decode cX1_weigh 55 = .ok (.iconst 3, 1) := by decide +kernel
theorem dX1_weigh_56 : decode cX1_weigh 56 = .ok (.bipush 31, 2) := by decide +kernel
theorem dX1_weigh_58 : decode cX1_weigh 58 = .ok (.invokevirtual 92, 3) := by decide +kernel
theorem dX1_weigh_61 : decode cX1_weigh 61 = .ok (.iadd, 1) := by decide +kernel
theorem dX1_weigh_62 : decode cX1_weigh 62 = .ok (.istore 5, 2) := by decide +kernel
theorem dX1_weigh_64 : decode cX1_weigh 64 = .ok (.iload 4, 2) := by decide +kernel
theorem dX1_weigh_66 : decode cX1_weigh 66 = .ok (.aload_n 0, 1) := by decide +kernel
theorem dX1_weigh_67 : decode cX1_weigh 67 = .ok (.getfield 58, 3) := by decide +kernel
theorem dX1_weigh_70 : decode cX1_weigh 70 = .ok (.if_icmp .lt 21, 3) := by decide +kernel
theorem dX1_weigh_73 : decode cX1_weigh 73 = .ok (.iload 4, 2) := by decide +kernel
theorem dX1_weigh_75 : decode cX1_weigh 75 = .ok (.aload_n 0, 1) := by decide +kernel
theorem dX1_weigh_76 : decode cX1_weigh 76 = .ok (.getfield 58, 3) := by decide +kernel
theorem dX1_weigh_79 : decode cX1_weigh 79 = .ok (.if_icmp .ne 38, 3) := by decide +kernel
theorem dX1_weigh_82 : decode cX1_weigh 82 = .ok (.iload 5, 2) := by decide +kernel
theorem dX1_weigh_84 : decode cX1_weigh 84 = .ok (.aload_n 0, 1) := by decide +kernel
theorem dX1_weigh_85 : decode cX1_weigh 85 = .ok (.getfield 61, 3) := by decide +kernel
theorem dX1_weigh_88 : decode cX1_weigh 88 = .ok (.if_icmp .ge 29, 3) := by decide +kernel
theorem dX1_weigh_91 : decode cX1_weigh 91 = .ok (.aload_n 0, 1) := by decide +kernel
theorem dX1_weigh_92 : decode cX1_weigh 92 = .ok (.iload 4, 2) := by decide +kernel
theorem dX1_weigh_94 : decode cX1_weigh 94 = .ok (.putfield 58, 3) := by decide +kernel
theorem dX1_weigh_97 : decode cX1_weigh 97 = .ok (.aload_n 0, 1) := by decide +kernel
theorem dX1_weigh_98 : decode cX1_weigh 98 = .ok (.iload 5, 2) := by decide +kernel
theorem dX1_weigh_100 : decode cX1_weigh 100 = .ok (.putfield 61, 3) := by decide +kernel
theorem dX1_weigh_103 : decode cX1_weigh 103 = .ok (.aload_n 0, 1) := by decide +kernel
theorem dX1_weigh_104 : decode cX1_weigh 104 = .ok (.getfield 19, 3) := by decide +kernel
theorem dX1_weigh_107 : decode cX1_weigh 107 = .ok (.iconst 0, 1) := by decide +kernel
theorem dX1_weigh_108 : decode cX1_weigh 108 = .ok (.aload_n 0, 1) := by decide +kernel
theorem dX1_weigh_109 : decode cX1_weigh 109 = .ok (.getfield 22, 3) := by decide +kernel
theorem dX1_weigh_112 : decode cX1_weigh 112 = .ok (.iconst 0, 1) := by decide +kernel
theorem dX1_weigh_113 : decode cX1_weigh 113 = .ok (.iconst 4, 1) := by decide +kernel
theorem dX1_weigh_114 : decode cX1_weigh 114 = .ok (.invokestatic 82, 3) := by decide +kernel
theorem dX1_weigh_117 : decode cX1_weigh 117 = .ok (.return_, 1) := by decide +kernel
theorem dX1_way_0 : decode cX1_way 0 = .ok (.iload_n 1, 1) := by decide +kernel
theorem dX1_way_1 : decode cX1_way 1 = .ok (.aload_n 0, 1) := by decide +kernel
theorem dX1_way_2 : decode cX1_way 2 = .ok (.getfield 29, 3) := by decide +kernel
theorem dX1_way_5 : decode cX1_way 5 = .ok (.ifCond .eq 11, 3) := by decide +kernel
theorem dX1_way_8 : decode cX1_way 8 = .ok (.aload_n 0, 1) := by decide +kernel
theorem dX1_way_9 : decode cX1_way 9 = .ok (.iload_n 2, 1) := by decide +kernel
theorem dX1_way_10 : decode cX1_way 10 = .ok (.invokevirtual 96, 3) := by decide +kernel
theorem dX1_way_13 : decode cX1_way 13 = .ok (.goto 4, 3) := by decide +kernel
theorem dX1_way_16 : decode cX1_way 16 = .ok (.iload_n 3, 1) := by decide +kernel
theorem dX1_way_17 : decode cX1_way 17 = .ok (.isub, 1) := by decide +kernel
theorem dX1_way_18 : decode cX1_way 18 = .ok (.invokestatic 99, 3) := by decide +kernel
theorem dX1_way_21 : decode cX1_way 21 = .ok (.ireturn, 1) := by decide +kernel
theorem dX1_badSteps_0 : decode cX1_badSteps 0 = .ok (.iconst 0, 1) := by decide +kernel
theorem dX1_badSteps_1 : decode cX1_badSteps 1 = .ok (.istore_n 1, 1) := by decide +kernel
theorem dX1_badSteps_2 : decode cX1_badSteps 2 = .ok (.iconst 0, 1) := by decide +kernel
theorem dX1_badSteps_3 : decode cX1_badSteps 3 = .ok (.istore_n 2, 1) := by decide +kernel
theorem dX1_badSteps_4 : decode cX1_badSteps 4 = .ok (.aload_n 0, 1) := by decide +kernel
theorem dX1_badSteps_5 : decode cX1_badSteps 5 = .ok (.getfield 29, 3) := by decide +kernel
theorem dX1_badSteps_8 : decode cX1_badSteps 8 = .ok (.ifCond .eq 46, 3) := by decide +kernel
theorem dX1_badSteps_11 : decode cX1_badSteps 11 = .ok (.iload_n 2, 1) := by decide +kernel
theorem dX1_badSteps_12 : decode cX1_badSteps 12 = .ok (.iconst 4, 1) := by decide +kernel
theorem dX1_badSteps_13 : decode cX1_badSteps 13 = .ok (.if_icmp .ge 41, 3) := by decide +kernel
theorem dX1_badSteps_16 : decode cX1_badSteps 16 = .ok (.iload_n 2, 1) := by decide +kernel
theorem dX1_badSteps_17 : decode cX1_badSteps 17 = .ok (.iconst 1, 1) := by decide +kernel
theorem dX1_badSteps_18 : decode cX1_badSteps 18 = .ok (.iadd, 1) := by decide +kernel
theorem dX1_badSteps_19 : decode cX1_badSteps 19 = .ok (.istore_n 3, 1) := by decide +kernel
theorem dX1_badSteps_20 : decode cX1_badSteps 20 = .ok (.iload_n 3, 1) := by decide +kernel
theorem dX1_badSteps_21 : decode cX1_badSteps 21 = .ok (.iconst 4, 1) := by decide +kernel
theorem dX1_badSteps_22 : decode cX1_badSteps 22 = .ok (.if_icmp .ge 26, 3) := by decide +kernel
theorem dX1_badSteps_25 : decode cX1_badSteps 25 = .ok (.iload_n 1, 1) := by decide +kernel
theorem dX1_badSteps_26 : decode cX1_badSteps 26 = .ok (.aload_n 0, 1) := by decide +kernel
theorem dX1_badSteps_27 : decode cX1_badSteps 27 = .ok (.iload_n 2, 1) := by decide +kernel
theorem dX1_badSteps_28 : decode cX1_badSteps 28 = .ok (.iload_n 3, 1) := by decide +kernel
theorem dX1_badSteps_29 : decode cX1_badSteps 29 = .ok (.invokevirtual 102, 3) := by decide +kernel
theorem dX1_badSteps_32 : decode cX1_badSteps 32 = .ok (.ifCond .eq 7, 3) := by decide +kernel
theorem dX1_badSteps_35 : decode cX1_badSteps 35 = .ok (.iconst 1, 1) := by decide +kernel
theorem dX1_badSteps_36 : decode cX1_badSteps 36 = .ok (.goto 4, 3) := by decide +kernel
theorem dX1_badSteps_39 : decode cX1_badSteps 39 = .ok (.iconst 0, 1) := by decide +kernel
theorem dX1_badSteps_40 : decode cX1_badSteps 40 = .ok (.iadd, 1) := by decide +kernel
theorem dX1_badSteps_41 : decode cX1_badSteps 41 = .ok (.istore_n 1, 1) := by decide +kernel
theorem dX1_badSteps_42 : decode cX1_badSteps 42 = .ok (.iinc 3 1, 3) := by decide +kernel
theorem dX1_badSteps_45 : decode cX1_badSteps 45 = .ok (.goto (-25), 3) := by decide +kernel
theorem dX1_badSteps_48 : decode cX1_badSteps 48 = .ok (.iinc 2 1, 3) := by decide +kernel
theorem dX1_badSteps_51 : decode cX1_badSteps 51 = .ok (.goto (-47), 3) := by decide +kernel
theorem dX1_badSteps_54 : decode cX1_badSteps 54 = .ok (.iload_n 1, 1) := by decide +kernel
theorem dX1_badSteps_55 : decode cX1_badSteps 55 = .ok (.ireturn, 1) := by decide +kernel
theorem dX1_isBadStep_0 : decode cX1_isBadStep 0 = .ok (.aload_n 0, 1) := by decide +kernel
theorem dX1_isBadStep_1 : decode cX1_isBadStep 1 = .ok (.getfield 15, 3) := by decide +kernel
theorem dX1_isBadStep_4 : decode cX1_isBadStep 4 = .ok (.iload_n 1, 1) := by decide +kernel
theorem dX1_isBadStep_5 : decode cX1_isBadStep 5 = .ok (.iaload, 1) := by decide +kernel
theorem dX1_isBadStep_6 : decode cX1_isBadStep 6 = .ok (.aload_n 0, 1) := by decide +kernel
theorem dX1_isBadStep_7 : decode cX1_isBadStep 7 = .ok (.getfield 15, 3) := by decide +kernel
theorem dX1_isBadStep_10 : decode cX1_isBadStep 10 = .ok (.iload_n 2, 1) := by decide +kernel
theorem dX1_isBadStep_11 : decode cX1_isBadStep 11 = .ok (.iaload, 1) := by decide +kernel
theorem dX1_isBadStep_12 : decode cX1_isBadStep 12 = .ok (.isub, 1) := by decide +kernel
theorem dX1_isBadStep_13 : decode cX1_isBadStep 13 = .ok (.invokestatic 99, 3) := by decide +kernel
theorem dX1_isBadStep_16 : decode cX1_isBadStep 16 = .ok (.istore_n 3, 1) := by decide +kernel
theorem dX1_isBadStep_17 : decode cX1_isBadStep 17 = .ok (.aload_n 0, 1) := by decide +kernel
theorem dX1_isBadStep_18 : decode cX1_isBadStep 18 = .ok (.getfield 19, 3) := by decide +kernel
theorem dX1_isBadStep_21 : decode cX1_isBadStep 21 = .ok (.iload_n 1, 1) := by decide +kernel
theorem dX1_isBadStep_22 : decode cX1_isBadStep 22 = .ok (.iaload, 1) := by decide +kernel
theorem dX1_isBadStep_23 : decode cX1_isBadStep 23 = .ok (.aload_n 0, 1) := by decide +kernel
theorem dX1_isBadStep_24 : decode cX1_isBadStep 24 = .ok (.getfield 19, 3) := by decide +kernel
theorem dX1_isBadStep_27 : decode cX1_isBadStep 27 = .ok (.iload_n 2, 1) := by decide +kernel
theorem dX1_isBadStep_28 : decode cX1_isBadStep 28 = .ok (.iaload, 1) := by decide +kernel
theorem dX1_isBadStep_29 : decode cX1_isBadStep 29 = .ok (.isub, 1) := by decide +kernel
theorem dX1_isBadStep_30 : decode cX1_isBadStep 30 = .ok (.invokestatic 99, 3) := by decide +kernel
theorem dX1_isBadStep_33 : decode cX1_isBadStep 33 = .ok (.istore 4, 2) := by decide +kernel
theorem dX1_isBadStep_35 : decode cX1_isBadStep 35 = .ok (.iload_n 3, 1) := by decide +kernel
theorem dX1_isBadStep_36 : decode cX1_isBadStep 36 = .ok (.bipush 12, 2) := by decide +kernel
theorem dX1_isBadStep_38 : decode cX1_isBadStep 38 = .ok (.irem, 1) := by decide +kernel
theorem dX1_isBadStep_39 : decode cX1_isBadStep 39 = .ok (.bipush 7, 2) := by decide +kernel
theorem dX1_isBadStep_41 : decode cX1_isBadStep 41 = .ok (.if_icmp .eq 14, 3) := by decide +kernel
theorem dX1_isBadStep_44 : decode cX1_isBadStep 44 = .ok (.iload_n 3, 1) := by decide +kernel
theorem dX1_isBadStep_45 : decode cX1_isBadStep 45 = .ok (.ifCond .le 14, 3) := by decide +kernel
theorem dX1_isBadStep_48 : decode cX1_isBadStep 48 = .ok (.iload_n 3, 1) := by decide +kernel
theorem dX1_isBadStep_49 : decode cX1_isBadStep 49 = .ok (.bipush 12, 2) := by decide +kernel
theorem dX1_isBadStep_51 : decode cX1_isBadStep 51 = .ok (.irem, 1) := by decide +kernel
theorem dX1_isBadStep_52 : decode cX1_isBadStep 52 = .ok (.ifCond .ne 7, 3) := by decide +kernel
theorem dX1_isBadStep_55 : decode cX1_isBadStep 55 = .ok (.iconst 1, 1) := by decide +kernel
theorem dX1_isBadStep_56 : decode cX1_isBadStep 56 = .ok (.goto 4, 3) := by decide +kernel
theorem dX1_isBadStep_59 : decode cX1_isBadStep 59 = .ok (.iconst 0, 1) := by decide +kernel
theorem dX1_isBadStep_60 : decode cX1_isBadStep 60 = .ok (.istore 5, 2) := by decide +kernel
theorem dX1_isBadStep_62 : decode cX1_isBadStep 62 = .ok (.iload 4, 2) := by decide +kernel
theorem dX1_isBadStep_64 : decode cX1_isBadStep 64 = .ok (.ifCond .le 19, 3) := by decide +kernel
theorem dX1_isBadStep_67 : decode cX1_isBadStep 67 = .ok (.iload 4, 2) := by decide +kernel
theorem dX1_isBadStep_69 : decode cX1_isBadStep 69 = .ok (.bipush 12, 2) := by decide +kernel
theorem dX1_isBadStep_71 : decode cX1_isBadStep 71 = .ok (.irem, 1) := by decide +kernel
theorem dX1_isBadStep_72 : decode cX1_isBadStep 72 = .ok (.iload_n 3, 1) := by decide +kernel
theorem dX1_isBadStep_73 : decode cX1_isBadStep 73 = .ok (.bipush 12, 2) := by decide +kernel
theorem dX1_isBadStep_75 : decode cX1_isBadStep 75 = .ok (.irem, 1) := by decide +kernel
theorem dX1_isBadStep_76 : decode cX1_isBadStep 76 = .ok (.if_icmp .ne 7, 3) := by decide +kernel
theorem dX1_isBadStep_79 : decode cX1_isBadStep 79 = .ok (.iconst 1, 1) := by decide +kernel
theorem dX1_isBadStep_80 : decode cX1_isBadStep 80 = .ok (.goto 4, 3) := by decide +kernel
theorem dX1_isBadStep_83 : decode cX1_isBadStep 83 = .ok (.iconst 0, 1) := by decide +kernel
theorem dX1_isBadStep_84 : decode cX1_isBadStep 84 = .ok (.istore 6, 2) := by decide +kernel
theorem dX1_isBadStep_86 : decode cX1_isBadStep 86 = .ok (.iload 5, 2) := by decide +kernel
theorem dX1_isBadStep_88 : decode cX1_isBadStep 88 = .ok (.ifCond .eq 42, 3) := by decide +kernel
theorem dX1_isBadStep_91 : decode cX1_isBadStep 91 = .ok (.iload 6, 2) := by decide +kernel
theorem dX1_isBadStep_93 : decode cX1_isBadStep 93 = .ok (.ifCond .eq 37, 3) := by decide +kernel
theorem dX1_isBadStep_96 : decode cX1_isBadStep 96 = .ok (.aload_n 0, 1) := by decide +kernel
theorem dX1_isBadStep_97 : decode cX1_isBadStep 97 = .ok (.getfield 19, 3) := by decide +kernel
theorem dX1_isBadStep_100 : decode cX1_isBadStep 100 = .ok (.iload_n 1, 1) := by decide +kernel
theorem dX1_isBadStep_101 : decode cX1_isBadStep 101 = .ok (.iaload, 1) := by decide +kernel
theorem dX1_isBadStep_102 : decode cX1_isBadStep 102 = .ok (.aload_n 0, 1) := by decide +kernel
theorem dX1_isBadStep_103 : decode cX1_isBadStep 103 = .ok (.getfield 15, 3) := by decide +kernel
theorem dX1_isBadStep_106 : decode cX1_isBadStep 106 = .ok (.iload_n 1, 1) := by decide +kernel
theorem dX1_isBadStep_107 : decode cX1_isBadStep 107 = .ok (.iaload, 1) := by decide +kernel
theorem dX1_isBadStep_108 : decode cX1_isBadStep 108 = .ok (.if_icmp .eq 22, 3) := by decide +kernel
theorem dX1_isBadStep_111 : decode cX1_isBadStep 111 = .ok (.aload_n 0, 1) := by decide +kernel
theorem dX1_isBadStep_112 : decode cX1_isBadStep 112 = .ok (.getfield 19, 3) := by decide +kernel
theorem dX1_isBadStep_115 : decode cX1_isBadStep 115 = .ok (.iload_n 2, 1) := by decide +kernel
theorem dX1_isBadStep_116 : decode cX1_isBadStep 116 = .ok (.iaload, 1) := by decide +kernel
theorem dX1_isBadStep_117 : decode cX1_isBadStep 117 = .ok (.aload_n 0, 1) := by decide +kernel
theorem dX1_isBadStep_118 : decode cX1_isBadStep 118 = .ok (.getfield 15, 3) := by decide +kernel
theorem dX1_isBadStep_121 : decode cX1_isBadStep 121 = .ok (.iload_n 2, 1) := by decide +kernel
theorem dX1_isBadStep_122 : decode cX1_isBadStep 122 = .ok (.iaload, 1) := by decide +kernel
theorem dX1_isBadStep_123 : decode cX1_isBadStep 123 = .ok (.if_icmp .eq 7, 3) := by decide +kernel
theorem dX1_isBadStep_126 : decode cX1_isBadStep 126 = .ok (.iconst 1, 1) := by decide +kernel
theorem dX1_isBadStep_127 : decode cX1_isBadStep 127 = .ok (.goto 4, 3) := by decide +kernel
theorem dX1_isBadStep_130 : decode cX1_isBadStep 130 = .ok (.iconst 0, 1) := by decide +kernel
theorem dX1_isBadStep_131 : decode cX1_isBadStep 131 = .ok (.ireturn, 1) := by decide +kernel
theorem dX1_keyOf_0 : decode cX1_keyOf 0 = .ok (.iload_n 1, 1) := by decide +kernel
theorem dX1_keyOf_1 : decode cX1_keyOf 1 = .ok (.ifCond .lt 8, 3) := by decide +kernel
theorem dX1_keyOf_4 : decode cX1_keyOf 4 = .ok (.iload_n 1, 1) := by decide +kernel
theorem dX1_keyOf_5 : decode cX1_keyOf 5 = .ok (.iconst 4, 1) := by decide +kernel
theorem dX1_keyOf_6 : decode cX1_keyOf 6 = .ok (.if_icmp .lt 7, 3) := by decide +kernel
theorem dX1_keyOf_9 : decode cX1_keyOf 9 = .ok (.iconst (-1), 1) := by decide +kernel
theorem dX1_keyOf_10 : decode cX1_keyOf 10 = .ok (.goto 12, 3) := by decide +kernel
theorem dX1_keyOf_13 : decode cX1_keyOf 13 = .ok (.aload_n 0, 1) := by decide +kernel
theorem dX1_keyOf_14 : decode cX1_keyOf 14 = .ok (.getfield 15, 3) := by decide +kernel
theorem dX1_keyOf_17 : decode cX1_keyOf 17 = .ok (.iload_n 1, 1) := by decide +kernel
theorem dX1_keyOf_18 : decode cX1_keyOf 18 = .ok (.iaload, 1) := by decide +kernel
theorem dX1_keyOf_19 : decode cX1_keyOf 19 = .ok (.bipush 36, 2) := by decide +kernel
theorem dX1_keyOf_21 : decode cX1_keyOf 21 = .ok (.isub, 1) := by decide +kernel
theorem dX1_keyOf_22 : decode cX1_keyOf 22 = .ok (.ireturn, 1) := by decide +kernel
theorem dX1_isOfChord_0 : decode cX1_isOfChord 0 = .ok (.iload_n 1, 1) := by decide +kernel
theorem dX1_isOfChord_1 : decode cX1_isOfChord 1 = .ok (.ifCond .ne 18, 3) := by decide +kernel
theorem dX1_isOfChord_4 : decode cX1_isOfChord 4 = .ok (.iload_n 2, 1) := by decide +kernel
theorem dX1_isOfChord_5 : decode cX1_isOfChord 5 = .ok (.aload_n 0, 1) := by decide +kernel
theorem dX1_isOfChord_6 : decode cX1_isOfChord 6 = .ok (.iconst 0, 1) := by decide +kernel
theorem dX1_isOfChord_7 : decode cX1_isOfChord 7 = .ok (.invokevirtual 96, 3) := by decide +kernel
theorem dX1_isOfChord_10 : decode cX1_isOfChord 10 = .ok (.if_icmp .ne 7, 3) := by decide +kernel
theorem dX1_isOfChord_13 : decode cX1_isOfChord 13 = .ok (.iconst 1, 1) := by decide +kernel
theorem dX1_isOfChord_14 : decode cX1_isOfChord 14 = .ok (.goto 4, 3) := by decide +kernel
theorem dX1_isOfChord_17 : decode cX1_isOfChord 17 = .ok (.iconst 0, 1) := by decide +kernel
theorem dX1_isOfChord_18 : decode cX1_isOfChord 18 = .ok (.ireturn, 1) := by decide +kernel
theorem dX1_isOfChord_19 : decode cX1_isOfChord 19 = .ok (.iload_n 2, 1) := by decide +kernel
theorem dX1_isOfChord_20 : decode cX1_isOfChord 20 = .ok (.aload_n 0, 1) := by decide +kernel
theorem dX1_isOfChord_21 : decode cX1_isOfChord 21 = .ok (.iconst 1, 1) := by decide +kernel
theorem dX1_isOfChord_22 : decode cX1_isOfChord 22 = .ok (.invokevirtual 96, 3) := by decide +kernel
theorem dX1_isOfChord_25 : decode cX1_isOfChord 25 = .ok (.if_icmp .eq 21, 3) := by decide +kernel
theorem dX1_isOfChord_28 : decode cX1_isOfChord 28 = .ok (.iload_n 2, 1) := by decide +kernel
theorem dX1_isOfChord_29 : decode cX1_isOfChord 29 = .ok (.aload_n 0, 1) := by decide +kernel
theorem dX1_isOfChord_30 : decode cX1_isOfChord 30 = .ok (.iconst 2, 1) := by decide +kernel
theorem dX1_isOfChord_31 : decode cX1_isOfChord 31 = .ok (.invokevirtual 96, 3) := by decide +kernel
theorem dX1_isOfChord_34 : decode cX1_isOfChord 34 = .ok (.if_icmp .eq 12, 3) := by decide +kernel
theorem dX1_isOfChord_37 : decode cX1_isOfChord 37 = .ok (.iload_n 2, 1) := by decide +kernel
theorem dX1_isOfChord_38 : decode cX1_isOfChord 38 = .ok (.aload_n 0, 1) := by decide +kernel
theorem dX1_isOfChord_39 : decode cX1_isOfChord 39 = .ok (.iconst 3, 1) := by decide +kernel
theorem dX1_isOfChord_40 : decode cX1_isOfChord 40 = .ok (.invokevirtual 96, 3) := by decide +kernel
theorem dX1_isOfChord_43 : decode cX1_isOfChord 43 = .ok (.if_icmp .ne 7, 3) := by decide +kernel
theorem dX1_isOfChord_46 : decode cX1_isOfChord 46 = .ok (.iconst 1, 1) := by decide +kernel
theorem dX1_isOfChord_47 : decode cX1_isOfChord 47 = .ok (.goto 4, 3) := by decide +kernel
theorem dX1_isOfChord_50 : decode cX1_isOfChord 50 = .ok (.iconst 0, 1) := by decide +kernel
theorem dX1_isOfChord_51 : decode cX1_isOfChord 51 = .ok (.ireturn, 1) := by decide +kernel
theorem dX2_init_0 : decode cX2_init 0 = .ok (.aload_n 0, 1) := by decide +kernel
theorem dX2_init_1 : decode cX2_init 1 = .ok (.invokespecial 1, 3) := by decide +kernel
theorem dX2_init_4 : decode cX2_init 4 = .ok (.aload_n 0, 1) := by decide +kernel
theorem dX2_init_5 : decode cX2_init 5 = .ok (.iload_n 1, 1) := by decide +kernel
theorem dX2_init_6 : decode cX2_init 6 = .ok (.putfield 7, 3) := by decide +kernel
theorem dX2_init_9 : decode cX2_init 9 = .ok (.aload_n 0, 1) := by decide +kernel
theorem dX2_init_10 : decode cX2_init 10 = .ok (.iload_n 2, 1) := by decide +kernel
theorem dX2_init_11 : decode cX2_init 11 = .ok (.putfield 13, 3) := by decide +kernel
theorem dX2_init_14 : decode cX2_init 14 = .ok (.aload_n 0, 1) := by decide +kernel
theorem dX2_init_15 : decode cX2_init 15 = .ok (.iload_n 3, 1) := by decide +kernel
theorem dX2_init_16 : decode cX2_init 16 = .ok (.putfield 16, 3) := by decide +kernel
theorem dX2_init_19 : decode cX2_init 19 = .ok (.aload_n 0, 1) := by decide +kernel
theorem dX2_init_20 : decode cX2_init 20 = .ok (.iload 4, 2) := by decide +kernel
theorem dX2_init_22 : decode cX2_init 22 = .ok (.putfield 19, 3) := by decide +kernel
theorem dX2_init_25 : decode cX2_init 25 = .ok (.return_, 1) := by decide +kernel
theorem dX2_takes_0 : decode cX2_takes 0 = .ok (.aload_n 2, 1) := by decide +kernel
theorem dX2_takes_1 : decode cX2_takes 1 = .ok (.aload_n 0, 1) := by decide +kernel
theorem dX2_takes_2 : decode cX2_takes 2 = .ok (.getfield 7, 3) := by decide +kernel
theorem dX2_takes_5 : decode cX2_takes 5 = .ok (.iload_n 1, 1) := by decide +kernel
theorem dX2_takes_6 : decode cX2_takes 6 = .ok (.invokevirtual 23, 3) := by decide +kernel
theorem dX2_takes_9 : decode cX2_takes 9 = .ok (.ifCond .ne 5, 3) := by decide +kernel
theorem dX2_takes_12 : decode cX2_takes 12 = .ok (.iconst 0, 1) := by decide +kernel
theorem dX2_takes_13 : decode cX2_takes 13 = .ok (.ireturn, 1) := by decide +kernel
theorem dX2_takes_14 : decode cX2_takes 14 = .ok (.aload_n 0, 1) := by decide +kernel
theorem dX2_takes_15 : decode cX2_takes 15 = .ok (.getfield 19, 3) := by decide +kernel
theorem dX2_takes_18 : decode cX2_takes 18 = .ok (.bipush 109, 2) := by decide +kernel
theorem dX2_takes_20 : decode cX2_takes 20 = .ok (.if_icmp .ne 21, 3) := by decide +kernel
theorem dX2_takes_23 : decode cX2_takes 23 = .ok (.iload_n 1, 1) := by decide +kernel
theorem dX2_takes_24 : decode cX2_takes 24 = .ok (.aload_n 2, 1) := by decide +kernel
theorem dX2_takes_25 : decode cX2_takes 25 = .ok (.aload_n 0, 1) := by decide +kernel
theorem dX2_takes_26 : decode cX2_takes 26 = .ok (.getfield 7, 3) := by decide +kernel
theorem dX2_takes_29 : decode cX2_takes 29 = .ok (.invokevirtual 29, 3) := by decide +kernel
theorem dX2_takes_32 : decode cX2_takes 32 = .ok (.if_icmp .ne 7, 3) := by decide +kernel
theorem dX2_takes_35 : decode cX2_takes 35 = .ok (.iconst 1, 1) := by decide +kernel
theorem dX2_takes_36 : decode cX2_takes 36 = .ok (.goto 4, 3) := by decide +kernel
theorem dX2_takes_39 : decode cX2_takes 39 = .ok (.iconst 0, 1) := by decide +kernel
theorem dX2_takes_40 : decode cX2_takes 40 = .ok (.ireturn, 1) := by decide +kernel
theorem dX2_takes_41 : decode cX2_takes 41 = .ok (.aload_n 0, 1) := by decide +kernel
theorem dX2_takes_42 : decode cX2_takes 42 = .ok (.getfield 19, 3) := by decide +kernel
theorem dX2_takes_45 : decode cX2_takes 45 = .ok (.bipush 98, 2) := by decide +kernel
theorem dX2_takes_47 : decode cX2_takes 47 = .ok (.if_icmp .ne 21, 3) := by decide +kernel
theorem dX2_takes_50 : decode cX2_takes 50 = .ok (.iload_n 1, 1) := by decide +kernel
theorem dX2_takes_51 : decode cX2_takes 51 = .ok (.aload_n 2, 1) := by decide +kernel
theorem dX2_takes_52 : decode cX2_takes 52 = .ok (.aload_n 0, 1) := by decide +kernel
theorem dX2_takes_53 : decode cX2_takes 53 = .ok (.getfield 7, 3) := by decide +kernel
theorem dX2_takes_56 : decode cX2_takes 56 = .ok (.invokevirtual 33, 3) := by decide +kernel
theorem dX2_takes_59 : decode cX2_takes 59 = .ok (.if_icmp .ne 7, 3) := by decide +kernel
theorem dX2_takes_62 : decode cX2_takes 62 = .ok (.iconst 1, 1) := by decide +kernel
theorem dX2_takes_63 : decode cX2_takes 63 = .ok (.goto 4, 3) := by decide +kernel
theorem dX2_takes_66 : decode cX2_takes 66 = .ok (.iconst 0, 1) := by decide +kernel
theorem dX2_takes_67 : decode cX2_takes 67 = .ok (.ireturn, 1) := by decide +kernel
theorem dX2_takes_68 : decode cX2_takes 68 = .ok (.aload_n 0, 1) := by decide +kernel
theorem dX2_takes_69 : decode cX2_takes 69 = .ok (.getfield 19, 3) := by decide +kernel
theorem dX2_takes_72 : decode cX2_takes 72 = .ok (.bipush 97, 2) := by decide +kernel
theorem dX2_takes_74 : decode cX2_takes 74 = .ok (.if_icmp .eq 16, 3) := by decide +kernel
theorem dX2_takes_77 : decode cX2_takes 77 = .ok (.aload_n 2, 1) := by decide +kernel
theorem dX2_takes_78 : decode cX2_takes 78 = .ok (.aload_n 0, 1) := by decide +kernel
theorem dX2_takes_79 : decode cX2_takes 79 = .ok (.getfield 7, 3) := by decide +kernel
theorem dX2_takes_82 : decode cX2_takes 82 = .ok (.iload_n 1, 1) := by decide +kernel
theorem dX2_takes_83 : decode cX2_takes 83 = .ok (.invokevirtual 36, 3) := by decide +kernel
theorem dX2_takes_86 : decode cX2_takes 86 = .ok (.iload_n 3, 1) := by decide +kernel
theorem dX2_takes_87 : decode cX2_takes 87 = .ok (.if_icmp .ne 7, 3) := by decide +kernel
theorem dX2_takes_90 : decode cX2_takes 90 = .ok (.iconst 1, 1) := by decide +kernel
theorem dX2_takes_91 : decode cX2_takes 91 = .ok (.goto 4, 3) := by decide +kernel
theorem dX2_takes_94 : decode cX2_takes 94 = .ok (.iconst 0, 1) := by decide +kernel
theorem dX2_takes_95 : decode cX2_takes 95 = .ok (.ireturn, 1) := by decide +kernel
theorem dX3_init_0 : decode cX3_init 0 = .ok (.aload_n 0, 1) := by decide +kernel
theorem dX3_init_1 : decode cX3_init 1 = .ok (.invokespecial 3, 3) := by decide +kernel
theorem dX3_init_4 : decode cX3_init 4 = .ok (.aload_n 0, 1) := by decide +kernel
theorem dX3_init_5 : decode cX3_init 5 = .ok (.sipush 183, 3) := by decide +kernel
theorem dX3_init_8 : decode cX3_init 8 = .ok (.newarray .boolean, 2) := by decide +kernel
theorem dX3_init_10 : decode cX3_init 10 = .ok (.putfield 9, 3) := by decide +kernel
theorem dX3_init_13 : decode cX3_init 13 = .ok (.aload_n 0, 1) := by decide +kernel
theorem dX3_init_14 : decode cX3_init 14 = .ok (.sipush 183, 3) := by decide +kernel
theorem dX3_init_17 : decode cX3_init 17 = .ok (.newarray .int, 2) := by decide +kernel
theorem dX3_init_19 : decode cX3_init 19 = .ok (.putfield 15, 3) := by decide +kernel
theorem dX3_init_22 : decode cX3_init 22 = .ok (.aload_n 0, 1) := by decide +kernel
theorem dX3_init_23 : decode cX3_init 23 = .ok (.iconst 3, 1) := by decide +kernel
theorem dX3_init_24 : decode cX3_init 24 = .ok (.newarray .int, 2) := by decide +kernel
theorem dX3_init_26 : decode cX3_init 26 = .ok (.putfield 19, 3) := by decide +kernel
theorem dX3_init_29 : decode cX3_init 29 = .ok (.aload_n 0, 1) := by decide +kernel
theorem dX3_init_30 : decode cX3_init 30 = .ok (.iconst 3, 1) := by decide +kernel
theorem dX3_init_31 : decode cX3_init 31 = .ok (.newarray .int, 2) := by decide +kernel
theorem dX3_init_33 : decode cX3_init 33 = .ok (.putfield 22, 3) := by decide +kernel
theorem dX3_init_36 : decode cX3_init 36 = .ok (.aload_n 0, 1) := by decide +kernel
theorem dX3_init_37 : decode cX3_init 37 = .ok (.iconst (-1), 1) := by decide +kernel
theorem dX3_init_38 : decode cX3_init 38 = .ok (.putfield 25, 3) := by decide +kernel
theorem dX3_init_41 : decode cX3_init 41 = .ok (.aload_n 0, 1) := by decide +kernel
theorem dX3_init_42 : decode cX3_init 42 = .ok (.getfield 19, 3) := by decide +kernel
theorem dX3_init_45 : decode cX3_init 45 = .ok (.iconst (-1), 1) := by decide +kernel
theorem dX3_init_46 : decode cX3_init 46 = .ok (.invokestatic 29, 3) := by decide +kernel
theorem dX3_init_49 : decode cX3_init 49 = .ok (.aload_n 0, 1) := by decide +kernel
theorem dX3_init_50 : decode cX3_init 50 = .ok (.getfield 22, 3) := by decide +kernel
theorem dX3_init_53 : decode cX3_init 53 = .ok (.iconst (-1), 1) := by decide +kernel
theorem dX3_init_54 : decode cX3_init 54 = .ok (.invokestatic 29, 3) := by decide +kernel
theorem dX3_init_57 : decode cX3_init 57 = .ok (.return_, 1) := by decide +kernel
theorem dX3_countOf_0 : decode cX3_countOf 0 = .ok (.iload_n 0, 1) := by decide +kernel
theorem dX3_countOf_1 : decode cX3_countOf 1 = .ok (.ifCond .ne 8, 3) := by decide +kernel
theorem dX3_countOf_4 : decode cX3_countOf 4 = .ok (.bipush 32, 2) := by decide +kernel
theorem dX3_countOf_6 : decode cX3_countOf 6 = .ok (.goto 5, 3) := by decide +kernel
theorem dX3_countOf_9 : decode cX3_countOf 9 = .ok (.bipush 61, 2) := by decide +kernel
theorem dX3_countOf_11 : decode cX3_countOf 11 = .ok (.ireturn, 1) := by decide +kernel
theorem dX3_indexOf_0 : decode cX3_indexOf 0 = .ok (.iload_n 0, 1) := by decide +kernel
theorem dX3_indexOf_1 : decode cX3_indexOf 1 = .ok (.ifCond .lt 18, 3) := by decide +kernel
theorem dX3_indexOf_4 : decode cX3_indexOf 4 = .ok (.iload_n 0, 1) := by decide +kernel
theorem dX3_indexOf_5 : decode cX3_indexOf 5 = .ok (.iconst 3, 1) := by decide +kernel
theorem dX3_indexOf_6 : decode cX3_indexOf 6 = .ok (.if_icmp .ge 13, 3) := by decide +kernel
theorem dX3_indexOf_9 : decode cX3_indexOf 9 = .ok (.iload_n 1, 1) := by decide +kernel
theorem dX3_indexOf_10 : decode cX3_indexOf 10 = .ok (.ifCond .lt 9, 3) := by decide +kernel
theorem dX3_indexOf_13 : decode cX3_indexOf 13 = .ok (.iload_n 1, 1) := by decide +kernel
theorem dX3_indexOf_14 : decode cX3_indexOf 14 = .ok (.bipush 61, 2) := by decide +kernel
theorem dX3_indexOf_16 : decode cX3_indexOf 16 = .ok (.if_icmp .lt 5, 3) := by decide +kernel
theorem dX3_indexOf_19 : decode cX3_indexOf 19 = .ok (.iconst (-1), 1) := by decide +kernel
theorem dX3_indexOf_20 : decode cX3_indexOf 20 = .ok (.ireturn, 1) := by decide +kernel
theorem dX3_indexOf_21 : decode cX3_indexOf 21 = .ok (.iload_n 0, 1) := by decide +kernel
theorem dX3_indexOf_22 : decode cX3_indexOf 22 = .ok (.ifCond .ne 13, 3) := by decide +kernel
theorem dX3_indexOf_25 : decode cX3_indexOf 25 = .ok (.iload_n 1, 1) := by decide +kernel
theorem dX3_indexOf_26 : decode cX3_indexOf 26 = .ok (.bipush 32, 2) := by decide +kernel
theorem dX3_indexOf_28 : decode cX3_indexOf 28 = .ok (.if_icmp .lt 7, 3) := by decide +kernel
theorem dX3_indexOf_31 : decode cX3_indexOf 31 = .ok (.iconst (-1), 1) := by decide +kernel
theorem dX3_indexOf_32 : decode cX3_indexOf 32 = .ok (.goto 9, 3) := by decide +kernel
theorem dX3_indexOf_35 : decode cX3_indexOf 35 = .ok (.iload_n 0, 1) := by decide +kernel
theorem dX3_indexOf_36 : decode cX3_indexOf 36 = .ok (.bipush 61, 2) := by decide +kernel
theorem dX3_indexOf_38 : decode cX3_indexOf 38 = .ok (.imul, 1) := by decide +kernel
theorem dX3_indexOf_39 : decode cX3_indexOf 39 = .ok (.iload_n 1, 1) := by decide +kernel
theorem dX3_indexOf_40 : decode cX3_indexOf 40 = .ok (.iadd, 1) := by decide +kernel
theorem dX3_indexOf_41 : decode cX3_indexOf 41 = .ok (.ireturn, 1) := by decide +kernel
theorem dX3_isPressed_0 : decode cX3_isPressed 0 = .ok (.iload_n 1, 1) := by decide +kernel
theorem dX3_isPressed_1 : decode cX3_isPressed 1 = .ok (.iload_n 2, 1) := by decide +kernel
theorem dX3_isPressed_2 : decode cX3_isPressed 2 = .ok (.invokestatic 35, 3) := by decide +kernel
theorem dX3_isPressed_5 : decode cX3_isPressed 5 = .ok (.istore_n 3, 1) := by decide +kernel
theorem dX3_isPressed_6 : decode cX3_isPressed 6 = .ok (.iload_n 3, 1) := by decide +kernel
theorem dX3_isPressed_7 : decode cX3_isPressed 7 = .ok (.ifCond .lt 16, 3) := by decide +kernel
theorem dX3_isPressed_10 : decode cX3_isPressed 10 = .ok (.aload_n 0, 1) := by decide +kernel
theorem dX3_isPressed_11 : decode cX3_isPressed 11 = .ok (.getfield 9, 3) := by decide +kernel
theorem dX3_isPressed_14 : decode cX3_isPressed 14 = .ok (.iload_n 3, 1) := by decide +kernel
theorem dX3_isPressed_15 : decode cX3_isPressed 15 = .ok (.baload, 1) := by decide +kernel
theorem dX3_isPressed_16 : decode cX3_isPressed 16 = .ok (.ifCond .eq 7, 3) := by decide +kernel
theorem dX3_isPressed_19 : decode cX3_isPressed 19 = .ok (.iconst 1, 1) := by decide +kernel
theorem dX3_isPressed_20 : decode cX3_isPressed 20 = .ok (.goto 4, 3) := by decide +kernel
theorem dX3_isPressed_23 : decode cX3_isPressed 23 = .ok (.iconst 0, 1) := by decide +kernel
theorem dX3_isPressed_24 : decode cX3_isPressed 24 = .ok (.ireturn, 1) := by decide +kernel
theorem dX3_tickOf_0 : decode cX3_tickOf 0 = .ok (.iload_n 1, 1) := by decide +kernel
theorem dX3_tickOf_1 : decode cX3_tickOf 1 = .ok (.iload_n 2, 1) := by decide +kernel
theorem dX3_tickOf_2 : decode cX3_tickOf 2 = .ok (.invokestatic 35, 3) := by decide +kernel
theorem dX3_tickOf_5 : decode cX3_tickOf 5 = .ok (.istore_n 3, 1) := by decide +kernel
theorem dX3_tickOf_6 : decode cX3_tickOf 6 = .ok (.iload_n 3, 1) := by decide +kernel
theorem dX3_tickOf_7 : decode cX3_tickOf 7 = .ok (.ifCond .ge 7, 3) := by decide +kernel
theorem dX3_tickOf_10 : decode cX3_tickOf 10 = .ok (.iconst (-1), 1) := by decide +kernel
theorem dX3_tickOf_11 : decode cX3_tickOf 11 = .ok (.goto 9, 3) := by decide +kernel
theorem dX3_tickOf_14 : decode cX3_tickOf 14 = .ok (.aload_n 0, 1) := by decide +kernel
theorem dX3_tickOf_15 : decode cX3_tickOf 15 = .ok (.getfield 15, 3) := by decide +kernel
theorem dX3_tickOf_18 : decode cX3_tickOf 18 = .ok (.iload_n 3, 1) := by decide +kernel
theorem dX3_tickOf_19 : decode cX3_tickOf 19 = .ok (.iaload, 1) := by decide +kernel
theorem dX3_tickOf_20 : decode cX3_tickOf 20 = .ok (.ireturn, 1) := by decide +kernel
theorem dX3_lowestOf_0 : decode cX3_lowestOf 0 = .ok (.iload_n 1, 1) := by decide +kernel
theorem dX3_lowestOf_1 : decode cX3_lowestOf 1 = .ok (.ifCond .lt 8, 3) := by decide +kernel
theorem dX3_lowestOf_4 : decode cX3_lowestOf 4 = .ok (.iload_n 1, 1) := by decide +kernel
theorem dX3_lowestOf_5 : decode cX3_lowestOf 5 = .ok (.iconst 3, 1) := by decide +kernel
theorem dX3_lowestOf_6 : decode cX3_lowestOf 6 = .ok (.if_icmp .lt 7, 3) := by decide +kernel
theorem dX3_lowestOf_9 : decode cX3_lowestOf 9 = .ok (.iconst (-1), 1) := by decide +kernel
theorem dX3_lowestOf_10 : decode cX3_lowestOf 10 = .ok (.goto 9, 3) := by decide +kernel
theorem dX3_lowestOf_13 : decode cX3_lowestOf 13 = .ok (.aload_n 0, 1) := by decide +kernel
theorem dX3_lowestOf_14 : decode cX3_lowestOf 14 = .ok (.getfield 19, 3) := by decide +kernel
theorem dX3_lowestOf_17 : decode cX3_lowestOf 17 = .ok (.iload_n 1, 1) := by decide +kernel
theorem dX3_lowestOf_18 : decode cX3_lowestOf 18 = .ok (.iaload, 1) := by decide +kernel
theorem dX3_lowestOf_19 : decode cX3_lowestOf 19 = .ok (.ireturn, 1) := by decide +kernel
theorem dX3_highestOf_0 : decode cX3_highestOf 0 = .ok (.iload_n 1, 1) := by decide +kernel
theorem dX3_highestOf_1 : decode cX3_highestOf 1 = .ok (.ifCond .lt 8, 3) := by decide +kernel
theorem dX3_highestOf_4 : decode cX3_highestOf 4 = .ok (.iload_n 1, 1) := by decide +kernel
theorem dX3_highestOf_5 : decode cX3_highestOf 5 = .ok (.iconst 3, 1) := by decide +kernel
theorem dX3_highestOf_6 : decode cX3_highestOf 6 = .ok (.if_icmp .lt 7, 3) := by decide +kernel
theorem dX3_highestOf_9 : decode cX3_highestOf 9 = .ok (.iconst (-1), 1) := by decide +kernel
theorem dX3_highestOf_10 : decode cX3_highestOf 10 = .ok (.goto 9, 3) := by decide +kernel
theorem dX3_highestOf_13 : decode cX3_highestOf 13 = .ok (.aload_n 0, 1) := by decide +kernel
theorem dX3_highestOf_14 : decode cX3_highestOf 14 = .ok (.getfield 22, 3) := by decide +kernel
theorem dX3_highestOf_17 : decode cX3_highestOf 17 = .ok (.iload_n 1, 1) := by decide +kernel
theorem dX3_highestOf_18 : decode cX3_highestOf 18 = .ok (.iaload, 1) := by decide +kernel
theorem dX3_highestOf_19 : decode cX3_highestOf 19 = .ok (.ireturn, 1) := by decide +kernel
theorem dX3_isAnyPressed_0 : decode cX3_isAnyPressed 0 = .ok (.aload_n 0, 1) := by decide +kernel
theorem dX3_isAnyPressed_1 : decode cX3_isAnyPressed 1 = .ok (.getfield 19, 3) := by decide +kernel
theorem dX3_isAnyPressed_4 : decode cX3_isAnyPressed 4 = .ok (.iconst 0, 1) := by decide +kernel
theorem dX3_isAnyPressed_5 : decode cX3_isAnyPressed 5 = .ok (.iaload, 1) := by decide +kernel
theorem dX3_isAnyPressed_6 : decode cX3_isAnyPressed 6 = .ok (.ifCond .ge 21, 3) := by decide +kernel
theorem dX3_isAnyPressed_9 : decode cX3_isAnyPressed 9 = .ok (.aload_n 0, 1) := by decide +kernel
theorem dX3_isAnyPressed_10 : decode cX3_isAnyPressed 10 = .ok (.getfield 19, 3) := by decide +kernel
theorem dX3_isAnyPressed_13 : decode cX3_isAnyPressed 13 = .ok (.iconst 1, 1) := by decide +kernel
theorem dX3_isAnyPressed_14 : decode cX3_isAnyPressed 14 = .ok (.iaload, 1) := by decide +kernel
theorem dX3_isAnyPressed_15 : decode cX3_isAnyPressed 15 = .ok (.ifCond .ge 12, 3) := by decide +kernel
theorem dX3_isAnyPressed_18 : decode cX3_isAnyPressed 18 = .ok (.aload_n 0, 1) := by decide +kernel
theorem dX3_isAnyPressed_19 : decode cX3_isAnyPressed 19 = .ok (.getfield 19, 3) := by decide +kernel
theorem dX3_isAnyPressed_22 : decode cX3_isAnyPressed 22 = .ok (.iconst 2, 1) := by decide +kernel
theorem dX3_isAnyPressed_23 : decode cX3_isAnyPressed 23 = .ok (.iaload, 1) := by decide +kernel
theorem dX3_isAnyPressed_24 : decode cX3_isAnyPressed 24 = .ok (.ifCond .lt 7, 3) := by decide +kernel
theorem dX3_isAnyPressed_27 : decode cX3_isAnyPressed 27 = .ok (.iconst 1, 1) := by decide +kernel
theorem dX3_isAnyPressed_28 : decode cX3_isAnyPressed 28 = .ok (.goto 4, 3) := by decide +kernel
theorem dX3_isAnyPressed_31 : decode cX3_isAnyPressed 31 = .ok (.iconst 0, 1) := by decide +kernel
theorem dX3_isAnyPressed_32 : decode cX3_isAnyPressed 32 = .ok (.ireturn, 1) := by decide +kernel
theorem dX3_put_0 : decode cX3_put 0 = .ok (.iload_n 1, 1) := by decide +kernel
theorem dX3_put_1 : decode cX3_put 1 = .ok (.iload_n 2, 1) := by decide +kernel
theorem dX3_put_2 : decode cX3_put 2 = .ok (.invokestatic 35, 3) := by decide +kernel
theorem dX3_put_5 : decode cX3_put 5 = .ok (.istore 5, 2) := by decide +kernel
theorem dX3_put_7 : decode cX3_put 7 = .ok (.iload 5, 2) := by decide +kernel
theorem dX3_put_9 : decode cX3_put 9 = .ok (.ifCond .lt 14, 3) := by decide +kernel
theorem dX3_put_12 : decode cX3_put 12 = .ok (.aload_n 0, 1) := by decide +kernel
theorem dX3_put_13 : decode cX3_put 13 = .ok (.getfield 9, 3) := by decide +kernel
theorem dX3_put_16 : decode cX3_put 16 = .ok (.iload 5, 2) := by decide +kernel
theorem dX3_put_18 : decode cX3_put 18 = .ok (.baload, 1) := by decide +kernel
theorem dX3_put_19 : decode cX3_put 19 = .ok (.iload_n 3, 1) := by decide +kernel
theorem dX3_put_20 : decode cX3_put 20 = .ok (.if_icmp .ne 5, 3) := by decide +kernel
theorem dX3_put_23 : decode cX3_put 23 = .ok (.iconst 0, 1) := by decide +kernel
theorem dX3_put_24 : decode cX3_put 24 = .ok (.ireturn, 1) := by decide +kernel
theorem dX3_put_25 : decode cX3_put 25 = .ok (.aload_n 0, 1) := by decide +kernel
theorem dX3_put_26 : decode cX3_put 26 = .ok (.getfield 9, 3) := by decide +kernel
theorem dX3_put_29 : decode cX3_put 29 = .ok (.iload 5, 2) := by decide +kernel
theorem dX3_put_31 : decode cX3_put 31 = .ok (.iload_n 3, 1) := by decide +kernel
theorem dX3_put_32 : decode cX3_put 32 = .ok (.bastore, 1) := by decide +kernel
theorem dX3_put_33 : decode cX3_put 33 = .ok (.iload_n 3, 1) := by decide +kernel
theorem dX3_put_34 : decode cX3_put 34 = .ok (.ifCond .eq 18, 3) := by decide +kernel
theorem dX3_put_37 : decode cX3_put 37 = .ok (.aload_n 0, 1) := by decide +kernel
theorem dX3_put_38 : decode cX3_put 38 = .ok (.getfield 15, 3) := by decide +kernel
theorem dX3_put_41 : decode cX3_put 41 = .ok (.iload 5, 2) := by decide +kernel
theorem dX3_put_43 : decode cX3_put 43 = .ok (.iload 4, 2) := by decide +kernel
theorem dX3_put_45 : decode cX3_put 45 = .ok (.iastore, 1) := by decide +kernel
theorem dX3_put_46 : decode cX3_put 46 = .ok (.aload_n 0, 1) := by decide +kernel
theorem dX3_put_47 : decode cX3_put 47 = .ok (.iload 4, 2) := by decide +kernel
theorem dX3_put_49 : decode cX3_put 49 = .ok (.putfield 25, 3) := by decide +kernel
theorem dX3_put_52 : decode cX3_put 52 = .ok (.aload_n 0, 1) := by decide +kernel
theorem dX3_put_53 : decode cX3_put 53 = .ok (.getfield 19, 3) := by decide +kernel
theorem dX3_put_56 : decode cX3_put 56 = .ok (.iload_n 1, 1) := by decide +kernel
theorem dX3_put_57 : decode cX3_put 57 = .ok (.aload_n 0, 1) := by decide +kernel
theorem dX3_put_58 : decode cX3_put 58 = .ok (.iload_n 1, 1) := by decide +kernel
theorem dX3_put_59 : decode cX3_put 59 = .ok (.iconst 0, 1) := by decide +kernel
theorem dX3_put_60 : decode cX3_put 60 = .ok (.iconst 1, 1) := by decide +kernel
theorem dX3_put_61 : decode cX3_put 61 = .ok (.invokevirtual 39, 3) := by decide +kernel
theorem dX3_put_64 : decode cX3_put 64 = .ok (.iastore, 1) := by decide +kernel
theorem dX3_put_65 : decode cX3_put 65 = .ok (.aload_n 0, 1) := by decide +kernel
theorem dX3_put_66 : decode cX3_put 66 = .ok (.getfield 22, 3) := by decide +kernel
theorem dX3_put_69 : decode cX3_put 69 = .ok (.iload_n 1, 1) := by decide +kernel
theorem dX3_put_70 : decode cX3_put 70 = .ok (.aload_n 0, 1) := by decide +kernel
theorem dX3_put_71 : decode cX3_put 71 = .ok (.iload_n 1, 1) := by decide +kernel
theorem dX3_put_72 : decode cX3_put 72 = .ok (.iload_n 1, 1) := by decide +kernel
theorem dX3_put_73 : decode cX3_put 73 = .ok (.invokestatic 43, 3) := by decide +kernel
theorem dX3_put_76 : decode cX3_put 76 = .ok (.iconst 1, 1) := by decide +kernel
theorem dX3_put_77 : decode cX3_put 77 = .ok (.isub, 1) := by decide +kernel
theorem dX3_put_78 : decode cX3_put 78 = .ok (.iconst (-1), 1) := by decide +kernel
theorem dX3_put_79 : decode cX3_put 79 = .ok (.invokevirtual 39, 3) := by decide +kernel
theorem dX3_put_82 : decode cX3_put 82 = .ok (.iastore, 1) := by decide +kernel
theorem dX3_put_83 : decode cX3_put 83 = .ok (.iconst 1, 1) := by decide +kernel
theorem dX3_put_84 : decode cX3_put 84 = .ok (.ireturn, 1) := by decide +kernel
theorem dX3_firstPressed_0 : decode cX3_firstPressed 0 = .ok (.iload_n 2, 1) := by decide +kernel
theorem dX3_firstPressed_1 : decode cX3_firstPressed 1 = .ok (.istore 4, 2) := by decide +kernel
theorem dX3_firstPressed_3 : decode cX3_firstPressed 3 = .ok (.iconst 0, 1) := by decide +kernel
theorem dX3_firstPressed_4 : decode cX3_firstPressed 4 = .ok (.istore 5, 2) := by decide +kernel
theorem dX3_firstPressed_6 : decode cX3_firstPressed 6 = .ok (.iload 5, 2) := by decide +kernel
theorem dX3_firstPressed_8 : decode cX3_firstPressed 8 = .ok (.iload_n 1, 1) := by decide +kernel
theorem dX3_firstPressed_9 : decode cX3_firstPressed 9 = .ok (.invokestatic 43, 3) := by decide +kernel
theorem dX3_firstPressed_12 : decode cX3_firstPressed 12 = .ok (.if_icmp .ge 28, 3) := by decide +kernel
theorem dX3_firstPressed_15 : decode cX3_firstPressed 15 = .ok (.aload_n 0, 1) := by decide +kernel
theorem dX3_firstPressed_16 : decode cX3_firstPressed 16 = .ok (.iload_n 1, 1) := by decide +kernel
theorem dX3_firstPressed_17 : decode cX3_firstPressed 17 = .ok (.iload 4, 2) := by decide +kernel
theorem dX3_firstPressed_19 : decode cX3_firstPressed 19 = .ok (.invokevirtual 47, 3) := by decide +kernel
theorem dX3_firstPressed_22 : decode cX3_firstPressed 22 = .ok (.ifCond .eq 6, 3) := by decide +kernel
theorem dX3_firstPressed_25 : decode cX3_firstPressed 25 = .ok (.iload 4, 2) := by decide +kernel
theorem dX3_firstPressed_27 : decode cX3_firstPressed 27 = .ok (.ireturn, 1) := by decide +kernel
theorem dX3_firstPressed_28 : decode cX3_firstPressed 28 = .ok (.iload 4, 2) := by decide +kernel
theorem dX3_firstPressed_30 : decode cX3_firstPressed 30 = .ok (.iload_n 3, 1) := by decide +kernel
theorem dX3_firstPressed_31 : decode cX3_firstPressed 31 = .ok (.iadd, 1) := by decide +kernel
theorem dX3_firstPressed_32 : decode cX3_firstPressed 32 = .ok (.istore 4, 2) := by decide +kernel
theorem dX3_firstPressed_34 : decode cX3_firstPressed 34 = .ok (.iinc 5 1, 3) := by decide +kernel
theorem dX3_firstPressed_37 : decode cX3_firstPressed 37 = .ok (.goto (-31), 3) := by decide +kernel
theorem dX3_firstPressed_40 : decode cX3_firstPressed 40 = .ok (.iconst (-1), 1) := by decide +kernel
theorem dX3_firstPressed_41 : decode cX3_firstPressed 41 = .ok (.ireturn, 1) := by decide +kernel
theorem dX4_init_0 : decode cX4_init 0 = .ok (.aload_n 0, 1) := by decide +kernel
theorem dX4_init_1 : decode cX4_init 1 = .ok (.invokespecial 1, 3) := by decide +kernel
theorem dX4_init_4 : decode cX4_init 4 = .ok (.aload_n 0, 1) := by decide +kernel
theorem dX4_init_5 : decode cX4_init 5 = .ok (.iconst 1, 1) := by decide +kernel
theorem dX4_init_6 : decode cX4_init 6 = .ok (.putfield 7, 3) := by decide +kernel
theorem dX4_init_9 : decode cX4_init 9 = .ok (.aload_n 0, 1) := by decide +kernel
theorem dX4_init_10 : decode cX4_init 10 = .ok (.iconst (-1), 1) := by decide +kernel
theorem dX4_init_11 : decode cX4_init 11 = .ok (.putfield 13, 3) := by decide +kernel
theorem dX4_init_14 : decode cX4_init 14 = .ok (.aload_n 0, 1) := by decide +kernel
theorem dX4_init_15 : decode cX4_init 15 = .ok (.iload_n 1, 1) := by decide +kernel
theorem dX4_init_16 : decode cX4_init 16 = .ok (.putfield 17, 3) := by decide +kernel
theorem dX4_init_19 : decode cX4_init 19 = .ok (.aload_n 0, 1) := by decide +kernel
theorem dX4_init_20 : decode cX4_init 20 = .ok (.iload_n 2, 1) := by decide +kernel
theorem dX4_init_21 : decode cX4_init 21 = .ok (.putfield 21, 3) := by decide +kernel
theorem dX4_init_24 : decode cX4_init 24 = .ok (.aload_n 0, 1) := by decide +kernel
theorem dX4_init_25 : decode cX4_init 25 = .ok (.aload_n 3, 1) := by decide +kernel
theorem dX4_init_26 : decode cX4_init 26 = .ok (.putfield 24, 3) := by decide +kernel
theorem dX4_init_29 : decode cX4_init 29 = .ok (.aload_n 0, 1) := by decide +kernel
theorem dX4_init_30 : decode cX4_init 30 = .ok (.aload 4, 2) := by decide +kernel
theorem dX4_init_32 : decode cX4_init 32 = .ok (.putfield 28, 3) := by decide +kernel
theorem dX4_init_35 : decode cX4_init 35 = .ok (.return_, 1) := by decide +kernel
theorem dX5_init_0 : decode cX5_init 0 = .ok (.aload_n 0, 1) := by decide +kernel
theorem dX5_init_1 : decode cX5_init 1 = .ok (.invokespecial 5, 3) := by decide +kernel
theorem dX5_init_4 : decode cX5_init 4 = .ok (.aload_n 0, 1) := by decide +kernel
theorem dX5_init_5 : decode cX5_init 5 = .ok (.bipush 80, 2) := by decide +kernel
theorem dX5_init_7 : decode cX5_init 7 = .ok (.newarray .boolean, 2) := by decide +kernel
theorem dX5_init_9 : decode cX5_init 9 = .ok (.putfield 11, 3) := by decide +kernel
theorem dX5_init_12 : decode cX5_init 12 = .ok (.aload_n 0, 1) := by decide +kernel
theorem dX5_init_13 : decode cX5_init 13 = .ok (.bipush 80, 2) := by decide +kernel
theorem dX5_init_15 : decode cX5_init 15 = .ok (.newarray .long, 2) := by decide +kernel
theorem dX5_init_17 : decode cX5_init 17 = .ok (.putfield 15, 3) := by decide +kernel
theorem dX5_init_20 : decode cX5_init 20 = .ok (.aload_n 0, 1) := by decide +kernel
theorem dX5_init_21 : decode cX5_init 21 = .ok (.bipush 80, 2) := by decide +kernel
theorem dX5_init_23 : decode cX5_init 23 = .ok (.newarray .long, 2) := by decide +kernel
theorem dX5_init_25 : decode cX5_init 25 = .ok (.putfield 19, 3) := by decide +kernel
theorem dX5_init_28 : decode cX5_init 28 = .ok (.aload_n 0, 1) := by decide +kernel
theorem dX5_init_29 : decode cX5_init 29 = .ok (.bipush 16, 2) := by decide +kernel
theorem dX5_init_31 : decode cX5_init 31 = .ok (.newarray .int, 2) := by decide +kernel
theorem dX5_init_33 : decode cX5_init 33 = .ok (.putfield 22, 3) := by decide +kernel
theorem dX5_init_36 : decode cX5_init 36 = .ok (.aload_n 0, 1) := by decide +kernel
theorem dX5_init_37 : decode cX5_init 37 = .ok (.iconst 4, 1) := by decide +kernel
theorem dX5_init_38 : decode cX5_init 38 = .ok (.newarray .int, 2) := by decide +kernel
theorem dX5_init_40 : decode cX5_init 40 = .ok (.putfield 26, 3) := by decide +kernel
theorem dX5_init_43 : decode cX5_init 43 = .ok (.aload_n 0, 1) := by decide +kernel
theorem dX5_init_44 : decode cX5_init 44 = .ok (.iconst 4, 1) := by decide +kernel
theorem dX5_init_45 : decode cX5_init 45 = .ok (.newarray .int, 2) := by decide +kernel
theorem dX5_init_47 : decode cX5_init 47 = .ok (.putfield 29, 3) := by decide +kernel
theorem dX5_init_50 : decode cX5_init 50 = .ok (.aload_n 0, 1) := by decide +kernel
theorem dX5_init_51 : decode cX5_init 51 = .ok (.bipush 80, 2) := by decide +kernel
theorem dX5_init_53 : decode cX5_init 53 = .ok (.newarray .long, 2) := by decide +kernel
theorem dX5_init_55 : decode cX5_init 55 = .ok (.putfield 32, 3) := by decide +kernel
theorem dX5_init_58 : decode cX5_init 58 = .ok (.aload_n 0, 1) := by decide +kernel
theorem dX5_init_59 : decode cX5_init 59 = .ok (.bipush 80, 2) := by decide +kernel
theorem dX5_init_61 : decode cX5_init 61 = .ok (.newarray .long, 2) := by decide +kernel
theorem dX5_init_63 : decode cX5_init 63 = .ok (.putfield 35, 3) := by decide +kernel
theorem dX5_init_66 : decode cX5_init 66 = .ok (.aload_n 0, 1) := by decide +kernel
theorem dX5_init_67 : decode cX5_init 67 = .ok (.getfield 22, 3) := by decide +kernel
theorem dX5_init_70 : decode cX5_init 70 = .ok (.iconst (-1), 1) := by decide +kernel
theorem dX5_init_71 : decode cX5_init 71 = .ok (.invokestatic 38, 3) := by decide +kernel
theorem dX5_init_74 : decode cX5_init 74 = .ok (.aload_n 0, 1) := by decide +kernel
theorem dX5_init_75 : decode cX5_init 75 = .ok (.getfield 26, 3) := by decide +kernel
theorem dX5_init_78 : decode cX5_init 78 = .ok (.iconst (-1), 1) := by decide +kernel
theorem dX5_init_79 : decode cX5_init 79 = .ok (.invokestatic 38, 3) := by decide +kernel
theorem dX5_init_82 : decode cX5_init 82 = .ok (.return_, 1) := by decide +kernel
theorem dX5_changeGuest_0 : decode cX5_changeGuest 0 = .ok (.aload_n 0, 1) := by decide +kernel
theorem dX5_changeGuest_1 : decode cX5_changeGuest 1 = .ok (.getfield 44, 3) := by decide +kernel
theorem dX5_changeGuest_4 : decode cX5_changeGuest 4 = .ok (.istore_n 2, 1) := by decide +kernel
theorem dX5_changeGuest_5 : decode cX5_changeGuest 5 = .ok (.aload_n 0, 1) := by decide +kernel
theorem dX5_changeGuest_6 : decode cX5_changeGuest 6 = .ok (.iload_n 1, 1) := by decide +kernel
theorem dX5_changeGuest_7 : decode cX5_changeGuest 7 = .ok (.ifCond .lt 8, 3) := by decide +kernel
theorem dX5_changeGuest_10 : decode cX5_changeGuest 10 = .ok (.iload_n 1, 1) := by decide +kernel
theorem dX5_changeGuest_11 : decode cX5_changeGuest 11 = .ok (.iconst 4, 1) := by decide +kernel
theorem dX5_changeGuest_12 : decode cX5_changeGuest 12 = .ok (.if_icmp .lt 10, 3) := by decide +kernel
theorem dX5_changeGuest_15 : decode cX5_changeGuest 15 = .ok (.aload_n 0, 1) := by decide +kernel
theorem dX5_changeGuest_16 : decode cX5_changeGuest 16 = .ok (.getfield 44, 3) := by decide +kernel
theorem dX5_changeGuest_19 : decode cX5_changeGuest 19 = .ok (.goto 4, 3) := by decide +kernel
theorem dX5_changeGuest_22 : decode cX5_changeGuest 22 = .ok (.iload_n 1, 1) := by decide +kernel
theorem dX5_changeGuest_23 : decode cX5_changeGuest 23 = .ok (.putfield 44, 3) := by decide +kernel
theorem dX5_changeGuest_26 : decode cX5_changeGuest 26 = .ok (.iload_n 2, 1) := by decide +kernel
theorem dX5_changeGuest_27 : decode cX5_changeGuest 27 = .ok (.ireturn, 1) := by decide +kernel
theorem dX5_changeLevel_0 : decode cX5_changeLevel 0 = .ok (.aload_n 0, 1) := by decide +kernel
theorem dX5_changeLevel_1 : decode cX5_changeLevel 1 = .ok (.getfield 48, 3) := by decide +kernel
theorem dX5_changeLevel_4 : decode cX5_changeLevel 4 = .ok (.istore_n 2, 1) := by decide +kernel
theorem dX5_changeLevel_5 : decode cX5_changeLevel 5 = .ok (.aload_n 0, 1) := by decide +kernel
theorem dX5_changeLevel_6 : decode cX5_changeLevel 6 = .ok (.iload_n 1, 1) := by decide +kernel
theorem dX5_changeLevel_7 : decode cX5_changeLevel 7 = .ok (.ifCond .lt 8, 3) := by decide +kernel
theorem dX5_changeLevel_10 : decode cX5_changeLevel 10 = .ok (.iload_n 1, 1) := by decide +kernel
theorem dX5_changeLevel_11 : decode cX5_changeLevel 11 = .ok (.iconst 4, 1) := by decide +kernel
theorem dX5_changeLevel_12 : decode cX5_changeLevel 12 = .ok (.if_icmp .lt 10, 3) := by decide +kernel
theorem dX5_changeLevel_15 : decode cX5_changeLevel 15 = .ok (.aload_n 0, 1) := by decide +kernel
theorem dX5_changeLevel_16 : decode cX5_changeLevel 16 = .ok (.getfield 48, 3) := by decide +kernel
theorem dX5_changeLevel_19 : decode cX5_changeLevel 19 = .ok (.goto 4, 3) := by decide +kernel
theorem dX5_changeLevel_22 : decode cX5_changeLevel 22 = .ok (.iload_n 1, 1) := by decide +kernel
theorem dX5_changeLevel_23 : decode cX5_changeLevel 23 = .ok (.putfield 48, 3) := by decide +kernel
theorem dX5_changeLevel_26 : decode cX5_changeLevel 26 = .ok (.iload_n 2, 1) := by decide +kernel
theorem dX5_changeLevel_27 : decode cX5_changeLevel 27 = .ok (.ireturn, 1) := by decide +kernel
theorem dX5_isClaimed_0 : decode cX5_isClaimed 0 = .ok (.aload_n 0, 1) := by decide +kernel
theorem dX5_isClaimed_1 : decode cX5_isClaimed 1 = .ok (.getfield 26, 3) := by decide +kernel
theorem dX5_isClaimed_4 : decode cX5_isClaimed 4 = .ok (.aload_n 0, 1) := by decide +kernel
theorem dX5_isClaimed_5 : decode cX5_isClaimed 5 = .ok (.getfield 48, 3) := by decide +kernel
theorem dX5_isClaimed_8 : decode cX5_isClaimed 8 = .ok (.iaload, 1) := by decide +kernel
theorem dX5_isClaimed_9 : decode cX5_isClaimed 9 = .ok (.ifCond .lt 7, 3) := by decide +kernel
theorem dX5_isClaimed_12 : decode cX5_isClaimed 12 = .ok (.iconst 1, 1) := by decide +kernel
theorem dX5_isClaimed_13 : decode cX5_isClaimed 13 = .ok (.goto 4, 3) := by decide +kernel
theorem dX5_isClaimed_16 : decode cX5_isClaimed 16 = .ok (.iconst 0, 1) := by decide +kernel
theorem dX5_isClaimed_17 : decode cX5_isClaimed 17 = .ok (.ireturn, 1) := by decide +kernel
theorem dX5_isClaimedByAnother_0 : decode cX5_isClaimedByAnother 0 = .ok (.aload_n 0, 1) := by decide +kernel
theorem dX5_isClaimedByAnother_1 : decode cX5_isClaimedByAnother 1 = .ok (.invokevirtual 51, 3) := by decide +kernel
theorem dX5_isClaimedByAnother_4 : decode cX5_isClaimedByAnother 4 = .ok (.ifCond .eq 23, 3) := by decide +kernel
theorem dX5_isClaimedByAnother_7 : decode cX5_isClaimedByAnother 7 = .ok (.aload_n 0, 1) := by decide +kernel
theorem dX5_isClaimedByAnother_8 : decode cX5_isClaimedByAnother 8 = .ok (.getfield 26, 3) := by decide +kernel
theorem dX5_isClaimedByAnother_11 : decode cX5_isClaimedByAnother 11 = .ok (.aload_n 0, 1) := by decide +kernel
theorem dX5_isClaimedByAnother_12 : decode cX5_isClaimedByAnother 12 = .ok (.getfield 48, 3) := by decide +kernel
theorem dX5_isClaimedByAnother_15 : decode cX5_isClaimedByAnother 15 = .ok (.iaload, 1) := by decide +kernel
theorem dX5_isClaimedByAnother_16 : decode cX5_isClaimedByAnother 16 = .ok (.aload_n 0, 1) := by decide +kernel
theorem dX5_isClaimedByAnother_17 : decode cX5_isClaimedByAnother 17 = .ok (.getfield 44, 3) := by decide +kernel
theorem dX5_isClaimedByAnother_20 : decode cX5_isClaimedByAnother 20 = .ok (.if_icmp .eq 7, 3) := by decide +kernel
theorem dX5_isClaimedByAnother_23 : decode cX5_isClaimedByAnother 23 = .ok (.iconst 1, 1) := by decide +kernel
theorem dX5_isClaimedByAnother_24 : decode cX5_isClaimedByAnother 24 = .ok (.goto 4, 3) := by decide +kernel
theorem dX5_isClaimedByAnother_27 : decode cX5_isClaimedByAnother 27 = .ok (.iconst 0, 1) := by decide +kernel
theorem dX5_isClaimedByAnother_28 : decode cX5_isClaimedByAnother 28 = .ok (.ireturn, 1) := by decide +kernel
theorem dX5_putClaim_0 : decode cX5_putClaim 0 = .ok (.aload_n 0, 1) := by decide +kernel
theorem dX5_putClaim_1 : decode cX5_putClaim 1 = .ok (.getfield 26, 3) := by decide +kernel
theorem dX5_putClaim_4 : decode cX5_putClaim 4 = .ok (.aload_n 0, 1) := by decide +kernel
theorem dX5_putClaim_5 : decode cX5_putClaim 5 = .ok (.getfield 48, 3) := by decide +kernel
theorem dX5_putClaim_8 : decode cX5_putClaim 8 = .ok (.iload_n 1, 1) := by decide +kernel
theorem dX5_putClaim_9 : decode cX5_putClaim 9 = .ok (.ifCond .eq 10, 3) := by decide +kernel
theorem dX5_putClaim_12 : decode cX5_putClaim 12 = .ok (.aload_n 0, 1) := by decide +kernel
theorem dX5_putClaim_13 : decode cX5_putClaim 13 = .ok (.getfield 44, 3) := by decide +kernel
theorem dX5_putClaim_16 : decode cX5_putClaim 16 = .ok (.goto 4, 3) := by decide +kernel
theorem dX5_putClaim_19 : decode cX5_putClaim 19 = .ok (.iconst (-1), 1) := by decide +kernel
theorem dX5_putClaim_20 : decode cX5_putClaim 20 = .ok (.iastore, 1) := by decide +kernel
theorem dX5_putClaim_21 : decode cX5_putClaim 21 = .ok (.return_, 1) := by decide +kernel
theorem dX5_placeOf_0 : decode cX5_placeOf 0 = .ok (.iload_n 0, 1) := by decide +kernel
theorem dX5_placeOf_1 : decode cX5_placeOf 1 = .ok (.iconst (-1), 1) := by decide +kernel
theorem dX5_placeOf_2 : decode cX5_placeOf 2 = .ok (.if_icmp .ne 19, 3) := by decide +kernel
theorem dX5_placeOf_5 : decode cX5_placeOf 5 = .ok (.iload_n 1, 1) := by decide +kernel
theorem dX5_placeOf_6 : decode cX5_placeOf 6 = .ok (.ifCond .lt 13, 3) := by decide +kernel
theorem dX5_placeOf_9 : decode cX5_placeOf 9 = .ok (.iload_n 1, 1) := by decide +kernel
theorem dX5_placeOf_10 : decode cX5_placeOf 10 = .ok (.bipush 8, 2) := by decide +kernel
theorem dX5_placeOf_12 : decode cX5_placeOf 12 = .ok (.if_icmp .ge 7, 3) := by decide +kernel
theorem dX5_placeOf_15 : decode cX5_placeOf 15 = .ok (.iload_n 1, 1) := by decide +kernel
theorem dX5_placeOf_16 : decode cX5_placeOf 16 = .ok (.goto 4, 3) := by decide +kernel
theorem dX5_placeOf_19 : decode cX5_placeOf 19 = .ok (.iconst (-1), 1) := by decide +kernel
theorem dX5_placeOf_20 : decode cX5_placeOf 20 = .ok (.ireturn, 1) := by decide +kernel
theorem dX5_placeOf_21 : decode cX5_placeOf 21 = .ok (.iload_n 0, 1) := by decide +kernel
theorem dX5_placeOf_22 : decode cX5_placeOf 22 = .ok (.invokestatic 55, 3) := by decide +kernel
theorem dX5_placeOf_25 : decode cX5_placeOf 25 = .ok (.ifCond .eq 16, 3) := by decide +kernel
theorem dX5_placeOf_28 : decode cX5_placeOf 28 = .ok (.iload_n 1, 1) := by decide +kernel
theorem dX5_placeOf_29 : decode cX5_placeOf 29 = .ok (.ifCond .lt 12, 3) := by decide +kernel
theorem dX5_placeOf_32 : decode cX5_placeOf 32 = .ok (.iload_n 1, 1) := by decide +kernel
theorem dX5_placeOf_33 : decode cX5_placeOf 33 = .ok (.iconst 4, 1) := by decide +kernel
theorem dX5_placeOf_34 : decode cX5_placeOf 34 = .ok (.if_icmp .ge 7, 3) := by decide +kernel
theorem dX5_placeOf_37 : decode cX5_placeOf 37 = .ok (.iconst 1, 1) := by decide +kernel
theorem dX5_placeOf_38 : decode cX5_placeOf 38 = .ok (.goto 4, 3) := by decide +kernel
theorem dX5_placeOf_41 : decode cX5_placeOf 41 = .ok (.iconst 0, 1) := by decide +kernel
theorem dX5_placeOf_42 : decode cX5_placeOf 42 = .ok (.istore_n 2, 1) := by decide +kernel
theorem dX5_placeOf_43 : decode cX5_placeOf 43 = .ok (.iload_n 2, 1) := by decide +kernel
theorem dX5_placeOf_44 : decode cX5_placeOf 44 = .ok (.ifCond .eq 14, 3) := by decide +kernel
theorem dX5_placeOf_47 : decode cX5_placeOf 47 = .ok (.bipush 8, 2) := by decide +kernel
theorem dX5_placeOf_49 : decode cX5_placeOf 49 = .ok (.iload_n 0, 1) := by decide +kernel
theorem dX5_placeOf_50 : decode cX5_placeOf 50 = .ok (.iconst 4, 1) := by decide +kernel
theorem dX5_placeOf_51 : decode cX5_placeOf 51 = .ok (.imul, 1) := by decide +kernel
theorem dX5_placeOf_52 : decode cX5_placeOf 52 = .ok (.iadd, 1) := by decide +kernel
theorem dX5_placeOf_53 : decode cX5_placeOf 53 = .ok (.iload_n 1, 1) := by decide +kernel
theorem dX5_placeOf_54 : decode cX5_placeOf 54 = .ok (.iadd, 1) := by decide +kernel
theorem dX5_placeOf_55 : decode cX5_placeOf 55 = .ok (.goto 4, 3) := by decide +kernel
theorem dX5_placeOf_58 : decode cX5_placeOf 58 = .ok (.iconst (-1), 1) := by decide +kernel
theorem dX5_placeOf_59 : decode cX5_placeOf 59 = .ok (.ireturn, 1) := by decide +kernel
theorem dX5_indexOf_0 : decode cX5_indexOf 0 = .ok (.iload_n 1, 1) := by decide +kernel
theorem dX5_indexOf_1 : decode cX5_indexOf 1 = .ok (.ifCond .lt 9, 3) := by decide +kernel
theorem dX5_indexOf_4 : decode cX5_indexOf 4 = .ok (.iload_n 1, 1) := by decide +kernel
theorem dX5_indexOf_5 : decode cX5_indexOf 5 = .ok (.bipush 20, 2) := by decide +kernel
theorem dX5_indexOf_7 : decode cX5_indexOf 7 = .ok (.if_icmp .lt 7, 3) := by decide +kernel
theorem dX5_indexOf_10 : decode cX5_indexOf 10 = .ok (.iconst (-1), 1) := by decide +kernel
theorem dX5_indexOf_11 : decode cX5_indexOf 11 = .ok (.goto 12, 3) := by decide +kernel
theorem dX5_indexOf_14 : decode cX5_indexOf 14 = .ok (.aload_n 0, 1) := by decide +kernel
theorem dX5_indexOf_15 : decode cX5_indexOf 15 = .ok (.getfield 48, 3) := by decide +kernel
theorem dX5_indexOf_18 : decode cX5_indexOf 18 = .ok (.bipush 20, 2) := by decide +kernel
theorem dX5_indexOf_20 : decode cX5_indexOf 20 = .ok (.imul, 1) := by decide +kernel
theorem dX5_indexOf_21 : decode cX5_indexOf 21 = .ok (.iload_n 1, 1) := by decide +kernel
theorem dX5_indexOf_22 : decode cX5_indexOf 22 = .ok (.iadd, 1) := by decide +kernel
theorem dX5_indexOf_23 : decode cX5_indexOf 23 = .ok (.ireturn, 1) := by decide +kernel
theorem dX5_keep_0 : decode cX5_keep 0 = .ok (.aload_n 0, 1) := by decide +kernel
theorem dX5_keep_1 : decode cX5_keep 1 = .ok (.iload_n 1, 1) := by decide +kernel
theorem dX5_keep_2 : decode cX5_keep 2 = .ok (.invokevirtual 59, 3) := by decide +kernel
theorem dX5_keep_5 : decode cX5_keep 5 = .ok (.istore 6, 2) := by decide +kernel
theorem dX5_keep_7 : decode cX5_keep 7 = .ok (.iload 6, 2) := by decide +kernel
theorem dX5_keep_9 : decode cX5_keep 9 = .ok (.ifCond .lt 28, 3) := by decide +kernel
theorem dX5_keep_12 : decode cX5_keep 12 = .ok (.aload_n 0, 1) := by decide +kernel
theorem dX5_keep_13 : decode cX5_keep 13 = .ok (.getfield 11, 3) := by decide +kernel
theorem dX5_keep_16 : decode cX5_keep 16 = .ok (.iload 6, 2) := by decide +kernel
theorem dX5_keep_18 : decode cX5_keep 18 = .ok (.iconst 1, 1) := by decide +kernel
theorem dX5_keep_19 : decode cX5_keep 19 = .ok (.bastore, 1) := by decide +kernel
theorem dX5_keep_20 : decode cX5_keep 20 = .ok (.aload_n 0, 1) := by decide +kernel
theorem dX5_keep_21 : decode cX5_keep 21 = .ok (.getfield 15, 3) := by decide +kernel
theorem dX5_keep_24 : decode cX5_keep 24 = .ok (.iload 6, 2) := by decide +kernel
theorem dX5_keep_26 : decode cX5_keep 26 = .ok (.lload_n 2, 1) := by decide +kernel
theorem dX5_keep_27 : decode cX5_keep 27 = .ok (.lastore, 1) := by decide +kernel
theorem dX5_keep_28 : decode cX5_keep 28 = .ok (.aload_n 0, 1) := by decide +kernel
theorem dX5_keep_29 : decode cX5_keep 29 = .ok (.getfield 19, 3) := by decide +kernel
theorem dX5_keep_32 : decode cX5_keep 32 = .ok (.iload 6, 2) := by decide +kernel
theorem dX5_keep_34 : decode cX5_keep 34 = .ok (.lload 4, 2) := by decide +kernel
theorem dX5_keep_36 : decode cX5_keep 36 = .ok (.lastore, 1) := by decide +kernel
theorem dX5_keep_37 : decode cX5_keep 37 = .ok (.return_, 1) := by decide +kernel
theorem dX5_isKept_0 : decode cX5_isKept 0 = .ok (.aload_n 0, 1) := by decide +kernel
theorem dX5_isKept_1 : decode cX5_isKept 1 = .ok (.iload_n 1, 1) := by decide +kernel
theorem dX5_isKept_2 : decode cX5_isKept 2 = .ok (.invokevirtual 59, 3) := by decide +kernel
theorem dX5_isKept_5 : decode cX5_isKept 5 = .ok (.istore_n 2, 1) := by decide +kernel
theorem dX5_isKept_6 : decode cX5_isKept 6 = .ok (.iload_n 2, 1) := by decide +kernel
theorem dX5_isKept_7 : decode cX5_isKept 7 = .ok (.ifCond .lt 16, 3) := by decide +kernel
theorem dX5_isKept_10 : decode cX5_isKept 10 = .ok (.aload_n 0, 1) := by decide +kernel
theorem dX5_isKept_11 : decode cX5_isKept 11 = .ok (.getfield 11, 3) := by decide +kernel
theorem dX5_isKept_14 : decode cX5_isKept 14 = .ok (.iload_n 2, 1) := by decide +kernel
theorem dX5_isKept_15 : decode cX5_isKept 15 = .ok (.baload, 1) := by decide +kernel
theorem dX5_isKept_16 : decode cX5_isKept 16 = .ok (.ifCond .eq 7, 3) := by decide +kernel
theorem dX5_isKept_19 : decode cX5_isKept 19 = .ok (.iconst 1, 1) := by decide +kernel
theorem dX5_isKept_20 : decode cX5_isKept 20 = .ok (.goto 4, 3) := by decide +kernel
theorem dX5_isKept_23 : decode cX5_isKept 23 = .ok (.iconst 0, 1) := by decide +kernel
theorem dX5_isKept_24 : decode cX5_isKept 24 = .ok (.ireturn, 1) := by decide +kernel
theorem dX5_keptBy_0 : decode cX5_keptBy 0 = .ok (.aload_n 0, 1) := by decide +kernel
theorem dX5_keptBy_1 : decode cX5_keptBy 1 = .ok (.iload_n 1, 1) := by decide +kernel
theorem dX5_keptBy_2 : decode cX5_keptBy 2 = .ok (.invokevirtual 59, 3) := by decide +kernel
theorem dX5_keptBy_5 : decode cX5_keptBy 5 = .ok (.istore_n 2, 1) := by decide +kernel
theorem dX5_keptBy_6 : decode cX5_keptBy 6 = .ok (.iload_n 2, 1) := by decide +kernel
theorem dX5_keptBy_7 : decode cX5_keptBy 7 = .ok (.ifCond .ge 7, 3) := by decide +kernel
theorem dX5_keptBy_10 : decode cX5_keptBy 10 = .ok (.lconst 0, 1) := by decide +kernel
theorem dX5_keptBy_11 : decode cX5_keptBy 11 = .ok (.goto 9, 3) := by decide +kernel
theorem dX5_keptBy_14 : decode cX5_keptBy 14 = .ok (.aload_n 0, 1) := by decide +kernel
theorem dX5_keptBy_15 : decode cX5_keptBy 15 = .ok (.getfield 15, 3) := by decide +kernel
theorem dX5_keptBy_18 : decode cX5_keptBy 18 = .ok (.iload_n 2, 1) := by decide +kernel
theorem dX5_keptBy_19 : decode cX5_keptBy 19 = .ok (.laload, 1) := by decide +kernel
theorem dX5_keptBy_20 : decode cX5_keptBy 20 = .ok (.lreturn, 1) := by decide +kernel
theorem dX5_drawnBy_0 : decode cX5_drawnBy 0 = .ok (.aload_n 0, 1) := by decide +kernel
theorem dX5_drawnBy_1 : decode cX5_drawnBy 1 = .ok (.iload_n 1, 1) := by decide +kernel
theorem dX5_drawnBy_2 : decode cX5_drawnBy 2 = .ok (.invokevirtual 59, 3) := by decide +kernel
theorem dX5_drawnBy_5 : decode cX5_drawnBy 5 = .ok (.istore_n 2, 1) := by decide +kernel
theorem dX5_drawnBy_6 : decode cX5_drawnBy 6 = .ok (.iload_n 2, 1) := by decide +kernel
theorem dX5_drawnBy_7 : decode cX5_drawnBy 7 = .ok (.ifCond .ge 7, 3) := by decide +kernel
theorem dX5_drawnBy_10 : decode cX5_drawnBy 10 = .ok (.lconst 0, 1) := by decide +kernel
theorem dX5_drawnBy_11 : decode cX5_drawnBy 11 = .ok (.goto 9, 3) := by decide +kernel
theorem dX5_drawnBy_14 : decode cX5_drawnBy 14 = .ok (.aload_n 0, 1) := by decide +kernel
theorem dX5_drawnBy_15 : decode cX5_drawnBy 15 = .ok (.getfield 19, 3) := by decide +kernel
theorem dX5_drawnBy_18 : decode cX5_drawnBy 18 = .ok (.iload_n 2, 1) := by decide +kernel
theorem dX5_drawnBy_19 : decode cX5_drawnBy 19 = .ok (.laload, 1) := by decide +kernel
theorem dX5_drawnBy_20 : decode cX5_drawnBy 20 = .ok (.lreturn, 1) := by decide +kernel
theorem dX5_reversibleKnob_0 : decode cX5_reversibleKnob 0 = .ok (.iload_n 1, 1) := by decide +kernel
theorem dX5_reversibleKnob_1 : decode cX5_reversibleKnob 1 = .ok (.ifCond .lt 12, 3) := by decide +kernel
theorem dX5_reversibleKnob_4 : decode cX5_reversibleKnob 4 = .ok (.iload_n 1, 1) := by decide +kernel
theorem dX5_reversibleKnob_5 : decode cX5_reversibleKnob 5 = .ok (.iconst 4, 1) := by decide +kernel
theorem dX5_reversibleKnob_6 : decode cX5_reversibleKnob 6 = .ok (.if_icmp .ge 7, 3) := by decide +kernel
theorem dX5_reversibleKnob_9 : decode cX5_reversibleKnob 9 = .ok (.iconst 1, 1) := by decide +kernel
theorem dX5_reversibleKnob_10 : decode cX5_reversibleKnob 10 = .ok (.goto 4, 3) := by decide +kernel
theorem dX5_reversibleKnob_13 : decode cX5_reversibleKnob 13 = .ok (.iconst 0, 1) := by decide +kernel
theorem dX5_reversibleKnob_14 : decode cX5_reversibleKnob 14 = .ok (.istore_n 2, 1) := by decide +kernel
theorem dX5_reversibleKnob_15 : decode cX5_reversibleKnob 15 = .ok (.iload_n 2, 1) := by decide +kernel
theorem dX5_reversibleKnob_16 : decode cX5_reversibleKnob 16 = .ok (.ifCond .eq 19, 3) := by decide +kernel
theorem dX5_reversibleKnob_19 : decode cX5_reversibleKnob 19 = .ok (.aload_n 0, 1) := by decide +kernel
theorem dX5_reversibleKnob_20 : decode cX5_reversibleKnob 20 = .ok (.getfield 22, 3) := by decide +kernel
theorem dX5_reversibleKnob_23 : decode cX5_reversibleKnob 23 = .ok (.aload_n 0, 1) := by decide +kernel
theorem dX5_reversibleKnob_24 : decode cX5_reversibleKnob 24 = .ok (.getfield 48, 3) := by decide +kernel
theorem dX5_reversibleKnob_27 : decode cX5_reversibleKnob 27 = .ok (.iconst 4, 1) := by decide +kernel
theorem dX5_reversibleKnob_28 : decode cX5_reversibleKnob 28 = .ok (.imul, 1) := by decide +kernel
theorem dX5_reversibleKnob_29 : decode cX5_reversibleKnob 29 = .ok (.iload_n 1, 1) := by decide +kernel
theorem dX5_reversibleKnob_30 : decode cX5_reversibleKnob 30 = .ok (.iadd, 1) := by decide +kernel
theorem dX5_reversibleKnob_31 : decode cX5_reversibleKnob 31 = .ok (.iaload, 1) := by decide +kernel
theorem dX5_reversibleKnob_32 : decode cX5_reversibleKnob 32 = .ok (.goto 4, 3) := by decide +kernel
theorem dX5_reversibleKnob_35 : decode cX5_reversibleKnob 35 = .ok (.iconst (-1), 1) := by decide +kernel
theorem dX5_reversibleKnob_36 : decode cX5_reversibleKnob 36 = .ok (.ireturn, 1) := by decide +kernel
theorem dX5_keepReversible_0 : decode cX5_keepReversible 0 = .ok (.iload_n 1, 1) := by decide +kernel
theorem dX5_keepReversible_1 : decode cX5_keepReversible 1 = .ok (.ifCond .lt 22, 3) := by decide +kernel
theorem dX5_keepReversible_4 : decode cX5_keepReversible 4 = .ok (.iload_n 1, 1) := by decide +kernel
theorem dX5_keepReversible_5 : decode cX5_keepReversible 5 = .ok (.iconst 4, 1) := by decide +kernel
theorem dX5_keepReversible_6 : decode cX5_keepReversible 6 = .ok (.if_icmp .ge 17, 3) := by decide +kernel
theorem dX5_keepReversible_9 : decode cX5_keepReversible 9 = .ok (.aload_n 0, 1) := by decide +kernel
theorem dX5_keepReversible_10 : decode cX5_keepReversible 10 = .ok (.getfield 22, 3) := by decide +kernel
theorem dX5_keepReversible_13 : decode cX5_keepReversible 13 = .ok (.aload_n 0, 1) := by decide +kernel
theorem dX5_keepReversible_14 : decode cX5_keepReversible 14 = .ok (.getfield 48, 3) := by decide +kernel
theorem dX5_keepReversible_17 : decode cX5_keepReversible 17 = .ok (.iconst 4, 1) := by decide +kernel
theorem dX5_keepReversible_18 : decode cX5_keepReversible 18 = .ok (.imul, 1) := by decide +kernel
theorem dX5_keepReversible_19 : decode cX5_keepReversible 19 = .ok (.iload_n 1, 1) := by decide +kernel
theorem dX5_keepReversible_20 : decode cX5_keepReversible 20 = .ok (.iadd, 1) := by decide +kernel
theorem dX5_keepReversible_21 : decode cX5_keepReversible 21 = .ok (.iload_n 2, 1) := by decide +kernel
theorem dX5_keepReversible_22 : decode cX5_keepReversible 22 = .ok (.iastore, 1) := by decide +kernel
theorem dX5_keepReversible_23 : decode cX5_keepReversible 23 = .ok (.return_, 1) := by decide +kernel
theorem dX5_frames_0 : decode cX5_frames 0 = .ok (.aload_n 0, 1) := by decide +kernel
theorem dX5_frames_1 : decode cX5_frames 1 = .ok (.getfield 29, 3) := by decide +kernel
theorem dX5_frames_4 : decode cX5_frames 4 = .ok (.aload_n 0, 1) := by decide +kernel
theorem dX5_frames_5 : decode cX5_frames 5 = .ok (.getfield 44, 3) := by decide +kernel
theorem dX5_frames_8 : decode cX5_frames 8 = .ok (.iaload, 1) := by decide +kernel
theorem dX5_frames_9 : decode cX5_frames 9 = .ok (.ireturn, 1) := by decide +kernel
theorem dX5_insertFrame_0 : decode cX5_insertFrame 0 = .ok (.aload_n 0, 1) := by decide +kernel
theorem dX5_insertFrame_1 : decode cX5_insertFrame 1 = .ok (.invokevirtual 63, 3) := by decide +kernel
theorem dX5_insertFrame_4 : decode cX5_insertFrame 4 = .ok (.istore 6, 2) := by decide +kernel
theorem dX5_insertFrame_6 : decode cX5_insertFrame 6 = .ok (.iload_n 1, 1) := by decide +kernel
theorem dX5_insertFrame_7 : decode cX5_insertFrame 7 = .ok (.ifCond .lt 16, 3) := by decide +kernel
theorem dX5_insertFrame_10 : decode cX5_insertFrame 10 = .ok (.iload_n 1, 1) := by decide +kernel
theorem dX5_insertFrame_11 : decode cX5_insertFrame 11 = .ok (.iload 6, 2) := by decide +kernel
theorem dX5_insertFrame_13 : decode cX5_insertFrame 13 = .ok (.if_icmp .gt 10, 3) := by decide +kernel
theorem dX5_insertFrame_16 : decode cX5_insertFrame 16 = .ok (.iload 6, 2) := by decide +kernel
theorem dX5_insertFrame_18 : decode cX5_insertFrame 18 = .ok (.bipush 20, 2) := by decide +kernel
theorem dX5_insertFrame_20 : decode cX5_insertFrame 20 = .ok (.if_icmp .lt 4, 3) := by decide +kernel
theorem dX5_insertFrame_23 : decode cX5_insertFrame 23 = .ok (.return_, 1) := by decide +kernel
theorem dX5_insertFrame_24 : decode cX5_insertFrame 24 = .ok (.aload_n 0, 1) := by decide +kernel
theorem dX5_insertFrame_25 : decode cX5_insertFrame 25 = .ok (.getfield 44, 3) := by decide +kernel
theorem dX5_insertFrame_28 : decode cX5_insertFrame 28 = .ok (.bipush 20, 2) := by decide +kernel
theorem dX5_insertFrame_30 : decode cX5_insertFrame 30 = .ok (.imul, 1) := by decide +kernel
theorem dX5_insertFrame_31 : decode cX5_insertFrame 31 = .ok (.iload_n 1, 1) := by decide +kernel
theorem dX5_insertFrame_32 : decode cX5_insertFrame 32 = .ok (.iadd, 1) := by decide +kernel
theorem dX5_insertFrame_33 : decode cX5_insertFrame 33 = .ok (.istore 7, 2) := by decide +kernel
theorem dX5_insertFrame_35 : decode cX5_insertFrame 35 = .ok (.aload_n 0, 1) := by decide +kernel
theorem dX5_insertFrame_36 : decode cX5_insertFrame 36 = .ok (.getfield 32, 3) := by decide +kernel
theorem dX5_insertFrame_39 : decode cX5_insertFrame 39 = .ok (.iload 7, 2) := by decide +kernel
theorem dX5_insertFrame_41 : decode cX5_insertFrame 41 = .ok (.aload_n 0, 1) := by decide +kernel
theorem dX5_insertFrame_42 : decode cX5_insertFrame 42 = .ok (.getfield 32, 3) := by decide +kernel
theorem dX5_insertFrame_45 : decode cX5_insertFrame 45 = .ok (.iload 7, 2) := by decide +kernel
theorem dX5_insertFrame_47 : decode cX5_insertFrame 47 = .ok (.iconst 1, 1) := by decide +kernel
theorem dX5_insertFrame_48 : decode cX5_insertFrame 48 = .ok (.iadd, 1) := by decide +kernel
theorem dX5_insertFrame_49 : decode cX5_insertFrame 49 = .ok (.iload 6, 2) := by decide +kernel
theorem dX5_insertFrame_51 : decode cX5_insertFrame 51 = .ok (.iload_n 1, 1) := by decide +kernel
theorem dX5_insertFrame_52 : decode cX5_insertFrame 52 = .ok (.isub, 1) := by decide +kernel
theorem dX5_insertFrame_53 : decode cX5_insertFrame 53 = .ok (.invokestatic 67, 3) := by decide +kernel
theorem dX5_insertFrame_56 : decode cX5_insertFrame 56 = .ok (.aload_n 0, 1) := by decide +kernel
theorem dX5_insertFrame_57 : decode cX5_insertFrame 57 = .ok (.getfield 35, 3) := by decide +kernel
theorem dX5_insertFrame_60 : decode cX5_insertFrame 60 = .ok (.iload 7, 2) := by decide +kernel
theorem dX5_insertFrame_62 : decode cX5_insertFrame 62 = .ok (.aload_n 0, 1) := by decide +kernel
theorem dX5_insertFrame_63 : decode cX5_insertFrame 63 = .ok (.getfield 35, 3) := by decide +kernel
theorem dX5_insertFrame_66 : decode cX5_insertFrame 66 = .ok (.iload 7, 2) := by decide +kernel
theorem dX5_insertFrame_68 : decode cX5_insertFrame 68 = .ok (.iconst 1, 1) := by decide +kernel
theorem dX5_insertFrame_69 : decode cX5_insertFrame 69 = .ok (.iadd, 1) := by decide +kernel
theorem dX5_insertFrame_70 : decode cX5_insertFrame 70 = .ok (.iload 6, 2) := by decide +kernel
theorem dX5_insertFrame_72 : decode cX5_insertFrame 72 = .ok (.iload_n 1, 1) := by decide +kernel
theorem dX5_insertFrame_73 : decode cX5_insertFrame 73 = .ok (.isub, 1) := by decide +kernel
theorem dX5_insertFrame_74 : decode cX5_insertFrame 74 = .ok (.invokestatic 67, 3) := by decide +kernel
theorem dX5_insertFrame_77 : decode cX5_insertFrame 77 = .ok (.aload_n 0, 1) := by decide +kernel
theorem dX5_insertFrame_78 : decode cX5_insertFrame 78 = .ok (.getfield 32, 3) := by decide +kernel
theorem dX5_insertFrame_81 : decode cX5_insertFrame 81 = .ok (.iload 7, 2) := by decide +kernel
theorem dX5_insertFrame_83 : decode cX5_insertFrame 83 = .ok (.lload_n 2, 1) := by decide +kernel
theorem dX5_insertFrame_84 : decode cX5_insertFrame 84 = .ok (.lastore, 1) := by decide +kernel
theorem dX5_insertFrame_85 : decode cX5_insertFrame 85 = .ok (.aload_n 0, 1) := by decide +kernel
theorem dX5_insertFrame_86 : decode cX5_insertFrame 86 = .ok (.getfield 35, 3) := by decide +kernel
theorem dX5_insertFrame_89 : decode cX5_insertFrame 89 = .ok (.iload 7, 2) := by decide +kernel
theorem dX5_insertFrame_91 : decode cX5_insertFrame 91 = .ok (.lload 4, 2) := by decide +kernel
theorem dX5_insertFrame_93 : decode cX5_insertFrame 93 = .ok (.lastore, 1) := by decide +kernel
theorem dX5_insertFrame_94 : decode cX5_insertFrame 94 = .ok (.aload_n 0, 1) := by decide +kernel
theorem dX5_insertFrame_95 : decode cX5_insertFrame 95 = .ok (.getfield 29, 3) := by decide +kernel
theorem dX5_insertFrame_98 : decode cX5_insertFrame 98 = .ok (.aload_n 0, 1) := by decide +kernel
theorem dX5_insertFrame_99 : decode cX5_insertFrame 99 = .ok (.getfield 44, 3) := by decide +kernel
theorem dX5_insertFrame_102 : decode cX5_insertFrame 102 = .ok (.dup2, 1) := by decide +kernel
theorem dX5_insertFrame_103 : decode cX5_insertFrame 103 = .ok (.iaload, 1) := by decide +kernel
theorem dX5_insertFrame_104 : decode cX5_insertFrame 104 = .ok (.iconst 1, 1) := by decide +kernel
theorem dX5_insertFrame_105 : decode cX5_insertFrame 105 = .ok (.iadd, 1) := by decide +kernel
theorem dX5_insertFrame_106 : decode cX5_insertFrame 106 = .ok (.iastore, 1) := by decide +kernel
theorem dX5_insertFrame_107 : decode cX5_insertFrame 107 = .ok (.return_, 1) := by decide +kernel
theorem dX5_removeFrame_0 : decode cX5_removeFrame 0 = .ok (.aload_n 0, 1) := by decide +kernel
theorem dX5_removeFrame_1 : decode cX5_removeFrame 1 = .ok (.invokevirtual 63, 3) := by decide +kernel
theorem dX5_removeFrame_4 : decode cX5_removeFrame 4 = .ok (.istore_n 2, 1) := by decide +kernel
theorem dX5_removeFrame_5 : decode cX5_removeFrame 5 = .ok (.iload_n 1, 1) := by decide +kernel
theorem dX5_removeFrame_6 : decode cX5_removeFrame 6 = .ok (.ifCond .lt 8, 3) := by decide +kernel
theorem dX5_removeFrame_9 : decode cX5_removeFrame 9 = .ok (.iload_n 1, 1) := by decide +kernel
theorem dX5_removeFrame_10 : decode cX5_removeFrame 10 = .ok (.iload_n 2, 1) := by decide +kernel
theorem dX5_removeFrame_11 : decode cX5_removeFrame 11 = .ok (.if_icmp .lt 4, 3) := by decide +kernel
theorem dX5_removeFrame_14 : decode cX5_removeFrame 14 = .ok (.return_, 1) := by decide +kernel
theorem dX5_removeFrame_15 : decode cX5_removeFrame 15 = .ok (.aload_n 0, 1) := by decide +kernel
theorem dX5_removeFrame_16 : decode cX5_removeFrame 16 = .ok (.getfield 44, 3) := by decide +kernel
theorem dX5_removeFrame_19 : decode cX5_removeFrame 19 = .ok (.bipush 20, 2) := by decide +kernel
theorem dX5_removeFrame_21 : decode cX5_removeFrame 21 = .ok (.imul, 1) := by decide +kernel
theorem dX5_removeFrame_22 : decode cX5_removeFrame 22 = .ok (.iload_n 1, 1) := by decide +kernel
theorem dX5_removeFrame_23 : decode cX5_removeFrame 23 = .ok (.iadd, 1) := by decide +kernel
theorem dX5_removeFrame_24 : decode cX5_removeFrame 24 = .ok (.istore_n 3, 1) := by decide +kernel
theorem dX5_removeFrame_25 : decode cX5_removeFrame 25 = .ok (.aload_n 0, 1) := by decide +kernel
theorem dX5_removeFrame_26 : decode cX5_removeFrame 26 = .ok (.getfield 32, 3) := by decide +kernel
theorem dX5_removeFrame_29 : decode cX5_removeFrame 29 = .ok (.iload_n 3, 1) := by decide +kernel
theorem dX5_removeFrame_30 : decode cX5_removeFrame 30 = .ok (.iconst 1, 1) := by decide +kernel
theorem dX5_removeFrame_31 : decode cX5_removeFrame 31 = .ok (.iadd, 1) := by decide +kernel
theorem dX5_removeFrame_32 : decode cX5_removeFrame 32 = .ok (.aload_n 0, 1) := by decide +kernel
theorem dX5_removeFrame_33 : decode cX5_removeFrame 33 = .ok (.getfield 32, 3) := by decide +kernel
theorem dX5_removeFrame_36 : decode cX5_removeFrame 36 = .ok (.iload_n 3, 1) := by decide +kernel
theorem dX5_removeFrame_37 : decode cX5_removeFrame 37 = .ok (.iload_n 2, 1) := by decide +kernel
theorem dX5_removeFrame_38 : decode cX5_removeFrame 38 = .ok (.iload_n 1, 1) := by decide +kernel
theorem dX5_removeFrame_39 : decode cX5_removeFrame 39 = .ok (.isub, 1) := by decide +kernel
theorem dX5_removeFrame_40 : decode cX5_removeFrame 40 = .ok (.iconst 1, 1) := by decide +kernel
theorem dX5_removeFrame_41 : decode cX5_removeFrame 41 = .ok (.isub, 1) := by decide +kernel
theorem dX5_removeFrame_42 : decode cX5_removeFrame 42 = .ok (.invokestatic 67, 3) := by decide +kernel
theorem dX5_removeFrame_45 : decode cX5_removeFrame 45 = .ok (.aload_n 0, 1) := by decide +kernel
theorem dX5_removeFrame_46 : decode cX5_removeFrame 46 = .ok (.getfield 35, 3) := by decide +kernel
theorem dX5_removeFrame_49 : decode cX5_removeFrame 49 = .ok (.iload_n 3, 1) := by decide +kernel
theorem dX5_removeFrame_50 : decode cX5_removeFrame 50 = .ok (.iconst 1, 1) := by decide +kernel
theorem dX5_removeFrame_51 : decode cX5_removeFrame 51 = .ok (.iadd, 1) := by decide +kernel
theorem dX5_removeFrame_52 : decode cX5_removeFrame 52 = .ok (.aload_n 0, 1) := by decide +kernel
theorem dX5_removeFrame_53 : decode cX5_removeFrame 53 = .ok (.getfield 35, 3) := by decide +kernel
theorem dX5_removeFrame_56 : decode cX5_removeFrame 56 = .ok (.iload_n 3, 1) := by decide +kernel
theorem dX5_removeFrame_57 : decode cX5_removeFrame 57 = .ok (.iload_n 2, 1) := by decide +kernel
theorem dX5_removeFrame_58 : decode cX5_removeFrame 58 = .ok (.iload_n 1, 1) := by decide +kernel
theorem dX5_removeFrame_59 : decode cX5_removeFrame 59 = .ok (.isub, 1) := by decide +kernel
theorem dX5_removeFrame_60 : decode cX5_removeFrame 60 = .ok (.iconst 1, 1) := by decide +kernel
theorem dX5_removeFrame_61 : decode cX5_removeFrame 61 = .ok (.isub, 1) := by decide +kernel
theorem dX5_removeFrame_62 : decode cX5_removeFrame 62 = .ok (.invokestatic 67, 3) := by decide +kernel
theorem dX5_removeFrame_65 : decode cX5_removeFrame 65 = .ok (.aload_n 0, 1) := by decide +kernel
theorem dX5_removeFrame_66 : decode cX5_removeFrame 66 = .ok (.getfield 29, 3) := by decide +kernel
theorem dX5_removeFrame_69 : decode cX5_removeFrame 69 = .ok (.aload_n 0, 1) := by decide +kernel
theorem dX5_removeFrame_70 : decode cX5_removeFrame 70 = .ok (.getfield 44, 3) := by decide +kernel
theorem dX5_removeFrame_73 : decode cX5_removeFrame 73 = .ok (.dup2, 1) := by decide +kernel
theorem dX5_removeFrame_74 : decode cX5_removeFrame 74 = .ok (.iaload, 1) := by decide +kernel
theorem dX5_removeFrame_75 : decode cX5_removeFrame 75 = .ok (.iconst 1, 1) := by decide +kernel
theorem dX5_removeFrame_76 : decode cX5_removeFrame 76 = .ok (.isub, 1) := by decide +kernel
theorem dX5_removeFrame_77 : decode cX5_removeFrame 77 = .ok (.iastore, 1) := by decide +kernel
theorem dX5_removeFrame_78 : decode cX5_removeFrame 78 = .ok (.return_, 1) := by decide +kernel
theorem dX5_keptByFrame_0 : decode cX5_keptByFrame 0 = .ok (.iload_n 1, 1) := by decide +kernel
theorem dX5_keptByFrame_1 : decode cX5_keptByFrame 1 = .ok (.ifCond .lt 11, 3) := by decide +kernel
theorem dX5_keptByFrame_4 : decode cX5_keptByFrame 4 = .ok (.iload_n 1, 1) := by decide +kernel
theorem dX5_keptByFrame_5 : decode cX5_keptByFrame 5 = .ok (.aload_n 0, 1) := by decide +kernel
theorem dX5_keptByFrame_6 : decode cX5_keptByFrame 6 = .ok (.invokevirtual 63, 3) := by decide +kernel
theorem dX5_keptByFrame_9 : decode cX5_keptByFrame 9 = .ok (.if_icmp .lt 7, 3) := by decide +kernel
theorem dX5_keptByFrame_12 : decode cX5_keptByFrame 12 = .ok (.lconst 0, 1) := by decide +kernel
theorem dX5_keptByFrame_13 : decode cX5_keptByFrame 13 = .ok (.goto 17, 3) := by decide +kernel
theorem dX5_keptByFrame_16 : decode cX5_keptByFrame 16 = .ok (.aload_n 0, 1) := by decide +kernel
theorem dX5_keptByFrame_17 : decode cX5_keptByFrame 17 = .ok (.getfield 32, 3) := by decide +kernel
theorem dX5_keptByFrame_20 : decode cX5_keptByFrame 20 = .ok (.aload_n 0, 1) := by decide +kernel
theorem dX5_keptByFrame_21 : decode cX5_keptByFrame 21 = .ok (.getfield 44, 3) := by decide +kernel
theorem dX5_keptByFrame_24 : decode cX5_keptByFrame 24 = .ok (.bipush 20, 2) := by decide +kernel
theorem dX5_keptByFrame_26 : decode cX5_keptByFrame 26 = .ok (.imul, 1) := by decide +kernel
theorem dX5_keptByFrame_27 : decode cX5_keptByFrame 27 = .ok (.iload_n 1, 1) := by decide +kernel
theorem dX5_keptByFrame_28 : decode cX5_keptByFrame 28 = .ok (.iadd, 1) := by decide +kernel
theorem dX5_keptByFrame_29 : decode cX5_keptByFrame 29 = .ok (.laload, 1) := by decide +kernel
theorem dX5_keptByFrame_30 : decode cX5_keptByFrame 30 = .ok (.lreturn, 1) := by decide +kernel
theorem dX5_drawnByFrame_0 : decode cX5_drawnByFrame 0 = .ok (.iload_n 1, 1) := by decide +kernel
theorem dX5_drawnByFrame_1 : decode cX5_drawnByFrame 1 = .ok (.ifCond .lt 11, 3) := by decide +kernel
theorem dX5_drawnByFrame_4 : decode cX5_drawnByFrame 4 = .ok (.iload_n 1, 1) := by decide +kernel
theorem dX5_drawnByFrame_5 : decode cX5_drawnByFrame 5 = .ok (.aload_n 0, 1) := by decide +kernel
theorem dX5_drawnByFrame_6 : decode cX5_drawnByFrame 6 = .ok (.invokevirtual 63, 3) := by decide +kernel
theorem dX5_drawnByFrame_9 : decode cX5_drawnByFrame 9 = .ok (.if_icmp .lt 7, 3) := by decide +kernel
theorem dX5_drawnByFrame_12 : decode cX5_drawnByFrame 12 = .ok (.lconst 0, 1) := by decide +kernel
theorem dX5_drawnByFrame_13 : decode cX5_drawnByFrame 13 = .ok (.goto 17, 3) := by decide +kernel
theorem dX5_drawnByFrame_16 : decode cX5_drawnByFrame 16 = .ok (.aload_n 0, 1) := by decide +kernel
theorem dX5_drawnByFrame_17 : decode cX5_drawnByFrame 17 = .ok (.getfield 35, 3) := by decide +kernel
theorem dX5_drawnByFrame_20 : decode cX5_drawnByFrame 20 = .ok (.aload_n 0, 1) := by decide +kernel
theorem dX5_drawnByFrame_21 : decode cX5_drawnByFrame 21 = .ok (.getfield 44, 3) := by decide +kernel
theorem dX5_drawnByFrame_24 : decode cX5_drawnByFrame 24 = .ok (.bipush 20, 2) := by decide +kernel
theorem dX5_drawnByFrame_26 : decode cX5_drawnByFrame 26 = .ok (.imul, 1) := by decide +kernel
theorem dX5_drawnByFrame_27 : decode cX5_drawnByFrame 27 = .ok (.iload_n 1, 1) := by decide +kernel
theorem dX5_drawnByFrame_28 : decode cX5_drawnByFrame 28 = .ok (.iadd, 1) := by decide +kernel
theorem dX5_drawnByFrame_29 : decode cX5_drawnByFrame 29 = .ok (.laload, 1) := by decide +kernel
theorem dX5_drawnByFrame_30 : decode cX5_drawnByFrame 30 = .ok (.lreturn, 1) := by decide +kernel
theorem dX6_init_0 : decode cX6_init 0 = .ok (.aload_n 0, 1) := by decide +kernel
theorem dX6_init_1 : decode cX6_init 1 = .ok (.invokespecial 3, 3) := by decide +kernel
theorem dX6_init_4 : decode cX6_init 4 = .ok (.aload_n 0, 1) := by decide +kernel
theorem dX6_init_5 : decode cX6_init 5 = .ok (.bipush (-5), 2) := by decide +kernel
theorem dX6_init_7 : decode cX6_init 7 = .ok (.putfield 9, 3) := by decide +kernel
theorem dX6_init_10 : decode cX6_init 10 = .ok (.aload_n 0, 1) := by decide +kernel
theorem dX6_init_11 : decode cX6_init 11 = .ok (.bipush 45, 2) := by decide +kernel
theorem dX6_init_13 : decode cX6_init 13 = .ok (.putfield 15, 3) := by decide +kernel
theorem dX6_init_16 : decode cX6_init 16 = .ok (.return_, 1) := by decide +kernel
theorem dX6_allReasons_0 : decode cX6_allReasons 0 = .ok (.aload_n 0, 1) := by decide +kernel
theorem dX6_allReasons_1 : decode cX6_allReasons 1 = .ok (.getfield 19, 3) := by decide +kernel
theorem dX6_allReasons_4 : decode cX6_allReasons 4 = .ok (.ifCond .eq 12, 3) := by decide +kernel
theorem dX6_allReasons_7 : decode cX6_allReasons 7 = .ok (.aload_n 0, 1) := by decide +kernel
theorem dX6_allReasons_8 : decode cX6_allReasons 8 = .ok (.getfield 23, 3) := by decide +kernel
theorem dX6_allReasons_11 : decode cX6_allReasons 11 = .ok (.iconst 1, 1) := by decide +kernel
theorem dX6_allReasons_12 : decode cX6_allReasons 12 = .ok (.iadd, 1) := by decide +kernel
theorem dX6_allReasons_13 : decode cX6_allReasons 13 = .ok (.goto 7, 3) := by decide +kernel
theorem dX6_allReasons_16 : decode cX6_allReasons 16 = .ok (.aload_n 0, 1) := by decide +kernel
theorem dX6_allReasons_17 : decode cX6_allReasons 17 = .ok (.getfield 23, 3) := by decide +kernel
theorem dX6_allReasons_20 : decode cX6_allReasons 20 = .ok (.ireturn, 1) := by decide +kernel
theorem dX6_isBlown_0 : decode cX6_isBlown 0 = .ok (.aload_n 0, 1) := by decide +kernel
theorem dX6_isBlown_1 : decode cX6_isBlown 1 = .ok (.getfield 15, 3) := by decide +kernel
theorem dX6_isBlown_4 : decode cX6_isBlown 4 = .ok (.bipush 99, 2) := by decide +kernel
theorem dX6_isBlown_6 : decode cX6_isBlown 6 = .ok (.if_icmp .eq 19, 3) := by decide +kernel
theorem dX6_isBlown_9 : decode cX6_isBlown 9 = .ok (.aload_n 0, 1) := by decide +kernel
theorem dX6_isBlown_10 : decode cX6_isBlown 10 = .ok (.getfield 15, 3) := by decide +kernel
theorem dX6_isBlown_13 : decode cX6_isBlown 13 = .ok (.bipush 100, 2) := by decide +kernel
theorem dX6_isBlown_15 : decode cX6_isBlown 15 = .ok (.if_icmp .eq 14, 3) := by decide +kernel
theorem dX6_isBlown_18 : decode cX6_isBlown 18 = .ok (.aload_n 0, 1) := by decide +kernel
theorem dX6_isBlown_19 : decode cX6_isBlown 19 = .ok (.getfield 26, 3) := by decide +kernel
theorem dX6_isBlown_22 : decode cX6_isBlown 22 = .ok (.ifCond .eq 7, 3) := by decide +kernel
theorem dX6_isBlown_25 : decode cX6_isBlown 25 = .ok (.iconst 1, 1) := by decide +kernel
theorem dX6_isBlown_26 : decode cX6_isBlown 26 = .ok (.goto 4, 3) := by decide +kernel
theorem dX6_isBlown_29 : decode cX6_isBlown 29 = .ok (.iconst 0, 1) := by decide +kernel
theorem dX6_isBlown_30 : decode cX6_isBlown 30 = .ok (.ireturn, 1) := by decide +kernel
theorem dX6_movePallet_0 : decode cX6_movePallet 0 = .ok (.aload_n 0, 1) := by decide +kernel
theorem dX6_movePallet_1 : decode cX6_movePallet 1 = .ok (.getfield 29, 3) := by decide +kernel
theorem dX6_movePallet_4 : decode cX6_movePallet 4 = .ok (.aload_n 0, 1) := by decide +kernel
theorem dX6_movePallet_5 : decode cX6_movePallet 5 = .ok (.getfield 26, 3) := by decide +kernel
theorem dX6_movePallet_8 : decode cX6_movePallet 8 = .ok (.if_icmp .eq 13, 3) := by decide +kernel
theorem dX6_movePallet_11 : decode cX6_movePallet 11 = .ok (.iload_n 1, 1) := by decide +kernel
theorem dX6_movePallet_12 : decode cX6_movePallet 12 = .ok (.aload_n 0, 1) := by decide +kernel
theorem dX6_movePallet_13 : decode cX6_movePallet 13 = .ok (.getfield 32, 3) := by decide +kernel
theorem dX6_movePallet_16 : decode cX6_movePallet 16 = .ok (.isub, 1) := by decide +kernel
theorem dX6_movePallet_17 : decode cX6_movePallet 17 = .ok (.iload_n 2, 1) := by decide +kernel
theorem dX6_movePallet_18 : decode cX6_movePallet 18 = .ok (.if_icmp .ge 4, 3) := by decide +kernel
theorem dX6_movePallet_21 : decode cX6_movePallet 21 = .ok (.return_, 1) := by decide +kernel
theorem dX6_movePallet_22 : decode cX6_movePallet 22 = .ok (.aload_n 0, 1) := by decide +kernel
theorem dX6_movePallet_23 : decode cX6_movePallet 23 = .ok (.getfield 26, 3) := by decide +kernel
theorem dX6_movePallet_26 : decode cX6_movePallet 26 = .ok (.ifCond .eq 16, 3) := by decide +kernel
theorem dX6_movePallet_29 : decode cX6_movePallet 29 = .ok (.aload_n 0, 1) := by decide +kernel
theorem dX6_movePallet_30 : decode cX6_movePallet 30 = .ok (.iconst 0, 1) := by decide +kernel
theorem dX6_movePallet_31 : decode cX6_movePallet 31 = .ok (.putfield 26, 3) := by decide +kernel
theorem dX6_movePallet_34 : decode cX6_movePallet 34 = .ok (.aload_n 0, 1) := by decide +kernel
theorem dX6_movePallet_35 : decode cX6_movePallet 35 = .ok (.iload_n 1, 1) := by decide +kernel
theorem dX6_movePallet_36 : decode cX6_movePallet 36 = .ok (.putfield 9, 3) := by decide +kernel
theorem dX6_movePallet_39 : decode cX6_movePallet 39 = .ok (.goto 18, 3) := by decide +kernel
theorem dX6_movePallet_42 : decode cX6_movePallet 42 = .ok (.iload_n 1, 1) := by decide +kernel
theorem dX6_movePallet_43 : decode cX6_movePallet 43 = .ok (.aload_n 0, 1) := by decide +kernel
theorem dX6_movePallet_44 : decode cX6_movePallet 44 = .ok (.getfield 9, 3) := by decide +kernel
theorem dX6_movePallet_47 : decode cX6_movePallet 47 = .ok (.isub, 1) := by decide +kernel
theorem dX6_movePallet_48 : decode cX6_movePallet 48 = .ok (.iload_n 3, 1) := by decide +kernel
theorem dX6_movePallet_49 : decode cX6_movePallet 49 = .ok (.if_icmp .lt 8, 3) := by decide +kernel
theorem dX6_movePallet_52 : decode cX6_movePallet 52 = .ok (.aload_n 0, 1) := by decide +kernel
theorem dX6_movePallet_53 : decode cX6_movePallet 53 = .ok (.iconst 1, 1) := by decide +kernel
theorem dX6_movePallet_54 : decode cX6_movePallet 54 = .ok (.putfield 26, 3) := by decide +kernel
theorem dX6_movePallet_57 : decode cX6_movePallet 57 = .ok (.return_, 1) := by decide +kernel
theorem dX7_init_0 : decode cX7_init 0 = .ok (.aload_n 0, 1) := by decide +kernel
theorem dX7_init_1 : decode cX7_init 1 = .ok (.invokespecial 3, 3) := by decide +kernel
theorem dX7_init_4 : decode cX7_init 4 = .ok (.aload_n 0, 1) := by decide +kernel
theorem dX7_init_5 : decode cX7_init 5 = .ok (.iload_n 1, 1) := by decide +kernel
theorem dX7_init_6 : decode cX7_init 6 = .ok (.putfield 9, 3) := by decide +kernel
theorem dX7_init_9 : decode cX7_init 9 = .ok (.aload_n 0, 1) := by decide +kernel
theorem dX7_init_10 : decode cX7_init 10 = .ok (.iload_n 3, 1) := by decide +kernel
theorem dX7_init_11 : decode cX7_init 11 = .ok (.invokestatic 15, 3) := by decide +kernel
theorem dX7_init_14 : decode cX7_init 14 = .ok (.ifCond .eq 7, 3) := by decide +kernel
theorem dX7_init_17 : decode cX7_init 17 = .ok (.iload_n 3, 1) := by decide +kernel
theorem dX7_init_18 : decode cX7_init 18 = .ok (.goto 4, 3) := by decide +kernel
theorem dX7_init_21 : decode cX7_init 21 = .ok (.iconst 0, 1) := by decide +kernel
theorem dX7_init_22 : decode cX7_init 22 = .ok (.putfield 19, 3) := by decide +kernel
theorem dX7_init_25 : decode cX7_init 25 = .ok (.iconst 0, 1) := by decide +kernel
theorem dX7_init_26 : decode cX7_init 26 = .ok (.sipush 128, 3) := by decide +kernel
theorem dX7_init_29 : decode cX7_init 29 = .ok (.iload_n 2, 1) := by decide +kernel
theorem dX7_init_30 : decode cX7_init 30 = .ok (.iload_n 1, 1) := by decide +kernel
theorem dX7_init_31 : decode cX7_init 31 = .ok (.isub, 1) := by decide +kernel
theorem dX7_init_32 : decode cX7_init 32 = .ok (.iconst 1, 1) := by decide +kernel
theorem dX7_init_33 : decode cX7_init 33 = .ok (.iadd, 1) := by decide +kernel
theorem dX7_init_34 : decode cX7_init 34 = .ok (.invokestatic 22, 3) := by decide +kernel
theorem dX7_init_37 : decode cX7_init 37 = .ok (.invokestatic 28, 3) := by decide +kernel
theorem dX7_init_40 : decode cX7_init 40 = .ok (.istore 4, 2) := by decide +kernel
theorem dX7_init_42 : decode cX7_init 42 = .ok (.aload_n 0, 1) := by decide +kernel
theorem dX7_init_43 : decode cX7_init 43 = .ok (.iload 4, 2) := by decide +kernel
theorem dX7_init_45 : decode cX7_init 45 = .ok (.anewarray 31, 3) := by decide +kernel
theorem dX7_init_48 : decode cX7_init 48 = .ok (.putfield 33, 3) := by decide +kernel
theorem dX7_init_51 : decode cX7_init 51 = .ok (.iconst 0, 1) := by decide +kernel
theorem dX7_init_52 : decode cX7_init 52 = .ok (.istore 5, 2) := by decide +kernel
theorem dX7_init_54 : decode cX7_init 54 = .ok (.iload 5, 2) := by decide +kernel
theorem dX7_init_56 : decode cX7_init 56 = .ok (.iload 4, 2) := by decide +kernel
theorem dX7_init_58 : decode cX7_init 58 = .ok (.if_icmp .ge 23, 3) := by decide +kernel
theorem dX7_init_61 : decode cX7_init 61 = .ok (.aload_n 0, 1) := by decide +kernel
theorem dX7_init_62 : decode cX7_init 62 = .ok (.getfield 33, 3) := by decide +kernel
theorem dX7_init_65 : decode cX7_init 65 = .ok (.iload 5, 2) := by decide +kernel
theorem dX7_init_67 : decode cX7_init 67 = .ok (.new 31, 3) := by decide +kernel
theorem dX7_init_70 : decode cX7_init 70 = .ok (.dup, 1) := by decide +kernel
theorem dX7_init_71 : decode cX7_init 71 = .ok (.invokespecial 37, 3) := by decide +kernel
theorem dX7_init_74 : decode cX7_init 74 = .ok (.aastore, 1) := by decide +kernel
theorem dX7_init_75 : decode cX7_init 75 = .ok (.iinc 5 1, 3) := by decide +kernel
theorem dX7_init_78 : decode cX7_init 78 = .ok (.goto (-24), 3) := by decide +kernel
theorem dX7_init_81 : decode cX7_init 81 = .ok (.return_, 1) := by decide +kernel
theorem dX7_pipeOf_0 : decode cX7_pipeOf 0 = .ok (.iload_n 1, 1) := by decide +kernel
theorem dX7_pipeOf_1 : decode cX7_pipeOf 1 = .ok (.aload_n 0, 1) := by decide +kernel
theorem dX7_pipeOf_2 : decode cX7_pipeOf 2 = .ok (.getfield 9, 3) := by decide +kernel
theorem dX7_pipeOf_5 : decode cX7_pipeOf 5 = .ok (.if_icmp .lt 17, 3) := by decide +kernel
theorem dX7_pipeOf_8 : decode cX7_pipeOf 8 = .ok (.iload_n 1, 1) := by decide +kernel
theorem dX7_pipeOf_9 : decode cX7_pipeOf 9 = .ok (.aload_n 0, 1) := by decide +kernel
theorem dX7_pipeOf_10 : decode cX7_pipeOf 10 = .ok (.getfield 9, 3) := by decide +kernel
theorem dX7_pipeOf_13 : decode cX7_pipeOf 13 = .ok (.aload_n 0, 1) := by decide +kernel
theorem dX7_pipeOf_14 : decode cX7_pipeOf 14 = .ok (.getfield 33, 3) := by decide +kernel
theorem dX7_pipeOf_17 : decode cX7_pipeOf 17 = .ok (.arraylength, 1) := by decide +kernel
theorem dX7_pipeOf_18 : decode cX7_pipeOf 18 = .ok (.iadd, 1) := by decide +kernel
theorem dX7_pipeOf_19 : decode cX7_pipeOf 19 = .ok (.if_icmp .lt 5, 3) := by decide +kernel
theorem dX7_pipeOf_22 : decode cX7_pipeOf 22 = .ok (.aconst_null, 1) := by decide +kernel
theorem dX7_pipeOf_23 : decode cX7_pipeOf 23 = .ok (.areturn, 1) := by decide +kernel
theorem dX7_pipeOf_24 : decode cX7_pipeOf 24 = .ok (.aload_n 0, 1) := by decide +kernel
theorem dX7_pipeOf_25 : decode cX7_pipeOf 25 = .ok (.getfield 33, 3) := by decide +kernel
theorem dX7_pipeOf_28 : decode cX7_pipeOf 28 = .ok (.iload_n 1, 1) := by decide +kernel
theorem dX7_pipeOf_29 : decode cX7_pipeOf 29 = .ok (.aload_n 0, 1) := by decide +kernel
theorem dX7_pipeOf_30 : decode cX7_pipeOf 30 = .ok (.getfield 9, 3) := by decide +kernel
theorem dX7_pipeOf_33 : decode cX7_pipeOf 33 = .ok (.isub, 1) := by decide +kernel
theorem dX7_pipeOf_34 : decode cX7_pipeOf 34 = .ok (.aaload, 1) := by decide +kernel
theorem dX7_pipeOf_35 : decode cX7_pipeOf 35 = .ok (.areturn, 1) := by decide +kernel
theorem dX7_trials_0 : decode cX7_trials 0 = .ok (.aload_n 0, 1) := by decide +kernel
theorem dX7_trials_1 : decode cX7_trials 1 = .ok (.getfield 33, 3) := by decide +kernel
theorem dX7_trials_4 : decode cX7_trials 4 = .ok (.arraylength, 1) := by decide +kernel
theorem dX7_trials_5 : decode cX7_trials 5 = .ok (.iconst 1, 1) := by decide +kernel
theorem dX7_trials_6 : decode cX7_trials 6 = .ok (.isub, 1) := by decide +kernel
theorem dX7_trials_7 : decode cX7_trials 7 = .ok (.istore_n 1, 1) := by decide +kernel
theorem dX7_trials_8 : decode cX7_trials 8 = .ok (.aload_n 0, 1) := by decide +kernel
theorem dX7_trials_9 : decode cX7_trials 9 = .ok (.getfield 33, 3) := by decide +kernel
theorem dX7_trials_12 : decode cX7_trials 12 = .ok (.iconst 0, 1) := by decide +kernel
theorem dX7_trials_13 : decode cX7_trials 13 = .ok (.iload_n 1, 1) := by decide +kernel
theorem dX7_trials_14 : decode cX7_trials 14 = .ok (.invokestatic 38, 3) := by decide +kernel
theorem dX7_trials_17 : decode cX7_trials 17 = .ok (.ifCond .eq 18, 3) := by decide +kernel
theorem dX7_trials_20 : decode cX7_trials 20 = .ok (.iconst 1, 1) := by decide +kernel
theorem dX7_trials_21 : decode cX7_trials 21 = .ok (.aload_n 0, 1) := by decide +kernel
theorem dX7_trials_22 : decode cX7_trials 22 = .ok (.getfield 33, 3) := by decide +kernel
theorem dX7_trials_25 : decode cX7_trials 25 = .ok (.iconst 0, 1) := by decide +kernel
theorem dX7_trials_26 : decode cX7_trials 26 = .ok (.iload_n 1, 1) := by decide +kernel
theorem dX7_trials_27 : decode cX7_trials 27 = .ok (.iconst 0, 1) := by decide +kernel
theorem dX7_trials_28 : decode cX7_trials 28 = .ok (.invokestatic 42, 3) := by decide +kernel
theorem dX7_trials_31 : decode cX7_trials 31 = .ok (.iadd, 1) := by decide +kernel
theorem dX7_trials_32 : decode cX7_trials 32 = .ok (.goto 4, 3) := by decide +kernel
theorem dX7_trials_35 : decode cX7_trials 35 = .ok (.iconst 1, 1) := by decide +kernel
theorem dX7_trials_36 : decode cX7_trials 36 = .ok (.ireturn, 1) := by decide +kernel
theorem dX7_trialsInside_0 : decode cX7_trialsInside 0 = .ok (.iload_n 1, 1) := by decide +kernel
theorem dX7_trialsInside_1 : decode cX7_trialsInside 1 = .ok (.iload_n 2, 1) := by decide +kernel
theorem dX7_trialsInside_2 : decode cX7_trialsInside 2 = .ok (.if_icmp .ge 9, 3) := by decide +kernel
theorem dX7_trialsInside_5 : decode cX7_trialsInside 5 = .ok (.iload_n 3, 1) := by decide +kernel
theorem dX7_trialsInside_6 : decode cX7_trialsInside 6 = .ok (.bipush 40, 2) := by decide +kernel
theorem dX7_trialsInside_8 : decode cX7_trialsInside 8 = .ok (.if_icmp .le 5, 3) := by decide +kernel
theorem dX7_trialsInside_11 : decode cX7_trialsInside 11 = .ok (.iconst 0, 1) := by decide +kernel
theorem dX7_trialsInside_12 : decode cX7_trialsInside 12 = .ok (.ireturn, 1) := by decide +kernel
theorem dX7_trialsInside_13 : decode cX7_trialsInside 13 = .ok (.iload_n 1, 1) := by decide +kernel
theorem dX7_trialsInside_14 : decode cX7_trialsInside 14 = .ok (.iload_n 2, 1) := by decide +kernel
theorem dX7_trialsInside_15 : decode cX7_trialsInside 15 = .ok (.iload_n 1, 1) := by decide +kernel
theorem dX7_trialsInside_16 : decode cX7_trialsInside 16 = .ok (.isub, 1) := by decide +kernel
theorem dX7_trialsInside_17 : decode cX7_trialsInside 17 = .ok (.iconst 2, 1) := by decide +kernel
theorem dX7_trialsInside_18 : decode cX7_trialsInside 18 = .ok (.idiv, 1) := by decide +kernel
theorem dX7_trialsInside_19 : decode cX7_trialsInside 19 = .ok (.iadd, 1) := by decide +kernel
theorem dX7_trialsInside_20 : decode cX7_trialsInside 20 = .ok (.istore 4, 2) := by decide +kernel
theorem dX7_trialsInside_22 : decode cX7_trialsInside 22 = .ok (.iconst 1, 1) := by decide +kernel
theorem dX7_trialsInside_23 : decode cX7_trialsInside 23 = .ok (.istore 5, 2) := by decide +kernel
theorem dX7_trialsInside_25 : decode cX7_trialsInside 25 = .ok (.aload_n 0, 1) := by decide +kernel
theorem dX7_trialsInside_26 : decode cX7_trialsInside 26 = .ok (.iload_n 1, 1) := by decide +kernel
theorem dX7_trialsInside_27 : decode cX7_trialsInside 27 = .ok (.iload 4, 2) := by decide +kernel
theorem dX7_trialsInside_29 : decode cX7_trialsInside 29 = .ok (.invokestatic 38, 3) := by decide +kernel
theorem dX7_trialsInside_32 : decode cX7_trialsInside 32 = .ok (.ifCond .eq 20, 3) := by decide +kernel
theorem dX7_trialsInside_35 : decode cX7_trialsInside 35 = .ok (.iload 5, 2) := by decide +kernel
theorem dX7_trialsInside_37 : decode cX7_trialsInside 37 = .ok (.iconst 1, 1) := by decide +kernel
theorem dX7_trialsInside_38 : decode cX7_trialsInside 38 = .ok (.aload_n 0, 1) := by decide +kernel
theorem dX7_trialsInside_39 : decode cX7_trialsInside 39 = .ok (.iload_n 1, 1) := by decide +kernel
theorem dX7_trialsInside_40 : decode cX7_trialsInside 40 = .ok (.iload 4, 2) := by decide +kernel
theorem dX7_trialsInside_42 : decode cX7_trialsInside 42 = .ok (.iload_n 3, 1) := by decide +kernel
theorem dX7_trialsInside_43 : decode cX7_trialsInside 43 = .ok (.iconst 1, 1) := by decide +kernel
theorem dX7_trialsInside_44 : decode cX7_trialsInside 44 = .ok (.iadd, 1) := by decide +kernel
theorem dX7_trialsInside_45 : decode cX7_trialsInside 45 = .ok (.invokestatic 42, 3) := by decide +kernel
theorem dX7_trialsInside_48 : decode cX7_trialsInside 48 = .ok (.iadd, 1) := by decide +kernel
theorem dX7_trialsInside_49 : decode cX7_trialsInside 49 = .ok (.iadd, 1) := by decide +kernel
theorem dX7_trialsInside_50 : decode cX7_trialsInside 50 = .ok (.istore 5, 2) := by decide +kernel
theorem dX7_trialsInside_52 : decode cX7_trialsInside 52 = .ok (.aload_n 0, 1) := by decide +kernel
theorem dX7_trialsInside_53 : decode cX7_trialsInside 53 = .ok (.iload 4, 2) := by decide +kernel
theorem dX7_trialsInside_55 : decode cX7_trialsInside 55 = .ok (.iconst 1, 1) := by decide +kernel
theorem dX7_trialsInside_56 : decode cX7_trialsInside 56 = .ok (.iadd, 1) := by decide +kernel
theorem dX7_trialsInside_57 : decode cX7_trialsInside 57 = .ok (.iload_n 2, 1) := by decide +kernel
theorem dX7_trialsInside_58 : decode cX7_trialsInside 58 = .ok (.invokestatic 38, 3) := by decide +kernel
theorem dX7_trialsInside_61 : decode cX7_trialsInside 61 = .ok (.ifCond .eq 20, 3) := by decide +kernel
theorem dX7_trialsInside_64 : decode cX7_trialsInside 64 = .ok (.iload 5, 2) := by decide +kernel
theorem dX7_trialsInside_66 : decode cX7_trialsInside 66 = .ok (.aload_n 0, 1) := by decide +kernel
theorem dX7_trialsInside_67 : decode cX7_trialsInside 67 = .ok (.iload 4, 2) := by decide +kernel
theorem dX7_trialsInside_69 : decode cX7_trialsInside 69 = .ok (.iconst 1, 1) := by decide +kernel
theorem dX7_trialsInside_70 : decode cX7_trialsInside 70 = .ok (.iadd, 1) := by decide +kernel
theorem dX7_trialsInside_71 : decode cX7_trialsInside 71 = .ok (.iload_n 2, 1) := by decide +kernel
theorem dX7_trialsInside_72 : decode cX7_trialsInside 72 = .ok (.iload_n 3, 1) := by decide +kernel
theorem dX7_trialsInside_73 : decode cX7_trialsInside 73 = .ok (.iconst 1, 1) := by decide +kernel
theorem dX7_trialsInside_74 : decode cX7_trialsInside 74 = .ok (.iadd, 1) := by decide +kernel
theorem dX7_trialsInside_75 : decode cX7_trialsInside 75 = .ok (.invokestatic 42, 3) := by decide +kernel
theorem dX7_trialsInside_78 : decode cX7_trialsInside 78 = .ok (.iadd, 1) := by decide +kernel
theorem dX7_trialsInside_79 : decode cX7_trialsInside 79 = .ok (.istore 5, 2) := by decide +kernel
theorem dX7_trialsInside_81 : decode cX7_trialsInside 81 = .ok (.iload 5, 2) := by decide +kernel
theorem dX7_trialsInside_83 : decode cX7_trialsInside 83 = .ok (.ireturn, 1) := by decide +kernel
theorem dX7_hasFault_0 : decode cX7_hasFault 0 = .ok (.iconst 0, 1) := by decide +kernel
theorem dX7_hasFault_1 : decode cX7_hasFault 1 = .ok (.iload_n 1, 1) := by decide +kernel
theorem dX7_hasFault_2 : decode cX7_hasFault 2 = .ok (.invokestatic 28, 3) := by decide +kernel
theorem dX7_hasFault_5 : decode cX7_hasFault 5 = .ok (.istore_n 3, 1) := by decide +kernel
theorem dX7_hasFault_6 : decode cX7_hasFault 6 = .ok (.iload_n 3, 1) := by decide +kernel
theorem dX7_hasFault_7 : decode cX7_hasFault 7 = .ok (.iload_n 2, 1) := by decide +kernel
theorem dX7_hasFault_8 : decode cX7_hasFault 8 = .ok (.if_icmp .gt 28, 3) := by decide +kernel
theorem dX7_hasFault_11 : decode cX7_hasFault 11 = .ok (.iload_n 3, 1) := by decide +kernel
theorem dX7_hasFault_12 : decode cX7_hasFault 12 = .ok (.aload_n 0, 1) := by decide +kernel
theorem dX7_hasFault_13 : decode cX7_hasFault 13 = .ok (.arraylength, 1) := by decide +kernel
theorem dX7_hasFault_14 : decode cX7_hasFault 14 = .ok (.if_icmp .ge 22, 3) := by decide +kernel
theorem dX7_hasFault_17 : decode cX7_hasFault 17 = .ok (.aload_n 0, 1) := by decide +kernel
theorem dX7_hasFault_18 : decode cX7_hasFault 18 = .ok (.iload_n 3, 1) := by decide +kernel
theorem dX7_hasFault_19 : decode cX7_hasFault 19 = .ok (.aaload, 1) := by decide +kernel
theorem dX7_hasFault_20 : decode cX7_hasFault 20 = .ok (.getfield 46, 3) := by decide +kernel
theorem dX7_hasFault_23 : decode cX7_hasFault 23 = .ok (.bipush 45, 2) := by decide +kernel
theorem dX7_hasFault_25 : decode cX7_hasFault 25 = .ok (.if_icmp .eq 5, 3) := by decide +kernel
theorem dX7_hasFault_28 : decode cX7_hasFault 28 = .ok (.iconst 1, 1) := by decide +kernel
theorem dX7_hasFault_29 : decode cX7_hasFault 29 = .ok (.ireturn, 1) := by decide +kernel
theorem dX7_hasFault_30 : decode cX7_hasFault 30 = .ok (.iinc 3 1, 3) := by decide +kernel
theorem dX7_hasFault_33 : decode cX7_hasFault 33 = .ok (.goto (-27), 3) := by decide +kernel
theorem dX7_hasFault_36 : decode cX7_hasFault 36 = .ok (.iconst 0, 1) := by decide +kernel
theorem dX7_hasFault_37 : decode cX7_hasFault 37 = .ok (.ireturn, 1) := by decide +kernel
theorem dX8_init_0 : decode cX8_init 0 = .ok (.aload_n 0, 1) := by decide +kernel
theorem dX8_init_1 : decode cX8_init 1 = .ok (.invokespecial 3, 3) := by decide +kernel
theorem dX8_init_4 : decode cX8_init 4 = .ok (.aload_n 0, 1) := by decide +kernel
theorem dX8_init_5 : decode cX8_init 5 = .ok (.iconst 4, 1) := by decide +kernel
theorem dX8_init_6 : decode cX8_init 6 = .ok (.newarray .int, 2) := by decide +kernel
theorem dX8_init_8 : decode cX8_init 8 = .ok (.putfield 9, 3) := by decide +kernel
theorem dX8_init_11 : decode cX8_init 11 = .ok (.aload_n 0, 1) := by decide +kernel
theorem dX8_init_12 : decode cX8_init 12 = .ok (.iconst 4, 1) := by decide +kernel
theorem dX8_init_13 : decode cX8_init 13 = .ok (.newarray .int, 2) := by decide +kernel
theorem dX8_init_15 : decode cX8_init 15 = .ok (.putfield 15, 3) := by decide +kernel
theorem dX8_init_18 : decode cX8_init 18 = .ok (.aload_n 0, 1) := by decide +kernel
theorem dX8_init_19 : decode cX8_init 19 = .ok (.iconst 4, 1) := by decide +kernel
theorem dX8_init_20 : decode cX8_init 20 = .ok (.newarray .int, 2) := by decide +kernel
theorem dX8_init_22 : decode cX8_init 22 = .ok (.putfield 18, 3) := by decide +kernel
theorem dX8_init_25 : decode cX8_init 25 = .ok (.aload_n 0, 1) := by decide +kernel
theorem dX8_init_26 : decode cX8_init 26 = .ok (.iconst 4, 1) := by decide +kernel
theorem dX8_init_27 : decode cX8_init 27 = .ok (.newarray .int, 2) := by decide +kernel
theorem dX8_init_29 : decode cX8_init 29 = .ok (.putfield 21, 3) := by decide +kernel
theorem dX8_init_32 : decode cX8_init 32 = .ok (.aload_n 0, 1) := by decide +kernel
theorem dX8_init_33 : decode cX8_init 33 = .ok (.bipush 61, 2) := by decide +kernel
theorem dX8_init_35 : decode cX8_init 35 = .ok (.newarray .int, 2) := by decide +kernel
theorem dX8_init_37 : decode cX8_init 37 = .ok (.putfield 24, 3) := by decide +kernel
theorem dX8_init_40 : decode cX8_init 40 = .ok (.aload_n 0, 1) := by decide +kernel
theorem dX8_init_41 : decode cX8_init 41 = .ok (.bipush 61, 2) := by decide +kernel
theorem dX8_init_43 : decode cX8_init 43 = .ok (.newarray .int, 2) := by decide +kernel
theorem dX8_init_45 : decode cX8_init 45 = .ok (.putfield 27, 3) := by decide +kernel
theorem dX8_init_48 : decode cX8_init 48 = .ok (.iconst 0, 1) := by decide +kernel
theorem dX8_init_49 : decode cX8_init 49 = .ok (.istore_n 1, 1) := by decide +kernel
theorem dX8_init_50 : decode cX8_init 50 = .ok (.iload_n 1, 1) := by decide +kernel
theorem dX8_init_51 : decode cX8_init 51 = .ok (.bipush 61, 2) := by decide +kernel
theorem dX8_init_53 : decode cX8_init 53 = .ok (.if_icmp .ge 23, 3) := by decide +kernel
theorem dX8_init_56 : decode cX8_init 56 = .ok (.aload_n 0, 1) := by decide +kernel
theorem dX8_init_57 : decode cX8_init 57 = .ok (.getfield 24, 3) := by decide +kernel
theorem dX8_init_60 : decode cX8_init 60 = .ok (.iload_n 1, 1) := by decide +kernel
theorem dX8_init_61 : decode cX8_init 61 = .ok (.iload_n 1, 1) := by decide +kernel
theorem dX8_init_62 : decode cX8_init 62 = .ok (.iastore, 1) := by decide +kernel
theorem dX8_init_63 : decode cX8_init 63 = .ok (.aload_n 0, 1) := by decide +kernel
theorem dX8_init_64 : decode cX8_init 64 = .ok (.getfield 27, 3) := by decide +kernel
theorem dX8_init_67 : decode cX8_init 67 = .ok (.iload_n 1, 1) := by decide +kernel
theorem dX8_init_68 : decode cX8_init 68 = .ok (.iload_n 1, 1) := by decide +kernel
theorem dX8_init_69 : decode cX8_init 69 = .ok (.iastore, 1) := by decide +kernel
theorem dX8_init_70 : decode cX8_init 70 = .ok (.iinc 1 1, 3) := by decide +kernel
theorem dX8_init_73 : decode cX8_init 73 = .ok (.goto (-23), 3) := by decide +kernel
theorem dX8_init_76 : decode cX8_init 76 = .ok (.return_, 1) := by decide +kernel
theorem dX8_addRow_0 : decode cX8_addRow 0 = .ok (.aload_n 0, 1) := by decide +kernel
theorem dX8_addRow_1 : decode cX8_addRow 1 = .ok (.getfield 30, 3) := by decide +kernel
theorem dX8_addRow_4 : decode cX8_addRow 4 = .ok (.ifCond .lt 11, 3) := by decide +kernel
theorem dX8_addRow_7 : decode cX8_addRow 7 = .ok (.aload_n 0, 1) := by decide +kernel
theorem dX8_addRow_8 : decode cX8_addRow 8 = .ok (.getfield 30, 3) := by decide +kernel
theorem dX8_addRow_11 : decode cX8_addRow 11 = .ok (.iconst 4, 1) := by decide +kernel
theorem dX8_addRow_12 : decode cX8_addRow 12 = .ok (.if_icmp .lt 5, 3) := by decide +kernel
theorem dX8_addRow_15 : decode cX8_addRow 15 = .ok (.iconst 0, 1) := by decide +kernel
theorem dX8_addRow_16 : decode cX8_addRow 16 = .ok (.ireturn, 1) := by decide +kernel
theorem dX8_addRow_17 : decode cX8_addRow 17 = .ok (.aload_n 0, 1) := by decide +kernel
theorem dX8_addRow_18 : decode cX8_addRow 18 = .ok (.getfield 9, 3) := by decide +kernel
theorem dX8_addRow_21 : decode cX8_addRow 21 = .ok (.aload_n 0, 1) := by decide +kernel
theorem dX8_addRow_22 : decode cX8_addRow 22 = .ok (.getfield 30, 3) := by decide +kernel
theorem dX8_addRow_25 : decode cX8_addRow 25 = .ok (.iload_n 1, 1) := by decide +kernel
theorem dX8_addRow_26 : decode cX8_addRow 26 = .ok (.iastore, 1) := by decide +kernel
theorem dX8_addRow_27 : decode cX8_addRow 27 = .ok (.aload_n 0, 1) := by decide +kernel
theorem dX8_addRow_28 : decode cX8_addRow 28 = .ok (.getfield 15, 3) := by decide +kernel
theorem dX8_addRow_31 : decode cX8_addRow 31 = .ok (.aload_n 0, 1) := by decide +kernel
theorem dX8_addRow_32 : decode cX8_addRow 32 = .ok (.getfield 30, 3) := by decide +kernel
theorem dX8_addRow_35 : decode cX8_addRow 35 = .ok (.iload_n 2, 1) := by decide +kernel
theorem dX8_addRow_36 : decode cX8_addRow 36 = .ok (.iastore, 1) := by decide +kernel
theorem dX8_addRow_37 : decode cX8_addRow 37 = .ok (.aload_n 0, 1) := by decide +kernel
theorem dX8_addRow_38 : decode cX8_addRow 38 = .ok (.getfield 18, 3) := by decide +kernel
theorem dX8_addRow_41 : decode cX8_addRow 41 = .ok (.aload_n 0, 1) := by decide +kernel
theorem dX8_addRow_42 : decode cX8_addRow 42 = .ok (.getfield 30, 3) := by decide +kernel
theorem dX8_addRow_45 : decode cX8_addRow 45 = .ok (.iload_n 3, 1) := by decide +kernel
theorem dX8_addRow_46 : decode cX8_addRow 46 = .ok (.iastore, 1) := by decide +kernel
theorem dX8_addRow_47 : decode cX8_addRow 47 = .ok (.aload_n 0, 1) := by decide +kernel
theorem dX8_addRow_48 : decode cX8_addRow 48 = .ok (.getfield 21, 3) := by decide +kernel
theorem dX8_addRow_51 : decode cX8_addRow 51 = .ok (.aload_n 0, 1) := by decide +kernel
theorem dX8_addRow_52 : decode cX8_addRow 52 = .ok (.getfield 30, 3) := by decide +kernel
theorem dX8_addRow_55 : decode cX8_addRow 55 = .ok (.iload 4, 2) := by decide +kernel
theorem dX8_addRow_57 : decode cX8_addRow 57 = .ok (.iastore, 1) := by decide +kernel
theorem dX8_addRow_58 : decode cX8_addRow 58 = .ok (.aload_n 0, 1) := by decide +kernel
theorem dX8_addRow_59 : decode cX8_addRow 59 = .ok (.dup, 1) := by decide +kernel
theorem dX8_addRow_60 : decode cX8_addRow 60 = .ok (.getfield 30, 3) := by decide +kernel
theorem dX8_addRow_63 : decode cX8_addRow 63 = .ok (.iconst 1, 1) := by decide +kernel
theorem dX8_addRow_64 : decode cX8_addRow 64 = .ok (.iadd, 1) := by decide +kernel
theorem dX8_addRow_65 : decode cX8_addRow 65 = .ok (.putfield 30, 3) := by decide +kernel
theorem dX8_addRow_68 : decode cX8_addRow 68 = .ok (.iconst 1, 1) := by decide +kernel
theorem dX8_addRow_69 : decode cX8_addRow 69 = .ok (.ireturn, 1) := by decide +kernel
theorem dX8_changePlaces_0 : decode cX8_changePlaces 0 = .ok (.aload_n 0, 1) := by decide +kernel
theorem dX8_changePlaces_1 : decode cX8_changePlaces 1 = .ok (.iload_n 1, 1) := by decide +kernel
theorem dX8_changePlaces_2 : decode cX8_changePlaces 2 = .ok (.invokevirtual 34, 3) := by decide +kernel
theorem dX8_changePlaces_5 : decode cX8_changePlaces 5 = .ok (.istore_n 3, 1) := by decide +kernel
theorem dX8_changePlaces_6 : decode cX8_changePlaces 6 = .ok (.aload_n 0, 1) := by decide +kernel
theorem dX8_changePlaces_7 : decode cX8_changePlaces 7 = .ok (.iload_n 2, 1) := by decide +kernel
theorem dX8_changePlaces_8 : decode cX8_changePlaces 8 = .ok (.invokevirtual 34, 3) := by decide +kernel
theorem dX8_changePlaces_11 : decode cX8_changePlaces 11 = .ok (.istore 4, 2) := by decide +kernel
theorem dX8_changePlaces_13 : decode cX8_changePlaces 13 = .ok (.aload_n 0, 1) := by decide +kernel
theorem dX8_changePlaces_14 : decode cX8_changePlaces 14 = .ok (.iload_n 1, 1) := by decide +kernel
theorem dX8_changePlaces_15 : decode cX8_changePlaces 15 = .ok (.iload 4, 2) := by decide +kernel
theorem dX8_changePlaces_17 : decode cX8_changePlaces 17 = .ok (.invokevirtual 38, 3) := by decide +kernel
theorem dX8_changePlaces_20 : decode cX8_changePlaces 20 = .ok (.aload_n 0, 1) := by decide +kernel
theorem dX8_changePlaces_21 : decode cX8_changePlaces 21 = .ok (.iload_n 2, 1) := by decide +kernel
theorem dX8_changePlaces_22 : decode cX8_changePlaces 22 = .ok (.iload_n 3, 1) := by decide +kernel
theorem dX8_changePlaces_23 : decode cX8_changePlaces 23 = .ok (.invokevirtual 38, 3) := by decide +kernel
theorem dX8_changePlaces_26 : decode cX8_changePlaces 26 = .ok (.return_, 1) := by decide +kernel
theorem dX8_placeOf_0 : decode cX8_placeOf 0 = .ok (.iload_n 1, 1) := by decide +kernel
theorem dX8_placeOf_1 : decode cX8_placeOf 1 = .ok (.ifCond .lt 9, 3) := by decide +kernel
theorem dX8_placeOf_4 : decode cX8_placeOf 4 = .ok (.iload_n 1, 1) := by decide +kernel
theorem dX8_placeOf_5 : decode cX8_placeOf 5 = .ok (.bipush 61, 2) := by decide +kernel
theorem dX8_placeOf_7 : decode cX8_placeOf 7 = .ok (.if_icmp .lt 7, 3) := by decide +kernel
theorem dX8_placeOf_10 : decode cX8_placeOf 10 = .ok (.iconst (-1), 1) := by decide +kernel
theorem dX8_placeOf_11 : decode cX8_placeOf 11 = .ok (.goto 9, 3) := by decide +kernel
theorem dX8_placeOf_14 : decode cX8_placeOf 14 = .ok (.aload_n 0, 1) := by decide +kernel
theorem dX8_placeOf_15 : decode cX8_placeOf 15 = .ok (.getfield 24, 3) := by decide +kernel
theorem dX8_placeOf_18 : decode cX8_placeOf 18 = .ok (.iload_n 1, 1) := by decide +kernel
theorem dX8_placeOf_19 : decode cX8_placeOf 19 = .ok (.iaload, 1) := by decide +kernel
theorem dX8_placeOf_20 : decode cX8_placeOf 20 = .ok (.ireturn, 1) := by decide +kernel
theorem dX8_putPlace_0 : decode cX8_putPlace 0 = .ok (.iload_n 1, 1) := by decide +kernel
theorem dX8_putPlace_1 : decode cX8_putPlace 1 = .ok (.ifCond .lt 33, 3) := by decide +kernel
theorem dX8_putPlace_4 : decode cX8_putPlace 4 = .ok (.iload_n 1, 1) := by decide +kernel
theorem dX8_putPlace_5 : decode cX8_putPlace 5 = .ok (.bipush 61, 2) := by decide +kernel
theorem dX8_putPlace_7 : decode cX8_putPlace 7 = .ok (.if_icmp .ge 27, 3) := by decide +kernel
theorem dX8_putPlace_10 : decode cX8_putPlace 10 = .ok (.iload_n 2, 1) := by decide +kernel
theorem dX8_putPlace_11 : decode cX8_putPlace 11 = .ok (.ifCond .lt 23, 3) := by decide +kernel
theorem dX8_putPlace_14 : decode cX8_putPlace 14 = .ok (.iload_n 2, 1) := by decide +kernel
theorem dX8_putPlace_15 : decode cX8_putPlace 15 = .ok (.bipush 61, 2) := by decide +kernel
theorem dX8_putPlace_17 : decode cX8_putPlace 17 = .ok (.if_icmp .ge 17, 3) := by decide +kernel
theorem dX8_putPlace_20 : decode cX8_putPlace 20 = .ok (.aload_n 0, 1) := by decide +kernel
theorem dX8_putPlace_21 : decode cX8_putPlace 21 = .ok (.getfield 24, 3) := by decide +kernel
theorem dX8_putPlace_24 : decode cX8_putPlace 24 = .ok (.iload_n 1, 1) := by decide +kernel
theorem dX8_putPlace_25 : decode cX8_putPlace 25 = .ok (.iload_n 2, 1) := by decide +kernel
theorem dX8_putPlace_26 : decode cX8_putPlace 26 = .ok (.iastore, 1) := by decide +kernel
theorem dX8_putPlace_27 : decode cX8_putPlace 27 = .ok (.aload_n 0, 1) := by decide +kernel
theorem dX8_putPlace_28 : decode cX8_putPlace 28 = .ok (.getfield 27, 3) := by decide +kernel
theorem dX8_putPlace_31 : decode cX8_putPlace 31 = .ok (.iload_n 2, 1) := by decide +kernel
theorem dX8_putPlace_32 : decode cX8_putPlace 32 = .ok (.iload_n 1, 1) := by decide +kernel
theorem dX8_putPlace_33 : decode cX8_putPlace 33 = .ok (.iastore, 1) := by decide +kernel
theorem dX8_putPlace_34 : decode cX8_putPlace 34 = .ok (.return_, 1) := by decide +kernel
theorem dX8_displaced_0 : decode cX8_displaced 0 = .ok (.iconst 0, 1) := by decide +kernel
theorem dX8_displaced_1 : decode cX8_displaced 1 = .ok (.istore_n 1, 1) := by decide +kernel
theorem dX8_displaced_2 : decode cX8_displaced 2 = .ok (.iconst 0, 1) := by decide +kernel
theorem dX8_displaced_3 : decode cX8_displaced 3 = .ok (.istore_n 2, 1) := by decide +kernel
theorem dX8_displaced_4 : decode cX8_displaced 4 = .ok (.iload_n 2, 1) := by decide +kernel
theorem dX8_displaced_5 : decode cX8_displaced 5 = .ok (.bipush 61, 2) := by decide +kernel
theorem dX8_displaced_7 : decode cX8_displaced 7 = .ok (.if_icmp .ge 22, 3) := by decide +kernel
theorem dX8_displaced_10 : decode cX8_displaced 10 = .ok (.aload_n 0, 1) := by decide +kernel
theorem dX8_displaced_11 : decode cX8_displaced 11 = .ok (.getfield 24, 3) := by decide +kernel
theorem dX8_displaced_14 : decode cX8_displaced 14 = .ok (.iload_n 2, 1) := by decide +kernel
theorem dX8_displaced_15 : decode cX8_displaced 15 = .ok (.iaload, 1) := by decide +kernel
theorem dX8_displaced_16 : decode cX8_displaced 16 = .ok (.iload_n 2, 1) := by decide +kernel
theorem dX8_displaced_17 : decode cX8_displaced 17 = .ok (.if_icmp .eq 6, 3) := by decide +kernel
theorem dX8_displaced_20 : decode cX8_displaced 20 = .ok (.iinc 1 1, 3) := by decide +kernel
theorem dX8_displaced_23 : decode cX8_displaced 23 = .ok (.iinc 2 1, 3) := by decide +kernel
theorem dX8_displaced_26 : decode cX8_displaced 26 = .ok (.goto (-22), 3) := by decide +kernel
theorem dX8_displaced_29 : decode cX8_displaced 29 = .ok (.iload_n 1, 1) := by decide +kernel
theorem dX8_displaced_30 : decode cX8_displaced 30 = .ok (.ireturn, 1) := by decide +kernel
theorem dX8_hasRow_0 : decode cX8_hasRow 0 = .ok (.iload_n 1, 1) := by decide +kernel
theorem dX8_hasRow_1 : decode cX8_hasRow 1 = .ok (.ifCond .lt 20, 3) := by decide +kernel
theorem dX8_hasRow_4 : decode cX8_hasRow 4 = .ok (.iload_n 1, 1) := by decide +kernel
theorem dX8_hasRow_5 : decode cX8_hasRow 5 = .ok (.aload_n 0, 1) := by decide +kernel
theorem dX8_hasRow_6 : decode cX8_hasRow 6 = .ok (.getfield 30, 3) := by decide +kernel
theorem dX8_hasRow_9 : decode cX8_hasRow 9 = .ok (.if_icmp .ge 12, 3) := by decide +kernel
theorem dX8_hasRow_12 : decode cX8_hasRow 12 = .ok (.iload_n 1, 1) := by decide +kernel
theorem dX8_hasRow_13 : decode cX8_hasRow 13 = .ok (.iconst 4, 1) := by decide +kernel
theorem dX8_hasRow_14 : decode cX8_hasRow 14 = .ok (.if_icmp .ge 7, 3) := by decide +kernel
theorem dX8_hasRow_17 : decode cX8_hasRow 17 = .ok (.iconst 1, 1) := by decide +kernel
theorem dX8_hasRow_18 : decode cX8_hasRow 18 = .ok (.goto 4, 3) := by decide +kernel
theorem dX8_hasRow_21 : decode cX8_hasRow 21 = .ok (.iconst 0, 1) := by decide +kernel
theorem dX8_hasRow_22 : decode cX8_hasRow 22 = .ok (.ireturn, 1) := by decide +kernel
theorem dX8_rankOf_0 : decode cX8_rankOf 0 = .ok (.aload_n 0, 1) := by decide +kernel
theorem dX8_rankOf_1 : decode cX8_rankOf 1 = .ok (.iload_n 1, 1) := by decide +kernel
theorem dX8_rankOf_2 : decode cX8_rankOf 2 = .ok (.invokevirtual 42, 3) := by decide +kernel
theorem dX8_rankOf_5 : decode cX8_rankOf 5 = .ok (.ifCond .eq 12, 3) := by decide +kernel
theorem dX8_rankOf_8 : decode cX8_rankOf 8 = .ok (.aload_n 0, 1) := by decide +kernel
theorem dX8_rankOf_9 : decode cX8_rankOf 9 = .ok (.getfield 9, 3) := by decide +kernel
theorem dX8_rankOf_12 : decode cX8_rankOf 12 = .ok (.iload_n 1, 1) := by decide +kernel
theorem dX8_rankOf_13 : decode cX8_rankOf 13 = .ok (.iaload, 1) := by decide +kernel
theorem dX8_rankOf_14 : decode cX8_rankOf 14 = .ok (.goto 4, 3) := by decide +kernel
theorem dX8_rankOf_17 : decode cX8_rankOf 17 = .ok (.iconst (-1), 1) := by decide +kernel
theorem dX8_rankOf_18 : decode cX8_rankOf 18 = .ok (.ireturn, 1) := by decide +kernel
theorem dX8_noteOf_0 : decode cX8_noteOf 0 = .ok (.aload_n 0, 1) := by decide +kernel
theorem dX8_noteOf_1 : decode cX8_noteOf 1 = .ok (.iload_n 2, 1) := by decide +kernel
theorem dX8_noteOf_2 : decode cX8_noteOf 2 = .ok (.invokevirtual 34, 3) := by decide +kernel
theorem dX8_noteOf_5 : decode cX8_noteOf 5 = .ok (.istore_n 3, 1) := by decide +kernel
theorem dX8_noteOf_6 : decode cX8_noteOf 6 = .ok (.aload_n 0, 1) := by decide +kernel
theorem dX8_noteOf_7 : decode cX8_noteOf 7 = .ok (.iload_n 1, 1) := by decide +kernel
theorem dX8_noteOf_8 : decode cX8_noteOf 8 = .ok (.invokevirtual 42, 3) := by decide +kernel
theorem dX8_noteOf_11 : decode cX8_noteOf 11 = .ok (.ifCond .eq 27, 3) := by decide +kernel
theorem dX8_noteOf_14 : decode cX8_noteOf 14 = .ok (.iload_n 3, 1) := by decide +kernel
theorem dX8_noteOf_15 : decode cX8_noteOf 15 = .ok (.aload_n 0, 1) := by decide +kernel
theorem dX8_noteOf_16 : decode cX8_noteOf 16 = .ok (.getfield 18, 3) := by decide +kernel
theorem dX8_noteOf_19 : decode cX8_noteOf 19 = .ok (.iload_n 1, 1) := by decide +kernel
theorem dX8_noteOf_20 : decode cX8_noteOf 20 = .ok (.iaload, 1) := by decide +kernel
theorem dX8_noteOf_21 : decode cX8_noteOf 21 = .ok (.if_icmp .lt 17, 3) := by decide +kernel
theorem dX8_noteOf_24 : decode cX8_noteOf 24 = .ok (.iload_n 3, 1) := by decide +kernel
theorem dX8_noteOf_25 : decode cX8_noteOf 25 = .ok (.aload_n 0, 1) := by decide +kernel
theorem dX8_noteOf_26 : decode cX8_noteOf 26 = .ok (.getfield 21, 3) := by decide +kernel
theorem dX8_noteOf_29 : decode cX8_noteOf 29 = .ok (.iload_n 1, 1) := by decide +kernel
theorem dX8_noteOf_30 : decode cX8_noteOf 30 = .ok (.iaload, 1) := by decide +kernel
theorem dX8_noteOf_31 : decode cX8_noteOf 31 = .ok (.if_icmp .gt 7, 3) := by decide +kernel
theorem dX8_noteOf_34 : decode cX8_noteOf 34 = .ok (.iconst 1, 1) := by decide +kernel
theorem dX8_noteOf_35 : decode cX8_noteOf 35 = .ok (.goto 4, 3) := by decide +kernel
theorem dX8_noteOf_38 : decode cX8_noteOf 38 = .ok (.iconst 0, 1) := by decide +kernel
theorem dX8_noteOf_39 : decode cX8_noteOf 39 = .ok (.istore 4, 2) := by decide +kernel
theorem dX8_noteOf_41 : decode cX8_noteOf 41 = .ok (.iload 4, 2) := by decide +kernel
theorem dX8_noteOf_43 : decode cX8_noteOf 43 = .ok (.ifCond .eq 17, 3) := by decide +kernel
theorem dX8_noteOf_46 : decode cX8_noteOf 46 = .ok (.bipush 36, 2) := by decide +kernel
theorem dX8_noteOf_48 : decode cX8_noteOf 48 = .ok (.iload_n 3, 1) := by decide +kernel
theorem dX8_noteOf_49 : decode cX8_noteOf 49 = .ok (.iadd, 1) := by decide +kernel
theorem dX8_noteOf_50 : decode cX8_noteOf 50 = .ok (.aload_n 0, 1) := by decide +kernel
theorem dX8_noteOf_51 : decode cX8_noteOf 51 = .ok (.getfield 15, 3) := by decide +kernel
theorem dX8_noteOf_54 : decode cX8_noteOf 54 = .ok (.iload_n 1, 1) := by decide +kernel
theorem dX8_noteOf_55 : decode cX8_noteOf 55 = .ok (.iaload, 1) := by decide +kernel
theorem dX8_noteOf_56 : decode cX8_noteOf 56 = .ok (.iadd, 1) := by decide +kernel
theorem dX8_noteOf_57 : decode cX8_noteOf 57 = .ok (.goto 4, 3) := by decide +kernel
theorem dX8_noteOf_60 : decode cX8_noteOf 60 = .ok (.iconst (-1), 1) := by decide +kernel
theorem dX8_noteOf_61 : decode cX8_noteOf 61 = .ok (.ireturn, 1) := by decide +kernel
theorem dX8_keyOf_0 : decode cX8_keyOf 0 = .ok (.aload_n 0, 1) := by decide +kernel
theorem dX8_keyOf_1 : decode cX8_keyOf 1 = .ok (.iload_n 1, 1) := by decide +kernel
theorem dX8_keyOf_2 : decode cX8_keyOf 2 = .ok (.invokevirtual 42, 3) := by decide +kernel
theorem dX8_keyOf_5 : decode cX8_keyOf 5 = .ok (.ifCond .ne 5, 3) := by decide +kernel
theorem dX8_keyOf_8 : decode cX8_keyOf 8 = .ok (.iconst (-1), 1) := by decide +kernel
theorem dX8_keyOf_9 : decode cX8_keyOf 9 = .ok (.ireturn, 1) := by decide +kernel
theorem dX8_keyOf_10 : decode cX8_keyOf 10 = .ok (.iload_n 2, 1) := by decide +kernel
theorem dX8_keyOf_11 : decode cX8_keyOf 11 = .ok (.bipush 36, 2) := by decide +kernel
theorem dX8_keyOf_13 : decode cX8_keyOf 13 = .ok (.isub, 1) := by decide +kernel
theorem dX8_keyOf_14 : decode cX8_keyOf 14 = .ok (.aload_n 0, 1) := by decide +kernel
theorem dX8_keyOf_15 : decode cX8_keyOf 15 = .ok (.getfield 15, 3) := by decide +kernel
theorem dX8_keyOf_18 : decode cX8_keyOf 18 = .ok (.iload_n 1, 1) := by decide +kernel
theorem dX8_keyOf_19 : decode cX8_keyOf 19 = .ok (.iaload, 1) := by decide +kernel
theorem dX8_keyOf_20 : decode cX8_keyOf 20 = .ok (.isub, 1) := by decide +kernel
theorem dX8_keyOf_21 : decode cX8_keyOf 21 = .ok (.istore_n 3, 1) := by decide +kernel
theorem dX8_keyOf_22 : decode cX8_keyOf 22 = .ok (.iload_n 3, 1) := by decide +kernel
theorem dX8_keyOf_23 : decode cX8_keyOf 23 = .ok (.aload_n 0, 1) := by decide +kernel
theorem dX8_keyOf_24 : decode cX8_keyOf 24 = .ok (.getfield 18, 3) := by decide +kernel
theorem dX8_keyOf_27 : decode cX8_keyOf 27 = .ok (.iload_n 1, 1) := by decide +kernel
theorem dX8_keyOf_28 : decode cX8_keyOf 28 = .ok (.iaload, 1) := by decide +kernel
theorem dX8_keyOf_29 : decode cX8_keyOf 29 = .ok (.if_icmp .lt 17, 3) := by decide +kernel
theorem dX8_keyOf_32 : decode cX8_keyOf 32 = .ok (.iload_n 3, 1) := by decide +kernel
theorem dX8_keyOf_33 : decode cX8_keyOf 33 = .ok (.aload_n 0, 1) := by decide +kernel
theorem dX8_keyOf_34 : decode cX8_keyOf 34 = .ok (.getfield 21, 3) := by decide +kernel
theorem dX8_keyOf_37 : decode cX8_keyOf 37 = .ok (.iload_n 1, 1) := by decide +kernel
theorem dX8_keyOf_38 : decode cX8_keyOf 38 = .ok (.iaload, 1) := by decide +kernel
theorem dX8_keyOf_39 : decode cX8_keyOf 39 = .ok (.if_icmp .gt 7, 3) := by decide +kernel
theorem dX8_keyOf_42 : decode cX8_keyOf 42 = .ok (.iconst 1, 1) := by decide +kernel
theorem dX8_keyOf_43 : decode cX8_keyOf 43 = .ok (.goto 4, 3) := by decide +kernel
theorem dX8_keyOf_46 : decode cX8_keyOf 46 = .ok (.iconst 0, 1) := by decide +kernel
theorem dX8_keyOf_47 : decode cX8_keyOf 47 = .ok (.istore 4, 2) := by decide +kernel
theorem dX8_keyOf_49 : decode cX8_keyOf 49 = .ok (.iload 4, 2) := by decide +kernel
theorem dX8_keyOf_51 : decode cX8_keyOf 51 = .ok (.ifCond .eq 22, 3) := by decide +kernel
theorem dX8_keyOf_54 : decode cX8_keyOf 54 = .ok (.iload_n 3, 1) := by decide +kernel
theorem dX8_keyOf_55 : decode cX8_keyOf 55 = .ok (.ifCond .lt 18, 3) := by decide +kernel
theorem dX8_keyOf_58 : decode cX8_keyOf 58 = .ok (.iload_n 3, 1) := by decide +kernel
theorem dX8_keyOf_59 : decode cX8_keyOf 59 = .ok (.bipush 61, 2) := by decide +kernel
theorem dX8_keyOf_61 : decode cX8_keyOf 61 = .ok (.if_icmp .ge 12, 3) := by decide +kernel
theorem dX8_keyOf_64 : decode cX8_keyOf 64 = .ok (.aload_n 0, 1) := by decide +kernel
theorem dX8_keyOf_65 : decode cX8_keyOf 65 = .ok (.getfield 27, 3) := by decide +kernel
theorem dX8_keyOf_68 : decode cX8_keyOf 68 = .ok (.iload_n 3, 1) := by decide +kernel
theorem dX8_keyOf_69 : decode cX8_keyOf 69 = .ok (.iaload, 1) := by decide +kernel
theorem dX8_keyOf_70 : decode cX8_keyOf 70 = .ok (.goto 4, 3) := by decide +kernel
theorem dX8_keyOf_73 : decode cX8_keyOf 73 = .ok (.iconst (-1), 1) := by decide +kernel
theorem dX8_keyOf_74 : decode cX8_keyOf 74 = .ok (.ireturn, 1) := by decide +kernel
theorem dX9_init_0 : decode cX9_init 0 = .ok (.aload_n 0, 1) := by decide +kernel
theorem dX9_init_1 : decode cX9_init 1 = .ok (.invokespecial 3, 3) := by decide +kernel
theorem dX9_init_4 : decode cX9_init 4 = .ok (.aload_n 0, 1) := by decide +kernel
theorem dX9_init_5 : decode cX9_init 5 = .ok (.bipush 45, 2) := by decide +kernel
theorem dX9_init_7 : decode cX9_init 7 = .ok (.putfield 9, 3) := by decide +kernel
theorem dX9_init_10 : decode cX9_init 10 = .ok (.aload_n 0, 1) := by decide +kernel
theorem dX9_init_11 : decode cX9_init 11 = .ok (.bipush 45, 2) := by decide +kernel
theorem dX9_init_13 : decode cX9_init 13 = .ok (.putfield 15, 3) := by decide +kernel
theorem dX9_init_16 : decode cX9_init 16 = .ok (.aload_n 0, 1) := by decide +kernel
theorem dX9_init_17 : decode cX9_init 17 = .ok (.sipush 256, 3) := by decide +kernel
theorem dX9_init_20 : decode cX9_init 20 = .ok (.newarray .int, 2) := by decide +kernel
theorem dX9_init_22 : decode cX9_init 22 = .ok (.putfield 18, 3) := by decide +kernel
theorem dX9_init_25 : decode cX9_init 25 = .ok (.return_, 1) := by decide +kernel
theorem dX9_start_0 : decode cX9_start 0 = .ok (.aload_n 0, 1) := by decide +kernel
theorem dX9_start_1 : decode cX9_start 1 = .ok (.iload_n 1, 1) := by decide +kernel
theorem dX9_start_2 : decode cX9_start 2 = .ok (.putfield 9, 3) := by decide +kernel
theorem dX9_start_5 : decode cX9_start 5 = .ok (.aload_n 0, 1) := by decide +kernel
theorem dX9_start_6 : decode cX9_start 6 = .ok (.iload_n 1, 1) := by decide +kernel
theorem dX9_start_7 : decode cX9_start 7 = .ok (.putfield 15, 3) := by decide +kernel
theorem dX9_start_10 : decode cX9_start 10 = .ok (.aload_n 0, 1) := by decide +kernel
theorem dX9_start_11 : decode cX9_start 11 = .ok (.iconst 0, 1) := by decide +kernel
theorem dX9_start_12 : decode cX9_start 12 = .ok (.putfield 22, 3) := by decide +kernel
theorem dX9_start_15 : decode cX9_start 15 = .ok (.aload_n 0, 1) := by decide +kernel
theorem dX9_start_16 : decode cX9_start 16 = .ok (.iload_n 2, 1) := by decide +kernel
theorem dX9_start_17 : decode cX9_start 17 = .ok (.putfield 26, 3) := by decide +kernel
theorem dX9_start_20 : decode cX9_start 20 = .ok (.return_, 1) := by decide +kernel
theorem dX9_keepKey_0 : decode cX9_keepKey 0 = .ok (.aload_n 0, 1) := by decide +kernel
theorem dX9_keepKey_1 : decode cX9_keepKey 1 = .ok (.getfield 9, 3) := by decide +kernel
theorem dX9_keepKey_4 : decode cX9_keepKey 4 = .ok (.bipush 107, 2) := by decide +kernel
theorem dX9_keepKey_6 : decode cX9_keepKey 6 = .ok (.if_icmp .ne 17, 3) := by decide +kernel
theorem dX9_keepKey_9 : decode cX9_keepKey 9 = .ok (.aload_n 0, 1) := by decide +kernel
theorem dX9_keepKey_10 : decode cX9_keepKey 10 = .ok (.iload_n 1, 1) := by decide +kernel
theorem dX9_keepKey_11 : decode cX9_keepKey 11 = .ok (.sipush 128, 3) := by decide +kernel
theorem dX9_keepKey_14 : decode cX9_keepKey 14 = .ok (.imul, 1) := by decide +kernel
theorem dX9_keepKey_15 : decode cX9_keepKey 15 = .ok (.iload_n 2, 1) := by decide +kernel
theorem dX9_keepKey_16 : decode cX9_keepKey 16 = .ok (.iadd, 1) := by decide +kernel
theorem dX9_keepKey_17 : decode cX9_keepKey 17 = .ok (.iload_n 3, 1) := by decide +kernel
theorem dX9_keepKey_18 : decode cX9_keepKey 18 = .ok (.iload 4, 2) := by decide +kernel
theorem dX9_keepKey_20 : decode cX9_keepKey 20 = .ok (.invokevirtual 29, 3) := by decide +kernel
theorem dX9_keepKey_23 : decode cX9_keepKey 23 = .ok (.return_, 1) := by decide +kernel
theorem dX9_keepPipe_0 : decode cX9_keepPipe 0 = .ok (.aload_n 0, 1) := by decide +kernel
theorem dX9_keepPipe_1 : decode cX9_keepPipe 1 = .ok (.getfield 9, 3) := by decide +kernel
theorem dX9_keepPipe_4 : decode cX9_keepPipe 4 = .ok (.bipush 114, 2) := by decide +kernel
theorem dX9_keepPipe_6 : decode cX9_keepPipe 6 = .ok (.if_icmp .ne 17, 3) := by decide +kernel
theorem dX9_keepPipe_9 : decode cX9_keepPipe 9 = .ok (.aload_n 0, 1) := by decide +kernel
theorem dX9_keepPipe_10 : decode cX9_keepPipe 10 = .ok (.iload_n 1, 1) := by decide +kernel
theorem dX9_keepPipe_11 : decode cX9_keepPipe 11 = .ok (.sipush 128, 3) := by decide +kernel
theorem dX9_keepPipe_14 : decode cX9_keepPipe 14 = .ok (.imul, 1) := by decide +kernel
theorem dX9_keepPipe_15 : decode cX9_keepPipe 15 = .ok (.iload_n 2, 1) := by decide +kernel
theorem dX9_keepPipe_16 : decode cX9_keepPipe 16 = .ok (.iadd, 1) := by decide +kernel
theorem dX9_keepPipe_17 : decode cX9_keepPipe 17 = .ok (.iload_n 3, 1) := by decide +kernel
theorem dX9_keepPipe_18 : decode cX9_keepPipe 18 = .ok (.iload 4, 2) := by decide +kernel
theorem dX9_keepPipe_20 : decode cX9_keepPipe 20 = .ok (.invokevirtual 29, 3) := by decide +kernel
theorem dX9_keepPipe_23 : decode cX9_keepPipe 23 = .ok (.return_, 1) := by decide +kernel
theorem dX9_keepEntry_0 : decode cX9_keepEntry 0 = .ok (.aload_n 0, 1) := by decide +kernel
theorem dX9_keepEntry_1 : decode cX9_keepEntry 1 = .ok (.getfield 22, 3) := by decide +kernel
theorem dX9_keepEntry_4 : decode cX9_keepEntry 4 = .ok (.ldc 33, 2) := by decide +kernel
theorem dX9_keepEntry_6 : decode cX9_keepEntry 6 = .ok (.if_icmp .lt 4, 3) := by decide +kernel
theorem dX9_keepEntry_9 : decode cX9_keepEntry 9 = .ok (.return_, 1) := by decide +kernel
theorem dX9_keepEntry_10 : decode cX9_keepEntry 10 = .ok (.aload_n 0, 1) := by decide +kernel
theorem dX9_keepEntry_11 : decode cX9_keepEntry 11 = .ok (.getfield 22, 3) := by decide +kernel
theorem dX9_keepEntry_14 : decode cX9_keepEntry 14 = .ok (.aload_n 0, 1) := by decide +kernel
theorem dX9_keepEntry_15 : decode cX9_keepEntry 15 = .ok (.getfield 18, 3) := by decide +kernel
theorem dX9_keepEntry_18 : decode cX9_keepEntry 18 = .ok (.arraylength, 1) := by decide +kernel
theorem dX9_keepEntry_19 : decode cX9_keepEntry 19 = .ok (.if_icmp .lt 21, 3) := by decide +kernel
theorem dX9_keepEntry_22 : decode cX9_keepEntry 22 = .ok (.aload_n 0, 1) := by decide +kernel
theorem dX9_keepEntry_23 : decode cX9_keepEntry 23 = .ok (.aload_n 0, 1) := by decide +kernel
theorem dX9_keepEntry_24 : decode cX9_keepEntry 24 = .ok (.getfield 18, 3) := by decide +kernel
theorem dX9_keepEntry_27 : decode cX9_keepEntry 27 = .ok (.iconst 2, 1) := by decide +kernel
theorem dX9_keepEntry_28 : decode cX9_keepEntry 28 = .ok (.aload_n 0, 1) := by decide +kernel
theorem dX9_keepEntry_29 : decode cX9_keepEntry 29 = .ok (.getfield 18, 3) := by decide +kernel
theorem dX9_keepEntry_32 : decode cX9_keepEntry 32 = .ok (.arraylength, 1) := by decide +kernel
theorem dX9_keepEntry_33 : decode cX9_keepEntry 33 = .ok (.imul, 1) := by decide +kernel
theorem dX9_keepEntry_34 : decode cX9_keepEntry 34 = .ok (.invokestatic 34, 3) := by decide +kernel
theorem dX9_keepEntry_37 : decode cX9_keepEntry 37 = .ok (.putfield 18, 3) := by decide +kernel
theorem dX9_keepEntry_40 : decode cX9_keepEntry 40 = .ok (.aload_n 0, 1) := by decide +kernel
theorem dX9_keepEntry_41 : decode cX9_keepEntry 41 = .ok (.getfield 18, 3) := by decide +kernel
theorem dX9_keepEntry_44 : decode cX9_keepEntry 44 = .ok (.aload_n 0, 1) := by decide +kernel
theorem dX9_keepEntry_45 : decode cX9_keepEntry 45 = .ok (.getfield 22, 3) := by decide +kernel
theorem dX9_keepEntry_48 : decode cX9_keepEntry 48 = .ok (.iload_n 3, 1) := by decide +kernel
theorem dX9_keepEntry_49 : decode cX9_keepEntry 49 = .ok (.aload_n 0, 1) := by decide +kernel
theorem dX9_keepEntry_50 : decode cX9_keepEntry 50 = .ok (.getfield 26, 3) := by decide +kernel
theorem dX9_keepEntry_53 : decode cX9_keepEntry 53 = .ok (.isub, 1) := by decide +kernel
theorem dX9_keepEntry_54 : decode cX9_keepEntry 54 = .ok (.sipush 1280, 3) := by decide +kernel
theorem dX9_keepEntry_57 : decode cX9_keepEntry 57 = .ok (.imul, 1) := by decide +kernel
theorem dX9_keepEntry_58 : decode cX9_keepEntry 58 = .ok (.iload_n 1, 1) := by decide +kernel
theorem dX9_keepEntry_59 : decode cX9_keepEntry 59 = .ok (.iadd, 1) := by decide +kernel
theorem dX9_keepEntry_60 : decode cX9_keepEntry 60 = .ok (.iconst 2, 1) := by decide +kernel
theorem dX9_keepEntry_61 : decode cX9_keepEntry 61 = .ok (.imul, 1) := by decide +kernel
theorem dX9_keepEntry_62 : decode cX9_keepEntry 62 = .ok (.iload_n 2, 1) := by decide +kernel
theorem dX9_keepEntry_63 : decode cX9_keepEntry 63 = .ok (.ifCond .eq 7, 3) := by decide +kernel
theorem dX9_keepEntry_66 : decode cX9_keepEntry 66 = .ok (.iconst 1, 1) := by decide +kernel
theorem dX9_keepEntry_67 : decode cX9_keepEntry 67 = .ok (.goto 4, 3) := by decide +kernel
theorem dX9_keepEntry_70 : decode cX9_keepEntry 70 = .ok (.iconst 0, 1) := by decide +kernel
theorem dX9_keepEntry_71 : decode cX9_keepEntry 71 = .ok (.iadd, 1) := by decide +kernel
theorem dX9_keepEntry_72 : decode cX9_keepEntry 72 = .ok (.iastore, 1) := by decide +kernel
theorem dX9_keepEntry_73 : decode cX9_keepEntry 73 = .ok (.aload_n 0, 1) := by decide +kernel
theorem dX9_keepEntry_74 : decode cX9_keepEntry 74 = .ok (.dup, 1) := by decide +kernel
theorem dX9_keepEntry_75 : decode cX9_keepEntry 75 = .ok (.getfield 22, 3) := by decide +kernel
theorem dX9_keepEntry_78 : decode cX9_keepEntry 78 = .ok (.iconst 1, 1) := by decide +kernel
theorem dX9_keepEntry_79 : decode cX9_keepEntry 79 = .ok (.iadd, 1) := by decide +kernel
theorem dX9_keepEntry_80 : decode cX9_keepEntry 80 = .ok (.putfield 22, 3) := by decide +kernel
theorem dX9_keepEntry_83 : decode cX9_keepEntry 83 = .ok (.return_, 1) := by decide +kernel
theorem dX9_entryAt_0 : decode cX9_entryAt 0 = .ok (.iload_n 1, 1) := by decide +kernel
theorem dX9_entryAt_1 : decode cX9_entryAt 1 = .ok (.ifCond .lt 20, 3) := by decide +kernel
theorem dX9_entryAt_4 : decode cX9_entryAt 4 = .ok (.iload_n 1, 1) := by decide +kernel
theorem dX9_entryAt_5 : decode cX9_entryAt 5 = .ok (.aload_n 0, 1) := by decide +kernel
theorem dX9_entryAt_6 : decode cX9_entryAt 6 = .ok (.getfield 22, 3) := by decide +kernel
theorem dX9_entryAt_9 : decode cX9_entryAt 9 = .ok (.if_icmp .ge 12, 3) := by decide +kernel
theorem dX9_entryAt_12 : decode cX9_entryAt 12 = .ok (.iload_n 1, 1) := by decide +kernel
theorem dX9_entryAt_13 : decode cX9_entryAt 13 = .ok (.aload_n 0, 1) := by decide +kernel
theorem dX9_entryAt_14 : decode cX9_entryAt 14 = .ok (.getfield 18, 3) := by decide +kernel
theorem dX9_entryAt_17 : decode cX9_entryAt 17 = .ok (.arraylength, 1) := by decide +kernel
theorem dX9_entryAt_18 : decode cX9_entryAt 18 = .ok (.if_icmp .lt 7, 3) := by decide +kernel
theorem dX9_entryAt_21 : decode cX9_entryAt 21 = .ok (.iconst 0, 1) := by decide +kernel
theorem dX9_entryAt_22 : decode cX9_entryAt 22 = .ok (.goto 9, 3) := by decide +kernel
theorem dX9_entryAt_25 : decode cX9_entryAt 25 = .ok (.aload_n 0, 1) := by decide +kernel
theorem dX9_entryAt_26 : decode cX9_entryAt 26 = .ok (.getfield 18, 3) := by decide +kernel
theorem dX9_entryAt_29 : decode cX9_entryAt 29 = .ok (.iload_n 1, 1) := by decide +kernel
theorem dX9_entryAt_30 : decode cX9_entryAt 30 = .ok (.iaload, 1) := by decide +kernel
theorem dX9_entryAt_31 : decode cX9_entryAt 31 = .ok (.ireturn, 1) := by decide +kernel
theorem dX9_highCodeAt_0 : decode cX9_highCodeAt 0 = .ok (.aload_n 0, 1) := by decide +kernel
theorem dX9_highCodeAt_1 : decode cX9_highCodeAt 1 = .ok (.iload_n 1, 1) := by decide +kernel
theorem dX9_highCodeAt_2 : decode cX9_highCodeAt 2 = .ok (.invokevirtual 40, 3) := by decide +kernel
theorem dX9_highCodeAt_5 : decode cX9_highCodeAt 5 = .ok (.iconst 2, 1) := by decide +kernel
theorem dX9_highCodeAt_6 : decode cX9_highCodeAt 6 = .ok (.idiv, 1) := by decide +kernel
theorem dX9_highCodeAt_7 : decode cX9_highCodeAt 7 = .ok (.sipush 1280, 3) := by decide +kernel
theorem dX9_highCodeAt_10 : decode cX9_highCodeAt 10 = .ok (.irem, 1) := by decide +kernel
theorem dX9_highCodeAt_11 : decode cX9_highCodeAt 11 = .ok (.sipush 128, 3) := by decide +kernel
theorem dX9_highCodeAt_14 : decode cX9_highCodeAt 14 = .ok (.idiv, 1) := by decide +kernel
theorem dX9_highCodeAt_15 : decode cX9_highCodeAt 15 = .ok (.ireturn, 1) := by decide +kernel
theorem dX9_lowCodeAt_0 : decode cX9_lowCodeAt 0 = .ok (.aload_n 0, 1) := by decide +kernel
theorem dX9_lowCodeAt_1 : decode cX9_lowCodeAt 1 = .ok (.iload_n 1, 1) := by decide +kernel
theorem dX9_lowCodeAt_2 : decode cX9_lowCodeAt 2 = .ok (.invokevirtual 40, 3) := by decide +kernel
theorem dX9_lowCodeAt_5 : decode cX9_lowCodeAt 5 = .ok (.iconst 2, 1) := by decide +kernel
theorem dX9_lowCodeAt_6 : decode cX9_lowCodeAt 6 = .ok (.idiv, 1) := by decide +kernel
theorem dX9_lowCodeAt_7 : decode cX9_lowCodeAt 7 = .ok (.sipush 128, 3) := by decide +kernel
theorem dX9_lowCodeAt_10 : decode cX9_lowCodeAt 10 = .ok (.irem, 1) := by decide +kernel
theorem dX9_lowCodeAt_11 : decode cX9_lowCodeAt 11 = .ok (.ireturn, 1) := by decide +kernel
theorem dX9_isOnAt_0 : decode cX9_isOnAt 0 = .ok (.aload_n 0, 1) := by decide +kernel
theorem dX9_isOnAt_1 : decode cX9_isOnAt 1 = .ok (.iload_n 1, 1) := by decide +kernel
theorem dX9_isOnAt_2 : decode cX9_isOnAt 2 = .ok (.invokevirtual 40, 3) := by decide +kernel
theorem dX9_isOnAt_5 : decode cX9_isOnAt 5 = .ok (.iconst 2, 1) := by decide +kernel
theorem dX9_isOnAt_6 : decode cX9_isOnAt 6 = .ok (.irem, 1) := by decide +kernel
theorem dX9_isOnAt_7 : decode cX9_isOnAt 7 = .ok (.iconst 1, 1) := by decide +kernel
theorem dX9_isOnAt_8 : decode cX9_isOnAt 8 = .ok (.if_icmp .ne 7, 3) := by decide +kernel
theorem dX9_isOnAt_11 : decode cX9_isOnAt 11 = .ok (.iconst 1, 1) := by decide +kernel
theorem dX9_isOnAt_12 : decode cX9_isOnAt 12 = .ok (.goto 4, 3) := by decide +kernel
theorem dX9_isOnAt_15 : decode cX9_isOnAt 15 = .ok (.iconst 0, 1) := by decide +kernel
theorem dX9_isOnAt_16 : decode cX9_isOnAt 16 = .ok (.ireturn, 1) := by decide +kernel
theorem dX9_ticksBefore_0 : decode cX9_ticksBefore 0 = .ok (.iload_n 1, 1) := by decide +kernel
theorem dX9_ticksBefore_1 : decode cX9_ticksBefore 1 = .ok (.ifCond .gt 7, 3) := by decide +kernel
theorem dX9_ticksBefore_4 : decode cX9_ticksBefore 4 = .ok (.iconst 0, 1) := by decide +kernel
theorem dX9_ticksBefore_5 : decode cX9_ticksBefore 5 = .ok (.goto 28, 3) := by decide +kernel
theorem dX9_ticksBefore_8 : decode cX9_ticksBefore 8 = .ok (.aload_n 0, 1) := by decide +kernel
theorem dX9_ticksBefore_9 : decode cX9_ticksBefore 9 = .ok (.iload_n 1, 1) := by decide +kernel
theorem dX9_ticksBefore_10 : decode cX9_ticksBefore 10 = .ok (.invokevirtual 40, 3) := by decide +kernel
theorem dX9_ticksBefore_13 : decode cX9_ticksBefore 13 = .ok (.iconst 2, 1) := by decide +kernel
theorem dX9_ticksBefore_14 : decode cX9_ticksBefore 14 = .ok (.idiv, 1) := by decide +kernel
theorem dX9_ticksBefore_15 : decode cX9_ticksBefore 15 = .ok (.sipush 1280, 3) := by decide +kernel
theorem dX9_ticksBefore_18 : decode cX9_ticksBefore 18 = .ok (.idiv, 1) := by decide +kernel
theorem dX9_ticksBefore_19 : decode cX9_ticksBefore 19 = .ok (.aload_n 0, 1) := by decide +kernel
theorem dX9_ticksBefore_20 : decode cX9_ticksBefore 20 = .ok (.iload_n 1, 1) := by decide +kernel
theorem dX9_ticksBefore_21 : decode cX9_ticksBefore 21 = .ok (.iconst 1, 1) := by decide +kernel
theorem dX9_ticksBefore_22 : decode cX9_ticksBefore 22 = .ok (.isub, 1) := by decide +kernel
theorem dX9_ticksBefore_23 : decode cX9_ticksBefore 23 = .ok (.invokevirtual 40, 3) := by decide +kernel
theorem dX9_ticksBefore_26 : decode cX9_ticksBefore 26 = .ok (.iconst 2, 1) := by decide +kernel
theorem dX9_ticksBefore_27 : decode cX9_ticksBefore 27 = .ok (.idiv, 1) := by decide +kernel
theorem dX9_ticksBefore_28 : decode cX9_ticksBefore 28 = .ok (.sipush 1280, 3) := by decide +kernel
theorem dX9_ticksBefore_31 : decode cX9_ticksBefore 31 = .ok (.idiv, 1) := by decide +kernel
theorem dX9_ticksBefore_32 : decode cX9_ticksBefore 32 = .ok (.isub, 1) := by decide +kernel
theorem dX9_ticksBefore_33 : decode cX9_ticksBefore 33 = .ok (.ireturn, 1) := by decide +kernel
theorem dX10_init_0 : decode cX10_init 0 = .ok (.aload_n 0, 1) := by decide +kernel
theorem dX10_init_1 : decode cX10_init 1 = .ok (.invokespecial 3, 3) := by decide +kernel
theorem dX10_init_4 : decode cX10_init 4 = .ok (.aload_n 0, 1) := by decide +kernel
theorem dX10_init_5 : decode cX10_init 5 = .ok (.new 9, 3) := by decide +kernel
theorem dX10_init_8 : decode cX10_init 8 = .ok (.dup, 1) := by decide +kernel
theorem dX10_init_9 : decode cX10_init 9 = .ok (.invokespecial 11, 3) := by decide +kernel
theorem dX10_init_12 : decode cX10_init 12 = .ok (.putfield 12, 3) := by decide +kernel
theorem dX10_init_15 : decode cX10_init 15 = .ok (.aload_n 0, 1) := by decide +kernel
theorem dX10_init_16 : decode cX10_init 16 = .ok (.new 18, 3) := by decide +kernel
theorem dX10_init_19 : decode cX10_init 19 = .ok (.dup, 1) := by decide +kernel
theorem dX10_init_20 : decode cX10_init 20 = .ok (.invokespecial 20, 3) := by decide +kernel
theorem dX10_init_23 : decode cX10_init 23 = .ok (.putfield 21, 3) := by decide +kernel
theorem dX10_init_26 : decode cX10_init 26 = .ok (.aload_n 0, 1) := by decide +kernel
theorem dX10_init_27 : decode cX10_init 27 = .ok (.new 25, 3) := by decide +kernel
theorem dX10_init_30 : decode cX10_init 30 = .ok (.dup, 1) := by decide +kernel
theorem dX10_init_31 : decode cX10_init 31 = .ok (.invokespecial 27, 3) := by decide +kernel
theorem dX10_init_34 : decode cX10_init 34 = .ok (.putfield 28, 3) := by decide +kernel
theorem dX10_init_37 : decode cX10_init 37 = .ok (.aload_n 0, 1) := by decide +kernel
theorem dX10_init_38 : decode cX10_init 38 = .ok (.new 32, 3) := by decide +kernel
theorem dX10_init_41 : decode cX10_init 41 = .ok (.dup, 1) := by decide +kernel
theorem dX10_init_42 : decode cX10_init 42 = .ok (.invokespecial 34, 3) := by decide +kernel
theorem dX10_init_45 : decode cX10_init 45 = .ok (.putfield 35, 3) := by decide +kernel
theorem dX10_init_48 : decode cX10_init 48 = .ok (.aload_n 0, 1) := by decide +kernel
theorem dX10_init_49 : decode cX10_init 49 = .ok (.iconst 3, 1) := by decide +kernel
theorem dX10_init_50 : decode cX10_init 50 = .ok (.newarray .int, 2) := by decide +kernel
theorem dX10_init_52 : decode cX10_init 52 = .ok (.putfield 39, 3) := by decide +kernel
theorem dX10_init_55 : decode cX10_init 55 = .ok (.aload_n 0, 1) := by decide +kernel
theorem dX10_init_56 : decode cX10_init 56 = .ok (.iconst 3, 1) := by decide +kernel
theorem dX10_init_57 : decode cX10_init 57 = .ok (.newarray .int, 2) := by decide +kernel
theorem dX10_init_59 : decode cX10_init 59 = .ok (.putfield 43, 3) := by decide +kernel
theorem dX10_init_62 : decode cX10_init 62 = .ok (.aload_n 0, 1) := by decide +kernel
theorem dX10_init_63 : decode cX10_init 63 = .ok (.iconst 3, 1) := by decide +kernel
theorem dX10_init_64 : decode cX10_init 64 = .ok (.newarray .int, 2) := by decide +kernel
theorem dX10_init_66 : decode cX10_init 66 = .ok (.putfield 46, 3) := by decide +kernel
theorem dX10_init_69 : decode cX10_init 69 = .ok (.aload_n 0, 1) := by decide +kernel
theorem dX10_init_70 : decode cX10_init 70 = .ok (.bipush 12, 2) := by decide +kernel
theorem dX10_init_72 : decode cX10_init 72 = .ok (.newarray .int, 2) := by decide +kernel
theorem dX10_init_74 : decode cX10_init 74 = .ok (.putfield 49, 3) := by decide +kernel
theorem dX10_init_77 : decode cX10_init 77 = .ok (.aload_n 0, 1) := by decide +kernel
theorem dX10_init_78 : decode cX10_init 78 = .ok (.iconst 3, 1) := by decide +kernel
theorem dX10_init_79 : decode cX10_init 79 = .ok (.newarray .int, 2) := by decide +kernel
theorem dX10_init_81 : decode cX10_init 81 = .ok (.putfield 52, 3) := by decide +kernel
theorem dX10_init_84 : decode cX10_init 84 = .ok (.aload_n 0, 1) := by decide +kernel
theorem dX10_init_85 : decode cX10_init 85 = .ok (.sipush 183, 3) := by decide +kernel
theorem dX10_init_88 : decode cX10_init 88 = .ok (.newarray .int, 2) := by decide +kernel
theorem dX10_init_90 : decode cX10_init 90 = .ok (.putfield 55, 3) := by decide +kernel
theorem dX10_init_93 : decode cX10_init 93 = .ok (.aload_n 0, 1) := by decide +kernel
theorem dX10_init_94 : decode cX10_init 94 = .ok (.getfield 39, 3) := by decide +kernel
theorem dX10_init_97 : decode cX10_init 97 = .ok (.bipush 50, 2) := by decide +kernel
theorem dX10_init_99 : decode cX10_init 99 = .ok (.invokestatic 58, 3) := by decide +kernel
theorem dX10_init_102 : decode cX10_init 102 = .ok (.aload_n 0, 1) := by decide +kernel
theorem dX10_init_103 : decode cX10_init 103 = .ok (.getfield 43, 3) := by decide +kernel
theorem dX10_init_106 : decode cX10_init 106 = .ok (.bipush 100, 2) := by decide +kernel
theorem dX10_init_108 : decode cX10_init 108 = .ok (.invokestatic 58, 3) := by decide +kernel
theorem dX10_init_111 : decode cX10_init 111 = .ok (.aload_n 0, 1) := by decide +kernel
theorem dX10_init_112 : decode cX10_init 112 = .ok (.getfield 46, 3) := by decide +kernel
theorem dX10_init_115 : decode cX10_init 115 = .ok (.bipush 10, 2) := by decide +kernel
theorem dX10_init_117 : decode cX10_init 117 = .ok (.invokestatic 58, 3) := by decide +kernel
theorem dX10_init_120 : decode cX10_init 120 = .ok (.return_, 1) := by decide +kernel
theorem dX10_rankAt_0 : decode cX10_rankAt 0 = .ok (.iload_n 1, 1) := by decide +kernel
theorem dX10_rankAt_1 : decode cX10_rankAt 1 = .ok (.ifCond .lt 14, 3) := by decide +kernel
theorem dX10_rankAt_4 : decode cX10_rankAt 4 = .ok (.iload_n 1, 1) := by decide +kernel
theorem dX10_rankAt_5 : decode cX10_rankAt 5 = .ok (.aload_n 0, 1) := by decide +kernel
theorem dX10_rankAt_6 : decode cX10_rankAt 6 = .ok (.getfield 35, 3) := by decide +kernel
theorem dX10_rankAt_9 : decode cX10_rankAt 9 = .ok (.invokevirtual 64, 3) := by decide +kernel
theorem dX10_rankAt_12 : decode cX10_rankAt 12 = .ok (.if_icmp .lt 7, 3) := by decide +kernel
theorem dX10_rankAt_15 : decode cX10_rankAt 15 = .ok (.aconst_null, 1) := by decide +kernel
theorem dX10_rankAt_16 : decode cX10_rankAt 16 = .ok (.goto 14, 3) := by decide +kernel
theorem dX10_rankAt_19 : decode cX10_rankAt 19 = .ok (.aload_n 0, 1) := by decide +kernel
theorem dX10_rankAt_20 : decode cX10_rankAt 20 = .ok (.getfield 35, 3) := by decide +kernel
theorem dX10_rankAt_23 : decode cX10_rankAt 23 = .ok (.iload_n 1, 1) := by decide +kernel
theorem dX10_rankAt_24 : decode cX10_rankAt 24 = .ok (.invokevirtual 68, 3) := by decide +kernel
theorem dX10_rankAt_27 : decode cX10_rankAt 27 = .ok (.checkcast 72, 3) := by decide +kernel
theorem dX10_rankAt_30 : decode cX10_rankAt 30 = .ok (.areturn, 1) := by decide +kernel
theorem dX10_pipeAt_0 : decode cX10_pipeAt 0 = .ok (.iload_n 1, 1) := by decide +kernel
theorem dX10_pipeAt_1 : decode cX10_pipeAt 1 = .ok (.ifCond .lt 14, 3) := by decide +kernel
theorem dX10_pipeAt_4 : decode cX10_pipeAt 4 = .ok (.iload_n 1, 1) := by decide +kernel
theorem dX10_pipeAt_5 : decode cX10_pipeAt 5 = .ok (.aload_n 0, 1) := by decide +kernel
theorem dX10_pipeAt_6 : decode cX10_pipeAt 6 = .ok (.getfield 35, 3) := by decide +kernel
theorem dX10_pipeAt_9 : decode cX10_pipeAt 9 = .ok (.invokevirtual 64, 3) := by decide +kernel
theorem dX10_pipeAt_12 : decode cX10_pipeAt 12 = .ok (.if_icmp .lt 7, 3) := by decide +kernel
theorem dX10_pipeAt_15 : decode cX10_pipeAt 15 = .ok (.aconst_null, 1) := by decide +kernel
theorem dX10_pipeAt_16 : decode cX10_pipeAt 16 = .ok (.goto 14, 3) := by decide +kernel
theorem dX10_pipeAt_19 : decode cX10_pipeAt 19 = .ok (.aload_n 0, 1) := by decide +kernel
theorem dX10_pipeAt_20 : decode cX10_pipeAt 20 = .ok (.getfield 35, 3) := by decide +kernel
theorem dX10_pipeAt_23 : decode cX10_pipeAt 23 = .ok (.iload_n 1, 1) := by decide +kernel
theorem dX10_pipeAt_24 : decode cX10_pipeAt 24 = .ok (.invokevirtual 68, 3) := by decide +kernel
theorem dX10_pipeAt_27 : decode cX10_pipeAt 27 = .ok (.checkcast 72, 3) := by decide +kernel
theorem dX10_pipeAt_30 : decode cX10_pipeAt 30 = .ok (.astore_n 3, 1) := by decide +kernel
theorem dX10_pipeAt_31 : decode cX10_pipeAt 31 = .ok (.aload_n 3, 1) := by decide +kernel
theorem dX10_pipeAt_32 : decode cX10_pipeAt 32 = .ok (.ifnonnull 7, 3) := by decide +kernel
theorem dX10_pipeAt_35 : decode cX10_pipeAt 35 = .ok (.aconst_null, 1) := by decide +kernel
theorem dX10_pipeAt_36 : decode cX10_pipeAt 36 = .ok (.goto 8, 3) := by decide +kernel
theorem dX10_pipeAt_39 : decode cX10_pipeAt 39 = .ok (.aload_n 3, 1) := by decide +kernel
theorem dX10_pipeAt_40 : decode cX10_pipeAt 40 = .ok (.iload_n 2, 1) := by decide +kernel
theorem dX10_pipeAt_41 : decode cX10_pipeAt 41 = .ok (.invokevirtual 74, 3) := by decide +kernel
theorem dX10_pipeAt_44 : decode cX10_pipeAt 44 = .ok (.areturn, 1) := by decide +kernel
theorem dX10_settle_0 : decode cX10_settle 0 = .ok (.aload_n 0, 1) := by decide +kernel
theorem dX10_settle_1 : decode cX10_settle 1 = .ok (.getfield 21, 3) := by decide +kernel
theorem dX10_settle_4 : decode cX10_settle 4 = .ok (.aload_n 0, 1) := by decide +kernel
theorem dX10_settle_5 : decode cX10_settle 5 = .ok (.getfield 12, 3) := by decide +kernel
theorem dX10_settle_8 : decode cX10_settle 8 = .ok (.invokevirtual 78, 3) := by decide +kernel
theorem dX10_settle_11 : decode cX10_settle 11 = .ok (.aload_n 0, 1) := by decide +kernel
theorem dX10_settle_12 : decode cX10_settle 12 = .ok (.invokevirtual 82, 3) := by decide +kernel
theorem dX10_settle_15 : decode cX10_settle 15 = .ok (.aload_n 0, 1) := by decide +kernel
theorem dX10_settle_16 : decode cX10_settle 16 = .ok (.getfield 12, 3) := by decide +kernel
theorem dX10_settle_19 : decode cX10_settle 19 = .ok (.invokevirtual 85, 3) := by decide +kernel
theorem dX10_settle_22 : decode cX10_settle 22 = .ok (.ifCond .eq 11, 3) := by decide +kernel
theorem dX10_settle_25 : decode cX10_settle 25 = .ok (.aload_n 0, 1) := by decide +kernel
theorem dX10_settle_26 : decode cX10_settle 26 = .ok (.invokevirtual 89, 3) := by decide +kernel
theorem dX10_settle_29 : decode cX10_settle 29 = .ok (.aload_n 0, 1) := by decide +kernel
theorem dX10_settle_30 : decode cX10_settle 30 = .ok (.invokevirtual 92, 3) := by decide +kernel
theorem dX10_settle_33 : decode cX10_settle 33 = .ok (.aload_n 0, 1) := by decide +kernel
theorem dX10_settle_34 : decode cX10_settle 34 = .ok (.invokevirtual 95, 3) := by decide +kernel
theorem dX10_settle_37 : decode cX10_settle 37 = .ok (.aload_n 0, 1) := by decide +kernel
theorem dX10_settle_38 : decode cX10_settle 38 = .ok (.invokevirtual 98, 3) := by decide +kernel
theorem dX10_settle_41 : decode cX10_settle 41 = .ok (.aload_n 0, 1) := by decide +kernel
theorem dX10_settle_42 : decode cX10_settle 42 = .ok (.invokevirtual 101, 3) := by decide +kernel
theorem dX10_settle_45 : decode cX10_settle 45 = .ok (.return_, 1) := by decide +kernel
theorem dX10_passTicks_0 : decode cX10_passTicks 0 = .ok (.iconst 0, 1) := by decide +kernel
theorem dX10_passTicks_1 : decode cX10_passTicks 1 = .ok (.istore_n 2, 1) := by decide +kernel
theorem dX10_passTicks_2 : decode cX10_passTicks 2 = .ok (.iload_n 2, 1) := by decide +kernel
theorem dX10_passTicks_3 : decode cX10_passTicks 3 = .ok (.iload_n 1, 1) := by decide +kernel
theorem dX10_passTicks_4 : decode cX10_passTicks 4 = .ok (.if_icmp .ge 53, 3) := by decide +kernel
theorem dX10_passTicks_7 : decode cX10_passTicks 7 = .ok (.aload_n 0, 1) := by decide +kernel
theorem dX10_passTicks_8 : decode cX10_passTicks 8 = .ok (.dup, 1) := by decide +kernel
theorem dX10_passTicks_9 : decode cX10_passTicks 9 = .ok (.getfield 104, 3) := by decide +kernel
theorem dX10_passTicks_12 : decode cX10_passTicks 12 = .ok (.iconst 1, 1) := by decide +kernel
theorem dX10_passTicks_13 : decode cX10_passTicks 13 = .ok (.iadd, 1) := by decide +kernel
theorem dX10_passTicks_14 : decode cX10_passTicks 14 = .ok (.putfield 104, 3) := by decide +kernel
theorem dX10_passTicks_17 : decode cX10_passTicks 17 = .ok (.aload_n 0, 1) := by decide +kernel
theorem dX10_passTicks_18 : decode cX10_passTicks 18 = .ok (.getfield 108, 3) := by decide +kernel
theorem dX10_passTicks_21 : decode cX10_passTicks 21 = .ok (.ifCond .ne 19, 3) := by decide +kernel
theorem dX10_passTicks_24 : decode cX10_passTicks 24 = .ok (.aload_n 0, 1) := by decide +kernel
theorem dX10_passTicks_25 : decode cX10_passTicks 25 = .ok (.getfield 12, 3) := by decide +kernel
theorem dX10_passTicks_28 : decode cX10_passTicks 28 = .ok (.getfield 112, 3) := by decide +kernel
theorem dX10_passTicks_31 : decode cX10_passTicks 31 = .ok (.aload_n 0, 1) := by decide +kernel
theorem dX10_passTicks_32 : decode cX10_passTicks 32 = .ok (.getfield 104, 3) := by decide +kernel
theorem dX10_passTicks_35 : decode cX10_passTicks 35 = .ok (.iconst 1, 1) := by decide +kernel
theorem dX10_passTicks_36 : decode cX10_passTicks 36 = .ok (.isub, 1) := by decide +kernel
theorem dX10_passTicks_37 : decode cX10_passTicks 37 = .ok (.if_icmp .ne 10, 3) := by decide +kernel
theorem dX10_passTicks_40 : decode cX10_passTicks 40 = .ok (.aload_n 0, 1) := by decide +kernel
theorem dX10_passTicks_41 : decode cX10_passTicks 41 = .ok (.invokevirtual 115, 3) := by decide +kernel
theorem dX10_passTicks_44 : decode cX10_passTicks 44 = .ok (.goto 7, 3) := by decide +kernel
theorem dX10_passTicks_47 : decode cX10_passTicks 47 = .ok (.aload_n 0, 1) := by decide +kernel
theorem dX10_passTicks_48 : decode cX10_passTicks 48 = .ok (.invokevirtual 118, 3) := by decide +kernel
theorem dX10_passTicks_51 : decode cX10_passTicks 51 = .ok (.iinc 2 1, 3) := by decide +kernel
theorem dX10_passTicks_54 : decode cX10_passTicks 54 = .ok (.goto (-52), 3) := by decide +kernel
theorem dX10_passTicks_57 : decode cX10_passTicks 57 = .ok (.return_, 1) := by decide +kernel
theorem dX10_passIdly_0 : decode cX10_passIdly 0 = .ok (.aload_n 0, 1) := by decide +kernel
theorem dX10_passIdly_1 : decode cX10_passIdly 1 = .ok (.invokevirtual 121, 3) := by decide +kernel
theorem dX10_passIdly_4 : decode cX10_passIdly 4 = .ok (.istore_n 1, 1) := by decide +kernel
theorem dX10_passIdly_5 : decode cX10_passIdly 5 = .ok (.aload_n 0, 1) := by decide +kernel
theorem dX10_passIdly_6 : decode cX10_passIdly 6 = .ok (.invokevirtual 98, 3) := by decide +kernel
theorem dX10_passIdly_9 : decode cX10_passIdly 9 = .ok (.aload_n 0, 1) := by decide +kernel
theorem dX10_passIdly_10 : decode cX10_passIdly 10 = .ok (.invokevirtual 121, 3) := by decide +kernel
theorem dX10_passIdly_13 : decode cX10_passIdly 13 = .ok (.iload_n 1, 1) := by decide +kernel
theorem dX10_passIdly_14 : decode cX10_passIdly 14 = .ok (.if_icmp .eq 7, 3) := by decide +kernel
theorem dX10_passIdly_17 : decode cX10_passIdly 17 = .ok (.aload_n 0, 1) := by decide +kernel
theorem dX10_passIdly_18 : decode cX10_passIdly 18 = .ok (.invokevirtual 101, 3) := by decide +kernel
theorem dX10_passIdly_21 : decode cX10_passIdly 21 = .ok (.return_, 1) := by decide +kernel
theorem dX10_windless_0 : decode cX10_windless 0 = .ok (.iconst 0, 1) := by decide +kernel
theorem dX10_windless_1 : decode cX10_windless 1 = .ok (.istore_n 1, 1) := by decide +kernel
theorem dX10_windless_2 : decode cX10_windless 2 = .ok (.iconst 0, 1) := by decide +kernel
theorem dX10_windless_3 : decode cX10_windless 3 = .ok (.istore_n 2, 1) := by decide +kernel
theorem dX10_windless_4 : decode cX10_windless 4 = .ok (.iload_n 2, 1) := by decide +kernel
theorem dX10_windless_5 : decode cX10_windless 5 = .ok (.iconst 3, 1) := by decide +kernel
theorem dX10_windless_6 : decode cX10_windless 6 = .ok (.if_icmp .ge 24, 3) := by decide +kernel
theorem dX10_windless_9 : decode cX10_windless 9 = .ok (.aload_n 0, 1) := by decide +kernel
theorem dX10_windless_10 : decode cX10_windless 10 = .ok (.getfield 43, 3) := by decide +kernel
theorem dX10_windless_13 : decode cX10_windless 13 = .ok (.iload_n 2, 1) := by decide +kernel
theorem dX10_windless_14 : decode cX10_windless 14 = .ok (.iaload, 1) := by decide +kernel
theorem dX10_windless_15 : decode cX10_windless 15 = .ok (.ifCond .ne 9, 3) := by decide +kernel
theorem dX10_windless_18 : decode cX10_windless 18 = .ok (.iload_n 1, 1) := by decide +kernel
theorem dX10_windless_19 : decode cX10_windless 19 = .ok (.iconst 1, 1) := by decide +kernel
theorem dX10_windless_20 : decode cX10_windless 20 = .ok (.iload_n 2, 1) := by decide +kernel
theorem dX10_windless_21 : decode cX10_windless 21 = .ok (.ishl, 1) := by decide +kernel
theorem dX10_windless_22 : decode cX10_windless 22 = .ok (.ior, 1) := by decide +kernel
theorem dX10_windless_23 : decode cX10_windless 23 = .ok (.istore_n 1, 1) := by decide +kernel
theorem dX10_windless_24 : decode cX10_windless 24 = .ok (.iinc 2 1, 3) := by decide +kernel
theorem dX10_windless_27 : decode cX10_windless 27 = .ok (.goto (-23), 3) := by decide +kernel
theorem dX10_windless_30 : decode cX10_windless 30 = .ok (.iload_n 1, 1) := by decide +kernel
theorem dX10_windless_31 : decode cX10_windless 31 = .ok (.ireturn, 1) := by decide +kernel
theorem dX10_forgetReasons_0 : decode cX10_forgetReasons 0 = .ok (.iconst 0, 1) := by decide +kernel
theorem dX10_forgetReasons_1 : decode cX10_forgetReasons 1 = .ok (.istore_n 1, 1) := by decide +kernel
theorem dX10_forgetReasons_2 : decode cX10_forgetReasons 2 = .ok (.iload_n 1, 1) := by decide +kernel
theorem dX10_forgetReasons_3 : decode cX10_forgetReasons 3 = .ok (.aload_n 0, 1) := by decide +kernel
theorem dX10_forgetReasons_4 : decode cX10_forgetReasons 4 = .ok (.getfield 35, 3) := by decide +kernel
theorem dX10_forgetReasons_7 : decode cX10_forgetReasons 7 = .ok (.invokevirtual 64, 3) := by decide +kernel
theorem dX10_forgetReasons_10 : decode cX10_forgetReasons 10 = .ok (.if_icmp .ge 54, 3) := by decide +kernel
theorem dX10_forgetReasons_13 : decode cX10_forgetReasons 13 = .ok (.aload_n 0, 1) := by decide +kernel
theorem dX10_forgetReasons_14 : decode cX10_forgetReasons 14 = .ok (.getfield 35, 3) := by decide +kernel
theorem dX10_forgetReasons_17 : decode cX10_forgetReasons 17 = .ok (.iload_n 1, 1) := by decide +kernel
theorem dX10_forgetReasons_18 : decode cX10_forgetReasons 18 = .ok (.invokevirtual 68, 3) := by decide +kernel
theorem dX10_forgetReasons_21 : decode cX10_forgetReasons 21 = .ok (.checkcast 72, 3) := by decide +kernel
theorem dX10_forgetReasons_24 : decode cX10_forgetReasons 24 = .ok (.getfield 124, 3) := by decide +kernel
theorem dX10_forgetReasons_27 : decode cX10_forgetReasons 27 = .ok (.astore_n 2, 1) := by decide +kernel
theorem dX10_forgetReasons_28 : decode cX10_forgetReasons 28 = .ok (.aload_n 2, 1) := by decide +kernel
theorem dX10_forgetReasons_29 : decode cX10_forgetReasons 29 = .ok (.arraylength, 1) := by decide +kernel
theorem dX10_forgetReasons_30 : decode cX10_forgetReasons 30 = .ok (.istore_n 3, 1) := by decide +kernel
theorem dX10_forgetReasons_31 : decode cX10_forgetReasons 31 = .ok (.iconst 0, 1) := by decide +kernel
theorem dX10_forgetReasons_32 : decode cX10_forgetReasons 32 = .ok (.istore 4, 2) := by decide +kernel
theorem dX10_forgetReasons_34 : decode cX10_forgetReasons 34 = .ok (.iload 4, 2) := by decide +kernel
theorem dX10_forgetReasons_36 : decode cX10_forgetReasons 36 = .ok (.iload_n 3, 1) := by decide +kernel
theorem dX10_forgetReasons_37 : decode cX10_forgetReasons 37 = .ok (.if_icmp .ge 21, 3) := by decide +kernel
theorem dX10_forgetReasons_40 : decode cX10_forgetReasons 40 = .ok (.aload_n 2, 1) := by decide +kernel
theorem dX10_forgetReasons_41 : decode cX10_forgetReasons 41 = .ok (.iload 4, 2) := by decide +kernel
theorem dX10_forgetReasons_43 : decode cX10_forgetReasons 43 = .ok (.aaload, 1) := by decide +kernel
theorem dX10_forgetReasons_44 : decode cX10_forgetReasons 44 = .ok (.astore 5, 2) := by decide +kernel
theorem dX10_forgetReasons_46 : decode cX10_forgetReasons 46 = .ok (.aload 5, 2) := by decide +kernel
theorem dX10_forgetReasons_48 : decode cX10_forgetReasons 48 = .ok (.iconst 0, 1) := by decide +kernel
theorem dX10_forgetReasons_49 : decode cX10_forgetReasons 49 = .ok (.putfield 128, 3) := by decide +kernel
theorem dX10_forgetReasons_52 : decode cX10_forgetReasons 52 = .ok (.iinc 4 1, 3) := by decide +kernel
theorem dX10_forgetReasons_55 : decode cX10_forgetReasons 55 = .ok (.goto (-21), 3) := by decide +kernel
theorem dX10_forgetReasons_58 : decode cX10_forgetReasons 58 = .ok (.iinc 1 1, 3) := by decide +kernel
theorem dX10_forgetReasons_61 : decode cX10_forgetReasons 61 = .ok (.goto (-59), 3) := by decide +kernel
theorem dX10_forgetReasons_64 : decode cX10_forgetReasons 64 = .ok (.return_, 1) := by decide +kernel
theorem dX10_findWays_0 : decode cX10_findWays 0 = .ok (.aload_n 0, 1) := by decide +kernel
theorem dX10_findWays_1 : decode cX10_findWays 1 = .ok (.getfield 55, 3) := by decide +kernel
theorem dX10_findWays_4 : decode cX10_findWays 4 = .ok (.iconst 0, 1) := by decide +kernel
theorem dX10_findWays_5 : decode cX10_findWays 5 = .ok (.invokestatic 58, 3) := by decide +kernel
theorem dX10_findWays_8 : decode cX10_findWays 8 = .ok (.iconst 0, 1) := by decide +kernel
theorem dX10_findWays_9 : decode cX10_findWays 9 = .ok (.istore_n 1, 1) := by decide +kernel
theorem dX10_findWays_10 : decode cX10_findWays 10 = .ok (.iload_n 1, 1) := by decide +kernel
theorem dX10_findWays_11 : decode cX10_findWays 11 = .ok (.aload_n 0, 1) := by decide +kernel
theorem dX10_findWays_12 : decode cX10_findWays 12 = .ok (.getfield 21, 3) := by decide +kernel
theorem dX10_findWays_15 : decode cX10_findWays 15 = .ok (.getfield 133, 3) := by decide +kernel
theorem dX10_findWays_18 : decode cX10_findWays 18 = .ok (.invokevirtual 64, 3) := by decide +kernel
theorem dX10_findWays_21 : decode cX10_findWays 21 = .ok (.if_icmp .ge 109, 3) := by decide +kernel
theorem dX10_findWays_24 : decode cX10_findWays 24 = .ok (.aload_n 0, 1) := by decide +kernel
theorem dX10_findWays_25 : decode cX10_findWays 25 = .ok (.getfield 21, 3) := by decide +kernel
theorem dX10_findWays_28 : decode cX10_findWays 28 = .ok (.getfield 133, 3) := by decide +kernel
theorem dX10_findWays_31 : decode cX10_findWays 31 = .ok (.iload_n 1, 1) := by decide +kernel
theorem dX10_findWays_32 : decode cX10_findWays 32 = .ok (.invokevirtual 68, 3) := by decide +kernel
theorem dX10_findWays_35 : decode cX10_findWays 35 = .ok (.checkcast 136, 3) := by decide +kernel
theorem dX10_findWays_38 : decode cX10_findWays 38 = .ok (.astore_n 2, 1) := by decide +kernel
theorem dX10_findWays_39 : decode cX10_findWays 39 = .ok (.aload_n 2, 1) := by decide +kernel
theorem dX10_findWays_40 : decode cX10_findWays 40 = .ok (.getfield 138, 3) := by decide +kernel
theorem dX10_findWays_43 : decode cX10_findWays 43 = .ok (.astore_n 3, 1) := by decide +kernel
theorem dX10_findWays_44 : decode cX10_findWays 44 = .ok (.iconst 0, 1) := by decide +kernel
theorem dX10_findWays_45 : decode cX10_findWays 45 = .ok (.istore 4, 2) := by decide +kernel
theorem dX10_findWays_47 : decode cX10_findWays 47 = .ok (.aload_n 3, 1) := by decide +kernel
theorem dX10_findWays_48 : decode cX10_findWays 48 = .ok (.ifnull 76, 3) := by decide +kernel
theorem dX10_findWays_51 : decode cX10_findWays 51 = .ok (.aload_n 0, 1) := by decide +kernel
theorem dX10_findWays_52 : decode cX10_findWays 52 = .ok (.getfield 21, 3) := by decide +kernel
theorem dX10_findWays_55 : decode cX10_findWays 55 = .ok (.aload_n 2, 1) := by decide +kernel
theorem dX10_findWays_56 : decode cX10_findWays 56 = .ok (.invokevirtual 142, 3) := by decide +kernel
theorem dX10_findWays_59 : decode cX10_findWays 59 = .ok (.ifCond .eq 65, 3) := by decide +kernel
theorem dX10_findWays_62 : decode cX10_findWays 62 = .ok (.iload 4, 2) := by decide +kernel
theorem dX10_findWays_64 : decode cX10_findWays 64 = .ok (.bipush 61, 2) := by decide +kernel
theorem dX10_findWays_66 : decode cX10_findWays 66 = .ok (.if_icmp .ge 58, 3) := by decide +kernel
theorem dX10_findWays_69 : decode cX10_findWays 69 = .ok (.aload_n 3, 1) := by decide +kernel
theorem dX10_findWays_70 : decode cX10_findWays 70 = .ok (.getfield 146, 3) := by decide +kernel
theorem dX10_findWays_73 : decode cX10_findWays 73 = .ok (.iload 4, 2) := by decide +kernel
theorem dX10_findWays_75 : decode cX10_findWays 75 = .ok (.aload_n 3, 1) := by decide +kernel
theorem dX10_findWays_76 : decode cX10_findWays 76 = .ok (.getfield 151, 3) := by decide +kernel
theorem dX10_findWays_79 : decode cX10_findWays 79 = .ok (.iadd, 1) := by decide +kernel
theorem dX10_findWays_80 : decode cX10_findWays 80 = .ok (.invokestatic 154, 3) := by decide +kernel
theorem dX10_findWays_83 : decode cX10_findWays 83 = .ok (.istore 5, 2) := by decide +kernel
theorem dX10_findWays_85 : decode cX10_findWays 85 = .ok (.iload 5, 2) := by decide +kernel
theorem dX10_findWays_87 : decode cX10_findWays 87 = .ok (.ifCond .lt 31, 3) := by decide +kernel
theorem dX10_findWays_90 : decode cX10_findWays 90 = .ok (.aload_n 3, 1) := by decide +kernel
theorem dX10_findWays_91 : decode cX10_findWays 91 = .ok (.iload 4, 2) := by decide +kernel
theorem dX10_findWays_93 : decode cX10_findWays 93 = .ok (.aload_n 0, 1) := by decide +kernel
theorem dX10_findWays_94 : decode cX10_findWays 94 = .ok (.getfield 12, 3) := by decide +kernel
theorem dX10_findWays_97 : decode cX10_findWays 97 = .ok (.aload_n 0, 1) := by decide +kernel
theorem dX10_findWays_98 : decode cX10_findWays 98 = .ok (.getfield 104, 3) := by decide +kernel
theorem dX10_findWays_101 : decode cX10_findWays 101 = .ok (.invokevirtual 158, 3) := by decide +kernel
theorem dX10_findWays_104 : decode cX10_findWays 104 = .ok (.ifCond .eq 14, 3) := by decide +kernel
theorem dX10_findWays_107 : decode cX10_findWays 107 = .ok (.aload_n 0, 1) := by decide +kernel
theorem dX10_findWays_108 : decode cX10_findWays 108 = .ok (.getfield 55, 3) := by decide +kernel
theorem dX10_findWays_111 : decode cX10_findWays 111 = .ok (.iload 5, 2) := by decide +kernel
theorem dX10_findWays_113 : decode cX10_findWays 113 = .ok (.dup2, 1) := by decide +kernel
theorem dX10_findWays_114 : decode cX10_findWays 114 = .ok (.iaload, 1) := by decide +kernel
theorem dX10_findWays_115 : decode cX10_findWays 115 = .ok (.iconst 1, 1) := by decide +kernel
theorem dX10_findWays_116 : decode cX10_findWays 116 = .ok (.iadd, 1) := by decide +kernel
theorem dX10_findWays_117 : decode cX10_findWays 117 = .ok (.iastore, 1) := by decide +kernel
theorem dX10_findWays_118 : decode cX10_findWays 118 = .ok (.iinc 4 1, 3) := by decide +kernel
theorem dX10_findWays_121 : decode cX10_findWays 121 = .ok (.goto (-74), 3) := by decide +kernel
theorem dX10_findWays_124 : decode cX10_findWays 124 = .ok (.iinc 1 1, 3) := by decide +kernel
theorem dX10_findWays_127 : decode cX10_findWays 127 = .ok (.goto (-117), 3) := by decide +kernel
theorem dX10_findWays_130 : decode cX10_findWays 130 = .ok (.return_, 1) := by decide +kernel
theorem dX10_findReasons_0 : decode cX10_findReasons 0 = .ok (.iconst 0, 1) := by decide +kernel
theorem dX10_findReasons_1 : decode cX10_findReasons 1 = .ok (.istore_n 1, 1) := by decide +kernel
theorem dX10_findReasons_2 : decode cX10_findReasons 2 = .ok (.iload_n 1, 1) := by decide +kernel
theorem dX10_findReasons_3 : decode cX10_findReasons 3 = .ok (.aload_n 0, 1) := by decide +kernel
theorem dX10_findReasons_4 : decode cX10_findReasons 4 = .ok (.getfield 21, 3) := by decide +kernel
theorem dX10_findReasons_7 : decode cX10_findReasons 7 = .ok (.getfield 133, 3) := by decide +kernel
theorem dX10_findReasons_10 : decode cX10_findReasons 10 = .ok (.invokevirtual 64, 3) := by decide +kernel
theorem dX10_findReasons_13 : decode cX10_findReasons 13 = .ok (.if_icmp .ge 54, 3) := by decide +kernel
theorem dX10_findReasons_16 : decode cX10_findReasons 16 = .ok (.aload_n 0, 1) := by decide +kernel
theorem dX10_findReasons_17 : decode cX10_findReasons 17 = .ok (.getfield 21, 3) := by decide +kernel
theorem dX10_findReasons_20 : decode cX10_findReasons 20 = .ok (.getfield 133, 3) := by decide +kernel
theorem dX10_findReasons_23 : decode cX10_findReasons 23 = .ok (.iload_n 1, 1) := by decide +kernel
theorem dX10_findReasons_24 : decode cX10_findReasons 24 = .ok (.invokevirtual 68, 3) := by decide +kernel
theorem dX10_findReasons_27 : decode cX10_findReasons 27 = .ok (.checkcast 136, 3) := by decide +kernel
theorem dX10_findReasons_30 : decode cX10_findReasons 30 = .ok (.astore_n 2, 1) := by decide +kernel
theorem dX10_findReasons_31 : decode cX10_findReasons 31 = .ok (.aload_n 2, 1) := by decide +kernel
theorem dX10_findReasons_32 : decode cX10_findReasons 32 = .ok (.getfield 162, 3) := by decide +kernel
theorem dX10_findReasons_35 : decode cX10_findReasons 35 = .ok (.ifnull 26, 3) := by decide +kernel
theorem dX10_findReasons_38 : decode cX10_findReasons 38 = .ok (.aload_n 0, 1) := by decide +kernel
theorem dX10_findReasons_39 : decode cX10_findReasons 39 = .ok (.getfield 21, 3) := by decide +kernel
theorem dX10_findReasons_42 : decode cX10_findReasons 42 = .ok (.aload_n 2, 1) := by decide +kernel
theorem dX10_findReasons_43 : decode cX10_findReasons 43 = .ok (.invokevirtual 166, 3) := by decide +kernel
theorem dX10_findReasons_46 : decode cX10_findReasons 46 = .ok (.ifCond .eq 15, 3) := by decide +kernel
theorem dX10_findReasons_49 : decode cX10_findReasons 49 = .ok (.aload_n 0, 1) := by decide +kernel
theorem dX10_findReasons_50 : decode cX10_findReasons 50 = .ok (.aload_n 2, 1) := by decide +kernel
theorem dX10_findReasons_51 : decode cX10_findReasons 51 = .ok (.getfield 162, 3) := by decide +kernel
theorem dX10_findReasons_54 : decode cX10_findReasons 54 = .ok (.aload_n 2, 1) := by decide +kernel
theorem dX10_findReasons_55 : decode cX10_findReasons 55 = .ok (.getfield 169, 3) := by decide +kernel
theorem dX10_findReasons_58 : decode cX10_findReasons 58 = .ok (.invokevirtual 172, 3) := by decide +kernel
theorem dX10_findReasons_61 : decode cX10_findReasons 61 = .ok (.iinc 1 1, 3) := by decide +kernel
theorem dX10_findReasons_64 : decode cX10_findReasons 64 = .ok (.goto (-62), 3) := by decide +kernel
theorem dX10_findReasons_67 : decode cX10_findReasons 67 = .ok (.return_, 1) := by decide +kernel
theorem dX10_addReasons_0 : decode cX10_addReasons 0 = .ok (.iconst 0, 1) := by decide +kernel
theorem dX10_addReasons_1 : decode cX10_addReasons 1 = .ok (.istore_n 3, 1) := by decide +kernel
theorem dX10_addReasons_2 : decode cX10_addReasons 2 = .ok (.iload_n 3, 1) := by decide +kernel
theorem dX10_addReasons_3 : decode cX10_addReasons 3 = .ok (.iload_n 2, 1) := by decide +kernel
theorem dX10_addReasons_4 : decode cX10_addReasons 4 = .ok (.invokestatic 176, 3) := by decide +kernel
theorem dX10_addReasons_7 : decode cX10_addReasons 7 = .ok (.if_icmp .ge 93, 3) := by decide +kernel
theorem dX10_addReasons_10 : decode cX10_addReasons 10 = .ok (.iload_n 2, 1) := by decide +kernel
theorem dX10_addReasons_11 : decode cX10_addReasons 11 = .ok (.iload_n 3, 1) := by decide +kernel
theorem dX10_addReasons_12 : decode cX10_addReasons 12 = .ok (.invokestatic 154, 3) := by decide +kernel
theorem dX10_addReasons_15 : decode cX10_addReasons 15 = .ok (.istore 4, 2) := by decide +kernel
theorem dX10_addReasons_17 : decode cX10_addReasons 17 = .ok (.iload 4, 2) := by decide +kernel
theorem dX10_addReasons_19 : decode cX10_addReasons 19 = .ok (.ifCond .ge 7, 3) := by decide +kernel
theorem dX10_addReasons_22 : decode cX10_addReasons 22 = .ok (.iconst 0, 1) := by decide +kernel
theorem dX10_addReasons_23 : decode cX10_addReasons 23 = .ok (.goto 10, 3) := by decide +kernel
theorem dX10_addReasons_26 : decode cX10_addReasons 26 = .ok (.aload_n 0, 1) := by decide +kernel
theorem dX10_addReasons_27 : decode cX10_addReasons 27 = .ok (.getfield 55, 3) := by decide +kernel
theorem dX10_addReasons_30 : decode cX10_addReasons 30 = .ok (.iload 4, 2) := by decide +kernel
theorem dX10_addReasons_32 : decode cX10_addReasons 32 = .ok (.iaload, 1) := by decide +kernel
theorem dX10_addReasons_33 : decode cX10_addReasons 33 = .ok (.istore 5, 2) := by decide +kernel
theorem dX10_addReasons_35 : decode cX10_addReasons 35 = .ok (.iconst 0, 1) := by decide +kernel
theorem dX10_addReasons_36 : decode cX10_addReasons 36 = .ok (.istore 6, 2) := by decide +kernel
theorem dX10_addReasons_38 : decode cX10_addReasons 38 = .ok (.iload 5, 2) := by decide +kernel
theorem dX10_addReasons_40 : decode cX10_addReasons 40 = .ok (.ifCond .le 54, 3) := by decide +kernel
theorem dX10_addReasons_43 : decode cX10_addReasons 43 = .ok (.iload 6, 2) := by decide +kernel
theorem dX10_addReasons_45 : decode cX10_addReasons 45 = .ok (.aload_n 1, 1) := by decide +kernel
theorem dX10_addReasons_46 : decode cX10_addReasons 46 = .ok (.getfield 180, 3) := by decide +kernel
theorem dX10_addReasons_49 : decode cX10_addReasons 49 = .ok (.if_icmp .ge 45, 3) := by decide +kernel
theorem dX10_addReasons_52 : decode cX10_addReasons 52 = .ok (.aload_n 0, 1) := by decide +kernel
theorem dX10_addReasons_53 : decode cX10_addReasons 53 = .ok (.aload_n 1, 1) := by decide +kernel
theorem dX10_addReasons_54 : decode cX10_addReasons 54 = .ok (.iload 6, 2) := by decide +kernel
theorem dX10_addReasons_56 : decode cX10_addReasons 56 = .ok (.invokevirtual 185, 3) := by decide +kernel
theorem dX10_addReasons_59 : decode cX10_addReasons 59 = .ok (.aload_n 1, 1) := by decide +kernel
theorem dX10_addReasons_60 : decode cX10_addReasons 60 = .ok (.iload 6, 2) := by decide +kernel
theorem dX10_addReasons_62 : decode cX10_addReasons 62 = .ok (.iload_n 3, 1) := by decide +kernel
theorem dX10_addReasons_63 : decode cX10_addReasons 63 = .ok (.invokevirtual 188, 3) := by decide +kernel
theorem dX10_addReasons_66 : decode cX10_addReasons 66 = .ok (.invokevirtual 191, 3) := by decide +kernel
theorem dX10_addReasons_69 : decode cX10_addReasons 69 = .ok (.astore 7, 2) := by decide +kernel
theorem dX10_addReasons_71 : decode cX10_addReasons 71 = .ok (.aload 7, 2) := by decide +kernel
theorem dX10_addReasons_73 : decode cX10_addReasons 73 = .ok (.ifnull 15, 3) := by decide +kernel
theorem dX10_addReasons_76 : decode cX10_addReasons 76 = .ok (.aload 7, 2) := by decide +kernel
theorem dX10_addReasons_78 : decode cX10_addReasons 78 = .ok (.dup, 1) := by decide +kernel
theorem dX10_addReasons_79 : decode cX10_addReasons 79 = .ok (.getfield 128, 3) := by decide +kernel
theorem dX10_addReasons_82 : decode cX10_addReasons 82 = .ok (.iload 5, 2) := by decide +kernel
theorem dX10_addReasons_84 : decode cX10_addReasons 84 = .ok (.iadd, 1) := by decide +kernel
theorem dX10_addReasons_85 : decode cX10_addReasons 85 = .ok (.putfield 128, 3) := by decide +kernel
theorem dX10_addReasons_88 : decode cX10_addReasons 88 = .ok (.iinc 6 1, 3) := by decide +kernel
theorem dX10_addReasons_91 : decode cX10_addReasons 91 = .ok (.goto (-53), 3) := by decide +kernel
theorem dX10_addReasons_94 : decode cX10_addReasons 94 = .ok (.iinc 3 1, 3) := by decide +kernel
theorem dX10_addReasons_97 : decode cX10_addReasons 97 = .ok (.goto (-95), 3) := by decide +kernel
theorem dX10_addReasons_100 : decode cX10_addReasons 100 = .ok (.return_, 1) := by decide +kernel
theorem dX10_reasonsAlone_0 : decode cX10_reasonsAlone 0 = .ok (.aload_n 0, 1) := by decide +kernel
theorem dX10_reasonsAlone_1 : decode cX10_reasonsAlone 1 = .ok (.iload_n 1, 1) := by decide +kernel
theorem dX10_reasonsAlone_2 : decode cX10_reasonsAlone 2 = .ok (.iload_n 2, 1) := by decide +kernel
theorem dX10_reasonsAlone_3 : decode cX10_reasonsAlone 3 = .ok (.invokevirtual 191, 3) := by decide +kernel
theorem dX10_reasonsAlone_6 : decode cX10_reasonsAlone 6 = .ok (.astore_n 3, 1) := by decide +kernel
theorem dX10_reasonsAlone_7 : decode cX10_reasonsAlone 7 = .ok (.aload_n 3, 1) := by decide +kernel
theorem dX10_reasonsAlone_8 : decode cX10_reasonsAlone 8 = .ok (.ifnull 14, 3) := by decide +kernel
theorem dX10_reasonsAlone_11 : decode cX10_reasonsAlone 11 = .ok (.aload_n 3, 1) := by decide +kernel
theorem dX10_reasonsAlone_12 : decode cX10_reasonsAlone 12 = .ok (.getfield 195, 3) := by decide +kernel
theorem dX10_reasonsAlone_15 : decode cX10_reasonsAlone 15 = .ok (.ifCond .eq 7, 3) := by decide +kernel
theorem dX10_reasonsAlone_18 : decode cX10_reasonsAlone 18 = .ok (.iconst 1, 1) := by decide +kernel
theorem dX10_reasonsAlone_19 : decode cX10_reasonsAlone 19 = .ok (.goto 4, 3) := by decide +kernel
theorem dX10_reasonsAlone_22 : decode cX10_reasonsAlone 22 = .ok (.iconst 0, 1) := by decide +kernel
theorem dX10_reasonsAlone_23 : decode cX10_reasonsAlone 23 = .ok (.istore 4, 2) := by decide +kernel
theorem dX10_reasonsAlone_25 : decode cX10_reasonsAlone 25 = .ok (.iconst 0, 1) := by decide +kernel
theorem dX10_reasonsAlone_26 : decode cX10_reasonsAlone 26 = .ok (.istore 5, 2) := by decide +kernel
theorem dX10_reasonsAlone_28 : decode cX10_reasonsAlone 28 = .ok (.iload 5, 2) := by decide +kernel
theorem dX10_reasonsAlone_30 : decode cX10_reasonsAlone 30 = .ok (.aload_n 0, 1) := by decide +kernel
theorem dX10_reasonsAlone_31 : decode cX10_reasonsAlone 31 = .ok (.getfield 21, 3) := by decide +kernel
theorem dX10_reasonsAlone_34 : decode cX10_reasonsAlone 34 = .ok (.getfield 133, 3) := by decide +kernel
theorem dX10_reasonsAlone_37 : decode cX10_reasonsAlone 37 = .ok (.invokevirtual 64, 3) := by decide +kernel
theorem dX10_reasonsAlone_40 : decode cX10_reasonsAlone 40 = .ok (.if_icmp .ge 134, 3) := by decide +kernel
theorem dX10_reasonsAlone_43 : decode cX10_reasonsAlone 43 = .ok (.aload_n 0, 1) := by decide +kernel
theorem dX10_reasonsAlone_44 : decode cX10_reasonsAlone 44 = .ok (.getfield 21, 3) := by decide +kernel
theorem dX10_reasonsAlone_47 : decode cX10_reasonsAlone 47 = .ok (.getfield 133, 3) := by decide +kernel
theorem dX10_reasonsAlone_50 : decode cX10_reasonsAlone 50 = .ok (.iload 5, 2) := by decide +kernel
theorem dX10_reasonsAlone_52 : decode cX10_reasonsAlone 52 = .ok (.invokevirtual 68, 3) := by decide +kernel
theorem dX10_reasonsAlone_55 : decode cX10_reasonsAlone 55 = .ok (.checkcast 136, 3) := by decide +kernel
theorem dX10_reasonsAlone_58 : decode cX10_reasonsAlone 58 = .ok (.astore 6, 2) := by decide +kernel
theorem dX10_reasonsAlone_60 : decode cX10_reasonsAlone 60 = .ok (.aload 6, 2) := by decide +kernel
theorem dX10_reasonsAlone_62 : decode cX10_reasonsAlone 62 = .ok (.getfield 162, 3) := by decide +kernel
theorem dX10_reasonsAlone_65 : decode cX10_reasonsAlone 65 = .ok (.astore 7, 2) := by decide +kernel
theorem dX10_reasonsAlone_67 : decode cX10_reasonsAlone 67 = .ok (.iconst 0, 1) := by decide +kernel
theorem dX10_reasonsAlone_68 : decode cX10_reasonsAlone 68 = .ok (.istore 8, 2) := by decide +kernel
theorem dX10_reasonsAlone_70 : decode cX10_reasonsAlone 70 = .ok (.aload 7, 2) := by decide +kernel
theorem dX10_reasonsAlone_72 : decode cX10_reasonsAlone 72 = .ok (.ifnull 96, 3) := by decide +kernel
theorem dX10_reasonsAlone_75 : decode cX10_reasonsAlone 75 = .ok (.iload 8, 2) := by decide +kernel
theorem dX10_reasonsAlone_77 : decode cX10_reasonsAlone 77 = .ok (.aload 7, 2) := by decide +kernel
theorem dX10_reasonsAlone_79 : decode cX10_reasonsAlone 79 = .ok (.getfield 180, 3) := by decide +kernel
theorem dX10_reasonsAlone_82 : decode cX10_reasonsAlone 82 = .ok (.if_icmp .ge 86, 3) := by decide +kernel
theorem dX10_reasonsAlone_85 : decode cX10_reasonsAlone 85 = .ok (.aload 7, 2) := by decide +kernel
theorem dX10_reasonsAlone_87 : decode cX10_reasonsAlone 87 = .ok (.iload 8, 2) := by decide +kernel
theorem dX10_reasonsAlone_89 : decode cX10_reasonsAlone 89 = .ok (.invokevirtual 185, 3) := by decide +kernel
theorem dX10_reasonsAlone_92 : decode cX10_reasonsAlone 92 = .ok (.iload_n 1, 1) := by decide +kernel
theorem dX10_reasonsAlone_93 : decode cX10_reasonsAlone 93 = .ok (.if_icmp .ne 14, 3) := by decide +kernel
theorem dX10_reasonsAlone_96 : decode cX10_reasonsAlone 96 = .ok (.aload 7, 2) := by decide +kernel
theorem dX10_reasonsAlone_98 : decode cX10_reasonsAlone 98 = .ok (.iload 8, 2) := by decide +kernel
theorem dX10_reasonsAlone_100 : decode cX10_reasonsAlone 100 = .ok (.iload_n 2, 1) := by decide +kernel
theorem dX10_reasonsAlone_101 : decode cX10_reasonsAlone 101 = .ok (.invokevirtual 198, 3) := by decide +kernel
theorem dX10_reasonsAlone_104 : decode cX10_reasonsAlone 104 = .ok (.goto 4, 3) := by decide +kernel
theorem dX10_reasonsAlone_107 : decode cX10_reasonsAlone 107 = .ok (.iconst (-1), 1) := by decide +kernel
theorem dX10_reasonsAlone_108 : decode cX10_reasonsAlone 108 = .ok (.istore 9, 2) := by decide +kernel
theorem dX10_reasonsAlone_110 : decode cX10_reasonsAlone 110 = .ok (.aload 6, 2) := by decide +kernel
theorem dX10_reasonsAlone_112 : decode cX10_reasonsAlone 112 = .ok (.getfield 169, 3) := by decide +kernel
theorem dX10_reasonsAlone_115 : decode cX10_reasonsAlone 115 = .ok (.iload 9, 2) := by decide +kernel
theorem dX10_reasonsAlone_117 : decode cX10_reasonsAlone 117 = .ok (.invokestatic 154, 3) := by decide +kernel
theorem dX10_reasonsAlone_120 : decode cX10_reasonsAlone 120 = .ok (.ifCond .lt 42, 3) := by decide +kernel
theorem dX10_reasonsAlone_123 : decode cX10_reasonsAlone 123 = .ok (.aload_n 0, 1) := by decide +kernel
theorem dX10_reasonsAlone_124 : decode cX10_reasonsAlone 124 = .ok (.getfield 21, 3) := by decide +kernel
theorem dX10_reasonsAlone_127 : decode cX10_reasonsAlone 127 = .ok (.aload 6, 2) := by decide +kernel
theorem dX10_reasonsAlone_129 : decode cX10_reasonsAlone 129 = .ok (.invokevirtual 166, 3) := by decide +kernel
theorem dX10_reasonsAlone_132 : decode cX10_reasonsAlone 132 = .ok (.ifCond .eq 30, 3) := by decide +kernel
theorem dX10_reasonsAlone_135 : decode cX10_reasonsAlone 135 = .ok (.iload 4, 2) := by decide +kernel
theorem dX10_reasonsAlone_137 : decode cX10_reasonsAlone 137 = .ok (.aload_n 0, 1) := by decide +kernel
theorem dX10_reasonsAlone_138 : decode cX10_reasonsAlone 138 = .ok (.getfield 21, 3) := by decide +kernel
theorem dX10_reasonsAlone_141 : decode cX10_reasonsAlone 141 = .ok (.aload 6, 2) := by decide +kernel
theorem dX10_reasonsAlone_143 : decode cX10_reasonsAlone 143 = .ok (.getfield 169, 3) := by decide +kernel
theorem dX10_reasonsAlone_146 : decode cX10_reasonsAlone 146 = .ok (.iload 9, 2) := by decide +kernel
theorem dX10_reasonsAlone_148 : decode cX10_reasonsAlone 148 = .ok (.aload_n 0, 1) := by decide +kernel
theorem dX10_reasonsAlone_149 : decode cX10_reasonsAlone 149 = .ok (.getfield 12, 3) := by decide +kernel
theorem dX10_reasonsAlone_152 : decode cX10_reasonsAlone 152 = .ok (.aload_n 0, 1) := by decide +kernel
theorem dX10_reasonsAlone_153 : decode cX10_reasonsAlone 153 = .ok (.getfield 104, 3) := by decide +kernel
theorem dX10_reasonsAlone_156 : decode cX10_reasonsAlone 156 = .ok (.invokevirtual 201, 3) := by decide +kernel
theorem dX10_reasonsAlone_159 : decode cX10_reasonsAlone 159 = .ok (.iadd, 1) := by decide +kernel
theorem dX10_reasonsAlone_160 : decode cX10_reasonsAlone 160 = .ok (.istore 4, 2) := by decide +kernel
theorem dX10_reasonsAlone_162 : decode cX10_reasonsAlone 162 = .ok (.iinc 8 1, 3) := by decide +kernel
theorem dX10_reasonsAlone_165 : decode cX10_reasonsAlone 165 = .ok (.goto (-95), 3) := by decide +kernel
theorem dX10_reasonsAlone_168 : decode cX10_reasonsAlone 168 = .ok (.iinc 5 1, 3) := by decide +kernel
theorem dX10_reasonsAlone_171 : decode cX10_reasonsAlone 171 = .ok (.goto (-143), 3) := by decide +kernel
theorem dX10_reasonsAlone_174 : decode cX10_reasonsAlone 174 = .ok (.iload 4, 2) := by decide +kernel
theorem dX10_reasonsAlone_176 : decode cX10_reasonsAlone 176 = .ok (.ireturn, 1) := by decide +kernel
theorem dX10_movePallets_0 : decode cX10_movePallets 0 = .ok (.aload_n 0, 1) := by decide +kernel
theorem dX10_movePallets_1 : decode cX10_movePallets 1 = .ok (.iconst 0, 1) := by decide +kernel
theorem dX10_movePallets_2 : decode cX10_movePallets 2 = .ok (.putfield 108, 3) := by decide +kernel
theorem dX10_movePallets_5 : decode cX10_movePallets 5 = .ok (.aload_n 0, 1) := by decide +kernel
theorem dX10_movePallets_6 : decode cX10_movePallets 6 = .ok (.getfield 52, 3) := by decide +kernel
theorem dX10_movePallets_9 : decode cX10_movePallets 9 = .ok (.iconst 0, 1) := by decide +kernel
theorem dX10_movePallets_10 : decode cX10_movePallets 10 = .ok (.invokestatic 58, 3) := by decide +kernel
theorem dX10_movePallets_13 : decode cX10_movePallets 13 = .ok (.iconst 0, 1) := by decide +kernel
theorem dX10_movePallets_14 : decode cX10_movePallets 14 = .ok (.istore_n 1, 1) := by decide +kernel
theorem dX10_movePallets_15 : decode cX10_movePallets 15 = .ok (.iload_n 1, 1) := by decide +kernel
theorem dX10_movePallets_16 : decode cX10_movePallets 16 = .ok (.aload_n 0, 1) := by decide +kernel
theorem dX10_movePallets_17 : decode cX10_movePallets 17 = .ok (.getfield 35, 3) := by decide +kernel
theorem dX10_movePallets_20 : decode cX10_movePallets 20 = .ok (.invokevirtual 64, 3) := by decide +kernel
theorem dX10_movePallets_23 : decode cX10_movePallets 23 = .ok (.if_icmp .ge 178, 3) := by decide +kernel
theorem dX10_movePallets_26 : decode cX10_movePallets 26 = .ok (.aload_n 0, 1) := by decide +kernel
theorem dX10_movePallets_27 : decode cX10_movePallets 27 = .ok (.getfield 35, 3) := by decide +kernel
theorem dX10_movePallets_30 : decode cX10_movePallets 30 = .ok (.iload_n 1, 1) := by decide +kernel
theorem dX10_movePallets_31 : decode cX10_movePallets 31 = .ok (.invokevirtual 68, 3) := by decide +kernel
theorem dX10_movePallets_34 : decode cX10_movePallets 34 = .ok (.checkcast 72, 3) := by decide +kernel
theorem dX10_movePallets_37 : decode cX10_movePallets 37 = .ok (.astore_n 2, 1) := by decide +kernel
theorem dX10_movePallets_38 : decode cX10_movePallets 38 = .ok (.iconst 0, 1) := by decide +kernel
theorem dX10_movePallets_39 : decode cX10_movePallets 39 = .ok (.istore_n 3, 1) := by decide +kernel
theorem dX10_movePallets_40 : decode cX10_movePallets 40 = .ok (.iload_n 3, 1) := by decide +kernel
theorem dX10_movePallets_41 : decode cX10_movePallets 41 = .ok (.aload_n 2, 1) := by decide +kernel
theorem dX10_movePallets_42 : decode cX10_movePallets 42 = .ok (.getfield 124, 3) := by decide +kernel
theorem dX10_movePallets_45 : decode cX10_movePallets 45 = .ok (.arraylength, 1) := by decide +kernel
theorem dX10_movePallets_46 : decode cX10_movePallets 46 = .ok (.if_icmp .ge 149, 3) := by decide +kernel
theorem dX10_movePallets_49 : decode cX10_movePallets 49 = .ok (.aload_n 2, 1) := by decide +kernel
theorem dX10_movePallets_50 : decode cX10_movePallets 50 = .ok (.getfield 124, 3) := by decide +kernel
theorem dX10_movePallets_53 : decode cX10_movePallets 53 = .ok (.iload_n 3, 1) := by decide +kernel
theorem dX10_movePallets_54 : decode cX10_movePallets 54 = .ok (.aaload, 1) := by decide +kernel
theorem dX10_movePallets_55 : decode cX10_movePallets 55 = .ok (.astore 4, 2) := by decide +kernel
theorem dX10_movePallets_57 : decode cX10_movePallets 57 = .ok (.aload 4, 2) := by decide +kernel
theorem dX10_movePallets_59 : decode cX10_movePallets 59 = .ok (.invokevirtual 205, 3) := by decide +kernel
theorem dX10_movePallets_62 : decode cX10_movePallets 62 = .ok (.ifCond .le 7, 3) := by decide +kernel
theorem dX10_movePallets_65 : decode cX10_movePallets 65 = .ok (.iconst 1, 1) := by decide +kernel
theorem dX10_movePallets_66 : decode cX10_movePallets 66 = .ok (.goto 4, 3) := by decide +kernel
theorem dX10_movePallets_69 : decode cX10_movePallets 69 = .ok (.iconst 0, 1) := by decide +kernel
theorem dX10_movePallets_70 : decode cX10_movePallets 70 = .ok (.istore 5, 2) := by decide +kernel
theorem dX10_movePallets_72 : decode cX10_movePallets 72 = .ok (.aload 4, 2) := by decide +kernel
theorem dX10_movePallets_74 : decode cX10_movePallets 74 = .ok (.getfield 208, 3) := by decide +kernel
theorem dX10_movePallets_77 : decode cX10_movePallets 77 = .ok (.iload 5, 2) := by decide +kernel
theorem dX10_movePallets_79 : decode cX10_movePallets 79 = .ok (.if_icmp .eq 39, 3) := by decide +kernel
theorem dX10_movePallets_82 : decode cX10_movePallets 82 = .ok (.aload 4, 2) := by decide +kernel
theorem dX10_movePallets_84 : decode cX10_movePallets 84 = .ok (.iload 5, 2) := by decide +kernel
theorem dX10_movePallets_86 : decode cX10_movePallets 86 = .ok (.putfield 208, 3) := by decide +kernel
theorem dX10_movePallets_89 : decode cX10_movePallets 89 = .ok (.aload 4, 2) := by decide +kernel
theorem dX10_movePallets_91 : decode cX10_movePallets 91 = .ok (.aload_n 0, 1) := by decide +kernel
theorem dX10_movePallets_92 : decode cX10_movePallets 92 = .ok (.getfield 104, 3) := by decide +kernel
theorem dX10_movePallets_95 : decode cX10_movePallets 95 = .ok (.putfield 211, 3) := by decide +kernel
theorem dX10_movePallets_98 : decode cX10_movePallets 98 = .ok (.aload_n 0, 1) := by decide +kernel
theorem dX10_movePallets_99 : decode cX10_movePallets 99 = .ok (.getfield 28, 3) := by decide +kernel
theorem dX10_movePallets_102 : decode cX10_movePallets 102 = .ok (.iload_n 1, 1) := by decide +kernel
theorem dX10_movePallets_103 : decode cX10_movePallets 103 = .ok (.aload_n 2, 1) := by decide +kernel
theorem dX10_movePallets_104 : decode cX10_movePallets 104 = .ok (.getfield 214, 3) := by decide +kernel
theorem dX10_movePallets_107 : decode cX10_movePallets 107 = .ok (.iload_n 3, 1) := by decide +kernel
theorem dX10_movePallets_108 : decode cX10_movePallets 108 = .ok (.iadd, 1) := by decide +kernel
theorem dX10_movePallets_109 : decode cX10_movePallets 109 = .ok (.iload 5, 2) := by decide +kernel
theorem dX10_movePallets_111 : decode cX10_movePallets 111 = .ok (.aload_n 0, 1) := by decide +kernel
theorem dX10_movePallets_112 : decode cX10_movePallets 112 = .ok (.getfield 104, 3) := by decide +kernel
theorem dX10_movePallets_115 : decode cX10_movePallets 115 = .ok (.invokevirtual 217, 3) := by decide +kernel
theorem dX10_movePallets_118 : decode cX10_movePallets 118 = .ok (.aload 4, 2) := by decide +kernel
theorem dX10_movePallets_120 : decode cX10_movePallets 120 = .ok (.aload_n 0, 1) := by decide +kernel
theorem dX10_movePallets_121 : decode cX10_movePallets 121 = .ok (.getfield 104, 3) := by decide +kernel
theorem dX10_movePallets_124 : decode cX10_movePallets 124 = .ok (.aload_n 2, 1) := by decide +kernel
theorem dX10_movePallets_125 : decode cX10_movePallets 125 = .ok (.getfield 221, 3) := by decide +kernel
theorem dX10_movePallets_128 : decode cX10_movePallets 128 = .ok (.aload_n 2, 1) := by decide +kernel
theorem dX10_movePallets_129 : decode cX10_movePallets 129 = .ok (.getfield 224, 3) := by decide +kernel
theorem dX10_movePallets_132 : decode cX10_movePallets 132 = .ok (.invokevirtual 227, 3) := by decide +kernel
theorem dX10_movePallets_135 : decode cX10_movePallets 135 = .ok (.aload_n 0, 1) := by decide +kernel
theorem dX10_movePallets_136 : decode cX10_movePallets 136 = .ok (.aload_n 0, 1) := by decide +kernel
theorem dX10_movePallets_137 : decode cX10_movePallets 137 = .ok (.getfield 108, 3) := by decide +kernel
theorem dX10_movePallets_140 : decode cX10_movePallets 140 = .ok (.ifCond .ne 13, 3) := by decide +kernel
theorem dX10_movePallets_143 : decode cX10_movePallets 143 = .ok (.aload 4, 2) := by decide +kernel
theorem dX10_movePallets_145 : decode cX10_movePallets 145 = .ok (.getfield 231, 3) := by decide +kernel
theorem dX10_movePallets_148 : decode cX10_movePallets 148 = .ok (.iload 5, 2) := by decide +kernel
theorem dX10_movePallets_150 : decode cX10_movePallets 150 = .ok (.if_icmp .eq 7, 3) := by decide +kernel
theorem dX10_movePallets_153 : decode cX10_movePallets 153 = .ok (.iconst 1, 1) := by decide +kernel
theorem dX10_movePallets_154 : decode cX10_movePallets 154 = .ok (.goto 4, 3) := by decide +kernel
theorem dX10_movePallets_157 : decode cX10_movePallets 157 = .ok (.iconst 0, 1) := by decide +kernel
theorem dX10_movePallets_158 : decode cX10_movePallets 158 = .ok (.putfield 108, 3) := by decide +kernel
theorem dX10_movePallets_161 : decode cX10_movePallets 161 = .ok (.aload_n 0, 1) := by decide +kernel
theorem dX10_movePallets_162 : decode cX10_movePallets 162 = .ok (.getfield 52, 3) := by decide +kernel
theorem dX10_movePallets_165 : decode cX10_movePallets 165 = .ok (.aload_n 2, 1) := by decide +kernel
theorem dX10_movePallets_166 : decode cX10_movePallets 166 = .ok (.getfield 234, 3) := by decide +kernel
theorem dX10_movePallets_169 : decode cX10_movePallets 169 = .ok (.dup2, 1) := by decide +kernel
theorem dX10_movePallets_170 : decode cX10_movePallets 170 = .ok (.iaload, 1) := by decide +kernel
theorem dX10_movePallets_171 : decode cX10_movePallets 171 = .ok (.aload 4, 2) := by decide +kernel
theorem dX10_movePallets_173 : decode cX10_movePallets 173 = .ok (.invokevirtual 235, 3) := by decide +kernel
theorem dX10_movePallets_176 : decode cX10_movePallets 176 = .ok (.ifCond .eq 10, 3) := by decide +kernel
theorem dX10_movePallets_179 : decode cX10_movePallets 179 = .ok (.aload_n 2, 1) := by decide +kernel
theorem dX10_movePallets_180 : decode cX10_movePallets 180 = .ok (.getfield 238, 3) := by decide +kernel
theorem dX10_movePallets_183 : decode cX10_movePallets 183 = .ok (.goto 4, 3) := by decide +kernel
theorem dX10_movePallets_186 : decode cX10_movePallets 186 = .ok (.iconst 0, 1) := by decide +kernel
theorem dX10_movePallets_187 : decode cX10_movePallets 187 = .ok (.iadd, 1) := by decide +kernel
theorem dX10_movePallets_188 : decode cX10_movePallets 188 = .ok (.iastore, 1) := by decide +kernel
theorem dX10_movePallets_189 : decode cX10_movePallets 189 = .ok (.iinc 3 1, 3) := by decide +kernel
theorem dX10_movePallets_192 : decode cX10_movePallets 192 = .ok (.goto (-152), 3) := by decide +kernel
theorem dX10_movePallets_195 : decode cX10_movePallets 195 = .ok (.iinc 1 1, 3) := by decide +kernel
theorem dX10_movePallets_198 : decode cX10_movePallets 198 = .ok (.goto (-183), 3) := by decide +kernel
theorem dX10_movePallets_201 : decode cX10_movePallets 201 = .ok (.return_, 1) := by decide +kernel
theorem dX10_findWinds_0 : decode cX10_findWinds 0 = .ok (.iconst 0, 1) := by decide +kernel
theorem dX10_findWinds_1 : decode cX10_findWinds 1 = .ok (.istore_n 1, 1) := by decide +kernel
theorem dX10_findWinds_2 : decode cX10_findWinds 2 = .ok (.iload_n 1, 1) := by decide +kernel
theorem dX10_findWinds_3 : decode cX10_findWinds 3 = .ok (.iconst 3, 1) := by decide +kernel
theorem dX10_findWinds_4 : decode cX10_findWinds 4 = .ok (.if_icmp .ge 71, 3) := by decide +kernel
theorem dX10_findWinds_7 : decode cX10_findWinds 7 = .ok (.iconst 0, 1) := by decide +kernel
theorem dX10_findWinds_8 : decode cX10_findWinds 8 = .ok (.aload_n 0, 1) := by decide +kernel
theorem dX10_findWinds_9 : decode cX10_findWinds 9 = .ok (.getfield 52, 3) := by decide +kernel
theorem dX10_findWinds_12 : decode cX10_findWinds 12 = .ok (.iload_n 1, 1) := by decide +kernel
theorem dX10_findWinds_13 : decode cX10_findWinds 13 = .ok (.iaload, 1) := by decide +kernel
theorem dX10_findWinds_14 : decode cX10_findWinds 14 = .ok (.aload_n 0, 1) := by decide +kernel
theorem dX10_findWinds_15 : decode cX10_findWinds 15 = .ok (.getfield 39, 3) := by decide +kernel
theorem dX10_findWinds_18 : decode cX10_findWinds 18 = .ok (.iload_n 1, 1) := by decide +kernel
theorem dX10_findWinds_19 : decode cX10_findWinds 19 = .ok (.iaload, 1) := by decide +kernel
theorem dX10_findWinds_20 : decode cX10_findWinds 20 = .ok (.isub, 1) := by decide +kernel
theorem dX10_findWinds_21 : decode cX10_findWinds 21 = .ok (.invokestatic 241, 3) := by decide +kernel
theorem dX10_findWinds_24 : decode cX10_findWinds 24 = .ok (.istore_n 2, 1) := by decide +kernel
theorem dX10_findWinds_25 : decode cX10_findWinds 25 = .ok (.bipush 100, 2) := by decide +kernel
theorem dX10_findWinds_27 : decode cX10_findWinds 27 = .ok (.iload_n 2, 1) := by decide +kernel
theorem dX10_findWinds_28 : decode cX10_findWinds 28 = .ok (.iconst 1, 1) := by decide +kernel
theorem dX10_findWinds_29 : decode cX10_findWinds 29 = .ok (.iadd, 1) := by decide +kernel
theorem dX10_findWinds_30 : decode cX10_findWinds 30 = .ok (.iconst 2, 1) := by decide +kernel
theorem dX10_findWinds_31 : decode cX10_findWinds 31 = .ok (.idiv, 1) := by decide +kernel
theorem dX10_findWinds_32 : decode cX10_findWinds 32 = .ok (.isub, 1) := by decide +kernel
theorem dX10_findWinds_33 : decode cX10_findWinds 33 = .ok (.istore_n 3, 1) := by decide +kernel
theorem dX10_findWinds_34 : decode cX10_findWinds 34 = .ok (.aload_n 0, 1) := by decide +kernel
theorem dX10_findWinds_35 : decode cX10_findWinds 35 = .ok (.getfield 104, 3) := by decide +kernel
theorem dX10_findWinds_38 : decode cX10_findWinds 38 = .ok (.iconst 4, 1) := by decide +kernel
theorem dX10_findWinds_39 : decode cX10_findWinds 39 = .ok (.irem, 1) := by decide +kernel
theorem dX10_findWinds_40 : decode cX10_findWinds 40 = .ok (.iconst 2, 1) := by decide +kernel
theorem dX10_findWinds_41 : decode cX10_findWinds 41 = .ok (.if_icmp .lt 17, 3) := by decide +kernel
theorem dX10_findWinds_44 : decode cX10_findWinds 44 = .ok (.aload_n 0, 1) := by decide +kernel
theorem dX10_findWinds_45 : decode cX10_findWinds 45 = .ok (.getfield 21, 3) := by decide +kernel
theorem dX10_findWinds_48 : decode cX10_findWinds 48 = .ok (.iload_n 1, 1) := by decide +kernel
theorem dX10_findWinds_49 : decode cX10_findWinds 49 = .ok (.invokevirtual 246, 3) := by decide +kernel
theorem dX10_findWinds_52 : decode cX10_findWinds 52 = .ok (.ifCond .eq 6, 3) := by decide +kernel
theorem dX10_findWinds_55 : decode cX10_findWinds 55 = .ok (.iinc 3 (-10), 3) := by decide +kernel
theorem dX10_findWinds_58 : decode cX10_findWinds 58 = .ok (.aload_n 0, 1) := by decide +kernel
theorem dX10_findWinds_59 : decode cX10_findWinds 59 = .ok (.getfield 43, 3) := by decide +kernel
theorem dX10_findWinds_62 : decode cX10_findWinds 62 = .ok (.iload_n 1, 1) := by decide +kernel
theorem dX10_findWinds_63 : decode cX10_findWinds 63 = .ok (.iconst 0, 1) := by decide +kernel
theorem dX10_findWinds_64 : decode cX10_findWinds 64 = .ok (.iload_n 3, 1) := by decide +kernel
theorem dX10_findWinds_65 : decode cX10_findWinds 65 = .ok (.invokestatic 241, 3) := by decide +kernel
theorem dX10_findWinds_68 : decode cX10_findWinds 68 = .ok (.iastore, 1) := by decide +kernel
theorem dX10_findWinds_69 : decode cX10_findWinds 69 = .ok (.iinc 1 1, 3) := by decide +kernel
theorem dX10_findWinds_72 : decode cX10_findWinds 72 = .ok (.goto (-70), 3) := by decide +kernel
theorem dX10_findWinds_75 : decode cX10_findWinds 75 = .ok (.return_, 1) := by decide +kernel
theorem dX10_findSpeech_0 : decode cX10_findSpeech 0 = .ok (.aload_n 0, 1) := by decide +kernel
theorem dX10_findSpeech_1 : decode cX10_findSpeech 1 = .ok (.iconst 0, 1) := by decide +kernel
theorem dX10_findSpeech_2 : decode cX10_findSpeech 2 = .ok (.putfield 250, 3) := by decide +kernel
theorem dX10_findSpeech_5 : decode cX10_findSpeech 5 = .ok (.iconst 0, 1) := by decide +kernel
theorem dX10_findSpeech_6 : decode cX10_findSpeech 6 = .ok (.istore_n 1, 1) := by decide +kernel
theorem dX10_findSpeech_7 : decode cX10_findSpeech 7 = .ok (.iload_n 1, 1) := by decide +kernel
theorem dX10_findSpeech_8 : decode cX10_findSpeech 8 = .ok (.aload_n 0, 1) := by decide +kernel
theorem dX10_findSpeech_9 : decode cX10_findSpeech 9 = .ok (.getfield 35, 3) := by decide +kernel
theorem dX10_findSpeech_12 : decode cX10_findSpeech 12 = .ok (.invokevirtual 64, 3) := by decide +kernel
theorem dX10_findSpeech_15 : decode cX10_findSpeech 15 = .ok (.if_icmp .ge 189, 3) := by decide +kernel
theorem dX10_findSpeech_18 : decode cX10_findSpeech 18 = .ok (.aload_n 0, 1) := by decide +kernel
theorem dX10_findSpeech_19 : decode cX10_findSpeech 19 = .ok (.getfield 35, 3) := by decide +kernel
theorem dX10_findSpeech_22 : decode cX10_findSpeech 22 = .ok (.iload_n 1, 1) := by decide +kernel
theorem dX10_findSpeech_23 : decode cX10_findSpeech 23 = .ok (.invokevirtual 68, 3) := by decide +kernel
theorem dX10_findSpeech_26 : decode cX10_findSpeech 26 = .ok (.checkcast 72, 3) := by decide +kernel
theorem dX10_findSpeech_29 : decode cX10_findSpeech 29 = .ok (.astore_n 2, 1) := by decide +kernel
theorem dX10_findSpeech_30 : decode cX10_findSpeech 30 = .ok (.aload_n 0, 1) := by decide +kernel
theorem dX10_findSpeech_31 : decode cX10_findSpeech 31 = .ok (.getfield 43, 3) := by decide +kernel
theorem dX10_findSpeech_34 : decode cX10_findSpeech 34 = .ok (.aload_n 2, 1) := by decide +kernel
theorem dX10_findSpeech_35 : decode cX10_findSpeech 35 = .ok (.getfield 234, 3) := by decide +kernel
theorem dX10_findSpeech_38 : decode cX10_findSpeech 38 = .ok (.iaload, 1) := by decide +kernel
theorem dX10_findSpeech_39 : decode cX10_findSpeech 39 = .ok (.ifCond .le 7, 3) := by decide +kernel
theorem dX10_findSpeech_42 : decode cX10_findSpeech 42 = .ok (.iconst 1, 1) := by decide +kernel
theorem dX10_findSpeech_43 : decode cX10_findSpeech 43 = .ok (.goto 4, 3) := by decide +kernel
theorem dX10_findSpeech_46 : decode cX10_findSpeech 46 = .ok (.iconst 0, 1) := by decide +kernel
theorem dX10_findSpeech_47 : decode cX10_findSpeech 47 = .ok (.istore_n 3, 1) := by decide +kernel
theorem dX10_findSpeech_48 : decode cX10_findSpeech 48 = .ok (.aload_n 2, 1) := by decide +kernel
theorem dX10_findSpeech_49 : decode cX10_findSpeech 49 = .ok (.getfield 124, 3) := by decide +kernel
theorem dX10_findSpeech_52 : decode cX10_findSpeech 52 = .ok (.astore 4, 2) := by decide +kernel
theorem dX10_findSpeech_54 : decode cX10_findSpeech 54 = .ok (.aload 4, 2) := by decide +kernel
theorem dX10_findSpeech_56 : decode cX10_findSpeech 56 = .ok (.arraylength, 1) := by decide +kernel
theorem dX10_findSpeech_57 : decode cX10_findSpeech 57 = .ok (.istore 5, 2) := by decide +kernel
theorem dX10_findSpeech_59 : decode cX10_findSpeech 59 = .ok (.iconst 0, 1) := by decide +kernel
theorem dX10_findSpeech_60 : decode cX10_findSpeech 60 = .ok (.istore 6, 2) := by decide +kernel
theorem dX10_findSpeech_62 : decode cX10_findSpeech 62 = .ok (.iload 6, 2) := by decide +kernel
theorem dX10_findSpeech_64 : decode cX10_findSpeech 64 = .ok (.iload 5, 2) := by decide +kernel
theorem dX10_findSpeech_66 : decode cX10_findSpeech 66 = .ok (.if_icmp .ge 132, 3) := by decide +kernel
theorem dX10_findSpeech_69 : decode cX10_findSpeech 69 = .ok (.aload 4, 2) := by decide +kernel
theorem dX10_findSpeech_71 : decode cX10_findSpeech 71 = .ok (.iload 6, 2) := by decide +kernel
theorem dX10_findSpeech_73 : decode cX10_findSpeech 73 = .ok (.aaload, 1) := by decide +kernel
theorem dX10_findSpeech_74 : decode cX10_findSpeech 74 = .ok (.astore 7, 2) := by decide +kernel
theorem dX10_findSpeech_76 : decode cX10_findSpeech 76 = .ok (.iload_n 3, 1) := by decide +kernel
theorem dX10_findSpeech_77 : decode cX10_findSpeech 77 = .ok (.ifCond .eq 15, 3) := by decide +kernel
theorem dX10_findSpeech_80 : decode cX10_findSpeech 80 = .ok (.aload 7, 2) := by decide +kernel
theorem dX10_findSpeech_82 : decode cX10_findSpeech 82 = .ok (.invokevirtual 235, 3) := by decide +kernel
theorem dX10_findSpeech_85 : decode cX10_findSpeech 85 = .ok (.ifCond .eq 7, 3) := by decide +kernel
theorem dX10_findSpeech_88 : decode cX10_findSpeech 88 = .ok (.iconst 1, 1) := by decide +kernel
theorem dX10_findSpeech_89 : decode cX10_findSpeech 89 = .ok (.goto 4, 3) := by decide +kernel
theorem dX10_findSpeech_92 : decode cX10_findSpeech 92 = .ok (.iconst 0, 1) := by decide +kernel
theorem dX10_findSpeech_93 : decode cX10_findSpeech 93 = .ok (.istore 8, 2) := by decide +kernel
theorem dX10_findSpeech_95 : decode cX10_findSpeech 95 = .ok (.iload 8, 2) := by decide +kernel
theorem dX10_findSpeech_97 : decode cX10_findSpeech 97 = .ok (.ifCond .eq 35, 3) := by decide +kernel
theorem dX10_findSpeech_100 : decode cX10_findSpeech 100 = .ok (.aload 7, 2) := by decide +kernel
theorem dX10_findSpeech_102 : decode cX10_findSpeech 102 = .ok (.getfield 253, 3) := by decide +kernel
theorem dX10_findSpeech_105 : decode cX10_findSpeech 105 = .ok (.ifCond .ne 27, 3) := by decide +kernel
theorem dX10_findSpeech_108 : decode cX10_findSpeech 108 = .ok (.aload 7, 2) := by decide +kernel
theorem dX10_findSpeech_110 : decode cX10_findSpeech 110 = .ok (.dup, 1) := by decide +kernel
theorem dX10_findSpeech_111 : decode cX10_findSpeech 111 = .ok (.getfield 256, 3) := by decide +kernel
theorem dX10_findSpeech_114 : decode cX10_findSpeech 114 = .ok (.iconst 1, 1) := by decide +kernel
theorem dX10_findSpeech_115 : decode cX10_findSpeech 115 = .ok (.iadd, 1) := by decide +kernel
theorem dX10_findSpeech_116 : decode cX10_findSpeech 116 = .ok (.putfield 256, 3) := by decide +kernel
theorem dX10_findSpeech_119 : decode cX10_findSpeech 119 = .ok (.aload_n 0, 1) := by decide +kernel
theorem dX10_findSpeech_120 : decode cX10_findSpeech 120 = .ok (.dup, 1) := by decide +kernel
theorem dX10_findSpeech_121 : decode cX10_findSpeech 121 = .ok (.getfield 259, 3) := by decide +kernel
theorem dX10_findSpeech_124 : decode cX10_findSpeech 124 = .ok (.iconst 1, 1) := by decide +kernel
theorem dX10_findSpeech_125 : decode cX10_findSpeech 125 = .ok (.iadd, 1) := by decide +kernel
theorem dX10_findSpeech_126 : decode cX10_findSpeech 126 = .ok (.putfield 259, 3) := by decide +kernel
theorem dX10_findSpeech_129 : decode cX10_findSpeech 129 = .ok (.goto 37, 3) := by decide +kernel
theorem dX10_findSpeech_132 : decode cX10_findSpeech 132 = .ok (.iload 8, 2) := by decide +kernel
theorem dX10_findSpeech_134 : decode cX10_findSpeech 134 = .ok (.ifCond .ne 32, 3) := by decide +kernel
theorem dX10_findSpeech_137 : decode cX10_findSpeech 137 = .ok (.aload 7, 2) := by decide +kernel
theorem dX10_findSpeech_139 : decode cX10_findSpeech 139 = .ok (.getfield 253, 3) := by decide +kernel
theorem dX10_findSpeech_142 : decode cX10_findSpeech 142 = .ok (.ifCond .eq 24, 3) := by decide +kernel
theorem dX10_findSpeech_145 : decode cX10_findSpeech 145 = .ok (.aload 7, 2) := by decide +kernel
theorem dX10_findSpeech_147 : decode cX10_findSpeech 147 = .ok (.dup, 1) := by decide +kernel
theorem dX10_findSpeech_148 : decode cX10_findSpeech 148 = .ok (.getfield 262, 3) := by decide +kernel
theorem dX10_findSpeech_151 : decode cX10_findSpeech 151 = .ok (.iconst 1, 1) := by decide +kernel
theorem dX10_findSpeech_152 : decode cX10_findSpeech 152 = .ok (.iadd, 1) := by decide +kernel
theorem dX10_findSpeech_153 : decode cX10_findSpeech 153 = .ok (.putfield 262, 3) := by decide +kernel
theorem dX10_findSpeech_156 : decode cX10_findSpeech 156 = .ok (.aload_n 0, 1) := by decide +kernel
theorem dX10_findSpeech_157 : decode cX10_findSpeech 157 = .ok (.dup, 1) := by decide +kernel
theorem dX10_findSpeech_158 : decode cX10_findSpeech 158 = .ok (.getfield 265, 3) := by decide +kernel
theorem dX10_findSpeech_161 : decode cX10_findSpeech 161 = .ok (.lconst 1, 1) := by decide +kernel
theorem dX10_findSpeech_162 : decode cX10_findSpeech 162 = .ok (.ladd, 1) := by decide +kernel
theorem dX10_findSpeech_163 : decode cX10_findSpeech 163 = .ok (.putfield 265, 3) := by decide +kernel
theorem dX10_findSpeech_166 : decode cX10_findSpeech 166 = .ok (.aload 7, 2) := by decide +kernel
theorem dX10_findSpeech_168 : decode cX10_findSpeech 168 = .ok (.iload 8, 2) := by decide +kernel
theorem dX10_findSpeech_170 : decode cX10_findSpeech 170 = .ok (.putfield 253, 3) := by decide +kernel
theorem dX10_findSpeech_173 : decode cX10_findSpeech 173 = .ok (.aload_n 0, 1) := by decide +kernel
theorem dX10_findSpeech_174 : decode cX10_findSpeech 174 = .ok (.dup, 1) := by decide +kernel
theorem dX10_findSpeech_175 : decode cX10_findSpeech 175 = .ok (.getfield 250, 3) := by decide +kernel
theorem dX10_findSpeech_178 : decode cX10_findSpeech 178 = .ok (.iload 8, 2) := by decide +kernel
theorem dX10_findSpeech_180 : decode cX10_findSpeech 180 = .ok (.ifCond .eq 7, 3) := by decide +kernel
theorem dX10_findSpeech_183 : decode cX10_findSpeech 183 = .ok (.iconst 1, 1) := by decide +kernel
theorem dX10_findSpeech_184 : decode cX10_findSpeech 184 = .ok (.goto 4, 3) := by decide +kernel
theorem dX10_findSpeech_187 : decode cX10_findSpeech 187 = .ok (.iconst 0, 1) := by decide +kernel
theorem dX10_findSpeech_188 : decode cX10_findSpeech 188 = .ok (.iadd, 1) := by decide +kernel
theorem dX10_findSpeech_189 : decode cX10_findSpeech 189 = .ok (.putfield 250, 3) := by decide +kernel
theorem dX10_findSpeech_192 : decode cX10_findSpeech 192 = .ok (.iinc 6 1, 3) := by decide +kernel
theorem dX10_findSpeech_195 : decode cX10_findSpeech 195 = .ok (.goto (-133), 3) := by decide +kernel
theorem dX10_findSpeech_198 : decode cX10_findSpeech 198 = .ok (.iinc 1 1, 3) := by decide +kernel
theorem dX10_findSpeech_201 : decode cX10_findSpeech 201 = .ok (.goto (-194), 3) := by decide +kernel
theorem dX10_findSpeech_204 : decode cX10_findSpeech 204 = .ok (.return_, 1) := by decide +kernel
theorem dX10_pressKey_0 : decode cX10_pressKey 0 = .ok (.aload_n 0, 1) := by decide +kernel
theorem dX10_pressKey_1 : decode cX10_pressKey 1 = .ok (.getfield 12, 3) := by decide +kernel
theorem dX10_pressKey_4 : decode cX10_pressKey 4 = .ok (.iload_n 1, 1) := by decide +kernel
theorem dX10_pressKey_5 : decode cX10_pressKey 5 = .ok (.iload_n 2, 1) := by decide +kernel
theorem dX10_pressKey_6 : decode cX10_pressKey 6 = .ok (.iload_n 3, 1) := by decide +kernel
theorem dX10_pressKey_7 : decode cX10_pressKey 7 = .ok (.aload_n 0, 1) := by decide +kernel
theorem dX10_pressKey_8 : decode cX10_pressKey 8 = .ok (.getfield 104, 3) := by decide +kernel
theorem dX10_pressKey_11 : decode cX10_pressKey 11 = .ok (.invokevirtual 269, 3) := by decide +kernel
theorem dX10_pressKey_14 : decode cX10_pressKey 14 = .ok (.ifCond .eq 17, 3) := by decide +kernel
theorem dX10_pressKey_17 : decode cX10_pressKey 17 = .ok (.aload_n 0, 1) := by decide +kernel
theorem dX10_pressKey_18 : decode cX10_pressKey 18 = .ok (.getfield 28, 3) := by decide +kernel
theorem dX10_pressKey_21 : decode cX10_pressKey 21 = .ok (.iload_n 1, 1) := by decide +kernel
theorem dX10_pressKey_22 : decode cX10_pressKey 22 = .ok (.iload_n 2, 1) := by decide +kernel
theorem dX10_pressKey_23 : decode cX10_pressKey 23 = .ok (.iload_n 3, 1) := by decide +kernel
theorem dX10_pressKey_24 : decode cX10_pressKey 24 = .ok (.aload_n 0, 1) := by decide +kernel
theorem dX10_pressKey_25 : decode cX10_pressKey 25 = .ok (.getfield 104, 3) := by decide +kernel
theorem dX10_pressKey_28 : decode cX10_pressKey 28 = .ok (.invokevirtual 273, 3) := by decide +kernel
theorem dX10_pressKey_31 : decode cX10_pressKey 31 = .ok (.return_, 1) := by decide +kernel
theorem dX10_releaseAll_0 : decode cX10_releaseAll 0 = .ok (.iconst 0, 1) := by decide +kernel
theorem dX10_releaseAll_1 : decode cX10_releaseAll 1 = .ok (.istore_n 1, 1) := by decide +kernel
theorem dX10_releaseAll_2 : decode cX10_releaseAll 2 = .ok (.iconst 0, 1) := by decide +kernel
theorem dX10_releaseAll_3 : decode cX10_releaseAll 3 = .ok (.istore_n 2, 1) := by decide +kernel
theorem dX10_releaseAll_4 : decode cX10_releaseAll 4 = .ok (.iload_n 2, 1) := by decide +kernel
theorem dX10_releaseAll_5 : decode cX10_releaseAll 5 = .ok (.iconst 3, 1) := by decide +kernel
theorem dX10_releaseAll_6 : decode cX10_releaseAll 6 = .ok (.if_icmp .ge 47, 3) := by decide +kernel
theorem dX10_releaseAll_9 : decode cX10_releaseAll 9 = .ok (.iconst 0, 1) := by decide +kernel
theorem dX10_releaseAll_10 : decode cX10_releaseAll 10 = .ok (.istore_n 3, 1) := by decide +kernel
theorem dX10_releaseAll_11 : decode cX10_releaseAll 11 = .ok (.iload_n 3, 1) := by decide +kernel
theorem dX10_releaseAll_12 : decode cX10_releaseAll 12 = .ok (.iload_n 2, 1) := by decide +kernel
theorem dX10_releaseAll_13 : decode cX10_releaseAll 13 = .ok (.invokestatic 176, 3) := by decide +kernel
theorem dX10_releaseAll_16 : decode cX10_releaseAll 16 = .ok (.if_icmp .ge 31, 3) := by decide +kernel
theorem dX10_releaseAll_19 : decode cX10_releaseAll 19 = .ok (.aload_n 0, 1) := by decide +kernel
theorem dX10_releaseAll_20 : decode cX10_releaseAll 20 = .ok (.getfield 12, 3) := by decide +kernel
theorem dX10_releaseAll_23 : decode cX10_releaseAll 23 = .ok (.iload_n 2, 1) := by decide +kernel
theorem dX10_releaseAll_24 : decode cX10_releaseAll 24 = .ok (.iload_n 3, 1) := by decide +kernel
theorem dX10_releaseAll_25 : decode cX10_releaseAll 25 = .ok (.invokevirtual 276, 3) := by decide +kernel
theorem dX10_releaseAll_28 : decode cX10_releaseAll 28 = .ok (.ifCond .eq 13, 3) := by decide +kernel
theorem dX10_releaseAll_31 : decode cX10_releaseAll 31 = .ok (.aload_n 0, 1) := by decide +kernel
theorem dX10_releaseAll_32 : decode cX10_releaseAll 32 = .ok (.iload_n 2, 1) := by decide +kernel
theorem dX10_releaseAll_33 : decode cX10_releaseAll 33 = .ok (.iload_n 3, 1) := by decide +kernel
theorem dX10_releaseAll_34 : decode cX10_releaseAll 34 = .ok (.iconst 0, 1) := by decide +kernel
theorem dX10_releaseAll_35 : decode cX10_releaseAll 35 = .ok (.invokevirtual 280, 3) := by decide +kernel
theorem dX10_releaseAll_38 : decode cX10_releaseAll 38 = .ok (.iinc 1 1, 3) := by decide +kernel
theorem dX10_releaseAll_41 : decode cX10_releaseAll 41 = .ok (.iinc 3 1, 3) := by decide +kernel
theorem dX10_releaseAll_44 : decode cX10_releaseAll 44 = .ok (.goto (-33), 3) := by decide +kernel
theorem dX10_releaseAll_47 : decode cX10_releaseAll 47 = .ok (.iinc 2 1, 3) := by decide +kernel
theorem dX10_releaseAll_50 : decode cX10_releaseAll 50 = .ok (.goto (-46), 3) := by decide +kernel
theorem dX10_releaseAll_53 : decode cX10_releaseAll 53 = .ok (.aload_n 0, 1) := by decide +kernel
theorem dX10_releaseAll_54 : decode cX10_releaseAll 54 = .ok (.invokevirtual 115, 3) := by decide +kernel
theorem dX10_releaseAll_57 : decode cX10_releaseAll 57 = .ok (.iload_n 1, 1) := by decide +kernel
theorem dX10_releaseAll_58 : decode cX10_releaseAll 58 = .ok (.ireturn, 1) := by decide +kernel
theorem dX10_pressChord_0 : decode cX10_pressChord 0 = .ok (.iconst 0, 1) := by decide +kernel
theorem dX10_pressChord_1 : decode cX10_pressChord 1 = .ok (.istore_n 2, 1) := by decide +kernel
theorem dX10_pressChord_2 : decode cX10_pressChord 2 = .ok (.iload_n 2, 1) := by decide +kernel
theorem dX10_pressChord_3 : decode cX10_pressChord 3 = .ok (.iconst 1, 1) := by decide +kernel
theorem dX10_pressChord_4 : decode cX10_pressChord 4 = .ok (.if_icmp .gt 41, 3) := by decide +kernel
theorem dX10_pressChord_7 : decode cX10_pressChord 7 = .ok (.iconst 0, 1) := by decide +kernel
theorem dX10_pressChord_8 : decode cX10_pressChord 8 = .ok (.istore_n 3, 1) := by decide +kernel
theorem dX10_pressChord_9 : decode cX10_pressChord 9 = .ok (.iload_n 3, 1) := by decide +kernel
theorem dX10_pressChord_10 : decode cX10_pressChord 10 = .ok (.iload_n 2, 1) := by decide +kernel
theorem dX10_pressChord_11 : decode cX10_pressChord 11 = .ok (.invokestatic 176, 3) := by decide +kernel
theorem dX10_pressChord_14 : decode cX10_pressChord 14 = .ok (.if_icmp .ge 25, 3) := by decide +kernel
theorem dX10_pressChord_17 : decode cX10_pressChord 17 = .ok (.aload_n 1, 1) := by decide +kernel
theorem dX10_pressChord_18 : decode cX10_pressChord 18 = .ok (.iload_n 2, 1) := by decide +kernel
theorem dX10_pressChord_19 : decode cX10_pressChord 19 = .ok (.iload_n 3, 1) := by decide +kernel
theorem dX10_pressChord_20 : decode cX10_pressChord 20 = .ok (.invokevirtual 284, 3) := by decide +kernel
theorem dX10_pressChord_23 : decode cX10_pressChord 23 = .ok (.ifCond .ne 10, 3) := by decide +kernel
theorem dX10_pressChord_26 : decode cX10_pressChord 26 = .ok (.aload_n 0, 1) := by decide +kernel
theorem dX10_pressChord_27 : decode cX10_pressChord 27 = .ok (.iload_n 2, 1) := by decide +kernel
theorem dX10_pressChord_28 : decode cX10_pressChord 28 = .ok (.iload_n 3, 1) := by decide +kernel
theorem dX10_pressChord_29 : decode cX10_pressChord 29 = .ok (.iconst 0, 1) := by decide +kernel
theorem dX10_pressChord_30 : decode cX10_pressChord 30 = .ok (.invokevirtual 280, 3) := by decide +kernel
theorem dX10_pressChord_33 : decode cX10_pressChord 33 = .ok (.iinc 3 1, 3) := by decide +kernel
theorem dX10_pressChord_36 : decode cX10_pressChord 36 = .ok (.goto (-27), 3) := by decide +kernel
theorem dX10_pressChord_39 : decode cX10_pressChord 39 = .ok (.iinc 2 1, 3) := by decide +kernel
theorem dX10_pressChord_42 : decode cX10_pressChord 42 = .ok (.goto (-40), 3) := by decide +kernel
theorem dX10_pressChord_45 : decode cX10_pressChord 45 = .ok (.iconst 0, 1) := by decide +kernel
theorem dX10_pressChord_46 : decode cX10_pressChord 46 = .ok (.istore_n 2, 1) := by decide +kernel
theorem dX10_pressChord_47 : decode cX10_pressChord 47 = .ok (.iload_n 2, 1) := by decide +kernel
theorem dX10_pressChord_48 : decode cX10_pressChord 48 = .ok (.iconst 4, 1) := by decide +kernel
theorem dX10_pressChord_49 : decode cX10_pressChord 49 = .ok (.if_icmp .ge 28, 3) := by decide +kernel
theorem dX10_pressChord_52 : decode cX10_pressChord 52 = .ok (.aload_n 0, 1) := by decide +kernel
theorem dX10_pressChord_53 : decode cX10_pressChord 53 = .ok (.iload_n 2, 1) := by decide +kernel
theorem dX10_pressChord_54 : decode cX10_pressChord 54 = .ok (.ifCond .ne 7, 3) := by decide +kernel
theorem dX10_pressChord_57 : decode cX10_pressChord 57 = .ok (.iconst 0, 1) := by decide +kernel
theorem dX10_pressChord_58 : decode cX10_pressChord 58 = .ok (.goto 4, 3) := by decide +kernel
theorem dX10_pressChord_61 : decode cX10_pressChord 61 = .ok (.iconst 1, 1) := by decide +kernel
theorem dX10_pressChord_62 : decode cX10_pressChord 62 = .ok (.aload_n 1, 1) := by decide +kernel
theorem dX10_pressChord_63 : decode cX10_pressChord 63 = .ok (.iload_n 2, 1) := by decide +kernel
theorem dX10_pressChord_64 : decode cX10_pressChord 64 = .ok (.invokevirtual 289, 3) := by decide +kernel
theorem dX10_pressChord_67 : decode cX10_pressChord 67 = .ok (.iconst 1, 1) := by decide +kernel
theorem dX10_pressChord_68 : decode cX10_pressChord 68 = .ok (.invokevirtual 280, 3) := by decide +kernel
theorem dX10_pressChord_71 : decode cX10_pressChord 71 = .ok (.iinc 2 1, 3) := by decide +kernel
theorem dX10_pressChord_74 : decode cX10_pressChord 74 = .ok (.goto (-27), 3) := by decide +kernel
theorem dX10_pressChord_77 : decode cX10_pressChord 77 = .ok (.aload_n 0, 1) := by decide +kernel
theorem dX10_pressChord_78 : decode cX10_pressChord 78 = .ok (.invokevirtual 115, 3) := by decide +kernel
theorem dX10_pressChord_81 : decode cX10_pressChord 81 = .ok (.return_, 1) := by decide +kernel
theorem dX10_hold_0 : decode cX10_hold 0 = .ok (.aload_n 0, 1) := by decide +kernel
theorem dX10_hold_1 : decode cX10_hold 1 = .ok (.iload_n 1, 1) := by decide +kernel
theorem dX10_hold_2 : decode cX10_hold 2 = .ok (.iload_n 2, 1) := by decide +kernel
theorem dX10_hold_3 : decode cX10_hold 3 = .ok (.invokevirtual 191, 3) := by decide +kernel
theorem dX10_hold_6 : decode cX10_hold 6 = .ok (.astore 4, 2) := by decide +kernel
theorem dX10_hold_8 : decode cX10_hold 8 = .ok (.aload 4, 2) := by decide +kernel
theorem dX10_hold_10 : decode cX10_hold 10 = .ok (.ifnull 9, 3) := by decide +kernel
theorem dX10_hold_13 : decode cX10_hold 13 = .ok (.aload 4, 2) := by decide +kernel
theorem dX10_hold_15 : decode cX10_hold 15 = .ok (.iload_n 3, 1) := by decide +kernel
theorem dX10_hold_16 : decode cX10_hold 16 = .ok (.putfield 195, 3) := by decide +kernel
theorem dX10_hold_19 : decode cX10_hold 19 = .ok (.return_, 1) := by decide +kernel
theorem dX10_holdNone_0 : decode cX10_holdNone 0 = .ok (.iconst 0, 1) := by decide +kernel
theorem dX10_holdNone_1 : decode cX10_holdNone 1 = .ok (.istore_n 1, 1) := by decide +kernel
theorem dX10_holdNone_2 : decode cX10_holdNone 2 = .ok (.iload_n 1, 1) := by decide +kernel
theorem dX10_holdNone_3 : decode cX10_holdNone 3 = .ok (.aload_n 0, 1) := by decide +kernel
theorem dX10_holdNone_4 : decode cX10_holdNone 4 = .ok (.getfield 35, 3) := by decide +kernel
theorem dX10_holdNone_7 : decode cX10_holdNone 7 = .ok (.invokevirtual 64, 3) := by decide +kernel
theorem dX10_holdNone_10 : decode cX10_holdNone 10 = .ok (.if_icmp .ge 54, 3) := by decide +kernel
theorem dX10_holdNone_13 : decode cX10_holdNone 13 = .ok (.aload_n 0, 1) := by decide +kernel
theorem dX10_holdNone_14 : decode cX10_holdNone 14 = .ok (.getfield 35, 3) := by decide +kernel
theorem dX10_holdNone_17 : decode cX10_holdNone 17 = .ok (.iload_n 1, 1) := by decide +kernel
theorem dX10_holdNone_18 : decode cX10_holdNone 18 = .ok (.invokevirtual 68, 3) := by decide +kernel
theorem dX10_holdNone_21 : decode cX10_holdNone 21 = .ok (.checkcast 72, 3) := by decide +kernel
theorem dX10_holdNone_24 : decode cX10_holdNone 24 = .ok (.getfield 124, 3) := by decide +kernel
theorem dX10_holdNone_27 : decode cX10_holdNone 27 = .ok (.astore_n 2, 1) := by decide +kernel
theorem dX10_holdNone_28 : decode cX10_holdNone 28 = .ok (.aload_n 2, 1) := by decide +kernel
theorem dX10_holdNone_29 : decode cX10_holdNone 29 = .ok (.arraylength, 1) := by decide +kernel
theorem dX10_holdNone_30 : decode cX10_holdNone 30 = .ok (.istore_n 3, 1) := by decide +kernel
theorem dX10_holdNone_31 : decode cX10_holdNone 31 = .ok (.iconst 0, 1) := by decide +kernel
theorem dX10_holdNone_32 : decode cX10_holdNone 32 = .ok (.istore 4, 2) := by decide +kernel
theorem dX10_holdNone_34 : decode cX10_holdNone 34 = .ok (.iload 4, 2) := by decide +kernel
theorem dX10_holdNone_36 : decode cX10_holdNone 36 = .ok (.iload_n 3, 1) := by decide +kernel
theorem dX10_holdNone_37 : decode cX10_holdNone 37 = .ok (.if_icmp .ge 21, 3) := by decide +kernel
theorem dX10_holdNone_40 : decode cX10_holdNone 40 = .ok (.aload_n 2, 1) := by decide +kernel
theorem dX10_holdNone_41 : decode cX10_holdNone 41 = .ok (.iload 4, 2) := by decide +kernel
theorem dX10_holdNone_43 : decode cX10_holdNone 43 = .ok (.aaload, 1) := by decide +kernel
theorem dX10_holdNone_44 : decode cX10_holdNone 44 = .ok (.astore 5, 2) := by decide +kernel
theorem dX10_holdNone_46 : decode cX10_holdNone 46 = .ok (.aload 5, 2) := by decide +kernel
theorem dX10_holdNone_48 : decode cX10_holdNone 48 = .ok (.iconst 0, 1) := by decide +kernel
theorem dX10_holdNone_49 : decode cX10_holdNone 49 = .ok (.putfield 195, 3) := by decide +kernel
theorem dX10_holdNone_52 : decode cX10_holdNone 52 = .ok (.iinc 4 1, 3) := by decide +kernel
theorem dX10_holdNone_55 : decode cX10_holdNone 55 = .ok (.goto (-21), 3) := by decide +kernel
theorem dX10_holdNone_58 : decode cX10_holdNone 58 = .ok (.iinc 1 1, 3) := by decide +kernel
theorem dX10_holdNone_61 : decode cX10_holdNone 61 = .ok (.goto (-59), 3) := by decide +kernel
theorem dX10_holdNone_64 : decode cX10_holdNone 64 = .ok (.aload_n 0, 1) := by decide +kernel
theorem dX10_holdNone_65 : decode cX10_holdNone 65 = .ok (.invokevirtual 115, 3) := by decide +kernel
theorem dX10_holdNone_68 : decode cX10_holdNone 68 = .ok (.return_, 1) := by decide +kernel
theorem dX10_pitchOf_0 : decode cX10_pitchOf 0 = .ok (.aload_n 0, 1) := by decide +kernel
theorem dX10_pitchOf_1 : decode cX10_pitchOf 1 = .ok (.iload_n 1, 1) := by decide +kernel
theorem dX10_pitchOf_2 : decode cX10_pitchOf 2 = .ok (.invokevirtual 291, 3) := by decide +kernel
theorem dX10_pitchOf_5 : decode cX10_pitchOf 5 = .ok (.astore_n 3, 1) := by decide +kernel
theorem dX10_pitchOf_6 : decode cX10_pitchOf 6 = .ok (.aload_n 0, 1) := by decide +kernel
theorem dX10_pitchOf_7 : decode cX10_pitchOf 7 = .ok (.iload_n 1, 1) := by decide +kernel
theorem dX10_pitchOf_8 : decode cX10_pitchOf 8 = .ok (.iload_n 2, 1) := by decide +kernel
theorem dX10_pitchOf_9 : decode cX10_pitchOf 9 = .ok (.invokevirtual 191, 3) := by decide +kernel
theorem dX10_pitchOf_12 : decode cX10_pitchOf 12 = .ok (.astore 4, 2) := by decide +kernel
theorem dX10_pitchOf_14 : decode cX10_pitchOf 14 = .ok (.aload_n 3, 1) := by decide +kernel
theorem dX10_pitchOf_15 : decode cX10_pitchOf 15 = .ok (.ifnull 12, 3) := by decide +kernel
theorem dX10_pitchOf_18 : decode cX10_pitchOf 18 = .ok (.aload 4, 2) := by decide +kernel
theorem dX10_pitchOf_20 : decode cX10_pitchOf 20 = .ok (.ifnull 7, 3) := by decide +kernel
theorem dX10_pitchOf_23 : decode cX10_pitchOf 23 = .ok (.iload_n 2, 1) := by decide +kernel
theorem dX10_pitchOf_24 : decode cX10_pitchOf 24 = .ok (.ifCond .ge 5, 3) := by decide +kernel
theorem dX10_pitchOf_27 : decode cX10_pitchOf 27 = .ok (.iconst 0, 1) := by decide +kernel
theorem dX10_pitchOf_28 : decode cX10_pitchOf 28 = .ok (.ireturn, 1) := by decide +kernel
theorem dX10_pitchOf_29 : decode cX10_pitchOf 29 = .ok (.bipush 100, 2) := by decide +kernel
theorem dX10_pitchOf_31 : decode cX10_pitchOf 31 = .ok (.aload_n 0, 1) := by decide +kernel
theorem dX10_pitchOf_32 : decode cX10_pitchOf 32 = .ok (.getfield 43, 3) := by decide +kernel
theorem dX10_pitchOf_35 : decode cX10_pitchOf 35 = .ok (.aload_n 3, 1) := by decide +kernel
theorem dX10_pitchOf_36 : decode cX10_pitchOf 36 = .ok (.getfield 234, 3) := by decide +kernel
theorem dX10_pitchOf_39 : decode cX10_pitchOf 39 = .ok (.iaload, 1) := by decide +kernel
theorem dX10_pitchOf_40 : decode cX10_pitchOf 40 = .ok (.isub, 1) := by decide +kernel
theorem dX10_pitchOf_41 : decode cX10_pitchOf 41 = .ok (.istore 5, 2) := by decide +kernel
theorem dX10_pitchOf_43 : decode cX10_pitchOf 43 = .ok (.bipush 100, 2) := by decide +kernel
theorem dX10_pitchOf_45 : decode cX10_pitchOf 45 = .ok (.iload_n 2, 1) := by decide +kernel
theorem dX10_pitchOf_46 : decode cX10_pitchOf 46 = .ok (.imul, 1) := by decide +kernel
theorem dX10_pitchOf_47 : decode cX10_pitchOf 47 = .ok (.aload_n 0, 1) := by decide +kernel
theorem dX10_pitchOf_48 : decode cX10_pitchOf 48 = .ok (.getfield 49, 3) := by decide +kernel
theorem dX10_pitchOf_51 : decode cX10_pitchOf 51 = .ok (.iload_n 2, 1) := by decide +kernel
theorem dX10_pitchOf_52 : decode cX10_pitchOf 52 = .ok (.bipush 12, 2) := by decide +kernel
theorem dX10_pitchOf_54 : decode cX10_pitchOf 54 = .ok (.irem, 1) := by decide +kernel
theorem dX10_pitchOf_55 : decode cX10_pitchOf 55 = .ok (.iaload, 1) := by decide +kernel
theorem dX10_pitchOf_56 : decode cX10_pitchOf 56 = .ok (.iadd, 1) := by decide +kernel
theorem dX10_pitchOf_57 : decode cX10_pitchOf 57 = .ok (.aload 4, 2) := by decide +kernel
theorem dX10_pitchOf_59 : decode cX10_pitchOf 59 = .ok (.getfield 295, 3) := by decide +kernel
theorem dX10_pitchOf_62 : decode cX10_pitchOf 62 = .ok (.iadd, 1) := by decide +kernel
theorem dX10_pitchOf_63 : decode cX10_pitchOf 63 = .ok (.aload_n 0, 1) := by decide +kernel
theorem dX10_pitchOf_64 : decode cX10_pitchOf 64 = .ok (.getfield 298, 3) := by decide +kernel
theorem dX10_pitchOf_67 : decode cX10_pitchOf 67 = .ok (.aload_n 3, 1) := by decide +kernel
theorem dX10_pitchOf_68 : decode cX10_pitchOf 68 = .ok (.getfield 301, 3) := by decide +kernel
theorem dX10_pitchOf_71 : decode cX10_pitchOf 71 = .ok (.imul, 1) := by decide +kernel
theorem dX10_pitchOf_72 : decode cX10_pitchOf 72 = .ok (.bipush 10, 2) := by decide +kernel
theorem dX10_pitchOf_74 : decode cX10_pitchOf 74 = .ok (.idiv, 1) := by decide +kernel
theorem dX10_pitchOf_75 : decode cX10_pitchOf 75 = .ok (.iadd, 1) := by decide +kernel
theorem dX10_pitchOf_76 : decode cX10_pitchOf 76 = .ok (.iload 5, 2) := by decide +kernel
theorem dX10_pitchOf_78 : decode cX10_pitchOf 78 = .ok (.bipush 10, 2) := by decide +kernel
theorem dX10_pitchOf_80 : decode cX10_pitchOf 80 = .ok (.idiv, 1) := by decide +kernel
theorem dX10_pitchOf_81 : decode cX10_pitchOf 81 = .ok (.isub, 1) := by decide +kernel
theorem dX10_pitchOf_82 : decode cX10_pitchOf 82 = .ok (.ireturn, 1) := by decide +kernel
theorem dX10_sumOfPitches_0 : decode cX10_sumOfPitches 0 = .ok (.iconst 0, 1) := by decide +kernel
theorem dX10_sumOfPitches_1 : decode cX10_sumOfPitches 1 = .ok (.istore_n 1, 1) := by decide +kernel
theorem dX10_sumOfPitches_2 : decode cX10_sumOfPitches 2 = .ok (.iconst 0, 1) := by decide +kernel
theorem dX10_sumOfPitches_3 : decode cX10_sumOfPitches 3 = .ok (.istore_n 2, 1) := by decide +kernel
theorem dX10_sumOfPitches_4 : decode cX10_sumOfPitches 4 = .ok (.iload_n 2, 1) := by decide +kernel
theorem dX10_sumOfPitches_5 : decode cX10_sumOfPitches 5 = .ok (.aload_n 0, 1) := by decide +kernel
theorem dX10_sumOfPitches_6 : decode cX10_sumOfPitches 6 = .ok (.getfield 35, 3) := by decide +kernel
theorem dX10_sumOfPitches_9 : decode cX10_sumOfPitches 9 = .ok (.invokevirtual 64, 3) := by decide +kernel
theorem dX10_sumOfPitches_12 : decode cX10_sumOfPitches 12 = .ok (.if_icmp .ge 72, 3) := by decide +kernel
theorem dX10_sumOfPitches_15 : decode cX10_sumOfPitches 15 = .ok (.aload_n 0, 1) := by decide +kernel
theorem dX10_sumOfPitches_16 : decode cX10_sumOfPitches 16 = .ok (.getfield 35, 3) := by decide +kernel
theorem dX10_sumOfPitches_19 : decode cX10_sumOfPitches 19 = .ok (.iload_n 2, 1) := by decide +kernel
theorem dX10_sumOfPitches_20 : decode cX10_sumOfPitches 20 = .ok (.invokevirtual 68, 3) := by decide +kernel
theorem dX10_sumOfPitches_23 : decode cX10_sumOfPitches 23 = .ok (.checkcast 72, 3) := by decide +kernel
theorem dX10_sumOfPitches_26 : decode cX10_sumOfPitches 26 = .ok (.astore_n 3, 1) := by decide +kernel
theorem dX10_sumOfPitches_27 : decode cX10_sumOfPitches 27 = .ok (.iconst 0, 1) := by decide +kernel
theorem dX10_sumOfPitches_28 : decode cX10_sumOfPitches 28 = .ok (.istore 4, 2) := by decide +kernel
theorem dX10_sumOfPitches_30 : decode cX10_sumOfPitches 30 = .ok (.iload 4, 2) := by decide +kernel
theorem dX10_sumOfPitches_32 : decode cX10_sumOfPitches 32 = .ok (.aload_n 3, 1) := by decide +kernel
theorem dX10_sumOfPitches_33 : decode cX10_sumOfPitches 33 = .ok (.getfield 124, 3) := by decide +kernel
theorem dX10_sumOfPitches_36 : decode cX10_sumOfPitches 36 = .ok (.arraylength, 1) := by decide +kernel
theorem dX10_sumOfPitches_37 : decode cX10_sumOfPitches 37 = .ok (.if_icmp .ge 41, 3) := by decide +kernel
theorem dX10_sumOfPitches_40 : decode cX10_sumOfPitches 40 = .ok (.iload_n 1, 1) := by decide +kernel
theorem dX10_sumOfPitches_41 : decode cX10_sumOfPitches 41 = .ok (.aload_n 3, 1) := by decide +kernel
theorem dX10_sumOfPitches_42 : decode cX10_sumOfPitches 42 = .ok (.getfield 124, 3) := by decide +kernel
theorem dX10_sumOfPitches_45 : decode cX10_sumOfPitches 45 = .ok (.iload 4, 2) := by decide +kernel
theorem dX10_sumOfPitches_47 : decode cX10_sumOfPitches 47 = .ok (.aaload, 1) := by decide +kernel
theorem dX10_sumOfPitches_48 : decode cX10_sumOfPitches 48 = .ok (.getfield 253, 3) := by decide +kernel
theorem dX10_sumOfPitches_51 : decode cX10_sumOfPitches 51 = .ok (.ifCond .eq 18, 3) := by decide +kernel
theorem dX10_sumOfPitches_54 : decode cX10_sumOfPitches 54 = .ok (.aload_n 0, 1) := by decide +kernel
theorem dX10_sumOfPitches_55 : decode cX10_sumOfPitches 55 = .ok (.iload_n 2, 1) := by decide +kernel
theorem dX10_sumOfPitches_56 : decode cX10_sumOfPitches 56 = .ok (.aload_n 3, 1) := by decide +kernel
theorem dX10_sumOfPitches_57 : decode cX10_sumOfPitches 57 = .ok (.getfield 214, 3) := by decide +kernel
theorem dX10_sumOfPitches_60 : decode cX10_sumOfPitches 60 = .ok (.iload 4, 2) := by decide +kernel
theorem dX10_sumOfPitches_62 : decode cX10_sumOfPitches 62 = .ok (.iadd, 1) := by decide +kernel
theorem dX10_sumOfPitches_63 : decode cX10_sumOfPitches 63 = .ok (.invokevirtual 304, 3) := by decide +kernel
theorem dX10_sumOfPitches_66 : decode cX10_sumOfPitches 66 = .ok (.goto 4, 3) := by decide +kernel
theorem dX10_sumOfPitches_69 : decode cX10_sumOfPitches 69 = .ok (.iconst 0, 1) := by decide +kernel
theorem dX10_sumOfPitches_70 : decode cX10_sumOfPitches 70 = .ok (.iadd, 1) := by decide +kernel
theorem dX10_sumOfPitches_71 : decode cX10_sumOfPitches 71 = .ok (.istore_n 1, 1) := by decide +kernel
theorem dX10_sumOfPitches_72 : decode cX10_sumOfPitches 72 = .ok (.iinc 4 1, 3) := by decide +kernel
theorem dX10_sumOfPitches_75 : decode cX10_sumOfPitches 75 = .ok (.goto (-45), 3) := by decide +kernel
theorem dX10_sumOfPitches_78 : decode cX10_sumOfPitches 78 = .ok (.iinc 2 1, 3) := by decide +kernel
theorem dX10_sumOfPitches_81 : decode cX10_sumOfPitches 81 = .ok (.goto (-77), 3) := by decide +kernel
theorem dX10_sumOfPitches_84 : decode cX10_sumOfPitches 84 = .ok (.iload_n 1, 1) := by decide +kernel
theorem dX10_sumOfPitches_85 : decode cX10_sumOfPitches 85 = .ok (.ireturn, 1) := by decide +kernel
theorem dX10_allLoudness_0 : decode cX10_allLoudness 0 = .ok (.iconst 0, 1) := by decide +kernel
theorem dX10_allLoudness_1 : decode cX10_allLoudness 1 = .ok (.istore_n 1, 1) := by decide +kernel
theorem dX10_allLoudness_2 : decode cX10_allLoudness 2 = .ok (.iconst 0, 1) := by decide +kernel
theorem dX10_allLoudness_3 : decode cX10_allLoudness 3 = .ok (.istore_n 2, 1) := by decide +kernel
theorem dX10_allLoudness_4 : decode cX10_allLoudness 4 = .ok (.iload_n 2, 1) := by decide +kernel
theorem dX10_allLoudness_5 : decode cX10_allLoudness 5 = .ok (.aload_n 0, 1) := by decide +kernel
theorem dX10_allLoudness_6 : decode cX10_allLoudness 6 = .ok (.getfield 35, 3) := by decide +kernel
theorem dX10_allLoudness_9 : decode cX10_allLoudness 9 = .ok (.invokevirtual 64, 3) := by decide +kernel
theorem dX10_allLoudness_12 : decode cX10_allLoudness 12 = .ok (.if_icmp .ge 91, 3) := by decide +kernel
theorem dX10_allLoudness_15 : decode cX10_allLoudness 15 = .ok (.aload_n 0, 1) := by decide +kernel
theorem dX10_allLoudness_16 : decode cX10_allLoudness 16 = .ok (.getfield 35, 3) := by decide +kernel
theorem dX10_allLoudness_19 : decode cX10_allLoudness 19 = .ok (.iload_n 2, 1) := by decide +kernel
theorem dX10_allLoudness_20 : decode cX10_allLoudness 20 = .ok (.invokevirtual 68, 3) := by decide +kernel
theorem dX10_allLoudness_23 : decode cX10_allLoudness 23 = .ok (.checkcast 72, 3) := by decide +kernel
theorem dX10_allLoudness_26 : decode cX10_allLoudness 26 = .ok (.astore_n 3, 1) := by decide +kernel
theorem dX10_allLoudness_27 : decode cX10_allLoudness 27 = .ok (.aload_n 3, 1) := by decide +kernel
theorem dX10_allLoudness_28 : decode cX10_allLoudness 28 = .ok (.getfield 307, 3) := by decide +kernel
theorem dX10_allLoudness_31 : decode cX10_allLoudness 31 = .ok (.aload_n 0, 1) := by decide +kernel
theorem dX10_allLoudness_32 : decode cX10_allLoudness 32 = .ok (.getfield 46, 3) := by decide +kernel
theorem dX10_allLoudness_35 : decode cX10_allLoudness 35 = .ok (.aload_n 3, 1) := by decide +kernel
theorem dX10_allLoudness_36 : decode cX10_allLoudness 36 = .ok (.getfield 234, 3) := by decide +kernel
theorem dX10_allLoudness_39 : decode cX10_allLoudness 39 = .ok (.iaload, 1) := by decide +kernel
theorem dX10_allLoudness_40 : decode cX10_allLoudness 40 = .ok (.imul, 1) := by decide +kernel
theorem dX10_allLoudness_41 : decode cX10_allLoudness 41 = .ok (.bipush 10, 2) := by decide +kernel
theorem dX10_allLoudness_43 : decode cX10_allLoudness 43 = .ok (.idiv, 1) := by decide +kernel
theorem dX10_allLoudness_44 : decode cX10_allLoudness 44 = .ok (.istore 4, 2) := by decide +kernel
theorem dX10_allLoudness_46 : decode cX10_allLoudness 46 = .ok (.aload_n 3, 1) := by decide +kernel
theorem dX10_allLoudness_47 : decode cX10_allLoudness 47 = .ok (.getfield 124, 3) := by decide +kernel
theorem dX10_allLoudness_50 : decode cX10_allLoudness 50 = .ok (.astore 5, 2) := by decide +kernel
theorem dX10_allLoudness_52 : decode cX10_allLoudness 52 = .ok (.aload 5, 2) := by decide +kernel
theorem dX10_allLoudness_54 : decode cX10_allLoudness 54 = .ok (.arraylength, 1) := by decide +kernel
theorem dX10_allLoudness_55 : decode cX10_allLoudness 55 = .ok (.istore 6, 2) := by decide +kernel
theorem dX10_allLoudness_57 : decode cX10_allLoudness 57 = .ok (.iconst 0, 1) := by decide +kernel
theorem dX10_allLoudness_58 : decode cX10_allLoudness 58 = .ok (.istore 7, 2) := by decide +kernel
theorem dX10_allLoudness_60 : decode cX10_allLoudness 60 = .ok (.iload 7, 2) := by decide +kernel
theorem dX10_allLoudness_62 : decode cX10_allLoudness 62 = .ok (.iload 6, 2) := by decide +kernel
theorem dX10_allLoudness_64 : decode cX10_allLoudness 64 = .ok (.if_icmp .ge 33, 3) := by decide +kernel
theorem dX10_allLoudness_67 : decode cX10_allLoudness 67 = .ok (.aload 5, 2) := by decide +kernel
theorem dX10_allLoudness_69 : decode cX10_allLoudness 69 = .ok (.iload 7, 2) := by decide +kernel
theorem dX10_allLoudness_71 : decode cX10_allLoudness 71 = .ok (.aaload, 1) := by decide +kernel
theorem dX10_allLoudness_72 : decode cX10_allLoudness 72 = .ok (.astore 8, 2) := by decide +kernel
theorem dX10_allLoudness_74 : decode cX10_allLoudness 74 = .ok (.iload_n 1, 1) := by decide +kernel
theorem dX10_allLoudness_75 : decode cX10_allLoudness 75 = .ok (.aload 8, 2) := by decide +kernel
theorem dX10_allLoudness_77 : decode cX10_allLoudness 77 = .ok (.getfield 253, 3) := by decide +kernel
theorem dX10_allLoudness_80 : decode cX10_allLoudness 80 = .ok (.ifCond .eq 8, 3) := by decide +kernel
theorem dX10_allLoudness_83 : decode cX10_allLoudness 83 = .ok (.iload 4, 2) := by decide +kernel
theorem dX10_allLoudness_85 : decode cX10_allLoudness 85 = .ok (.goto 4, 3) := by decide +kernel
theorem dX10_allLoudness_88 : decode cX10_allLoudness 88 = .ok (.iconst 0, 1) := by decide +kernel
theorem dX10_allLoudness_89 : decode cX10_allLoudness 89 = .ok (.iadd, 1) := by decide +kernel
theorem dX10_allLoudness_90 : decode cX10_allLoudness 90 = .ok (.istore_n 1, 1) := by decide +kernel
theorem dX10_allLoudness_91 : decode cX10_allLoudness 91 = .ok (.iinc 7 1, 3) := by decide +kernel
theorem dX10_allLoudness_94 : decode cX10_allLoudness 94 = .ok (.goto (-34), 3) := by decide +kernel
theorem dX10_allLoudness_97 : decode cX10_allLoudness 97 = .ok (.iinc 2 1, 3) := by decide +kernel
theorem dX10_allLoudness_100 : decode cX10_allLoudness 100 = .ok (.goto (-96), 3) := by decide +kernel
theorem dX10_allLoudness_103 : decode cX10_allLoudness 103 = .ok (.iload_n 1, 1) := by decide +kernel
theorem dX10_allLoudness_104 : decode cX10_allLoudness 104 = .ok (.ireturn, 1) := by decide +kernel
theorem dX10_allPipes_0 : decode cX10_allPipes 0 = .ok (.iconst 0, 1) := by decide +kernel
theorem dX10_allPipes_1 : decode cX10_allPipes 1 = .ok (.istore_n 1, 1) := by decide +kernel
theorem dX10_allPipes_2 : decode cX10_allPipes 2 = .ok (.iconst 0, 1) := by decide +kernel
theorem dX10_allPipes_3 : decode cX10_allPipes 3 = .ok (.istore_n 2, 1) := by decide +kernel
theorem dX10_allPipes_4 : decode cX10_allPipes 4 = .ok (.iload_n 2, 1) := by decide +kernel
theorem dX10_allPipes_5 : decode cX10_allPipes 5 = .ok (.aload_n 0, 1) := by decide +kernel
theorem dX10_allPipes_6 : decode cX10_allPipes 6 = .ok (.getfield 35, 3) := by decide +kernel
theorem dX10_allPipes_9 : decode cX10_allPipes 9 = .ok (.invokevirtual 64, 3) := by decide +kernel
theorem dX10_allPipes_12 : decode cX10_allPipes 12 = .ok (.if_icmp .ge 27, 3) := by decide +kernel
theorem dX10_allPipes_15 : decode cX10_allPipes 15 = .ok (.iload_n 1, 1) := by decide +kernel
theorem dX10_allPipes_16 : decode cX10_allPipes 16 = .ok (.aload_n 0, 1) := by decide +kernel
theorem dX10_allPipes_17 : decode cX10_allPipes 17 = .ok (.getfield 35, 3) := by decide +kernel
theorem dX10_allPipes_20 : decode cX10_allPipes 20 = .ok (.iload_n 2, 1) := by decide +kernel
theorem dX10_allPipes_21 : decode cX10_allPipes 21 = .ok (.invokevirtual 68, 3) := by decide +kernel
theorem dX10_allPipes_24 : decode cX10_allPipes 24 = .ok (.checkcast 72, 3) := by decide +kernel
theorem dX10_allPipes_27 : decode cX10_allPipes 27 = .ok (.getfield 124, 3) := by decide +kernel
theorem dX10_allPipes_30 : decode cX10_allPipes 30 = .ok (.arraylength, 1) := by decide +kernel
theorem dX10_allPipes_31 : decode cX10_allPipes 31 = .ok (.iadd, 1) := by decide +kernel
theorem dX10_allPipes_32 : decode cX10_allPipes 32 = .ok (.istore_n 1, 1) := by decide +kernel
theorem dX10_allPipes_33 : decode cX10_allPipes 33 = .ok (.iinc 2 1, 3) := by decide +kernel
theorem dX10_allPipes_36 : decode cX10_allPipes 36 = .ok (.goto (-32), 3) := by decide +kernel
theorem dX10_allPipes_39 : decode cX10_allPipes 39 = .ok (.iload_n 1, 1) := by decide +kernel
theorem dX10_allPipes_40 : decode cX10_allPipes 40 = .ok (.ireturn, 1) := by decide +kernel
theorem dX10_isConsistent_0 : decode cX10_isConsistent 0 = .ok (.iconst 0, 1) := by decide +kernel
theorem dX10_isConsistent_1 : decode cX10_isConsistent 1 = .ok (.istore_n 1, 1) := by decide +kernel
theorem dX10_isConsistent_2 : decode cX10_isConsistent 2 = .ok (.iload_n 1, 1) := by decide +kernel
theorem dX10_isConsistent_3 : decode cX10_isConsistent 3 = .ok (.aload_n 0, 1) := by decide +kernel
theorem dX10_isConsistent_4 : decode cX10_isConsistent 4 = .ok (.getfield 35, 3) := by decide +kernel
theorem dX10_isConsistent_7 : decode cX10_isConsistent 7 = .ok (.invokevirtual 64, 3) := by decide +kernel
theorem dX10_isConsistent_10 : decode cX10_isConsistent 10 = .ok (.if_icmp .ge 98, 3) := by decide +kernel
theorem dX10_isConsistent_13 : decode cX10_isConsistent 13 = .ok (.aload_n 0, 1) := by decide +kernel
theorem dX10_isConsistent_14 : decode cX10_isConsistent 14 = .ok (.getfield 35, 3) := by decide +kernel
theorem dX10_isConsistent_17 : decode cX10_isConsistent 17 = .ok (.iload_n 1, 1) := by decide +kernel
theorem dX10_isConsistent_18 : decode cX10_isConsistent 18 = .ok (.invokevirtual 68, 3) := by decide +kernel
theorem dX10_isConsistent_21 : decode cX10_isConsistent 21 = .ok (.checkcast 72, 3) := by decide +kernel
theorem dX10_isConsistent_24 : decode cX10_isConsistent 24 = .ok (.astore_n 2, 1) := by decide +kernel
theorem dX10_isConsistent_25 : decode cX10_isConsistent 25 = .ok (.iconst 0, 1) := by decide +kernel
theorem dX10_isConsistent_26 : decode cX10_isConsistent 26 = .ok (.istore_n 3, 1) := by decide +kernel
theorem dX10_isConsistent_27 : decode cX10_isConsistent 27 = .ok (.iload_n 3, 1) := by decide +kernel
theorem dX10_isConsistent_28 : decode cX10_isConsistent 28 = .ok (.aload_n 2, 1) := by decide +kernel
theorem dX10_isConsistent_29 : decode cX10_isConsistent 29 = .ok (.getfield 124, 3) := by decide +kernel
theorem dX10_isConsistent_32 : decode cX10_isConsistent 32 = .ok (.arraylength, 1) := by decide +kernel
theorem dX10_isConsistent_33 : decode cX10_isConsistent 33 = .ok (.if_icmp .ge 69, 3) := by decide +kernel
theorem dX10_isConsistent_36 : decode cX10_isConsistent 36 = .ok (.aload_n 2, 1) := by decide +kernel
theorem dX10_isConsistent_37 : decode cX10_isConsistent 37 = .ok (.getfield 124, 3) := by decide +kernel
theorem dX10_isConsistent_40 : decode cX10_isConsistent 40 = .ok (.iload_n 3, 1) := by decide +kernel
theorem dX10_isConsistent_41 : decode cX10_isConsistent 41 = .ok (.aaload, 1) := by decide +kernel
theorem dX10_isConsistent_42 : decode cX10_isConsistent 42 = .ok (.astore 4, 2) := by decide +kernel
theorem dX10_isConsistent_44 : decode cX10_isConsistent 44 = .ok (.aload 4, 2) := by decide +kernel
theorem dX10_isConsistent_46 : decode cX10_isConsistent 46 = .ok (.getfield 253, 3) := by decide +kernel
theorem dX10_isConsistent_49 : decode cX10_isConsistent 49 = .ok (.ifCond .eq 7, 3) := by decide +kernel
theorem dX10_isConsistent_52 : decode cX10_isConsistent 52 = .ok (.iconst 1, 1) := by decide +kernel
theorem dX10_isConsistent_53 : decode cX10_isConsistent 53 = .ok (.goto 4, 3) := by decide +kernel
theorem dX10_isConsistent_56 : decode cX10_isConsistent 56 = .ok (.iconst 0, 1) := by decide +kernel
theorem dX10_isConsistent_57 : decode cX10_isConsistent 57 = .ok (.istore 5, 2) := by decide +kernel
theorem dX10_isConsistent_59 : decode cX10_isConsistent 59 = .ok (.aload 4, 2) := by decide +kernel
theorem dX10_isConsistent_61 : decode cX10_isConsistent 61 = .ok (.getfield 256, 3) := by decide +kernel
theorem dX10_isConsistent_64 : decode cX10_isConsistent 64 = .ok (.aload 4, 2) := by decide +kernel
theorem dX10_isConsistent_66 : decode cX10_isConsistent 66 = .ok (.getfield 262, 3) := by decide +kernel
theorem dX10_isConsistent_69 : decode cX10_isConsistent 69 = .ok (.iload 5, 2) := by decide +kernel
theorem dX10_isConsistent_71 : decode cX10_isConsistent 71 = .ok (.iadd, 1) := by decide +kernel
theorem dX10_isConsistent_72 : decode cX10_isConsistent 72 = .ok (.if_icmp .ne 22, 3) := by decide +kernel
theorem dX10_isConsistent_75 : decode cX10_isConsistent 75 = .ok (.aload 4, 2) := by decide +kernel
theorem dX10_isConsistent_77 : decode cX10_isConsistent 77 = .ok (.invokevirtual 205, 3) := by decide +kernel
theorem dX10_isConsistent_80 : decode cX10_isConsistent 80 = .ok (.aload_n 0, 1) := by decide +kernel
theorem dX10_isConsistent_81 : decode cX10_isConsistent 81 = .ok (.iload_n 1, 1) := by decide +kernel
theorem dX10_isConsistent_82 : decode cX10_isConsistent 82 = .ok (.aload_n 2, 1) := by decide +kernel
theorem dX10_isConsistent_83 : decode cX10_isConsistent 83 = .ok (.getfield 214, 3) := by decide +kernel
theorem dX10_isConsistent_86 : decode cX10_isConsistent 86 = .ok (.iload_n 3, 1) := by decide +kernel
theorem dX10_isConsistent_87 : decode cX10_isConsistent 87 = .ok (.iadd, 1) := by decide +kernel
theorem dX10_isConsistent_88 : decode cX10_isConsistent 88 = .ok (.invokevirtual 310, 3) := by decide +kernel
theorem dX10_isConsistent_91 : decode cX10_isConsistent 91 = .ok (.if_icmp .eq 5, 3) := by decide +kernel
theorem dX10_isConsistent_94 : decode cX10_isConsistent 94 = .ok (.iconst 0, 1) := by decide +kernel
theorem dX10_isConsistent_95 : decode cX10_isConsistent 95 = .ok (.ireturn, 1) := by decide +kernel
theorem dX10_isConsistent_96 : decode cX10_isConsistent 96 = .ok (.iinc 3 1, 3) := by decide +kernel
theorem dX10_isConsistent_99 : decode cX10_isConsistent 99 = .ok (.goto (-72), 3) := by decide +kernel
theorem dX10_isConsistent_102 : decode cX10_isConsistent 102 = .ok (.iinc 1 1, 3) := by decide +kernel
theorem dX10_isConsistent_105 : decode cX10_isConsistent 105 = .ok (.goto (-103), 3) := by decide +kernel
theorem dX10_isConsistent_108 : decode cX10_isConsistent 108 = .ok (.iconst 1, 1) := by decide +kernel
theorem dX10_isConsistent_109 : decode cX10_isConsistent 109 = .ok (.ireturn, 1) := by decide +kernel
theorem dX11_init_0 : decode cX11_init 0 = .ok (.aload_n 0, 1) := by decide +kernel
theorem dX11_init_1 : decode cX11_init 1 = .ok (.invokespecial 3, 3) := by decide +kernel
theorem dX11_init_4 : decode cX11_init 4 = .ok (.aload_n 0, 1) := by decide +kernel
theorem dX11_init_5 : decode cX11_init 5 = .ok (.new 9, 3) := by decide +kernel
theorem dX11_init_8 : decode cX11_init 8 = .ok (.dup, 1) := by decide +kernel
theorem dX11_init_9 : decode cX11_init 9 = .ok (.invokespecial 11, 3) := by decide +kernel
theorem dX11_init_12 : decode cX11_init 12 = .ok (.putfield 12, 3) := by decide +kernel
theorem dX11_init_15 : decode cX11_init 15 = .ok (.aload_n 0, 1) := by decide +kernel
theorem dX11_init_16 : decode cX11_init 16 = .ok (.aload_n 0, 1) := by decide +kernel
theorem dX11_init_17 : decode cX11_init 17 = .ok (.getfield 12, 3) := by decide +kernel
theorem dX11_init_20 : decode cX11_init 20 = .ok (.getfield 16, 3) := by decide +kernel
theorem dX11_init_23 : decode cX11_init 23 = .ok (.putfield 20, 3) := by decide +kernel
theorem dX11_init_26 : decode cX11_init 26 = .ok (.aload_n 0, 1) := by decide +kernel
theorem dX11_init_27 : decode cX11_init 27 = .ok (.aload_n 0, 1) := by decide +kernel
theorem dX11_init_28 : decode cX11_init 28 = .ok (.getfield 12, 3) := by decide +kernel
theorem dX11_init_31 : decode cX11_init 31 = .ok (.getfield 21, 3) := by decide +kernel
theorem dX11_init_34 : decode cX11_init 34 = .ok (.putfield 25, 3) := by decide +kernel
theorem dX11_init_37 : decode cX11_init 37 = .ok (.aload_n 0, 1) := by decide +kernel
theorem dX11_init_38 : decode cX11_init 38 = .ok (.aload_n 0, 1) := by decide +kernel
theorem dX11_init_39 : decode cX11_init 39 = .ok (.getfield 12, 3) := by decide +kernel
theorem dX11_init_42 : decode cX11_init 42 = .ok (.getfield 26, 3) := by decide +kernel
theorem dX11_init_45 : decode cX11_init 45 = .ok (.putfield 30, 3) := by decide +kernel
theorem dX11_init_48 : decode cX11_init 48 = .ok (.aload_n 0, 1) := by decide +kernel
theorem dX11_init_49 : decode cX11_init 49 = .ok (.new 31, 3) := by decide +kernel
theorem dX11_init_52 : decode cX11_init 52 = .ok (.dup, 1) := by decide +kernel
theorem dX11_init_53 : decode cX11_init 53 = .ok (.invokespecial 33, 3) := by decide +kernel
theorem dX11_init_56 : decode cX11_init 56 = .ok (.putfield 34, 3) := by decide +kernel
theorem dX11_init_59 : decode cX11_init 59 = .ok (.aload_n 0, 1) := by decide +kernel
theorem dX11_init_60 : decode cX11_init 60 = .ok (.new 38, 3) := by decide +kernel
theorem dX11_init_63 : decode cX11_init 63 = .ok (.dup, 1) := by decide +kernel
theorem dX11_init_64 : decode cX11_init 64 = .ok (.invokespecial 40, 3) := by decide +kernel
theorem dX11_init_67 : decode cX11_init 67 = .ok (.putfield 41, 3) := by decide +kernel
theorem dX11_init_70 : decode cX11_init 70 = .ok (.return_, 1) := by decide +kernel
theorem dX11_rank_0 : decode cX11_rank 0 = .ok (.iload_n 1, 1) := by decide +kernel
theorem dX11_rank_1 : decode cX11_rank 1 = .ok (.iconst 0, 1) := by decide +kernel
theorem dX11_rank_2 : decode cX11_rank 2 = .ok (.bipush 127, 2) := by decide +kernel
theorem dX11_rank_4 : decode cX11_rank 4 = .ok (.invokestatic 45, 3) := by decide +kernel
theorem dX11_rank_7 : decode cX11_rank 7 = .ok (.iload_n 2, 1) := by decide +kernel
theorem dX11_rank_8 : decode cX11_rank 8 = .ok (.iload_n 1, 1) := by decide +kernel
theorem dX11_rank_9 : decode cX11_rank 9 = .ok (.bipush 127, 2) := by decide +kernel
theorem dX11_rank_11 : decode cX11_rank 11 = .ok (.invokestatic 45, 3) := by decide +kernel
theorem dX11_rank_14 : decode cX11_rank 14 = .ok (.iload_n 3, 1) := by decide +kernel
theorem dX11_rank_15 : decode cX11_rank 15 = .ok (.iconst 1, 1) := by decide +kernel
theorem dX11_rank_16 : decode cX11_rank 16 = .ok (.bipush 9, 2) := by decide +kernel
theorem dX11_rank_18 : decode cX11_rank 18 = .ok (.invokestatic 45, 3) := by decide +kernel
theorem dX11_rank_21 : decode cX11_rank 21 = .ok (.iload 4, 2) := by decide +kernel
theorem dX11_rank_23 : decode cX11_rank 23 = .ok (.iconst 0, 1) := by decide +kernel
theorem dX11_rank_24 : decode cX11_rank 24 = .ok (.iconst 2, 1) := by decide +kernel
theorem dX11_rank_25 : decode cX11_rank 25 = .ok (.invokestatic 45, 3) := by decide +kernel
theorem dX11_rank_28 : decode cX11_rank 28 = .ok (.iload 5, 2) := by decide +kernel
theorem dX11_rank_30 : decode cX11_rank 30 = .ok (.iconst 0, 1) := by decide +kernel
theorem dX11_rank_31 : decode cX11_rank 31 = .ok (.iconst 5, 1) := by decide +kernel
theorem dX11_rank_32 : decode cX11_rank 32 = .ok (.invokestatic 45, 3) := by decide +kernel
theorem dX11_rank_35 : decode cX11_rank 35 = .ok (.iload 6, 2) := by decide +kernel
theorem dX11_rank_37 : decode cX11_rank 37 = .ok (.iconst 0, 1) := by decide +kernel
theorem dX11_rank_38 : decode cX11_rank 38 = .ok (.iconst 5, 1) := by decide +kernel
theorem dX11_rank_39 : decode cX11_rank 39 = .ok (.invokestatic 45, 3) := by decide +kernel
theorem dX11_rank_42 : decode cX11_rank 42 = .ok (.iload 7, 2) := by decide +kernel
theorem dX11_rank_44 : decode cX11_rank 44 = .ok (.iconst 1, 1) := by decide +kernel
theorem dX11_rank_45 : decode cX11_rank 45 = .ok (.bipush 99, 2) := by decide +kernel
theorem dX11_rank_47 : decode cX11_rank 47 = .ok (.invokestatic 45, 3) := by decide +kernel
theorem dX11_rank_50 : decode cX11_rank 50 = .ok (.aload_n 0, 1) := by decide +kernel
theorem dX11_rank_51 : decode cX11_rank 51 = .ok (.getfield 12, 3) := by decide +kernel
theorem dX11_rank_54 : decode cX11_rank 54 = .ok (.getfield 49, 3) := by decide +kernel
theorem dX11_rank_57 : decode cX11_rank 57 = .ok (.invokevirtual 53, 3) := by decide +kernel
theorem dX11_rank_60 : decode cX11_rank 60 = .ok (.bipush 10, 2) := by decide +kernel
theorem dX11_rank_62 : decode cX11_rank 62 = .ok (.if_icmp .lt 13, 3) := by decide +kernel
theorem dX11_rank_65 : decode cX11_rank 65 = .ok (.new 59, 3) := by decide +kernel
theorem dX11_rank_68 : decode cX11_rank 68 = .ok (.dup, 1) := by decide +kernel
theorem dX11_rank_69 : decode cX11_rank 69 = .ok (.ldc 61, 2) := by decide +kernel
theorem dX11_rank_71 : decode cX11_rank 71 = .ok (.invokespecial 63, 3) := by decide +kernel
theorem dX11_rank_74 : decode cX11_rank 74 = .ok (.athrow, 1) := by decide +kernel
theorem dX11_rank_75 : decode cX11_rank 75 = .ok (.new 66, 3) := by decide +kernel
theorem dX11_rank_78 : decode cX11_rank 78 = .ok (.dup, 1) := by decide +kernel
theorem dX11_rank_79 : decode cX11_rank 79 = .ok (.iload_n 1, 1) := by decide +kernel
theorem dX11_rank_80 : decode cX11_rank 80 = .ok (.iload_n 2, 1) := by decide +kernel
theorem dX11_rank_81 : decode cX11_rank 81 = .ok (.iload 4, 2) := by decide +kernel
theorem dX11_rank_83 : decode cX11_rank 83 = .ok (.invokespecial 68, 3) := by decide +kernel
theorem dX11_rank_86 : decode cX11_rank 86 = .ok (.astore 8, 2) := by decide +kernel
theorem dX11_rank_88 : decode cX11_rank 88 = .ok (.aload 8, 2) := by decide +kernel
theorem dX11_rank_90 : decode cX11_rank 90 = .ok (.iload_n 3, 1) := by decide +kernel
theorem dX11_rank_91 : decode cX11_rank 91 = .ok (.putfield 70, 3) := by decide +kernel
theorem dX11_rank_94 : decode cX11_rank 94 = .ok (.aload 8, 2) := by decide +kernel
theorem dX11_rank_96 : decode cX11_rank 96 = .ok (.iload 5, 2) := by decide +kernel
theorem dX11_rank_98 : decode cX11_rank 98 = .ok (.putfield 74, 3) := by decide +kernel
theorem dX11_rank_101 : decode cX11_rank 101 = .ok (.aload 8, 2) := by decide +kernel
theorem dX11_rank_103 : decode cX11_rank 103 = .ok (.iload 6, 2) := by decide +kernel
theorem dX11_rank_105 : decode cX11_rank 105 = .ok (.putfield 77, 3) := by decide +kernel
theorem dX11_rank_108 : decode cX11_rank 108 = .ok (.aload 8, 2) := by decide +kernel
theorem dX11_rank_110 : decode cX11_rank 110 = .ok (.iload 7, 2) := by decide +kernel
theorem dX11_rank_112 : decode cX11_rank 112 = .ok (.putfield 80, 3) := by decide +kernel
theorem dX11_rank_115 : decode cX11_rank 115 = .ok (.aload_n 0, 1) := by decide +kernel
theorem dX11_rank_116 : decode cX11_rank 116 = .ok (.getfield 12, 3) := by decide +kernel
theorem dX11_rank_119 : decode cX11_rank 119 = .ok (.getfield 49, 3) := by decide +kernel
theorem dX11_rank_122 : decode cX11_rank 122 = .ok (.aload 8, 2) := by decide +kernel
theorem dX11_rank_124 : decode cX11_rank 124 = .ok (.invokevirtual 83, 3) := by decide +kernel
theorem dX11_rank_127 : decode cX11_rank 127 = .ok (.pop, 1) := by decide +kernel
theorem dX11_rank_128 : decode cX11_rank 128 = .ok (.aload_n 0, 1) := by decide +kernel
theorem dX11_rank_129 : decode cX11_rank 129 = .ok (.getfield 12, 3) := by decide +kernel
theorem dX11_rank_132 : decode cX11_rank 132 = .ok (.invokevirtual 87, 3) := by decide +kernel
theorem dX11_rank_135 : decode cX11_rank 135 = .ok (.aload_n 0, 1) := by decide +kernel
theorem dX11_rank_136 : decode cX11_rank 136 = .ok (.getfield 12, 3) := by decide +kernel
theorem dX11_rank_139 : decode cX11_rank 139 = .ok (.getfield 49, 3) := by decide +kernel
theorem dX11_rank_142 : decode cX11_rank 142 = .ok (.invokevirtual 53, 3) := by decide +kernel
theorem dX11_rank_145 : decode cX11_rank 145 = .ok (.iconst 1, 1) := by decide +kernel
theorem dX11_rank_146 : decode cX11_rank 146 = .ok (.isub, 1) := by decide +kernel
theorem dX11_rank_147 : decode cX11_rank 147 = .ok (.ireturn, 1) := by decide +kernel
theorem dX11_stop_0 : decode cX11_stop 0 = .ok (.iload_n 1, 1) := by decide +kernel
theorem dX11_stop_1 : decode cX11_stop 1 = .ok (.invokestatic 90, 3) := by decide +kernel
theorem dX11_stop_4 : decode cX11_stop 4 = .ok (.aload_n 0, 1) := by decide +kernel
theorem dX11_stop_5 : decode cX11_stop 5 = .ok (.invokevirtual 94, 3) := by decide +kernel
theorem dX11_stop_8 : decode cX11_stop 8 = .ok (.aload_n 0, 1) := by decide +kernel
theorem dX11_stop_9 : decode cX11_stop 9 = .ok (.new 97, 3) := by decide +kernel
theorem dX11_stop_12 : decode cX11_stop 12 = .ok (.dup, 1) := by decide +kernel
theorem dX11_stop_13 : decode cX11_stop 13 = .ok (.bipush 115, 2) := by decide +kernel
theorem dX11_stop_15 : decode cX11_stop 15 = .ok (.iload_n 1, 1) := by decide +kernel
theorem dX11_stop_16 : decode cX11_stop 16 = .ok (.new 99, 3) := by decide +kernel
theorem dX11_stop_19 : decode cX11_stop 19 = .ok (.dup, 1) := by decide +kernel
theorem dX11_stop_20 : decode cX11_stop 20 = .ok (.invokespecial 101, 3) := by decide +kernel
theorem dX11_stop_23 : decode cX11_stop 23 = .ok (.aconst_null, 1) := by decide +kernel
theorem dX11_stop_24 : decode cX11_stop 24 = .ok (.invokespecial 102, 3) := by decide +kernel
theorem dX11_stop_27 : decode cX11_stop 27 = .ok (.invokevirtual 105, 3) := by decide +kernel
theorem dX11_stop_30 : decode cX11_stop 30 = .ok (.ireturn, 1) := by decide +kernel
theorem dX11_row_0 : decode cX11_row 0 = .ok (.aload_n 0, 1) := by decide +kernel
theorem dX11_row_1 : decode cX11_row 1 = .ok (.iload_n 1, 1) := by decide +kernel
theorem dX11_row_2 : decode cX11_row 2 = .ok (.invokevirtual 109, 3) := by decide +kernel
theorem dX11_row_5 : decode cX11_row 5 = .ok (.astore 6, 2) := by decide +kernel
theorem dX11_row_7 : decode cX11_row 7 = .ok (.aload_n 0, 1) := by decide +kernel
theorem dX11_row_8 : decode cX11_row 8 = .ok (.iload_n 2, 1) := by decide +kernel
theorem dX11_row_9 : decode cX11_row 9 = .ok (.invokevirtual 113, 3) := by decide +kernel
theorem dX11_row_12 : decode cX11_row 12 = .ok (.pop, 1) := by decide +kernel
theorem dX11_row_13 : decode cX11_row 13 = .ok (.iload_n 3, 1) := by decide +kernel
theorem dX11_row_14 : decode cX11_row 14 = .ok (.bipush (-36), 2) := by decide +kernel
theorem dX11_row_16 : decode cX11_row 16 = .ok (.bipush 60, 2) := by decide +kernel
theorem dX11_row_18 : decode cX11_row 18 = .ok (.invokestatic 45, 3) := by decide +kernel
theorem dX11_row_21 : decode cX11_row 21 = .ok (.iload 4, 2) := by decide +kernel
theorem dX11_row_23 : decode cX11_row 23 = .ok (.iconst 0, 1) := by decide +kernel
theorem dX11_row_24 : decode cX11_row 24 = .ok (.bipush 60, 2) := by decide +kernel
theorem dX11_row_26 : decode cX11_row 26 = .ok (.invokestatic 45, 3) := by decide +kernel
theorem dX11_row_29 : decode cX11_row 29 = .ok (.iload 5, 2) := by decide +kernel
theorem dX11_row_31 : decode cX11_row 31 = .ok (.iload 4, 2) := by decide +kernel
theorem dX11_row_33 : decode cX11_row 33 = .ok (.bipush 60, 2) := by decide +kernel
theorem dX11_row_35 : decode cX11_row 35 = .ok (.invokestatic 45, 3) := by decide +kernel
theorem dX11_row_38 : decode cX11_row 38 = .ok (.aload 6, 2) := by decide +kernel
theorem dX11_row_40 : decode cX11_row 40 = .ok (.invokestatic 117, 3) := by decide +kernel
theorem dX11_row_43 : decode cX11_row 43 = .ok (.astore 7, 2) := by decide +kernel
theorem dX11_row_45 : decode cX11_row 45 = .ok (.aload 7, 2) := by decide +kernel
theorem dX11_row_47 : decode cX11_row 47 = .ok (.iload_n 2, 1) := by decide +kernel
theorem dX11_row_48 : decode cX11_row 48 = .ok (.iload_n 3, 1) := by decide +kernel
theorem dX11_row_49 : decode cX11_row 49 = .ok (.iload 4, 2) := by decide +kernel
theorem dX11_row_51 : decode cX11_row 51 = .ok (.iload 5, 2) := by decide +kernel
theorem dX11_row_53 : decode cX11_row 53 = .ok (.invokevirtual 121, 3) := by decide +kernel
theorem dX11_row_56 : decode cX11_row 56 = .ok (.ifCond .ne 13, 3) := by decide +kernel
theorem dX11_row_59 : decode cX11_row 59 = .ok (.new 59, 3) := by decide +kernel
theorem dX11_row_62 : decode cX11_row 62 = .ok (.dup, 1) := by decide +kernel
theorem dX11_row_63 : decode cX11_row 63 = .ok (.ldc 125, 2) := by decide +kernel
theorem dX11_row_65 : decode cX11_row 65 = .ok (.invokespecial 63, 3) := by decide +kernel
theorem dX11_row_68 : decode cX11_row 68 = .ok (.athrow, 1) := by decide +kernel
theorem dX11_row_69 : decode cX11_row 69 = .ok (.aload_n 0, 1) := by decide +kernel
theorem dX11_row_70 : decode cX11_row 70 = .ok (.getfield 12, 3) := by decide +kernel
theorem dX11_row_73 : decode cX11_row 73 = .ok (.invokevirtual 87, 3) := by decide +kernel
theorem dX11_row_76 : decode cX11_row 76 = .ok (.aload 7, 2) := by decide +kernel
theorem dX11_row_78 : decode cX11_row 78 = .ok (.getfield 127, 3) := by decide +kernel
theorem dX11_row_81 : decode cX11_row 81 = .ok (.ireturn, 1) := by decide +kernel
theorem dX11_cross_0 : decode cX11_cross 0 = .ok (.aload_n 0, 1) := by decide +kernel
theorem dX11_cross_1 : decode cX11_cross 1 = .ok (.iload_n 1, 1) := by decide +kernel
theorem dX11_cross_2 : decode cX11_cross 2 = .ok (.invokevirtual 109, 3) := by decide +kernel
theorem dX11_cross_5 : decode cX11_cross 5 = .ok (.astore 4, 2) := by decide +kernel
theorem dX11_cross_7 : decode cX11_cross 7 = .ok (.iload_n 2, 1) := by decide +kernel
theorem dX11_cross_8 : decode cX11_cross 8 = .ok (.iconst 0, 1) := by decide +kernel
theorem dX11_cross_9 : decode cX11_cross 9 = .ok (.bipush 60, 2) := by decide +kernel
theorem dX11_cross_11 : decode cX11_cross 11 = .ok (.invokestatic 45, 3) := by decide +kernel
theorem dX11_cross_14 : decode cX11_cross 14 = .ok (.iload_n 3, 1) := by decide +kernel
theorem dX11_cross_15 : decode cX11_cross 15 = .ok (.iconst 0, 1) := by decide +kernel
theorem dX11_cross_16 : decode cX11_cross 16 = .ok (.bipush 60, 2) := by decide +kernel
theorem dX11_cross_18 : decode cX11_cross 18 = .ok (.invokestatic 45, 3) := by decide +kernel
theorem dX11_cross_21 : decode cX11_cross 21 = .ok (.iload_n 2, 1) := by decide +kernel
theorem dX11_cross_22 : decode cX11_cross 22 = .ok (.iload_n 3, 1) := by decide +kernel
theorem dX11_cross_23 : decode cX11_cross 23 = .ok (.if_icmp .ne 13, 3) := by decide +kernel
theorem dX11_cross_26 : decode cX11_cross 26 = .ok (.new 130, 3) := by decide +kernel
theorem dX11_cross_29 : decode cX11_cross 29 = .ok (.dup, 1) := by decide +kernel
theorem dX11_cross_30 : decode cX11_cross 30 = .ok (.ldc 132, 2) := by decide +kernel
theorem dX11_cross_32 : decode cX11_cross 32 = .ok (.invokespecial 134, 3) := by decide +kernel
theorem dX11_cross_35 : decode cX11_cross 35 = .ok (.athrow, 1) := by decide +kernel
theorem dX11_cross_36 : decode cX11_cross 36 = .ok (.aload 4, 2) := by decide +kernel
theorem dX11_cross_38 : decode cX11_cross 38 = .ok (.invokestatic 117, 3) := by decide +kernel
theorem dX11_cross_41 : decode cX11_cross 41 = .ok (.astore 5, 2) := by decide +kernel
theorem dX11_cross_43 : decode cX11_cross 43 = .ok (.aload 5, 2) := by decide +kernel
theorem dX11_cross_45 : decode cX11_cross 45 = .ok (.iload_n 2, 1) := by decide +kernel
theorem dX11_cross_46 : decode cX11_cross 46 = .ok (.iload_n 3, 1) := by decide +kernel
theorem dX11_cross_47 : decode cX11_cross 47 = .ok (.invokevirtual 135, 3) := by decide +kernel
theorem dX11_cross_50 : decode cX11_cross 50 = .ok (.aload_n 0, 1) := by decide +kernel
theorem dX11_cross_51 : decode cX11_cross 51 = .ok (.getfield 12, 3) := by decide +kernel
theorem dX11_cross_54 : decode cX11_cross 54 = .ok (.invokevirtual 87, 3) := by decide +kernel
theorem dX11_cross_57 : decode cX11_cross 57 = .ok (.aload 5, 2) := by decide +kernel
theorem dX11_cross_59 : decode cX11_cross 59 = .ok (.invokevirtual 139, 3) := by decide +kernel
theorem dX11_cross_62 : decode cX11_cross 62 = .ok (.ireturn, 1) := by decide +kernel
theorem dX11_coupler_0 : decode cX11_coupler 0 = .ok (.iload_n 1, 1) := by decide +kernel
theorem dX11_coupler_1 : decode cX11_coupler 1 = .ok (.invokestatic 90, 3) := by decide +kernel
theorem dX11_coupler_4 : decode cX11_coupler 4 = .ok (.iload_n 2, 1) := by decide +kernel
theorem dX11_coupler_5 : decode cX11_coupler 5 = .ok (.invokestatic 90, 3) := by decide +kernel
theorem dX11_coupler_8 : decode cX11_coupler 8 = .ok (.iload_n 3, 1) := by decide +kernel
theorem dX11_coupler_9 : decode cX11_coupler 9 = .ok (.bipush (-12), 2) := by decide +kernel
theorem dX11_coupler_11 : decode cX11_coupler 11 = .ok (.if_icmp .eq 13, 3) := by decide +kernel
theorem dX11_coupler_14 : decode cX11_coupler 14 = .ok (.iload_n 3, 1) := by decide +kernel
theorem dX11_coupler_15 : decode cX11_coupler 15 = .ok (.ifCond .eq 9, 3) := by decide +kernel
theorem dX11_coupler_18 : decode cX11_coupler 18 = .ok (.iload_n 3, 1) := by decide +kernel
theorem dX11_coupler_19 : decode cX11_coupler 19 = .ok (.bipush 12, 2) := by decide +kernel
theorem dX11_coupler_21 : decode cX11_coupler 21 = .ok (.if_icmp .ne 7, 3) := by decide +kernel
theorem dX11_coupler_24 : decode cX11_coupler 24 = .ok (.iconst 1, 1) := by decide +kernel
theorem dX11_coupler_25 : decode cX11_coupler 25 = .ok (.goto 4, 3) := by decide +kernel
theorem dX11_coupler_28 : decode cX11_coupler 28 = .ok (.iconst 0, 1) := by decide +kernel
theorem dX11_coupler_29 : decode cX11_coupler 29 = .ok (.istore 5, 2) := by decide +kernel
theorem dX11_coupler_31 : decode cX11_coupler 31 = .ok (.iload 4, 2) := by decide +kernel
theorem dX11_coupler_33 : decode cX11_coupler 33 = .ok (.bipush 97, 2) := by decide +kernel
theorem dX11_coupler_35 : decode cX11_coupler 35 = .ok (.if_icmp .eq 24, 3) := by decide +kernel
theorem dX11_coupler_38 : decode cX11_coupler 38 = .ok (.iload 4, 2) := by decide +kernel
theorem dX11_coupler_40 : decode cX11_coupler 40 = .ok (.bipush 109, 2) := by decide +kernel
theorem dX11_coupler_42 : decode cX11_coupler 42 = .ok (.if_icmp .eq 17, 3) := by decide +kernel
theorem dX11_coupler_45 : decode cX11_coupler 45 = .ok (.iload 4, 2) := by decide +kernel
theorem dX11_coupler_47 : decode cX11_coupler 47 = .ok (.bipush 98, 2) := by decide +kernel
theorem dX11_coupler_49 : decode cX11_coupler 49 = .ok (.if_icmp .eq 10, 3) := by decide +kernel
theorem dX11_coupler_52 : decode cX11_coupler 52 = .ok (.iload 4, 2) := by decide +kernel
theorem dX11_coupler_54 : decode cX11_coupler 54 = .ok (.bipush 112, 2) := by decide +kernel
theorem dX11_coupler_56 : decode cX11_coupler 56 = .ok (.if_icmp .ne 7, 3) := by decide +kernel
theorem dX11_coupler_59 : decode cX11_coupler 59 = .ok (.iconst 1, 1) := by decide +kernel
theorem dX11_coupler_60 : decode cX11_coupler 60 = .ok (.goto 4, 3) := by decide +kernel
theorem dX11_coupler_63 : decode cX11_coupler 63 = .ok (.iconst 0, 1) := by decide +kernel
theorem dX11_coupler_64 : decode cX11_coupler 64 = .ok (.istore 6, 2) := by decide +kernel
theorem dX11_coupler_66 : decode cX11_coupler 66 = .ok (.iload 5, 2) := by decide +kernel
theorem dX11_coupler_68 : decode cX11_coupler 68 = .ok (.ifCond .eq 17, 3) := by decide +kernel
theorem dX11_coupler_71 : decode cX11_coupler 71 = .ok (.iload 6, 2) := by decide +kernel
theorem dX11_coupler_73 : decode cX11_coupler 73 = .ok (.ifCond .eq 12, 3) := by decide +kernel
theorem dX11_coupler_76 : decode cX11_coupler 76 = .ok (.iload_n 1, 1) := by decide +kernel
theorem dX11_coupler_77 : decode cX11_coupler 77 = .ok (.iload_n 2, 1) := by decide +kernel
theorem dX11_coupler_78 : decode cX11_coupler 78 = .ok (.if_icmp .ne 17, 3) := by decide +kernel
theorem dX11_coupler_81 : decode cX11_coupler 81 = .ok (.iload_n 3, 1) := by decide +kernel
theorem dX11_coupler_82 : decode cX11_coupler 82 = .ok (.ifCond .ne 13, 3) := by decide +kernel
theorem dX11_coupler_85 : decode cX11_coupler 85 = .ok (.new 130, 3) := by decide +kernel
theorem dX11_coupler_88 : decode cX11_coupler 88 = .ok (.dup, 1) := by decide +kernel
theorem dX11_coupler_89 : decode cX11_coupler 89 = .ok (.ldc 142, 2) := by decide +kernel
theorem dX11_coupler_91 : decode cX11_coupler 91 = .ok (.invokespecial 134, 3) := by decide +kernel
theorem dX11_coupler_94 : decode cX11_coupler 94 = .ok (.athrow, 1) := by decide +kernel
theorem dX11_coupler_95 : decode cX11_coupler 95 = .ok (.aload_n 0, 1) := by decide +kernel
theorem dX11_coupler_96 : decode cX11_coupler 96 = .ok (.invokevirtual 94, 3) := by decide +kernel
theorem dX11_coupler_99 : decode cX11_coupler 99 = .ok (.aload_n 0, 1) := by decide +kernel
theorem dX11_coupler_100 : decode cX11_coupler 100 = .ok (.new 97, 3) := by decide +kernel
theorem dX11_coupler_103 : decode cX11_coupler 103 = .ok (.dup, 1) := by decide +kernel
theorem dX11_coupler_104 : decode cX11_coupler 104 = .ok (.bipush 99, 2) := by decide +kernel
theorem dX11_coupler_106 : decode cX11_coupler 106 = .ok (.iload_n 1, 1) := by decide +kernel
theorem dX11_coupler_107 : decode cX11_coupler 107 = .ok (.aconst_null, 1) := by decide +kernel
theorem dX11_coupler_108 : decode cX11_coupler 108 = .ok (.new 144, 3) := by decide +kernel
theorem dX11_coupler_111 : decode cX11_coupler 111 = .ok (.dup, 1) := by decide +kernel
theorem dX11_coupler_112 : decode cX11_coupler 112 = .ok (.iload_n 1, 1) := by decide +kernel
theorem dX11_coupler_113 : decode cX11_coupler 113 = .ok (.iload_n 2, 1) := by decide +kernel
theorem dX11_coupler_114 : decode cX11_coupler 114 = .ok (.iload_n 3, 1) := by decide +kernel
theorem dX11_coupler_115 : decode cX11_coupler 115 = .ok (.iload 4, 2) := by decide +kernel
theorem dX11_coupler_117 : decode cX11_coupler 117 = .ok (.invokespecial 146, 3) := by decide +kernel
theorem dX11_coupler_120 : decode cX11_coupler 120 = .ok (.invokespecial 102, 3) := by decide +kernel
theorem dX11_coupler_123 : decode cX11_coupler 123 = .ok (.invokevirtual 105, 3) := by decide +kernel
theorem dX11_coupler_126 : decode cX11_coupler 126 = .ok (.ireturn, 1) := by decide +kernel
theorem dX11_tremulant_0 : decode cX11_tremulant 0 = .ok (.iload_n 1, 1) := by decide +kernel
theorem dX11_tremulant_1 : decode cX11_tremulant 1 = .ok (.invokestatic 90, 3) := by decide +kernel
theorem dX11_tremulant_4 : decode cX11_tremulant 4 = .ok (.aload_n 0, 1) := by decide +kernel
theorem dX11_tremulant_5 : decode cX11_tremulant 5 = .ok (.invokevirtual 94, 3) := by decide +kernel
theorem dX11_tremulant_8 : decode cX11_tremulant 8 = .ok (.aload_n 0, 1) := by decide +kernel
theorem dX11_tremulant_9 : decode cX11_tremulant 9 = .ok (.new 97, 3) := by decide +kernel
theorem dX11_tremulant_12 : decode cX11_tremulant 12 = .ok (.dup, 1) := by decide +kernel
theorem dX11_tremulant_13 : decode cX11_tremulant 13 = .ok (.bipush 116, 2) := by decide +kernel
theorem dX11_tremulant_15 : decode cX11_tremulant 15 = .ok (.iload_n 1, 1) := by decide +kernel
theorem dX11_tremulant_16 : decode cX11_tremulant 16 = .ok (.aconst_null, 1) := by decide +kernel
theorem dX11_tremulant_17 : decode cX11_tremulant 17 = .ok (.aconst_null, 1) := by decide +kernel
theorem dX11_tremulant_18 : decode cX11_tremulant 18 = .ok (.invokespecial 102, 3) := by decide +kernel
theorem dX11_tremulant_21 : decode cX11_tremulant 21 = .ok (.invokevirtual 105, 3) := by decide +kernel
theorem dX11_tremulant_24 : decode cX11_tremulant 24 = .ok (.ireturn, 1) := by decide +kernel
theorem dX11_draw_0 : decode cX11_draw 0 = .ok (.aload_n 0, 1) := by decide +kernel
theorem dX11_draw_1 : decode cX11_draw 1 = .ok (.iload_n 1, 1) := by decide +kernel
theorem dX11_draw_2 : decode cX11_draw 2 = .ok (.invokevirtual 109, 3) := by decide +kernel
theorem dX11_draw_5 : decode cX11_draw 5 = .ok (.astore_n 3, 1) := by decide +kernel
theorem dX11_draw_6 : decode cX11_draw 6 = .ok (.aload_n 3, 1) := by decide +kernel
theorem dX11_draw_7 : decode cX11_draw 7 = .ok (.getfield 149, 3) := by decide +kernel
theorem dX11_draw_10 : decode cX11_draw 10 = .ok (.istore 4, 2) := by decide +kernel
theorem dX11_draw_12 : decode cX11_draw 12 = .ok (.aload_n 3, 1) := by decide +kernel
theorem dX11_draw_13 : decode cX11_draw 13 = .ok (.iload_n 2, 1) := by decide +kernel
theorem dX11_draw_14 : decode cX11_draw 14 = .ok (.putfield 149, 3) := by decide +kernel
theorem dX11_draw_17 : decode cX11_draw 17 = .ok (.aload_n 0, 1) := by decide +kernel
theorem dX11_draw_18 : decode cX11_draw 18 = .ok (.getfield 12, 3) := by decide +kernel
theorem dX11_draw_21 : decode cX11_draw 21 = .ok (.invokevirtual 87, 3) := by decide +kernel
theorem dX11_draw_24 : decode cX11_draw 24 = .ok (.iload 4, 2) := by decide +kernel
theorem dX11_draw_26 : decode cX11_draw 26 = .ok (.ireturn, 1) := by decide +kernel
theorem dX11_isDrawn_0 : decode cX11_isDrawn 0 = .ok (.aload_n 0, 1) := by decide +kernel
theorem dX11_isDrawn_1 : decode cX11_isDrawn 1 = .ok (.iload_n 1, 1) := by decide +kernel
theorem dX11_isDrawn_2 : decode cX11_isDrawn 2 = .ok (.invokevirtual 109, 3) := by decide +kernel
theorem dX11_isDrawn_5 : decode cX11_isDrawn 5 = .ok (.getfield 149, 3) := by decide +kernel
theorem dX11_isDrawn_8 : decode cX11_isDrawn 8 = .ok (.ireturn, 1) := by decide +kernel
theorem dX11_isOn_0 : decode cX11_isOn 0 = .ok (.aload_n 0, 1) := by decide +kernel
theorem dX11_isOn_1 : decode cX11_isOn 1 = .ok (.iload_n 1, 1) := by decide +kernel
theorem dX11_isOn_2 : decode cX11_isOn 2 = .ok (.invokevirtual 109, 3) := by decide +kernel
theorem dX11_isOn_5 : decode cX11_isOn 5 = .ok (.astore_n 2, 1) := by decide +kernel
theorem dX11_isOn_6 : decode cX11_isOn 6 = .ok (.aload_n 2, 1) := by decide +kernel
theorem dX11_isOn_7 : decode cX11_isOn 7 = .ok (.invokestatic 117, 3) := by decide +kernel
theorem dX11_isOn_10 : decode cX11_isOn 10 = .ok (.pop, 1) := by decide +kernel
theorem dX11_isOn_11 : decode cX11_isOn 11 = .ok (.aload_n 0, 1) := by decide +kernel
theorem dX11_isOn_12 : decode cX11_isOn 12 = .ok (.getfield 25, 3) := by decide +kernel
theorem dX11_isOn_15 : decode cX11_isOn 15 = .ok (.aload_n 2, 1) := by decide +kernel
theorem dX11_isOn_16 : decode cX11_isOn 16 = .ok (.invokevirtual 153, 3) := by decide +kernel
theorem dX11_isOn_19 : decode cX11_isOn 19 = .ok (.ireturn, 1) := by decide +kernel
theorem dX11_lock_0 : decode cX11_lock 0 = .ok (.aload_n 0, 1) := by decide +kernel
theorem dX11_lock_1 : decode cX11_lock 1 = .ok (.iload_n 1, 1) := by decide +kernel
theorem dX11_lock_2 : decode cX11_lock 2 = .ok (.invokevirtual 109, 3) := by decide +kernel
theorem dX11_lock_5 : decode cX11_lock 5 = .ok (.astore_n 3, 1) := by decide +kernel
theorem dX11_lock_6 : decode cX11_lock 6 = .ok (.aload_n 3, 1) := by decide +kernel
theorem dX11_lock_7 : decode cX11_lock 7 = .ok (.getfield 159, 3) := by decide +kernel
theorem dX11_lock_10 : decode cX11_lock 10 = .ok (.istore 4, 2) := by decide +kernel
theorem dX11_lock_12 : decode cX11_lock 12 = .ok (.aload_n 3, 1) := by decide +kernel
theorem dX11_lock_13 : decode cX11_lock 13 = .ok (.iload_n 2, 1) := by decide +kernel
theorem dX11_lock_14 : decode cX11_lock 14 = .ok (.putfield 159, 3) := by decide +kernel
theorem dX11_lock_17 : decode cX11_lock 17 = .ok (.iload 4, 2) := by decide +kernel
theorem dX11_lock_19 : decode cX11_lock 19 = .ok (.ireturn, 1) := by decide +kernel
theorem dX11_stage_0 : decode cX11_stage 0 = .ok (.aload_n 0, 1) := by decide +kernel
theorem dX11_stage_1 : decode cX11_stage 1 = .ok (.iload_n 1, 1) := by decide +kernel
theorem dX11_stage_2 : decode cX11_stage 2 = .ok (.invokevirtual 109, 3) := by decide +kernel
theorem dX11_stage_5 : decode cX11_stage 5 = .ok (.astore_n 3, 1) := by decide +kernel
theorem dX11_stage_6 : decode cX11_stage 6 = .ok (.iload_n 2, 1) := by decide +kernel
theorem dX11_stage_7 : decode cX11_stage 7 = .ok (.iconst 0, 1) := by decide +kernel
theorem dX11_stage_8 : decode cX11_stage 8 = .ok (.bipush 9, 2) := by decide +kernel
theorem dX11_stage_10 : decode cX11_stage 10 = .ok (.invokestatic 45, 3) := by decide +kernel
theorem dX11_stage_13 : decode cX11_stage 13 = .ok (.aload_n 3, 1) := by decide +kernel
theorem dX11_stage_14 : decode cX11_stage 14 = .ok (.invokestatic 117, 3) := by decide +kernel
theorem dX11_stage_17 : decode cX11_stage 17 = .ok (.astore 4, 2) := by decide +kernel
theorem dX11_stage_19 : decode cX11_stage 19 = .ok (.aload 4, 2) := by decide +kernel
theorem dX11_stage_21 : decode cX11_stage 21 = .ok (.getfield 162, 3) := by decide +kernel
theorem dX11_stage_24 : decode cX11_stage 24 = .ok (.istore 5, 2) := by decide +kernel
theorem dX11_stage_26 : decode cX11_stage 26 = .ok (.aload 4, 2) := by decide +kernel
theorem dX11_stage_28 : decode cX11_stage 28 = .ok (.iload_n 2, 1) := by decide +kernel
theorem dX11_stage_29 : decode cX11_stage 29 = .ok (.putfield 162, 3) := by decide +kernel
theorem dX11_stage_32 : decode cX11_stage 32 = .ok (.aload_n 0, 1) := by decide +kernel
theorem dX11_stage_33 : decode cX11_stage 33 = .ok (.getfield 12, 3) := by decide +kernel
theorem dX11_stage_36 : decode cX11_stage 36 = .ok (.invokevirtual 87, 3) := by decide +kernel
theorem dX11_stage_39 : decode cX11_stage 39 = .ok (.iload 5, 2) := by decide +kernel
theorem dX11_stage_41 : decode cX11_stage 41 = .ok (.ireturn, 1) := by decide +kernel
theorem dX11_crescendo_0 : decode cX11_crescendo 0 = .ok (.iload_n 1, 1) := by decide +kernel
theorem dX11_crescendo_1 : decode cX11_crescendo 1 = .ok (.iconst 0, 1) := by decide +kernel
theorem dX11_crescendo_2 : decode cX11_crescendo 2 = .ok (.bipush 9, 2) := by decide +kernel
theorem dX11_crescendo_4 : decode cX11_crescendo 4 = .ok (.invokestatic 45, 3) := by decide +kernel
theorem dX11_crescendo_7 : decode cX11_crescendo 7 = .ok (.aload_n 0, 1) := by decide +kernel
theorem dX11_crescendo_8 : decode cX11_crescendo 8 = .ok (.getfield 25, 3) := by decide +kernel
theorem dX11_crescendo_11 : decode cX11_crescendo 11 = .ok (.getfield 165, 3) := by decide +kernel
theorem dX11_crescendo_14 : decode cX11_crescendo 14 = .ok (.istore_n 2, 1) := by decide +kernel
theorem dX11_crescendo_15 : decode cX11_crescendo 15 = .ok (.aload_n 0, 1) := by decide +kernel
theorem dX11_crescendo_16 : decode cX11_crescendo 16 = .ok (.getfield 25, 3) := by decide +kernel
theorem dX11_crescendo_19 : decode cX11_crescendo 19 = .ok (.iload_n 1, 1) := by decide +kernel
theorem dX11_crescendo_20 : decode cX11_crescendo 20 = .ok (.putfield 165, 3) := by decide +kernel
theorem dX11_crescendo_23 : decode cX11_crescendo 23 = .ok (.aload_n 0, 1) := by decide +kernel
theorem dX11_crescendo_24 : decode cX11_crescendo 24 = .ok (.getfield 12, 3) := by decide +kernel
theorem dX11_crescendo_27 : decode cX11_crescendo 27 = .ok (.invokevirtual 87, 3) := by decide +kernel
theorem dX11_crescendo_30 : decode cX11_crescendo 30 = .ok (.iload_n 2, 1) := by decide +kernel
theorem dX11_crescendo_31 : decode cX11_crescendo 31 = .ok (.ireturn, 1) := by decide +kernel
theorem dX11_tutti_0 : decode cX11_tutti 0 = .ok (.aload_n 0, 1) := by decide +kernel
theorem dX11_tutti_1 : decode cX11_tutti 1 = .ok (.getfield 25, 3) := by decide +kernel
theorem dX11_tutti_4 : decode cX11_tutti 4 = .ok (.getfield 168, 3) := by decide +kernel
theorem dX11_tutti_7 : decode cX11_tutti 7 = .ok (.istore_n 2, 1) := by decide +kernel
theorem dX11_tutti_8 : decode cX11_tutti 8 = .ok (.aload_n 0, 1) := by decide +kernel
theorem dX11_tutti_9 : decode cX11_tutti 9 = .ok (.getfield 25, 3) := by decide +kernel
theorem dX11_tutti_12 : decode cX11_tutti 12 = .ok (.iload_n 1, 1) := by decide +kernel
theorem dX11_tutti_13 : decode cX11_tutti 13 = .ok (.putfield 168, 3) := by decide +kernel
theorem dX11_tutti_16 : decode cX11_tutti 16 = .ok (.aload_n 0, 1) := by decide +kernel
theorem dX11_tutti_17 : decode cX11_tutti 17 = .ok (.getfield 12, 3) := by decide +kernel
theorem dX11_tutti_20 : decode cX11_tutti 20 = .ok (.invokevirtual 87, 3) := by decide +kernel
theorem dX11_tutti_23 : decode cX11_tutti 23 = .ok (.iload_n 2, 1) := by decide +kernel
theorem dX11_tutti_24 : decode cX11_tutti 24 = .ok (.ireturn, 1) := by decide +kernel
theorem dX11_key_0 : decode cX11_key 0 = .ok (.iload_n 1, 1) := by decide +kernel
theorem dX11_key_1 : decode cX11_key 1 = .ok (.iload_n 2, 1) := by decide +kernel
theorem dX11_key_2 : decode cX11_key 2 = .ok (.invokestatic 171, 3) := by decide +kernel
theorem dX11_key_5 : decode cX11_key 5 = .ok (.aload_n 0, 1) := by decide +kernel
theorem dX11_key_6 : decode cX11_key 6 = .ok (.getfield 20, 3) := by decide +kernel
theorem dX11_key_9 : decode cX11_key 9 = .ok (.iload_n 1, 1) := by decide +kernel
theorem dX11_key_10 : decode cX11_key 10 = .ok (.iload_n 2, 1) := by decide +kernel
theorem dX11_key_11 : decode cX11_key 11 = .ok (.invokevirtual 174, 3) := by decide +kernel
theorem dX11_key_14 : decode cX11_key 14 = .ok (.istore 4, 2) := by decide +kernel
theorem dX11_key_16 : decode cX11_key 16 = .ok (.aload_n 0, 1) := by decide +kernel
theorem dX11_key_17 : decode cX11_key 17 = .ok (.getfield 12, 3) := by decide +kernel
theorem dX11_key_20 : decode cX11_key 20 = .ok (.iload_n 1, 1) := by decide +kernel
theorem dX11_key_21 : decode cX11_key 21 = .ok (.iload_n 2, 1) := by decide +kernel
theorem dX11_key_22 : decode cX11_key 22 = .ok (.iload_n 3, 1) := by decide +kernel
theorem dX11_key_23 : decode cX11_key 23 = .ok (.invokevirtual 180, 3) := by decide +kernel
theorem dX11_key_26 : decode cX11_key 26 = .ok (.aload_n 0, 1) := by decide +kernel
theorem dX11_key_27 : decode cX11_key 27 = .ok (.getfield 12, 3) := by decide +kernel
theorem dX11_key_30 : decode cX11_key 30 = .ok (.invokevirtual 87, 3) := by decide +kernel
theorem dX11_key_33 : decode cX11_key 33 = .ok (.iload 4, 2) := by decide +kernel
theorem dX11_key_35 : decode cX11_key 35 = .ok (.ireturn, 1) := by decide +kernel
theorem dX11_isDown_0 : decode cX11_isDown 0 = .ok (.iload_n 1, 1) := by decide +kernel
theorem dX11_isDown_1 : decode cX11_isDown 1 = .ok (.iload_n 2, 1) := by decide +kernel
theorem dX11_isDown_2 : decode cX11_isDown 2 = .ok (.invokestatic 171, 3) := by decide +kernel
theorem dX11_isDown_5 : decode cX11_isDown 5 = .ok (.aload_n 0, 1) := by decide +kernel
theorem dX11_isDown_6 : decode cX11_isDown 6 = .ok (.getfield 20, 3) := by decide +kernel
theorem dX11_isDown_9 : decode cX11_isDown 9 = .ok (.iload_n 1, 1) := by decide +kernel
theorem dX11_isDown_10 : decode cX11_isDown 10 = .ok (.iload_n 2, 1) := by decide +kernel
theorem dX11_isDown_11 : decode cX11_isDown 11 = .ok (.invokevirtual 174, 3) := by decide +kernel
theorem dX11_isDown_14 : decode cX11_isDown 14 = .ok (.ireturn, 1) := by decide +kernel
theorem dX11_lift_0 : decode cX11_lift 0 = .ok (.aload_n 0, 1) := by decide +kernel
theorem dX11_lift_1 : decode cX11_lift 1 = .ok (.getfield 12, 3) := by decide +kernel
theorem dX11_lift_4 : decode cX11_lift 4 = .ok (.invokevirtual 184, 3) := by decide +kernel
theorem dX11_lift_7 : decode cX11_lift 7 = .ok (.ireturn, 1) := by decide +kernel
theorem dX11_pass_0 : decode cX11_pass 0 = .ok (.iload_n 1, 1) := by decide +kernel
theorem dX11_pass_1 : decode cX11_pass 1 = .ok (.iconst 1, 1) := by decide +kernel
theorem dX11_pass_2 : decode cX11_pass 2 = .ok (.bipush 40, 2) := by decide +kernel
theorem dX11_pass_4 : decode cX11_pass 4 = .ok (.invokestatic 45, 3) := by decide +kernel
theorem dX11_pass_7 : decode cX11_pass 7 = .ok (.aload_n 0, 1) := by decide +kernel
theorem dX11_pass_8 : decode cX11_pass 8 = .ok (.getfield 12, 3) := by decide +kernel
theorem dX11_pass_11 : decode cX11_pass 11 = .ok (.iload_n 1, 1) := by decide +kernel
theorem dX11_pass_12 : decode cX11_pass 12 = .ok (.invokevirtual 187, 3) := by decide +kernel
theorem dX11_pass_15 : decode cX11_pass 15 = .ok (.aload_n 0, 1) := by decide +kernel
theorem dX11_pass_16 : decode cX11_pass 16 = .ok (.getfield 12, 3) := by decide +kernel
theorem dX11_pass_19 : decode cX11_pass 19 = .ok (.getfield 190, 3) := by decide +kernel
theorem dX11_pass_22 : decode cX11_pass 22 = .ok (.ireturn, 1) := by decide +kernel
theorem dX11_reasons_0 : decode cX11_reasons 0 = .ok (.aload_n 0, 1) := by decide +kernel
theorem dX11_reasons_1 : decode cX11_reasons 1 = .ok (.iload_n 1, 1) := by decide +kernel
theorem dX11_reasons_2 : decode cX11_reasons 2 = .ok (.iload_n 2, 1) := by decide +kernel
theorem dX11_reasons_3 : decode cX11_reasons 3 = .ok (.invokevirtual 193, 3) := by decide +kernel
theorem dX11_reasons_6 : decode cX11_reasons 6 = .ok (.invokevirtual 197, 3) := by decide +kernel
theorem dX11_reasons_9 : decode cX11_reasons 9 = .ok (.ireturn, 1) := by decide +kernel
theorem dX11_reasonsAnew_0 : decode cX11_reasonsAnew 0 = .ok (.aload_n 0, 1) := by decide +kernel
theorem dX11_reasonsAnew_1 : decode cX11_reasonsAnew 1 = .ok (.iload_n 1, 1) := by decide +kernel
theorem dX11_reasonsAnew_2 : decode cX11_reasonsAnew 2 = .ok (.iload_n 2, 1) := by decide +kernel
theorem dX11_reasonsAnew_3 : decode cX11_reasonsAnew 3 = .ok (.invokevirtual 193, 3) := by decide +kernel
theorem dX11_reasonsAnew_6 : decode cX11_reasonsAnew 6 = .ok (.pop, 1) := by decide +kernel
theorem dX11_reasonsAnew_7 : decode cX11_reasonsAnew 7 = .ok (.aload_n 0, 1) := by decide +kernel
theorem dX11_reasonsAnew_8 : decode cX11_reasonsAnew 8 = .ok (.getfield 12, 3) := by decide +kernel
theorem dX11_reasonsAnew_11 : decode cX11_reasonsAnew 11 = .ok (.iload_n 1, 1) := by decide +kernel
theorem dX11_reasonsAnew_12 : decode cX11_reasonsAnew 12 = .ok (.iload_n 2, 1) := by decide +kernel
theorem dX11_reasonsAnew_13 : decode cX11_reasonsAnew 13 = .ok (.invokevirtual 202, 3) := by decide +kernel
theorem dX11_reasonsAnew_16 : decode cX11_reasonsAnew 16 = .ok (.ireturn, 1) := by decide +kernel
theorem dX11_isOpen_0 : decode cX11_isOpen 0 = .ok (.aload_n 0, 1) := by decide +kernel
theorem dX11_isOpen_1 : decode cX11_isOpen 1 = .ok (.iload_n 1, 1) := by decide +kernel
theorem dX11_isOpen_2 : decode cX11_isOpen 2 = .ok (.iload_n 2, 1) := by decide +kernel
theorem dX11_isOpen_3 : decode cX11_isOpen 3 = .ok (.invokevirtual 193, 3) := by decide +kernel
theorem dX11_isOpen_6 : decode cX11_isOpen 6 = .ok (.getfield 206, 3) := by decide +kernel
theorem dX11_isOpen_9 : decode cX11_isOpen 9 = .ok (.ireturn, 1) := by decide +kernel
theorem dX11_speaks_0 : decode cX11_speaks 0 = .ok (.aload_n 0, 1) := by decide +kernel
theorem dX11_speaks_1 : decode cX11_speaks 1 = .ok (.iload_n 1, 1) := by decide +kernel
theorem dX11_speaks_2 : decode cX11_speaks 2 = .ok (.iload_n 2, 1) := by decide +kernel
theorem dX11_speaks_3 : decode cX11_speaks 3 = .ok (.invokevirtual 193, 3) := by decide +kernel
theorem dX11_speaks_6 : decode cX11_speaks 6 = .ok (.getfield 209, 3) := by decide +kernel
theorem dX11_speaks_9 : decode cX11_speaks 9 = .ok (.ireturn, 1) := by decide +kernel
theorem dX11_speaking_0 : decode cX11_speaking 0 = .ok (.aload_n 0, 1) := by decide +kernel
theorem dX11_speaking_1 : decode cX11_speaking 1 = .ok (.getfield 12, 3) := by decide +kernel
theorem dX11_speaking_4 : decode cX11_speaking 4 = .ok (.getfield 212, 3) := by decide +kernel
theorem dX11_speaking_7 : decode cX11_speaking 7 = .ok (.ireturn, 1) := by decide +kernel
theorem dX11_begun_0 : decode cX11_begun 0 = .ok (.aload_n 0, 1) := by decide +kernel
theorem dX11_begun_1 : decode cX11_begun 1 = .ok (.iload_n 1, 1) := by decide +kernel
theorem dX11_begun_2 : decode cX11_begun 2 = .ok (.iload_n 2, 1) := by decide +kernel
theorem dX11_begun_3 : decode cX11_begun 3 = .ok (.invokevirtual 193, 3) := by decide +kernel
theorem dX11_begun_6 : decode cX11_begun 6 = .ok (.getfield 215, 3) := by decide +kernel
theorem dX11_begun_9 : decode cX11_begun 9 = .ok (.ireturn, 1) := by decide +kernel
theorem dX11_ended_0 : decode cX11_ended 0 = .ok (.aload_n 0, 1) := by decide +kernel
theorem dX11_ended_1 : decode cX11_ended 1 = .ok (.getfield 12, 3) := by decide +kernel
theorem dX11_ended_4 : decode cX11_ended 4 = .ok (.getfield 218, 3) := by decide +kernel
theorem dX11_ended_7 : decode cX11_ended 7 = .ok (.lreturn, 1) := by decide +kernel
theorem dX11_supply_0 : decode cX11_supply 0 = .ok (.iload_n 1, 1) := by decide +kernel
theorem dX11_supply_1 : decode cX11_supply 1 = .ok (.invokestatic 90, 3) := by decide +kernel
theorem dX11_supply_4 : decode cX11_supply 4 = .ok (.iload_n 2, 1) := by decide +kernel
theorem dX11_supply_5 : decode cX11_supply 5 = .ok (.iconst 0, 1) := by decide +kernel
theorem dX11_supply_6 : decode cX11_supply 6 = .ok (.sipush 999, 3) := by decide +kernel
theorem dX11_supply_9 : decode cX11_supply 9 = .ok (.invokestatic 45, 3) := by decide +kernel
theorem dX11_supply_12 : decode cX11_supply 12 = .ok (.aload_n 0, 1) := by decide +kernel
theorem dX11_supply_13 : decode cX11_supply 13 = .ok (.getfield 12, 3) := by decide +kernel
theorem dX11_supply_16 : decode cX11_supply 16 = .ok (.getfield 222, 3) := by decide +kernel
theorem dX11_supply_19 : decode cX11_supply 19 = .ok (.iload_n 1, 1) := by decide +kernel
theorem dX11_supply_20 : decode cX11_supply 20 = .ok (.iaload, 1) := by decide +kernel
theorem dX11_supply_21 : decode cX11_supply 21 = .ok (.istore_n 3, 1) := by decide +kernel
theorem dX11_supply_22 : decode cX11_supply 22 = .ok (.aload_n 0, 1) := by decide +kernel
theorem dX11_supply_23 : decode cX11_supply 23 = .ok (.getfield 12, 3) := by decide +kernel
theorem dX11_supply_26 : decode cX11_supply 26 = .ok (.getfield 222, 3) := by decide +kernel
theorem dX11_supply_29 : decode cX11_supply 29 = .ok (.iload_n 1, 1) := by decide +kernel
theorem dX11_supply_30 : decode cX11_supply 30 = .ok (.iload_n 2, 1) := by decide +kernel
theorem dX11_supply_31 : decode cX11_supply 31 = .ok (.iastore, 1) := by decide +kernel
theorem dX11_supply_32 : decode cX11_supply 32 = .ok (.aload_n 0, 1) := by decide +kernel
theorem dX11_supply_33 : decode cX11_supply 33 = .ok (.getfield 12, 3) := by decide +kernel
theorem dX11_supply_36 : decode cX11_supply 36 = .ok (.invokevirtual 87, 3) := by decide +kernel
theorem dX11_supply_39 : decode cX11_supply 39 = .ok (.iload_n 3, 1) := by decide +kernel
theorem dX11_supply_40 : decode cX11_supply 40 = .ok (.ireturn, 1) := by decide +kernel
theorem dX11_wind_0 : decode cX11_wind 0 = .ok (.iload_n 1, 1) := by decide +kernel
theorem dX11_wind_1 : decode cX11_wind 1 = .ok (.invokestatic 90, 3) := by decide +kernel
theorem dX11_wind_4 : decode cX11_wind 4 = .ok (.aload_n 0, 1) := by decide +kernel
theorem dX11_wind_5 : decode cX11_wind 5 = .ok (.getfield 12, 3) := by decide +kernel
theorem dX11_wind_8 : decode cX11_wind 8 = .ok (.getfield 226, 3) := by decide +kernel
theorem dX11_wind_11 : decode cX11_wind 11 = .ok (.iload_n 1, 1) := by decide +kernel
theorem dX11_wind_12 : decode cX11_wind 12 = .ok (.iaload, 1) := by decide +kernel
theorem dX11_wind_13 : decode cX11_wind 13 = .ok (.ireturn, 1) := by decide +kernel
theorem dX11_box_0 : decode cX11_box 0 = .ok (.iload_n 1, 1) := by decide +kernel
theorem dX11_box_1 : decode cX11_box 1 = .ok (.iconst 1, 1) := by decide +kernel
theorem dX11_box_2 : decode cX11_box 2 = .ok (.iconst 2, 1) := by decide +kernel
theorem dX11_box_3 : decode cX11_box 3 = .ok (.invokestatic 45, 3) := by decide +kernel
theorem dX11_box_6 : decode cX11_box 6 = .ok (.iload_n 2, 1) := by decide +kernel
theorem dX11_box_7 : decode cX11_box 7 = .ok (.iconst 0, 1) := by decide +kernel
theorem dX11_box_8 : decode cX11_box 8 = .ok (.bipush 10, 2) := by decide +kernel
theorem dX11_box_10 : decode cX11_box 10 = .ok (.invokestatic 45, 3) := by decide +kernel
theorem dX11_box_13 : decode cX11_box 13 = .ok (.aload_n 0, 1) := by decide +kernel
theorem dX11_box_14 : decode cX11_box 14 = .ok (.getfield 12, 3) := by decide +kernel
theorem dX11_box_17 : decode cX11_box 17 = .ok (.getfield 229, 3) := by decide +kernel
theorem dX11_box_20 : decode cX11_box 20 = .ok (.iload_n 1, 1) := by decide +kernel
theorem dX11_box_21 : decode cX11_box 21 = .ok (.iaload, 1) := by decide +kernel
theorem dX11_box_22 : decode cX11_box 22 = .ok (.istore_n 3, 1) := by decide +kernel
theorem dX11_box_23 : decode cX11_box 23 = .ok (.aload_n 0, 1) := by decide +kernel
theorem dX11_box_24 : decode cX11_box 24 = .ok (.getfield 12, 3) := by decide +kernel
theorem dX11_box_27 : decode cX11_box 27 = .ok (.getfield 229, 3) := by decide +kernel
theorem dX11_box_30 : decode cX11_box 30 = .ok (.iload_n 1, 1) := by decide +kernel
theorem dX11_box_31 : decode cX11_box 31 = .ok (.iload_n 2, 1) := by decide +kernel
theorem dX11_box_32 : decode cX11_box 32 = .ok (.iastore, 1) := by decide +kernel
theorem dX11_box_33 : decode cX11_box 33 = .ok (.iload_n 3, 1) := by decide +kernel
theorem dX11_box_34 : decode cX11_box 34 = .ok (.ireturn, 1) := by decide +kernel
theorem dX11_loudness_0 : decode cX11_loudness 0 = .ok (.aload_n 0, 1) := by decide +kernel
theorem dX11_loudness_1 : decode cX11_loudness 1 = .ok (.getfield 12, 3) := by decide +kernel
theorem dX11_loudness_4 : decode cX11_loudness 4 = .ok (.invokevirtual 232, 3) := by decide +kernel
theorem dX11_loudness_7 : decode cX11_loudness 7 = .ok (.ireturn, 1) := by decide +kernel
theorem dX11_temper_0 : decode cX11_temper 0 = .ok (.iload_n 1, 1) := by decide +kernel
theorem dX11_temper_1 : decode cX11_temper 1 = .ok (.iconst 0, 1) := by decide +kernel
theorem dX11_temper_2 : decode cX11_temper 2 = .ok (.bipush 11, 2) := by decide +kernel
theorem dX11_temper_4 : decode cX11_temper 4 = .ok (.invokestatic 45, 3) := by decide +kernel
theorem dX11_temper_7 : decode cX11_temper 7 = .ok (.iload_n 2, 1) := by decide +kernel
theorem dX11_temper_8 : decode cX11_temper 8 = .ok (.bipush (-50), 2) := by decide +kernel
theorem dX11_temper_10 : decode cX11_temper 10 = .ok (.bipush 50, 2) := by decide +kernel
theorem dX11_temper_12 : decode cX11_temper 12 = .ok (.invokestatic 45, 3) := by decide +kernel
theorem dX11_temper_15 : decode cX11_temper 15 = .ok (.aload_n 0, 1) := by decide +kernel
theorem dX11_temper_16 : decode cX11_temper 16 = .ok (.getfield 12, 3) := by decide +kernel
theorem dX11_temper_19 : decode cX11_temper 19 = .ok (.getfield 235, 3) := by decide +kernel
theorem dX11_temper_22 : decode cX11_temper 22 = .ok (.iload_n 1, 1) := by decide +kernel
theorem dX11_temper_23 : decode cX11_temper 23 = .ok (.iaload, 1) := by decide +kernel
theorem dX11_temper_24 : decode cX11_temper 24 = .ok (.istore_n 3, 1) := by decide +kernel
theorem dX11_temper_25 : decode cX11_temper 25 = .ok (.aload_n 0, 1) := by decide +kernel
theorem dX11_temper_26 : decode cX11_temper 26 = .ok (.getfield 12, 3) := by decide +kernel
theorem dX11_temper_29 : decode cX11_temper 29 = .ok (.getfield 235, 3) := by decide +kernel
theorem dX11_temper_32 : decode cX11_temper 32 = .ok (.iload_n 1, 1) := by decide +kernel
theorem dX11_temper_33 : decode cX11_temper 33 = .ok (.iload_n 2, 1) := by decide +kernel
theorem dX11_temper_34 : decode cX11_temper 34 = .ok (.iastore, 1) := by decide +kernel
theorem dX11_temper_35 : decode cX11_temper 35 = .ok (.iload_n 3, 1) := by decide +kernel
theorem dX11_temper_36 : decode cX11_temper 36 = .ok (.ireturn, 1) := by decide +kernel
theorem dX11_tune_0 : decode cX11_tune 0 = .ok (.aload_n 0, 1) := by decide +kernel
theorem dX11_tune_1 : decode cX11_tune 1 = .ok (.iload_n 1, 1) := by decide +kernel
theorem dX11_tune_2 : decode cX11_tune 2 = .ok (.iload_n 2, 1) := by decide +kernel
theorem dX11_tune_3 : decode cX11_tune 3 = .ok (.invokevirtual 193, 3) := by decide +kernel
theorem dX11_tune_6 : decode cX11_tune 6 = .ok (.astore 4, 2) := by decide +kernel
theorem dX11_tune_8 : decode cX11_tune 8 = .ok (.iload_n 3, 1) := by decide +kernel
theorem dX11_tune_9 : decode cX11_tune 9 = .ok (.bipush (-50), 2) := by decide +kernel
theorem dX11_tune_11 : decode cX11_tune 11 = .ok (.bipush 50, 2) := by decide +kernel
theorem dX11_tune_13 : decode cX11_tune 13 = .ok (.invokestatic 45, 3) := by decide +kernel
theorem dX11_tune_16 : decode cX11_tune 16 = .ok (.aload 4, 2) := by decide +kernel
theorem dX11_tune_18 : decode cX11_tune 18 = .ok (.getfield 238, 3) := by decide +kernel
theorem dX11_tune_21 : decode cX11_tune 21 = .ok (.istore 5, 2) := by decide +kernel
theorem dX11_tune_23 : decode cX11_tune 23 = .ok (.aload 4, 2) := by decide +kernel
theorem dX11_tune_25 : decode cX11_tune 25 = .ok (.iload_n 3, 1) := by decide +kernel
theorem dX11_tune_26 : decode cX11_tune 26 = .ok (.putfield 238, 3) := by decide +kernel
theorem dX11_tune_29 : decode cX11_tune 29 = .ok (.iload 5, 2) := by decide +kernel
theorem dX11_tune_31 : decode cX11_tune 31 = .ok (.ireturn, 1) := by decide +kernel
theorem dX11_tuneTo_0 : decode cX11_tuneTo 0 = .ok (.aload_n 0, 1) := by decide +kernel
theorem dX11_tuneTo_1 : decode cX11_tuneTo 1 = .ok (.iload_n 1, 1) := by decide +kernel
theorem dX11_tuneTo_2 : decode cX11_tuneTo 2 = .ok (.iload_n 2, 1) := by decide +kernel
theorem dX11_tuneTo_3 : decode cX11_tuneTo 3 = .ok (.invokevirtual 193, 3) := by decide +kernel
theorem dX11_tuneTo_6 : decode cX11_tuneTo 6 = .ok (.astore 5, 2) := by decide +kernel
theorem dX11_tuneTo_8 : decode cX11_tuneTo 8 = .ok (.aload_n 0, 1) := by decide +kernel
theorem dX11_tuneTo_9 : decode cX11_tuneTo 9 = .ok (.iload_n 3, 1) := by decide +kernel
theorem dX11_tuneTo_10 : decode cX11_tuneTo 10 = .ok (.iload 4, 2) := by decide +kernel
theorem dX11_tuneTo_12 : decode cX11_tuneTo 12 = .ok (.invokevirtual 193, 3) := by decide +kernel
theorem dX11_tuneTo_15 : decode cX11_tuneTo 15 = .ok (.pop, 1) := by decide +kernel
theorem dX11_tuneTo_16 : decode cX11_tuneTo 16 = .ok (.aload 5, 2) := by decide +kernel
theorem dX11_tuneTo_18 : decode cX11_tuneTo 18 = .ok (.getfield 238, 3) := by decide +kernel
theorem dX11_tuneTo_21 : decode cX11_tuneTo 21 = .ok (.aload_n 0, 1) := by decide +kernel
theorem dX11_tuneTo_22 : decode cX11_tuneTo 22 = .ok (.getfield 12, 3) := by decide +kernel
theorem dX11_tuneTo_25 : decode cX11_tuneTo 25 = .ok (.iload_n 3, 1) := by decide +kernel
theorem dX11_tuneTo_26 : decode cX11_tuneTo 26 = .ok (.iload 4, 2) := by decide +kernel
theorem dX11_tuneTo_28 : decode cX11_tuneTo 28 = .ok (.invokevirtual 241, 3) := by decide +kernel
theorem dX11_tuneTo_31 : decode cX11_tuneTo 31 = .ok (.iadd, 1) := by decide +kernel
theorem dX11_tuneTo_32 : decode cX11_tuneTo 32 = .ok (.aload_n 0, 1) := by decide +kernel
theorem dX11_tuneTo_33 : decode cX11_tuneTo 33 = .ok (.getfield 12, 3) := by decide +kernel
theorem dX11_tuneTo_36 : decode cX11_tuneTo 36 = .ok (.iload_n 1, 1) := by decide +kernel
theorem dX11_tuneTo_37 : decode cX11_tuneTo 37 = .ok (.iload_n 2, 1) := by decide +kernel
theorem dX11_tuneTo_38 : decode cX11_tuneTo 38 = .ok (.invokevirtual 241, 3) := by decide +kernel
theorem dX11_tuneTo_41 : decode cX11_tuneTo 41 = .ok (.isub, 1) := by decide +kernel
theorem dX11_tuneTo_42 : decode cX11_tuneTo 42 = .ok (.istore 6, 2) := by decide +kernel
theorem dX11_tuneTo_44 : decode cX11_tuneTo 44 = .ok (.aload 5, 2) := by decide +kernel
theorem dX11_tuneTo_46 : decode cX11_tuneTo 46 = .ok (.bipush (-50), 2) := by decide +kernel
theorem dX11_tuneTo_48 : decode cX11_tuneTo 48 = .ok (.bipush 50, 2) := by decide +kernel
theorem dX11_tuneTo_50 : decode cX11_tuneTo 50 = .ok (.iload 6, 2) := by decide +kernel
theorem dX11_tuneTo_52 : decode cX11_tuneTo 52 = .ok (.invokestatic 244, 3) := by decide +kernel
theorem dX11_tuneTo_55 : decode cX11_tuneTo 55 = .ok (.invokestatic 249, 3) := by decide +kernel
theorem dX11_tuneTo_58 : decode cX11_tuneTo 58 = .ok (.putfield 238, 3) := by decide +kernel
theorem dX11_tuneTo_61 : decode cX11_tuneTo 61 = .ok (.aload_n 0, 1) := by decide +kernel
theorem dX11_tuneTo_62 : decode cX11_tuneTo 62 = .ok (.getfield 12, 3) := by decide +kernel
theorem dX11_tuneTo_65 : decode cX11_tuneTo 65 = .ok (.iload_n 1, 1) := by decide +kernel
theorem dX11_tuneTo_66 : decode cX11_tuneTo 66 = .ok (.iload_n 2, 1) := by decide +kernel
theorem dX11_tuneTo_67 : decode cX11_tuneTo 67 = .ok (.invokevirtual 241, 3) := by decide +kernel
theorem dX11_tuneTo_70 : decode cX11_tuneTo 70 = .ok (.aload_n 0, 1) := by decide +kernel
theorem dX11_tuneTo_71 : decode cX11_tuneTo 71 = .ok (.getfield 12, 3) := by decide +kernel
theorem dX11_tuneTo_74 : decode cX11_tuneTo 74 = .ok (.iload_n 3, 1) := by decide +kernel
theorem dX11_tuneTo_75 : decode cX11_tuneTo 75 = .ok (.iload 4, 2) := by decide +kernel
theorem dX11_tuneTo_77 : decode cX11_tuneTo 77 = .ok (.invokevirtual 241, 3) := by decide +kernel
theorem dX11_tuneTo_80 : decode cX11_tuneTo 80 = .ok (.isub, 1) := by decide +kernel
theorem dX11_tuneTo_81 : decode cX11_tuneTo 81 = .ok (.ireturn, 1) := by decide +kernel
theorem dX11_heat_0 : decode cX11_heat 0 = .ok (.aload_n 0, 1) := by decide +kernel
theorem dX11_heat_1 : decode cX11_heat 1 = .ok (.iload_n 2, 1) := by decide +kernel
theorem dX11_heat_2 : decode cX11_heat 2 = .ok (.invokevirtual 113, 3) := by decide +kernel
theorem dX11_heat_5 : decode cX11_heat 5 = .ok (.astore 4, 2) := by decide +kernel
theorem dX11_heat_7 : decode cX11_heat 7 = .ok (.iload_n 1, 1) := by decide +kernel
theorem dX11_heat_8 : decode cX11_heat 8 = .ok (.bipush (-20), 2) := by decide +kernel
theorem dX11_heat_10 : decode cX11_heat 10 = .ok (.bipush 20, 2) := by decide +kernel
theorem dX11_heat_12 : decode cX11_heat 12 = .ok (.invokestatic 45, 3) := by decide +kernel
theorem dX11_heat_15 : decode cX11_heat 15 = .ok (.iload_n 3, 1) := by decide +kernel
theorem dX11_heat_16 : decode cX11_heat 16 = .ok (.bipush (-9), 2) := by decide +kernel
theorem dX11_heat_18 : decode cX11_heat 18 = .ok (.bipush 9, 2) := by decide +kernel
theorem dX11_heat_20 : decode cX11_heat 20 = .ok (.invokestatic 45, 3) := by decide +kernel
theorem dX11_heat_23 : decode cX11_heat 23 = .ok (.aload_n 0, 1) := by decide +kernel
theorem dX11_heat_24 : decode cX11_heat 24 = .ok (.getfield 12, 3) := by decide +kernel
theorem dX11_heat_27 : decode cX11_heat 27 = .ok (.getfield 252, 3) := by decide +kernel
theorem dX11_heat_30 : decode cX11_heat 30 = .ok (.istore 5, 2) := by decide +kernel
theorem dX11_heat_32 : decode cX11_heat 32 = .ok (.aload_n 0, 1) := by decide +kernel
theorem dX11_heat_33 : decode cX11_heat 33 = .ok (.getfield 12, 3) := by decide +kernel
theorem dX11_heat_36 : decode cX11_heat 36 = .ok (.iload_n 1, 1) := by decide +kernel
theorem dX11_heat_37 : decode cX11_heat 37 = .ok (.putfield 252, 3) := by decide +kernel
theorem dX11_heat_40 : decode cX11_heat 40 = .ok (.aload 4, 2) := by decide +kernel
theorem dX11_heat_42 : decode cX11_heat 42 = .ok (.iload_n 3, 1) := by decide +kernel
theorem dX11_heat_43 : decode cX11_heat 43 = .ok (.putfield 255, 3) := by decide +kernel
theorem dX11_heat_46 : decode cX11_heat 46 = .ok (.iload 5, 2) := by decide +kernel
theorem dX11_heat_48 : decode cX11_heat 48 = .ok (.ireturn, 1) := by decide +kernel
theorem dX11_pitch_0 : decode cX11_pitch 0 = .ok (.aload_n 0, 1) := by decide +kernel
theorem dX11_pitch_1 : decode cX11_pitch 1 = .ok (.iload_n 1, 1) := by decide +kernel
theorem dX11_pitch_2 : decode cX11_pitch 2 = .ok (.iload_n 2, 1) := by decide +kernel
theorem dX11_pitch_3 : decode cX11_pitch 3 = .ok (.invokevirtual 193, 3) := by decide +kernel
theorem dX11_pitch_6 : decode cX11_pitch 6 = .ok (.pop, 1) := by decide +kernel
theorem dX11_pitch_7 : decode cX11_pitch 7 = .ok (.aload_n 0, 1) := by decide +kernel
theorem dX11_pitch_8 : decode cX11_pitch 8 = .ok (.getfield 12, 3) := by decide +kernel
theorem dX11_pitch_11 : decode cX11_pitch 11 = .ok (.iload_n 1, 1) := by decide +kernel
theorem dX11_pitch_12 : decode cX11_pitch 12 = .ok (.iload_n 2, 1) := by decide +kernel
theorem dX11_pitch_13 : decode cX11_pitch 13 = .ok (.invokevirtual 241, 3) := by decide +kernel
theorem dX11_pitch_16 : decode cX11_pitch 16 = .ok (.ireturn, 1) := by decide +kernel
theorem dX11_fault_0 : decode cX11_fault 0 = .ok (.aload_n 0, 1) := by decide +kernel
theorem dX11_fault_1 : decode cX11_fault 1 = .ok (.iload_n 1, 1) := by decide +kernel
theorem dX11_fault_2 : decode cX11_fault 2 = .ok (.iload_n 2, 1) := by decide +kernel
theorem dX11_fault_3 : decode cX11_fault 3 = .ok (.invokevirtual 193, 3) := by decide +kernel
theorem dX11_fault_6 : decode cX11_fault 6 = .ok (.astore 4, 2) := by decide +kernel
theorem dX11_fault_8 : decode cX11_fault 8 = .ok (.iload_n 3, 1) := by decide +kernel
theorem dX11_fault_9 : decode cX11_fault 9 = .ok (.bipush 99, 2) := by decide +kernel
theorem dX11_fault_11 : decode cX11_fault 11 = .ok (.if_icmp .eq 26, 3) := by decide +kernel
theorem dX11_fault_14 : decode cX11_fault 14 = .ok (.iload_n 3, 1) := by decide +kernel
theorem dX11_fault_15 : decode cX11_fault 15 = .ok (.bipush 100, 2) := by decide +kernel
theorem dX11_fault_17 : decode cX11_fault 17 = .ok (.if_icmp .eq 20, 3) := by decide +kernel
theorem dX11_fault_20 : decode cX11_fault 20 = .ok (.iload_n 3, 1) := by decide +kernel
theorem dX11_fault_21 : decode cX11_fault 21 = .ok (.bipush 45, 2) := by decide +kernel
theorem dX11_fault_23 : decode cX11_fault 23 = .ok (.if_icmp .eq 14, 3) := by decide +kernel
theorem dX11_fault_26 : decode cX11_fault 26 = .ok (.new 130, 3) := by decide +kernel
theorem dX11_fault_29 : decode cX11_fault 29 = .ok (.dup, 1) := by decide +kernel
theorem dX11_fault_30 : decode cX11_fault 30 = .ok (.ldc_w 258, 3) := by decide +kernel
theorem dX11_fault_33 : decode cX11_fault 33 = .ok (.invokespecial 134, 3) := by decide +kernel
theorem dX11_fault_36 : decode cX11_fault 36 = .ok (.athrow, 1) := by decide +kernel
theorem dX11_fault_37 : decode cX11_fault 37 = .ok (.aload 4, 2) := by decide +kernel
theorem dX11_fault_39 : decode cX11_fault 39 = .ok (.getfield 260, 3) := by decide +kernel
theorem dX11_fault_42 : decode cX11_fault 42 = .ok (.istore 5, 2) := by decide +kernel
theorem dX11_fault_44 : decode cX11_fault 44 = .ok (.aload 4, 2) := by decide +kernel
theorem dX11_fault_46 : decode cX11_fault 46 = .ok (.iload_n 3, 1) := by decide +kernel
theorem dX11_fault_47 : decode cX11_fault 47 = .ok (.putfield 260, 3) := by decide +kernel
theorem dX11_fault_50 : decode cX11_fault 50 = .ok (.aload_n 0, 1) := by decide +kernel
theorem dX11_fault_51 : decode cX11_fault 51 = .ok (.getfield 12, 3) := by decide +kernel
theorem dX11_fault_54 : decode cX11_fault 54 = .ok (.invokevirtual 87, 3) := by decide +kernel
theorem dX11_fault_57 : decode cX11_fault 57 = .ok (.iload 5, 2) := by decide +kernel
theorem dX11_fault_59 : decode cX11_fault 59 = .ok (.ireturn, 1) := by decide +kernel
theorem dX11_hunt_0 : decode cX11_hunt 0 = .ok (.aload_n 0, 1) := by decide +kernel
theorem dX11_hunt_1 : decode cX11_hunt 1 = .ok (.iload_n 1, 1) := by decide +kernel
theorem dX11_hunt_2 : decode cX11_hunt 2 = .ok (.invokevirtual 113, 3) := by decide +kernel
theorem dX11_hunt_5 : decode cX11_hunt 5 = .ok (.invokevirtual 264, 3) := by decide +kernel
theorem dX11_hunt_8 : decode cX11_hunt 8 = .ok (.ireturn, 1) := by decide +kernel
theorem dX11_guest_0 : decode cX11_guest 0 = .ok (.iload_n 1, 1) := by decide +kernel
theorem dX11_guest_1 : decode cX11_guest 1 = .ok (.iconst 0, 1) := by decide +kernel
theorem dX11_guest_2 : decode cX11_guest 2 = .ok (.iconst 3, 1) := by decide +kernel
theorem dX11_guest_3 : decode cX11_guest 3 = .ok (.invokestatic 45, 3) := by decide +kernel
theorem dX11_guest_6 : decode cX11_guest 6 = .ok (.aload_n 0, 1) := by decide +kernel
theorem dX11_guest_7 : decode cX11_guest 7 = .ok (.getfield 34, 3) := by decide +kernel
theorem dX11_guest_10 : decode cX11_guest 10 = .ok (.iload_n 1, 1) := by decide +kernel
theorem dX11_guest_11 : decode cX11_guest 11 = .ok (.invokevirtual 267, 3) := by decide +kernel
theorem dX11_guest_14 : decode cX11_guest 14 = .ok (.ireturn, 1) := by decide +kernel
theorem dX11_claim_0 : decode cX11_claim 0 = .ok (.aload_n 0, 1) := by decide +kernel
theorem dX11_claim_1 : decode cX11_claim 1 = .ok (.invokevirtual 271, 3) := by decide +kernel
theorem dX11_claim_4 : decode cX11_claim 4 = .ok (.aload_n 0, 1) := by decide +kernel
theorem dX11_claim_5 : decode cX11_claim 5 = .ok (.getfield 34, 3) := by decide +kernel
theorem dX11_claim_8 : decode cX11_claim 8 = .ok (.invokevirtual 274, 3) := by decide +kernel
theorem dX11_claim_11 : decode cX11_claim 11 = .ok (.istore_n 2, 1) := by decide +kernel
theorem dX11_claim_12 : decode cX11_claim 12 = .ok (.aload_n 0, 1) := by decide +kernel
theorem dX11_claim_13 : decode cX11_claim 13 = .ok (.getfield 34, 3) := by decide +kernel
theorem dX11_claim_16 : decode cX11_claim 16 = .ok (.iload_n 1, 1) := by decide +kernel
theorem dX11_claim_17 : decode cX11_claim 17 = .ok (.invokevirtual 278, 3) := by decide +kernel
theorem dX11_claim_20 : decode cX11_claim 20 = .ok (.iload_n 2, 1) := by decide +kernel
theorem dX11_claim_21 : decode cX11_claim 21 = .ok (.ireturn, 1) := by decide +kernel
theorem dX11_level_0 : decode cX11_level 0 = .ok (.iload_n 1, 1) := by decide +kernel
theorem dX11_level_1 : decode cX11_level 1 = .ok (.iconst 0, 1) := by decide +kernel
theorem dX11_level_2 : decode cX11_level 2 = .ok (.iconst 3, 1) := by decide +kernel
theorem dX11_level_3 : decode cX11_level 3 = .ok (.invokestatic 45, 3) := by decide +kernel
theorem dX11_level_6 : decode cX11_level 6 = .ok (.aload_n 0, 1) := by decide +kernel
theorem dX11_level_7 : decode cX11_level 7 = .ok (.getfield 34, 3) := by decide +kernel
theorem dX11_level_10 : decode cX11_level 10 = .ok (.iload_n 1, 1) := by decide +kernel
theorem dX11_level_11 : decode cX11_level 11 = .ok (.invokevirtual 282, 3) := by decide +kernel
theorem dX11_level_14 : decode cX11_level 14 = .ok (.ireturn, 1) := by decide +kernel
theorem dX11_scope_0 : decode cX11_scope 0 = .ok (.aload_n 0, 1) := by decide +kernel
theorem dX11_scope_1 : decode cX11_scope 1 = .ok (.iload_n 1, 1) := by decide +kernel
theorem dX11_scope_2 : decode cX11_scope 2 = .ok (.invokevirtual 109, 3) := by decide +kernel
theorem dX11_scope_5 : decode cX11_scope 5 = .ok (.astore_n 3, 1) := by decide +kernel
theorem dX11_scope_6 : decode cX11_scope 6 = .ok (.aload_n 3, 1) := by decide +kernel
theorem dX11_scope_7 : decode cX11_scope 7 = .ok (.getfield 285, 3) := by decide +kernel
theorem dX11_scope_10 : decode cX11_scope 10 = .ok (.istore 4, 2) := by decide +kernel
theorem dX11_scope_12 : decode cX11_scope 12 = .ok (.aload_n 3, 1) := by decide +kernel
theorem dX11_scope_13 : decode cX11_scope 13 = .ok (.iload_n 2, 1) := by decide +kernel
theorem dX11_scope_14 : decode cX11_scope 14 = .ok (.putfield 285, 3) := by decide +kernel
theorem dX11_scope_17 : decode cX11_scope 17 = .ok (.iload 4, 2) := by decide +kernel
theorem dX11_scope_19 : decode cX11_scope 19 = .ok (.ireturn, 1) := by decide +kernel
theorem dX11_set_0 : decode cX11_set 0 = .ok (.iload_n 1, 1) := by decide +kernel
theorem dX11_set_1 : decode cX11_set 1 = .ok (.iload_n 2, 1) := by decide +kernel
theorem dX11_set_2 : decode cX11_set 2 = .ok (.invokestatic 288, 3) := by decide +kernel
theorem dX11_set_5 : decode cX11_set 5 = .ok (.istore_n 3, 1) := by decide +kernel
theorem dX11_set_6 : decode cX11_set 6 = .ok (.aload_n 0, 1) := by decide +kernel
theorem dX11_set_7 : decode cX11_set 7 = .ok (.invokevirtual 271, 3) := by decide +kernel
theorem dX11_set_10 : decode cX11_set 10 = .ok (.iload_n 1, 1) := by decide +kernel
theorem dX11_set_11 : decode cX11_set 11 = .ok (.ifCond .ge 13, 3) := by decide +kernel
theorem dX11_set_14 : decode cX11_set 14 = .ok (.aload_n 0, 1) := by decide +kernel
theorem dX11_set_15 : decode cX11_set 15 = .ok (.getfield 25, 3) := by decide +kernel
theorem dX11_set_18 : decode cX11_set 18 = .ok (.invokevirtual 291, 3) := by decide +kernel
theorem dX11_set_21 : decode cX11_set 21 = .ok (.goto 11, 3) := by decide +kernel
theorem dX11_set_24 : decode cX11_set 24 = .ok (.aload_n 0, 1) := by decide +kernel
theorem dX11_set_25 : decode cX11_set 25 = .ok (.getfield 25, 3) := by decide +kernel
theorem dX11_set_28 : decode cX11_set 28 = .ok (.iload_n 1, 1) := by decide +kernel
theorem dX11_set_29 : decode cX11_set 29 = .ok (.invokevirtual 295, 3) := by decide +kernel
theorem dX11_set_32 : decode cX11_set 32 = .ok (.lstore 4, 2) := by decide +kernel
theorem dX11_set_34 : decode cX11_set 34 = .ok (.aload_n 0, 1) := by decide +kernel
theorem dX11_set_35 : decode cX11_set 35 = .ok (.getfield 25, 3) := by decide +kernel
theorem dX11_set_38 : decode cX11_set 38 = .ok (.lload 4, 2) := by decide +kernel
theorem dX11_set_40 : decode cX11_set 40 = .ok (.invokevirtual 299, 3) := by decide +kernel
theorem dX11_set_43 : decode cX11_set 43 = .ok (.lstore 6, 2) := by decide +kernel
theorem dX11_set_45 : decode cX11_set 45 = .ok (.aload_n 0, 1) := by decide +kernel
theorem dX11_set_46 : decode cX11_set 46 = .ok (.getfield 34, 3) := by decide +kernel
theorem dX11_set_49 : decode cX11_set 49 = .ok (.iload_n 3, 1) := by decide +kernel
theorem dX11_set_50 : decode cX11_set 50 = .ok (.lload 4, 2) := by decide +kernel
theorem dX11_set_52 : decode cX11_set 52 = .ok (.lload 6, 2) := by decide +kernel
theorem dX11_set_54 : decode cX11_set 54 = .ok (.invokevirtual 303, 3) := by decide +kernel
theorem dX11_set_57 : decode cX11_set 57 = .ok (.lload 6, 2) := by decide +kernel
theorem dX11_set_59 : decode cX11_set 59 = .ok (.invokestatic 307, 3) := by decide +kernel
theorem dX11_set_62 : decode cX11_set 62 = .ok (.ireturn, 1) := by decide +kernel
theorem dX11_push_0 : decode cX11_push 0 = .ok (.iload_n 1, 1) := by decide +kernel
theorem dX11_push_1 : decode cX11_push 1 = .ok (.iload_n 2, 1) := by decide +kernel
theorem dX11_push_2 : decode cX11_push 2 = .ok (.invokestatic 288, 3) := by decide +kernel
theorem dX11_push_5 : decode cX11_push 5 = .ok (.istore_n 3, 1) := by decide +kernel
theorem dX11_push_6 : decode cX11_push 6 = .ok (.aload_n 0, 1) := by decide +kernel
theorem dX11_push_7 : decode cX11_push 7 = .ok (.getfield 34, 3) := by decide +kernel
theorem dX11_push_10 : decode cX11_push 10 = .ok (.iload_n 3, 1) := by decide +kernel
theorem dX11_push_11 : decode cX11_push 11 = .ok (.invokevirtual 313, 3) := by decide +kernel
theorem dX11_push_14 : decode cX11_push 14 = .ok (.ifCond .ne 14, 3) := by decide +kernel
theorem dX11_push_17 : decode cX11_push 17 = .ok (.new 317, 3) := by decide +kernel
theorem dX11_push_20 : decode cX11_push 20 = .ok (.dup, 1) := by decide +kernel
theorem dX11_push_21 : decode cX11_push 21 = .ok (.ldc_w 319, 3) := by decide +kernel
theorem dX11_push_24 : decode cX11_push 24 = .ok (.invokespecial 321, 3) := by decide +kernel
theorem dX11_push_27 : decode cX11_push 27 = .ok (.athrow, 1) := by decide +kernel
theorem dX11_push_28 : decode cX11_push 28 = .ok (.aload_n 0, 1) := by decide +kernel
theorem dX11_push_29 : decode cX11_push 29 = .ok (.aload_n 0, 1) := by decide +kernel
theorem dX11_push_30 : decode cX11_push 30 = .ok (.getfield 34, 3) := by decide +kernel
theorem dX11_push_33 : decode cX11_push 33 = .ok (.iload_n 3, 1) := by decide +kernel
theorem dX11_push_34 : decode cX11_push 34 = .ok (.invokevirtual 322, 3) := by decide +kernel
theorem dX11_push_37 : decode cX11_push 37 = .ok (.aload_n 0, 1) := by decide +kernel
theorem dX11_push_38 : decode cX11_push 38 = .ok (.getfield 34, 3) := by decide +kernel
theorem dX11_push_41 : decode cX11_push 41 = .ok (.iload_n 3, 1) := by decide +kernel
theorem dX11_push_42 : decode cX11_push 42 = .ok (.invokevirtual 325, 3) := by decide +kernel
theorem dX11_push_45 : decode cX11_push 45 = .ok (.invokevirtual 328, 3) := by decide +kernel
theorem dX11_push_48 : decode cX11_push 48 = .ok (.ireturn, 1) := by decide +kernel
theorem dX11_setReversible_0 : decode cX11_setReversible 0 = .ok (.iload_n 1, 1) := by decide +kernel
theorem dX11_setReversible_1 : decode cX11_setReversible 1 = .ok (.invokestatic 332, 3) := by decide +kernel
theorem dX11_setReversible_4 : decode cX11_setReversible 4 = .ok (.aload_n 0, 1) := by decide +kernel
theorem dX11_setReversible_5 : decode cX11_setReversible 5 = .ok (.iload_n 2, 1) := by decide +kernel
theorem dX11_setReversible_6 : decode cX11_setReversible 6 = .ok (.invokevirtual 109, 3) := by decide +kernel
theorem dX11_setReversible_9 : decode cX11_setReversible 9 = .ok (.pop, 1) := by decide +kernel
theorem dX11_setReversible_10 : decode cX11_setReversible 10 = .ok (.aload_n 0, 1) := by decide +kernel
theorem dX11_setReversible_11 : decode cX11_setReversible 11 = .ok (.invokevirtual 271, 3) := by decide +kernel
theorem dX11_setReversible_14 : decode cX11_setReversible 14 = .ok (.aload_n 0, 1) := by decide +kernel
theorem dX11_setReversible_15 : decode cX11_setReversible 15 = .ok (.getfield 34, 3) := by decide +kernel
theorem dX11_setReversible_18 : decode cX11_setReversible 18 = .ok (.iload_n 1, 1) := by decide +kernel
theorem dX11_setReversible_19 : decode cX11_setReversible 19 = .ok (.invokevirtual 335, 3) := by decide +kernel
theorem dX11_setReversible_22 : decode cX11_setReversible 22 = .ok (.istore_n 3, 1) := by decide +kernel
theorem dX11_setReversible_23 : decode cX11_setReversible 23 = .ok (.aload_n 0, 1) := by decide +kernel
theorem dX11_setReversible_24 : decode cX11_setReversible 24 = .ok (.getfield 34, 3) := by decide +kernel
theorem dX11_setReversible_27 : decode cX11_setReversible 27 = .ok (.iload_n 1, 1) := by decide +kernel
theorem dX11_setReversible_28 : decode cX11_setReversible 28 = .ok (.iload_n 2, 1) := by decide +kernel
theorem dX11_setReversible_29 : decode cX11_setReversible 29 = .ok (.invokevirtual 338, 3) := by decide +kernel
theorem dX11_setReversible_32 : decode cX11_setReversible 32 = .ok (.iload_n 3, 1) := by decide +kernel
theorem dX11_setReversible_33 : decode cX11_setReversible 33 = .ok (.ireturn, 1) := by decide +kernel
theorem dX11_pushReversible_0 : decode cX11_pushReversible 0 = .ok (.iload_n 1, 1) := by decide +kernel
theorem dX11_pushReversible_1 : decode cX11_pushReversible 1 = .ok (.invokestatic 332, 3) := by decide +kernel
theorem dX11_pushReversible_4 : decode cX11_pushReversible 4 = .ok (.aload_n 0, 1) := by decide +kernel
theorem dX11_pushReversible_5 : decode cX11_pushReversible 5 = .ok (.getfield 34, 3) := by decide +kernel
theorem dX11_pushReversible_8 : decode cX11_pushReversible 8 = .ok (.iload_n 1, 1) := by decide +kernel
theorem dX11_pushReversible_9 : decode cX11_pushReversible 9 = .ok (.invokevirtual 335, 3) := by decide +kernel
theorem dX11_pushReversible_12 : decode cX11_pushReversible 12 = .ok (.istore_n 2, 1) := by decide +kernel
theorem dX11_pushReversible_13 : decode cX11_pushReversible 13 = .ok (.aload_n 0, 1) := by decide +kernel
theorem dX11_pushReversible_14 : decode cX11_pushReversible 14 = .ok (.getfield 25, 3) := by decide +kernel
theorem dX11_pushReversible_17 : decode cX11_pushReversible 17 = .ok (.iload_n 2, 1) := by decide +kernel
theorem dX11_pushReversible_18 : decode cX11_pushReversible 18 = .ok (.invokevirtual 341, 3) := by decide +kernel
theorem dX11_pushReversible_21 : decode cX11_pushReversible 21 = .ok (.astore_n 3, 1) := by decide +kernel
theorem dX11_pushReversible_22 : decode cX11_pushReversible 22 = .ok (.aload_n 3, 1) := by decide +kernel
theorem dX11_pushReversible_23 : decode cX11_pushReversible 23 = .ok (.ifnonnull 14, 3) := by decide +kernel
theorem dX11_pushReversible_26 : decode cX11_pushReversible 26 = .ok (.new 317, 3) := by decide +kernel
theorem dX11_pushReversible_29 : decode cX11_pushReversible 29 = .ok (.dup, 1) := by decide +kernel
theorem dX11_pushReversible_30 : decode cX11_pushReversible 30 = .ok (.ldc_w 344, 3) := by decide +kernel
theorem dX11_pushReversible_33 : decode cX11_pushReversible 33 = .ok (.invokespecial 321, 3) := by decide +kernel
theorem dX11_pushReversible_36 : decode cX11_pushReversible 36 = .ok (.athrow, 1) := by decide +kernel
theorem dX11_pushReversible_37 : decode cX11_pushReversible 37 = .ok (.aload_n 0, 1) := by decide +kernel
theorem dX11_pushReversible_38 : decode cX11_pushReversible 38 = .ok (.lconst 1, 1) := by decide +kernel
theorem dX11_pushReversible_39 : decode cX11_pushReversible 39 = .ok (.iload_n 2, 1) := by decide +kernel
theorem dX11_pushReversible_40 : decode cX11_pushReversible 40 = .ok (.lshl, 1) := by decide +kernel
theorem dX11_pushReversible_41 : decode cX11_pushReversible 41 = .ok (.aload_n 3, 1) := by decide +kernel
theorem dX11_pushReversible_42 : decode cX11_pushReversible 42 = .ok (.getfield 149, 3) := by decide +kernel
theorem dX11_pushReversible_45 : decode cX11_pushReversible 45 = .ok (.ifCond .eq 7, 3) := by decide +kernel
theorem dX11_pushReversible_48 : decode cX11_pushReversible 48 = .ok (.lconst 0, 1) := by decide +kernel
theorem dX11_pushReversible_49 : decode cX11_pushReversible 49 = .ok (.goto 6, 3) := by decide +kernel
theorem dX11_pushReversible_52 : decode cX11_pushReversible 52 = .ok (.lconst 1, 1) := by decide +kernel
theorem dX11_pushReversible_53 : decode cX11_pushReversible 53 = .ok (.iload_n 2, 1) := by decide +kernel
theorem dX11_pushReversible_54 : decode cX11_pushReversible 54 = .ok (.lshl, 1) := by decide +kernel
theorem dX11_pushReversible_55 : decode cX11_pushReversible 55 = .ok (.invokevirtual 328, 3) := by decide +kernel
theorem dX11_pushReversible_58 : decode cX11_pushReversible 58 = .ok (.ifCond .le 7, 3) := by decide +kernel
theorem dX11_pushReversible_61 : decode cX11_pushReversible 61 = .ok (.iconst 1, 1) := by decide +kernel
theorem dX11_pushReversible_62 : decode cX11_pushReversible 62 = .ok (.goto 4, 3) := by decide +kernel
theorem dX11_pushReversible_65 : decode cX11_pushReversible 65 = .ok (.iconst 0, 1) := by decide +kernel
theorem dX11_pushReversible_66 : decode cX11_pushReversible 66 = .ok (.ireturn, 1) := by decide +kernel
theorem dX11_step_0 : decode cX11_step 0 = .ok (.iconst (-1), 1) := by decide +kernel
theorem dX11_step_1 : decode cX11_step 1 = .ok (.aload_n 0, 1) := by decide +kernel
theorem dX11_step_2 : decode cX11_step 2 = .ok (.getfield 34, 3) := by decide +kernel
theorem dX11_step_5 : decode cX11_step 5 = .ok (.getfield 346, 3) := by decide +kernel
theorem dX11_step_8 : decode cX11_step 8 = .ok (.invokestatic 349, 3) := by decide +kernel
theorem dX11_step_11 : decode cX11_step 11 = .ok (.istore_n 1, 1) := by decide +kernel
theorem dX11_step_12 : decode cX11_step 12 = .ok (.aload_n 0, 1) := by decide +kernel
theorem dX11_step_13 : decode cX11_step 13 = .ok (.getfield 34, 3) := by decide +kernel
theorem dX11_step_16 : decode cX11_step 16 = .ok (.iload_n 1, 1) := by decide +kernel
theorem dX11_step_17 : decode cX11_step 17 = .ok (.invokevirtual 313, 3) := by decide +kernel
theorem dX11_step_20 : decode cX11_step 20 = .ok (.ifCond .eq 24, 3) := by decide +kernel
theorem dX11_step_23 : decode cX11_step 23 = .ok (.aload_n 0, 1) := by decide +kernel
theorem dX11_step_24 : decode cX11_step 24 = .ok (.aload_n 0, 1) := by decide +kernel
theorem dX11_step_25 : decode cX11_step 25 = .ok (.getfield 34, 3) := by decide +kernel
theorem dX11_step_28 : decode cX11_step 28 = .ok (.iload_n 1, 1) := by decide +kernel
theorem dX11_step_29 : decode cX11_step 29 = .ok (.invokevirtual 322, 3) := by decide +kernel
theorem dX11_step_32 : decode cX11_step 32 = .ok (.aload_n 0, 1) := by decide +kernel
theorem dX11_step_33 : decode cX11_step 33 = .ok (.getfield 34, 3) := by decide +kernel
theorem dX11_step_36 : decode cX11_step 36 = .ok (.iload_n 1, 1) := by decide +kernel
theorem dX11_step_37 : decode cX11_step 37 = .ok (.invokevirtual 325, 3) := by decide +kernel
theorem dX11_step_40 : decode cX11_step 40 = .ok (.invokevirtual 328, 3) := by decide +kernel
theorem dX11_step_43 : decode cX11_step 43 = .ok (.pop, 1) := by decide +kernel
theorem dX11_step_44 : decode cX11_step 44 = .ok (.aload_n 0, 1) := by decide +kernel
theorem dX11_step_45 : decode cX11_step 45 = .ok (.getfield 34, 3) := by decide +kernel
theorem dX11_step_48 : decode cX11_step 48 = .ok (.aload_n 0, 1) := by decide +kernel
theorem dX11_step_49 : decode cX11_step 49 = .ok (.getfield 34, 3) := by decide +kernel
theorem dX11_step_52 : decode cX11_step 52 = .ok (.getfield 346, 3) := by decide +kernel
theorem dX11_step_55 : decode cX11_step 55 = .ok (.iconst 1, 1) := by decide +kernel
theorem dX11_step_56 : decode cX11_step 56 = .ok (.iadd, 1) := by decide +kernel
theorem dX11_step_57 : decode cX11_step 57 = .ok (.bipush 8, 2) := by decide +kernel
theorem dX11_step_59 : decode cX11_step 59 = .ok (.irem, 1) := by decide +kernel
theorem dX11_step_60 : decode cX11_step 60 = .ok (.putfield 346, 3) := by decide +kernel
theorem dX11_step_63 : decode cX11_step 63 = .ok (.aload_n 0, 1) := by decide +kernel
theorem dX11_step_64 : decode cX11_step 64 = .ok (.getfield 34, 3) := by decide +kernel
theorem dX11_step_67 : decode cX11_step 67 = .ok (.getfield 346, 3) := by decide +kernel
theorem dX11_step_70 : decode cX11_step 70 = .ok (.ireturn, 1) := by decide +kernel
theorem dX11_frame_0 : decode cX11_frame 0 = .ok (.iload_n 1, 1) := by decide +kernel
theorem dX11_frame_1 : decode cX11_frame 1 = .ok (.ifCond .lt 14, 3) := by decide +kernel
theorem dX11_frame_4 : decode cX11_frame 4 = .ok (.iload_n 1, 1) := by decide +kernel
theorem dX11_frame_5 : decode cX11_frame 5 = .ok (.aload_n 0, 1) := by decide +kernel
theorem dX11_frame_6 : decode cX11_frame 6 = .ok (.getfield 34, 3) := by decide +kernel
theorem dX11_frame_9 : decode cX11_frame 9 = .ok (.invokevirtual 352, 3) := by decide +kernel
theorem dX11_frame_12 : decode cX11_frame 12 = .ok (.if_icmp .le 14, 3) := by decide +kernel
theorem dX11_frame_15 : decode cX11_frame 15 = .ok (.new 355, 3) := by decide +kernel
theorem dX11_frame_18 : decode cX11_frame 18 = .ok (.dup, 1) := by decide +kernel
theorem dX11_frame_19 : decode cX11_frame 19 = .ok (.ldc_w 357, 3) := by decide +kernel
theorem dX11_frame_22 : decode cX11_frame 22 = .ok (.invokespecial 359, 3) := by decide +kernel
theorem dX11_frame_25 : decode cX11_frame 25 = .ok (.athrow, 1) := by decide +kernel
theorem dX11_frame_26 : decode cX11_frame 26 = .ok (.aload_n 0, 1) := by decide +kernel
theorem dX11_frame_27 : decode cX11_frame 27 = .ok (.getfield 34, 3) := by decide +kernel
theorem dX11_frame_30 : decode cX11_frame 30 = .ok (.invokevirtual 352, 3) := by decide +kernel
theorem dX11_frame_33 : decode cX11_frame 33 = .ok (.bipush 20, 2) := by decide +kernel
theorem dX11_frame_35 : decode cX11_frame 35 = .ok (.if_icmp .lt 14, 3) := by decide +kernel
theorem dX11_frame_38 : decode cX11_frame 38 = .ok (.new 59, 3) := by decide +kernel
theorem dX11_frame_41 : decode cX11_frame 41 = .ok (.dup, 1) := by decide +kernel
theorem dX11_frame_42 : decode cX11_frame 42 = .ok (.ldc_w 360, 3) := by decide +kernel
theorem dX11_frame_45 : decode cX11_frame 45 = .ok (.invokespecial 63, 3) := by decide +kernel
theorem dX11_frame_48 : decode cX11_frame 48 = .ok (.athrow, 1) := by decide +kernel
theorem dX11_frame_49 : decode cX11_frame 49 = .ok (.aload_n 0, 1) := by decide +kernel
theorem dX11_frame_50 : decode cX11_frame 50 = .ok (.getfield 25, 3) := by decide +kernel
theorem dX11_frame_53 : decode cX11_frame 53 = .ok (.invokevirtual 362, 3) := by decide +kernel
theorem dX11_frame_56 : decode cX11_frame 56 = .ok (.lstore_n 2, 1) := by decide +kernel
theorem dX11_frame_57 : decode cX11_frame 57 = .ok (.aload_n 0, 1) := by decide +kernel
theorem dX11_frame_58 : decode cX11_frame 58 = .ok (.getfield 34, 3) := by decide +kernel
theorem dX11_frame_61 : decode cX11_frame 61 = .ok (.iload_n 1, 1) := by decide +kernel
theorem dX11_frame_62 : decode cX11_frame 62 = .ok (.lload_n 2, 1) := by decide +kernel
theorem dX11_frame_63 : decode cX11_frame 63 = .ok (.aload_n 0, 1) := by decide +kernel
theorem dX11_frame_64 : decode cX11_frame 64 = .ok (.getfield 25, 3) := by decide +kernel
theorem dX11_frame_67 : decode cX11_frame 67 = .ok (.lload_n 2, 1) := by decide +kernel
theorem dX11_frame_68 : decode cX11_frame 68 = .ok (.invokevirtual 299, 3) := by decide +kernel
theorem dX11_frame_71 : decode cX11_frame 71 = .ok (.invokevirtual 365, 3) := by decide +kernel
theorem dX11_frame_74 : decode cX11_frame 74 = .ok (.aload_n 0, 1) := by decide +kernel
theorem dX11_frame_75 : decode cX11_frame 75 = .ok (.getfield 34, 3) := by decide +kernel
theorem dX11_frame_78 : decode cX11_frame 78 = .ok (.invokevirtual 352, 3) := by decide +kernel
theorem dX11_frame_81 : decode cX11_frame 81 = .ok (.ireturn, 1) := by decide +kernel
theorem dX11_cut_0 : decode cX11_cut 0 = .ok (.aload_n 0, 1) := by decide +kernel
theorem dX11_cut_1 : decode cX11_cut 1 = .ok (.iload_n 1, 1) := by decide +kernel
theorem dX11_cut_2 : decode cX11_cut 2 = .ok (.invokevirtual 368, 3) := by decide +kernel
theorem dX11_cut_5 : decode cX11_cut 5 = .ok (.aload_n 0, 1) := by decide +kernel
theorem dX11_cut_6 : decode cX11_cut 6 = .ok (.getfield 34, 3) := by decide +kernel
theorem dX11_cut_9 : decode cX11_cut 9 = .ok (.iload_n 1, 1) := by decide +kernel
theorem dX11_cut_10 : decode cX11_cut 10 = .ok (.invokevirtual 371, 3) := by decide +kernel
theorem dX11_cut_13 : decode cX11_cut 13 = .ok (.aload_n 0, 1) := by decide +kernel
theorem dX11_cut_14 : decode cX11_cut 14 = .ok (.getfield 34, 3) := by decide +kernel
theorem dX11_cut_17 : decode cX11_cut 17 = .ok (.invokevirtual 352, 3) := by decide +kernel
theorem dX11_cut_20 : decode cX11_cut 20 = .ok (.ireturn, 1) := by decide +kernel
theorem dX11_turnTo_0 : decode cX11_turnTo 0 = .ok (.aload_n 0, 1) := by decide +kernel
theorem dX11_turnTo_1 : decode cX11_turnTo 1 = .ok (.iload_n 1, 1) := by decide +kernel
theorem dX11_turnTo_2 : decode cX11_turnTo 2 = .ok (.invokevirtual 368, 3) := by decide +kernel
theorem dX11_turnTo_5 : decode cX11_turnTo 5 = .ok (.aload_n 0, 1) := by decide +kernel
theorem dX11_turnTo_6 : decode cX11_turnTo 6 = .ok (.aload_n 0, 1) := by decide +kernel
theorem dX11_turnTo_7 : decode cX11_turnTo 7 = .ok (.getfield 34, 3) := by decide +kernel
theorem dX11_turnTo_10 : decode cX11_turnTo 10 = .ok (.iload_n 1, 1) := by decide +kernel
theorem dX11_turnTo_11 : decode cX11_turnTo 11 = .ok (.invokevirtual 374, 3) := by decide +kernel
theorem dX11_turnTo_14 : decode cX11_turnTo 14 = .ok (.aload_n 0, 1) := by decide +kernel
theorem dX11_turnTo_15 : decode cX11_turnTo 15 = .ok (.getfield 34, 3) := by decide +kernel
theorem dX11_turnTo_18 : decode cX11_turnTo 18 = .ok (.iload_n 1, 1) := by decide +kernel
theorem dX11_turnTo_19 : decode cX11_turnTo 19 = .ok (.invokevirtual 377, 3) := by decide +kernel
theorem dX11_turnTo_22 : decode cX11_turnTo 22 = .ok (.invokevirtual 328, 3) := by decide +kernel
theorem dX11_turnTo_25 : decode cX11_turnTo 25 = .ok (.ireturn, 1) := by decide +kernel
theorem dX11_wire_0 : decode cX11_wire 0 = .ok (.iload_n 1, 1) := by decide +kernel
theorem dX11_wire_1 : decode cX11_wire 1 = .ok (.invokestatic 380, 3) := by decide +kernel
theorem dX11_wire_4 : decode cX11_wire 4 = .ok (.iload_n 2, 1) := by decide +kernel
theorem dX11_wire_5 : decode cX11_wire 5 = .ok (.bipush 38, 2) := by decide +kernel
theorem dX11_wire_7 : decode cX11_wire 7 = .ok (.if_icmp .eq 21, 3) := by decide +kernel
theorem dX11_wire_10 : decode cX11_wire 10 = .ok (.iload_n 2, 1) := by decide +kernel
theorem dX11_wire_11 : decode cX11_wire 11 = .ok (.bipush 124, 2) := by decide +kernel
theorem dX11_wire_13 : decode cX11_wire 13 = .ok (.if_icmp .eq 15, 3) := by decide +kernel
theorem dX11_wire_16 : decode cX11_wire 16 = .ok (.iload_n 2, 1) := by decide +kernel
theorem dX11_wire_17 : decode cX11_wire 17 = .ok (.bipush 94, 2) := by decide +kernel
theorem dX11_wire_19 : decode cX11_wire 19 = .ok (.if_icmp .eq 9, 3) := by decide +kernel
theorem dX11_wire_22 : decode cX11_wire 22 = .ok (.iload_n 2, 1) := by decide +kernel
theorem dX11_wire_23 : decode cX11_wire 23 = .ok (.bipush 33, 2) := by decide +kernel
theorem dX11_wire_25 : decode cX11_wire 25 = .ok (.if_icmp .ne 7, 3) := by decide +kernel
theorem dX11_wire_28 : decode cX11_wire 28 = .ok (.iconst 1, 1) := by decide +kernel
theorem dX11_wire_29 : decode cX11_wire 29 = .ok (.goto 4, 3) := by decide +kernel
theorem dX11_wire_32 : decode cX11_wire 32 = .ok (.iconst 0, 1) := by decide +kernel
theorem dX11_wire_33 : decode cX11_wire 33 = .ok (.istore 5, 2) := by decide +kernel
theorem dX11_wire_35 : decode cX11_wire 35 = .ok (.iload 5, 2) := by decide +kernel
theorem dX11_wire_37 : decode cX11_wire 37 = .ok (.ifCond .eq 11, 3) := by decide +kernel
theorem dX11_wire_40 : decode cX11_wire 40 = .ok (.iload_n 3, 1) := by decide +kernel
theorem dX11_wire_41 : decode cX11_wire 41 = .ok (.iload_n 1, 1) := by decide +kernel
theorem dX11_wire_42 : decode cX11_wire 42 = .ok (.invokestatic 383, 3) := by decide +kernel
theorem dX11_wire_45 : decode cX11_wire 45 = .ok (.ifCond .ne 14, 3) := by decide +kernel
theorem dX11_wire_48 : decode cX11_wire 48 = .ok (.new 130, 3) := by decide +kernel
theorem dX11_wire_51 : decode cX11_wire 51 = .ok (.dup, 1) := by decide +kernel
theorem dX11_wire_52 : decode cX11_wire 52 = .ok (.ldc_w 386, 3) := by decide +kernel
theorem dX11_wire_55 : decode cX11_wire 55 = .ok (.invokespecial 134, 3) := by decide +kernel
theorem dX11_wire_58 : decode cX11_wire 58 = .ok (.athrow, 1) := by decide +kernel
theorem dX11_wire_59 : decode cX11_wire 59 = .ok (.iload_n 2, 1) := by decide +kernel
theorem dX11_wire_60 : decode cX11_wire 60 = .ok (.bipush 33, 2) := by decide +kernel
theorem dX11_wire_62 : decode cX11_wire 62 = .ok (.if_icmp .eq 23, 3) := by decide +kernel
theorem dX11_wire_65 : decode cX11_wire 65 = .ok (.iload 4, 2) := by decide +kernel
theorem dX11_wire_67 : decode cX11_wire 67 = .ok (.iload_n 1, 1) := by decide +kernel
theorem dX11_wire_68 : decode cX11_wire 68 = .ok (.invokestatic 383, 3) := by decide +kernel
theorem dX11_wire_71 : decode cX11_wire 71 = .ok (.ifCond .ne 14, 3) := by decide +kernel
theorem dX11_wire_74 : decode cX11_wire 74 = .ok (.new 130, 3) := by decide +kernel
theorem dX11_wire_77 : decode cX11_wire 77 = .ok (.dup, 1) := by decide +kernel
theorem dX11_wire_78 : decode cX11_wire 78 = .ok (.ldc_w 388, 3) := by decide +kernel
theorem dX11_wire_81 : decode cX11_wire 81 = .ok (.invokespecial 134, 3) := by decide +kernel
theorem dX11_wire_84 : decode cX11_wire 84 = .ok (.athrow, 1) := by decide +kernel
theorem dX11_wire_85 : decode cX11_wire 85 = .ok (.aload_n 0, 1) := by decide +kernel
theorem dX11_wire_86 : decode cX11_wire 86 = .ok (.getfield 25, 3) := by decide +kernel
theorem dX11_wire_89 : decode cX11_wire 89 = .ok (.iload_n 1, 1) := by decide +kernel
theorem dX11_wire_90 : decode cX11_wire 90 = .ok (.iload_n 2, 1) := by decide +kernel
theorem dX11_wire_91 : decode cX11_wire 91 = .ok (.iload_n 3, 1) := by decide +kernel
theorem dX11_wire_92 : decode cX11_wire 92 = .ok (.iload 4, 2) := by decide +kernel
theorem dX11_wire_94 : decode cX11_wire 94 = .ok (.invokevirtual 390, 3) := by decide +kernel
theorem dX11_wire_97 : decode cX11_wire 97 = .ok (.aload_n 0, 1) := by decide +kernel
theorem dX11_wire_98 : decode cX11_wire 98 = .ok (.getfield 12, 3) := by decide +kernel
theorem dX11_wire_101 : decode cX11_wire 101 = .ok (.invokevirtual 87, 3) := by decide +kernel
theorem dX11_wire_104 : decode cX11_wire 104 = .ok (.aload_n 0, 1) := by decide +kernel
theorem dX11_wire_105 : decode cX11_wire 105 = .ok (.getfield 25, 3) := by decide +kernel
theorem dX11_wire_108 : decode cX11_wire 108 = .ok (.iload_n 1, 1) := by decide +kernel
theorem dX11_wire_109 : decode cX11_wire 109 = .ok (.invokevirtual 394, 3) := by decide +kernel
theorem dX11_wire_112 : decode cX11_wire 112 = .ok (.ireturn, 1) := by decide +kernel
theorem dX11_isOnRelay_0 : decode cX11_isOnRelay 0 = .ok (.iload_n 1, 1) := by decide +kernel
theorem dX11_isOnRelay_1 : decode cX11_isOnRelay 1 = .ok (.invokestatic 380, 3) := by decide +kernel
theorem dX11_isOnRelay_4 : decode cX11_isOnRelay 4 = .ok (.aload_n 0, 1) := by decide +kernel
theorem dX11_isOnRelay_5 : decode cX11_isOnRelay 5 = .ok (.getfield 25, 3) := by decide +kernel
theorem dX11_isOnRelay_8 : decode cX11_isOnRelay 8 = .ok (.iload_n 1, 1) := by decide +kernel
theorem dX11_isOnRelay_9 : decode cX11_isOnRelay 9 = .ok (.invokevirtual 394, 3) := by decide +kernel
theorem dX11_isOnRelay_12 : decode cX11_isOnRelay 12 = .ok (.ireturn, 1) := by decide +kernel
theorem dX11_drive_0 : decode cX11_drive 0 = .ok (.aload_n 0, 1) := by decide +kernel
theorem dX11_drive_1 : decode cX11_drive 1 = .ok (.iload_n 1, 1) := by decide +kernel
theorem dX11_drive_2 : decode cX11_drive 2 = .ok (.invokevirtual 109, 3) := by decide +kernel
theorem dX11_drive_5 : decode cX11_drive 5 = .ok (.astore_n 3, 1) := by decide +kernel
theorem dX11_drive_6 : decode cX11_drive 6 = .ok (.iload_n 2, 1) := by decide +kernel
theorem dX11_drive_7 : decode cX11_drive 7 = .ok (.iconst (-1), 1) := by decide +kernel
theorem dX11_drive_8 : decode cX11_drive 8 = .ok (.if_icmp .eq 7, 3) := by decide +kernel
theorem dX11_drive_11 : decode cX11_drive 11 = .ok (.iload_n 2, 1) := by decide +kernel
theorem dX11_drive_12 : decode cX11_drive 12 = .ok (.invokestatic 380, 3) := by decide +kernel
theorem dX11_drive_15 : decode cX11_drive 15 = .ok (.aload_n 3, 1) := by decide +kernel
theorem dX11_drive_16 : decode cX11_drive 16 = .ok (.getfield 397, 3) := by decide +kernel
theorem dX11_drive_19 : decode cX11_drive 19 = .ok (.istore 4, 2) := by decide +kernel
theorem dX11_drive_21 : decode cX11_drive 21 = .ok (.aload_n 3, 1) := by decide +kernel
theorem dX11_drive_22 : decode cX11_drive 22 = .ok (.iload_n 2, 1) := by decide +kernel
theorem dX11_drive_23 : decode cX11_drive 23 = .ok (.putfield 397, 3) := by decide +kernel
theorem dX11_drive_26 : decode cX11_drive 26 = .ok (.aload_n 0, 1) := by decide +kernel
theorem dX11_drive_27 : decode cX11_drive 27 = .ok (.getfield 12, 3) := by decide +kernel
theorem dX11_drive_30 : decode cX11_drive 30 = .ok (.invokevirtual 87, 3) := by decide +kernel
theorem dX11_drive_33 : decode cX11_drive 33 = .ok (.iload 4, 2) := by decide +kernel
theorem dX11_drive_35 : decode cX11_drive 35 = .ok (.ireturn, 1) := by decide +kernel
theorem dX11_record_0 : decode cX11_record 0 = .ok (.iload_n 1, 1) := by decide +kernel
theorem dX11_record_1 : decode cX11_record 1 = .ok (.bipush 107, 2) := by decide +kernel
theorem dX11_record_3 : decode cX11_record 3 = .ok (.if_icmp .eq 26, 3) := by decide +kernel
theorem dX11_record_6 : decode cX11_record 6 = .ok (.iload_n 1, 1) := by decide +kernel
theorem dX11_record_7 : decode cX11_record 7 = .ok (.bipush 114, 2) := by decide +kernel
theorem dX11_record_9 : decode cX11_record 9 = .ok (.if_icmp .eq 20, 3) := by decide +kernel
theorem dX11_record_12 : decode cX11_record 12 = .ok (.iload_n 1, 1) := by decide +kernel
theorem dX11_record_13 : decode cX11_record 13 = .ok (.bipush 45, 2) := by decide +kernel
theorem dX11_record_15 : decode cX11_record 15 = .ok (.if_icmp .eq 14, 3) := by decide +kernel
theorem dX11_record_18 : decode cX11_record 18 = .ok (.new 130, 3) := by decide +kernel
theorem dX11_record_21 : decode cX11_record 21 = .ok (.dup, 1) := by decide +kernel
theorem dX11_record_22 : decode cX11_record 22 = .ok (.ldc_w 400, 3) := by decide +kernel
theorem dX11_record_25 : decode cX11_record 25 = .ok (.invokespecial 134, 3) := by decide +kernel
theorem dX11_record_28 : decode cX11_record 28 = .ok (.athrow, 1) := by decide +kernel
theorem dX11_record_29 : decode cX11_record 29 = .ok (.aload_n 0, 1) := by decide +kernel
theorem dX11_record_30 : decode cX11_record 30 = .ok (.getfield 30, 3) := by decide +kernel
theorem dX11_record_33 : decode cX11_record 33 = .ok (.getfield 402, 3) := by decide +kernel
theorem dX11_record_36 : decode cX11_record 36 = .ok (.istore_n 2, 1) := by decide +kernel
theorem dX11_record_37 : decode cX11_record 37 = .ok (.iload_n 1, 1) := by decide +kernel
theorem dX11_record_38 : decode cX11_record 38 = .ok (.bipush 45, 2) := by decide +kernel
theorem dX11_record_40 : decode cX11_record 40 = .ok (.if_icmp .ne 15, 3) := by decide +kernel
theorem dX11_record_43 : decode cX11_record 43 = .ok (.aload_n 0, 1) := by decide +kernel
theorem dX11_record_44 : decode cX11_record 44 = .ok (.getfield 30, 3) := by decide +kernel
theorem dX11_record_47 : decode cX11_record 47 = .ok (.bipush 45, 2) := by decide +kernel
theorem dX11_record_49 : decode cX11_record 49 = .ok (.putfield 402, 3) := by decide +kernel
theorem dX11_record_52 : decode cX11_record 52 = .ok (.goto 18, 3) := by decide +kernel
theorem dX11_record_55 : decode cX11_record 55 = .ok (.aload_n 0, 1) := by decide +kernel
theorem dX11_record_56 : decode cX11_record 56 = .ok (.getfield 30, 3) := by decide +kernel
theorem dX11_record_59 : decode cX11_record 59 = .ok (.iload_n 1, 1) := by decide +kernel
theorem dX11_record_60 : decode cX11_record 60 = .ok (.aload_n 0, 1) := by decide +kernel
theorem dX11_record_61 : decode cX11_record 61 = .ok (.getfield 12, 3) := by decide +kernel
theorem dX11_record_64 : decode cX11_record 64 = .ok (.getfield 190, 3) := by decide +kernel
theorem dX11_record_67 : decode cX11_record 67 = .ok (.invokevirtual 407, 3) := by decide +kernel
theorem dX11_record_70 : decode cX11_record 70 = .ok (.iload_n 2, 1) := by decide +kernel
theorem dX11_record_71 : decode cX11_record 71 = .ok (.ireturn, 1) := by decide +kernel
theorem dX11_recorded_0 : decode cX11_recorded 0 = .ok (.aload_n 0, 1) := by decide +kernel
theorem dX11_recorded_1 : decode cX11_recorded 1 = .ok (.getfield 30, 3) := by decide +kernel
theorem dX11_recorded_4 : decode cX11_recorded 4 = .ok (.getfield 411, 3) := by decide +kernel
theorem dX11_recorded_7 : decode cX11_recorded 7 = .ok (.ireturn, 1) := by decide +kernel
theorem dX11_playBack_0 : decode cX11_playBack 0 = .ok (.aload_n 0, 1) := by decide +kernel
theorem dX11_playBack_1 : decode cX11_playBack 1 = .ok (.getfield 30, 3) := by decide +kernel
theorem dX11_playBack_4 : decode cX11_playBack 4 = .ok (.getfield 411, 3) := by decide +kernel
theorem dX11_playBack_7 : decode cX11_playBack 7 = .ok (.ifCond .ne 14, 3) := by decide +kernel
theorem dX11_playBack_10 : decode cX11_playBack 10 = .ok (.new 317, 3) := by decide +kernel
theorem dX11_playBack_13 : decode cX11_playBack 13 = .ok (.dup, 1) := by decide +kernel
theorem dX11_playBack_14 : decode cX11_playBack 14 = .ok (.ldc_w 413, 3) := by decide +kernel
theorem dX11_playBack_17 : decode cX11_playBack 17 = .ok (.invokespecial 321, 3) := by decide +kernel
theorem dX11_playBack_20 : decode cX11_playBack 20 = .ok (.athrow, 1) := by decide +kernel
theorem dX11_playBack_21 : decode cX11_playBack 21 = .ok (.aload_n 0, 1) := by decide +kernel
theorem dX11_playBack_22 : decode cX11_playBack 22 = .ok (.getfield 12, 3) := by decide +kernel
theorem dX11_playBack_25 : decode cX11_playBack 25 = .ok (.getfield 415, 3) := by decide +kernel
theorem dX11_playBack_28 : decode cX11_playBack 28 = .ok (.istore_n 1, 1) := by decide +kernel
theorem dX11_playBack_29 : decode cX11_playBack 29 = .ok (.aload_n 0, 1) := by decide +kernel
theorem dX11_playBack_30 : decode cX11_playBack 30 = .ok (.getfield 30, 3) := by decide +kernel
theorem dX11_playBack_33 : decode cX11_playBack 33 = .ok (.getfield 418, 3) := by decide +kernel
theorem dX11_playBack_36 : decode cX11_playBack 36 = .ok (.bipush 107, 2) := by decide +kernel
theorem dX11_playBack_38 : decode cX11_playBack 38 = .ok (.if_icmp .ne 7, 3) := by decide +kernel
theorem dX11_playBack_41 : decode cX11_playBack 41 = .ok (.iconst 1, 1) := by decide +kernel
theorem dX11_playBack_42 : decode cX11_playBack 42 = .ok (.goto 4, 3) := by decide +kernel
theorem dX11_playBack_45 : decode cX11_playBack 45 = .ok (.iconst 0, 1) := by decide +kernel
theorem dX11_playBack_46 : decode cX11_playBack 46 = .ok (.istore_n 2, 1) := by decide +kernel
theorem dX11_playBack_47 : decode cX11_playBack 47 = .ok (.aload_n 0, 1) := by decide +kernel
theorem dX11_playBack_48 : decode cX11_playBack 48 = .ok (.getfield 30, 3) := by decide +kernel
theorem dX11_playBack_51 : decode cX11_playBack 51 = .ok (.bipush 45, 2) := by decide +kernel
theorem dX11_playBack_53 : decode cX11_playBack 53 = .ok (.putfield 402, 3) := by decide +kernel
theorem dX11_playBack_56 : decode cX11_playBack 56 = .ok (.iload_n 2, 1) := by decide +kernel
theorem dX11_playBack_57 : decode cX11_playBack 57 = .ok (.ifCond .eq 11, 3) := by decide +kernel
theorem dX11_playBack_60 : decode cX11_playBack 60 = .ok (.aload_n 0, 1) := by decide +kernel
theorem dX11_playBack_61 : decode cX11_playBack 61 = .ok (.getfield 12, 3) := by decide +kernel
theorem dX11_playBack_64 : decode cX11_playBack 64 = .ok (.invokevirtual 184, 3) := by decide +kernel
theorem dX11_playBack_67 : decode cX11_playBack 67 = .ok (.pop, 1) := by decide +kernel
theorem dX11_playBack_68 : decode cX11_playBack 68 = .ok (.iconst 0, 1) := by decide +kernel
theorem dX11_playBack_69 : decode cX11_playBack 69 = .ok (.istore_n 3, 1) := by decide +kernel
theorem dX11_playBack_70 : decode cX11_playBack 70 = .ok (.iload_n 3, 1) := by decide +kernel
theorem dX11_playBack_71 : decode cX11_playBack 71 = .ok (.aload_n 0, 1) := by decide +kernel
theorem dX11_playBack_72 : decode cX11_playBack 72 = .ok (.getfield 30, 3) := by decide +kernel
theorem dX11_playBack_75 : decode cX11_playBack 75 = .ok (.getfield 411, 3) := by decide +kernel
theorem dX11_playBack_78 : decode cX11_playBack 78 = .ok (.if_icmp .ge 100, 3) := by decide +kernel
theorem dX11_playBack_81 : decode cX11_playBack 81 = .ok (.aload_n 0, 1) := by decide +kernel
theorem dX11_playBack_82 : decode cX11_playBack 82 = .ok (.getfield 12, 3) := by decide +kernel
theorem dX11_playBack_85 : decode cX11_playBack 85 = .ok (.aload_n 0, 1) := by decide +kernel
theorem dX11_playBack_86 : decode cX11_playBack 86 = .ok (.getfield 30, 3) := by decide +kernel
theorem dX11_playBack_89 : decode cX11_playBack 89 = .ok (.iload_n 3, 1) := by decide +kernel
theorem dX11_playBack_90 : decode cX11_playBack 90 = .ok (.invokevirtual 421, 3) := by decide +kernel
theorem dX11_playBack_93 : decode cX11_playBack 93 = .ok (.invokevirtual 187, 3) := by decide +kernel
theorem dX11_playBack_96 : decode cX11_playBack 96 = .ok (.iload_n 2, 1) := by decide +kernel
theorem dX11_playBack_97 : decode cX11_playBack 97 = .ok (.ifCond .eq 37, 3) := by decide +kernel
theorem dX11_playBack_100 : decode cX11_playBack 100 = .ok (.aload_n 0, 1) := by decide +kernel
theorem dX11_playBack_101 : decode cX11_playBack 101 = .ok (.getfield 12, 3) := by decide +kernel
theorem dX11_playBack_104 : decode cX11_playBack 104 = .ok (.aload_n 0, 1) := by decide +kernel
theorem dX11_playBack_105 : decode cX11_playBack 105 = .ok (.getfield 30, 3) := by decide +kernel
theorem dX11_playBack_108 : decode cX11_playBack 108 = .ok (.iload_n 3, 1) := by decide +kernel
theorem dX11_playBack_109 : decode cX11_playBack 109 = .ok (.invokevirtual 424, 3) := by decide +kernel
theorem dX11_playBack_112 : decode cX11_playBack 112 = .ok (.aload_n 0, 1) := by decide +kernel
theorem dX11_playBack_113 : decode cX11_playBack 113 = .ok (.getfield 30, 3) := by decide +kernel
theorem dX11_playBack_116 : decode cX11_playBack 116 = .ok (.iload_n 3, 1) := by decide +kernel
theorem dX11_playBack_117 : decode cX11_playBack 117 = .ok (.invokevirtual 427, 3) := by decide +kernel
theorem dX11_playBack_120 : decode cX11_playBack 120 = .ok (.aload_n 0, 1) := by decide +kernel
theorem dX11_playBack_121 : decode cX11_playBack 121 = .ok (.getfield 30, 3) := by decide +kernel
theorem dX11_playBack_124 : decode cX11_playBack 124 = .ok (.iload_n 3, 1) := by decide +kernel
theorem dX11_playBack_125 : decode cX11_playBack 125 = .ok (.invokevirtual 430, 3) := by decide +kernel
theorem dX11_playBack_128 : decode cX11_playBack 128 = .ok (.invokevirtual 180, 3) := by decide +kernel
theorem dX11_playBack_131 : decode cX11_playBack 131 = .ok (.goto 34, 3) := by decide +kernel
theorem dX11_playBack_134 : decode cX11_playBack 134 = .ok (.aload_n 0, 1) := by decide +kernel
theorem dX11_playBack_135 : decode cX11_playBack 135 = .ok (.getfield 12, 3) := by decide +kernel
theorem dX11_playBack_138 : decode cX11_playBack 138 = .ok (.aload_n 0, 1) := by decide +kernel
theorem dX11_playBack_139 : decode cX11_playBack 139 = .ok (.getfield 30, 3) := by decide +kernel
theorem dX11_playBack_142 : decode cX11_playBack 142 = .ok (.iload_n 3, 1) := by decide +kernel
theorem dX11_playBack_143 : decode cX11_playBack 143 = .ok (.invokevirtual 424, 3) := by decide +kernel
theorem dX11_playBack_146 : decode cX11_playBack 146 = .ok (.aload_n 0, 1) := by decide +kernel
theorem dX11_playBack_147 : decode cX11_playBack 147 = .ok (.getfield 30, 3) := by decide +kernel
theorem dX11_playBack_150 : decode cX11_playBack 150 = .ok (.iload_n 3, 1) := by decide +kernel
theorem dX11_playBack_151 : decode cX11_playBack 151 = .ok (.invokevirtual 427, 3) := by decide +kernel
theorem dX11_playBack_154 : decode cX11_playBack 154 = .ok (.aload_n 0, 1) := by decide +kernel
theorem dX11_playBack_155 : decode cX11_playBack 155 = .ok (.getfield 30, 3) := by decide +kernel
theorem dX11_playBack_158 : decode cX11_playBack 158 = .ok (.iload_n 3, 1) := by decide +kernel
theorem dX11_playBack_159 : decode cX11_playBack 159 = .ok (.invokevirtual 430, 3) := by decide +kernel
theorem dX11_playBack_162 : decode cX11_playBack 162 = .ok (.invokevirtual 433, 3) := by decide +kernel
theorem dX11_playBack_165 : decode cX11_playBack 165 = .ok (.aload_n 0, 1) := by decide +kernel
theorem dX11_playBack_166 : decode cX11_playBack 166 = .ok (.getfield 12, 3) := by decide +kernel
theorem dX11_playBack_169 : decode cX11_playBack 169 = .ok (.invokevirtual 87, 3) := by decide +kernel
theorem dX11_playBack_172 : decode cX11_playBack 172 = .ok (.iinc 3 1, 3) := by decide +kernel
theorem dX11_playBack_175 : decode cX11_playBack 175 = .ok (.goto (-105), 3) := by decide +kernel
theorem dX11_playBack_178 : decode cX11_playBack 178 = .ok (.aload_n 0, 1) := by decide +kernel
theorem dX11_playBack_179 : decode cX11_playBack 179 = .ok (.getfield 12, 3) := by decide +kernel
theorem dX11_playBack_182 : decode cX11_playBack 182 = .ok (.invokevirtual 436, 3) := by decide +kernel
theorem dX11_playBack_185 : decode cX11_playBack 185 = .ok (.aload_n 0, 1) := by decide +kernel
theorem dX11_playBack_186 : decode cX11_playBack 186 = .ok (.getfield 12, 3) := by decide +kernel
theorem dX11_playBack_189 : decode cX11_playBack 189 = .ok (.getfield 415, 3) := by decide +kernel
theorem dX11_playBack_192 : decode cX11_playBack 192 = .ok (.iload_n 1, 1) := by decide +kernel
theorem dX11_playBack_193 : decode cX11_playBack 193 = .ok (.isub, 1) := by decide +kernel
theorem dX11_playBack_194 : decode cX11_playBack 194 = .ok (.ireturn, 1) := by decide +kernel
theorem dX11_scale_0 : decode cX11_scale 0 = .ok (.iload_n 1, 1) := by decide +kernel
