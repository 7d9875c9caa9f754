/-! 24: decode rows -/
theorem dX7_init_9 : decode cX7_init 9 = .ok (.aload_n 0, 1) := by decide +kernel
theorem dX7_init_10 : decode cX7_init 10 = .ok (.iload_n 3, 1) := by decide +kernel
theorem dX7_init_11 : decode cX7_init 11 = .ok (.invokestatic 15, 3) := by decide +kernel
theorem dX7_init_14 : decode cX7_init 14 = .ok (.ifCond .eq 7, 3) := by decide +kernel
theorem dX7_init_17 : decode cX7_init 17 = .ok (.iload_n 3, 1) := by decide +kernel
theorem dX7_init_18 : decode cX7_init 18 = .ok (.goto 4, 3) := by decide +kernel
theorem dX7_init_21 : decode cX7_init 21 = .ok (.iconst 0, 1) := by decide +kernel
theorem dX7_init_22 : decode cX7_init 22 = .ok (.putfield 19, 3) := by decide +kernel
theorem dX7_init_25 : decode cX7_init 25 = .ok (.iconst 0, 1) := by decide +kernel
theorem dX7_init_26 : decode cX7_init 26 = .ok (.sipush 128, 3) := by decide +kernel
theorem dX7_init_29 : decode cX7_init 29 = .ok (.iload_n 2, 1) := by decide +kernel
theorem dX7_init_30 : decode cX7_init 30 = .ok (.iload_n 1, 1) := by decide +kernel
theorem dX7_init_31 : decode cX7_init 31 = .ok (.isub, 1) := by decide +kernel
theorem dX7_init_32 : decode cX7_init 32 = .ok (.iconst 1, 1) := by decide +kernel
theorem dX7_init_33 : decode cX7_init 33 = .ok (.iadd, 1) := by decide +kernel
theorem dX7_init_34 : decode cX7_init 34 = .ok (.invokestatic 22, 3) := by decide +kernel
theorem dX7_init_37 : decode cX7_init 37 = .ok (.invokestatic 28, 3) := by decide +kernel
theorem dX7_init_40 : decode cX7_init 40 = .ok (.istore 4, 2) := by decide +kernel
theorem dX7_init_42 : decode cX7_init 42 = .ok (.aload_n 0, 1) := by decide +kernel
theorem dX7_init_43 : decode cX7_init 43 = .ok (.iload 4, 2) := by decide +kernel
theorem dX7_init_45 : decode cX7_init 45 = .ok (.anewarray 31, 3) := by decide +kernel
theorem dX7_init_48 : decode cX7_init 48 = .ok (.putfield 33, 3) := by decide +kernel
theorem dX7_init_51 : decode cX7_init 51 = .ok (.iconst 0, 1) := by decide +kernel
theorem dX7_init_52 : decode cX7_init 52 = .ok (.istore 5, 2) := by decide +kernel
theorem dX7_init_54 : decode cX7_init 54 = .ok (.iload 5, 2) := by decide +kernel
theorem dX7_init_56 : decode cX7_init 56 = .ok (.iload 4, 2) := by decide +kernel
theorem dX7_init_58 : decode cX7_init 58 = .ok (.if_icmp .ge 23, 3) := by decide +kernel
theorem dX7_init_61 : decode cX7_init 61 = .ok (.aload_n 0, 1) := by decide +kernel
theorem dX7_init_62 : decode cX7_init 62 = .ok (.getfield 33, 3) := by decide +kernel
theorem dX7_init_65 : decode cX7_init 65 = .ok (.iload 5, 2) := by decide +kernel
theorem dX7_init_67 : decode cX7_init 67 = .ok (.new 31, 3) := by decide +kernel
theorem dX7_init_70 : decode cX7_init 70 = .ok (.dup, 1) := by decide +kernel
theorem dX7_init_71 : decode cX7_init 71 = .ok (.invokespecial 37, 3) := by decide +kernel
theorem dX7_init_74 : decode cX7_init 74 = .ok (.aastore, 1) := by decide +kernel
theorem dX7_init_75 : decode cX7_init 75 = .ok (.iinc 5 1, 3) := by decide +kernel
theorem dX7_init_78 : decode cX7_init 78 = .ok (.goto (-24), 3) := by decide +kernel
theorem dX7_init_81 : decode cX7_init 81 = .ok (.return_, 1) := by decide +kernel
theorem dX7_pipeOf_0 : decode cX7_pipeOf 0 = .ok (.iload_n 1, 1) := by decide +kernel
theorem dX7_pipeOf_1 : decode cX7_pipeOf 1 = .ok (.aload_n 0, 1) := by decide +kernel
theorem dX7_pipeOf_2 : decode cX7_pipeOf 2 = .ok (.getfield 9, 3) := by decide +kernel
theorem dX7_pipeOf_5 : decode cX7_pipeOf 5 = .ok (.if_icmp .lt 17, 3) := by decide +kernel
theorem dX7_pipeOf_8 : decode cX7_pipeOf 8 = .ok (.iload_n 1, 1) := by decide +kernel
theorem dX7_pipeOf_9 : decode cX7_pipeOf 9 = .ok (.aload_n 0, 1) := by decide +kernel
theorem dX7_pipeOf_10 : decode cX7_pipeOf 10 = .ok (.getfield 9, 3) := by decide +kernel
theorem dX7_pipeOf_13 : decode cX7_pipeOf 13 = .ok (.aload_n 0, 1) := by decide +kernel
theorem dX7_pipeOf_14 : decode cX7_pipeOf 14 = .ok (.getfield 33, 3) := by decide +kernel
theorem dX7_pipeOf_17 : decode cX7_pipeOf 17 = .ok (.arraylength, 1) := by decide +kernel
theorem dX7_pipeOf_18 : decode cX7_pipeOf 18 = .ok (.iadd, 1) := by decide +kernel
theorem dX7_pipeOf_19 : decode cX7_pipeOf 19 = .ok (.if_icmp .lt 5, 3) := by decide +kernel
theorem dX7_pipeOf_22 : decode cX7_pipeOf 22 = .ok (.aconst_null, 1) := by decide +kernel
theorem dX7_pipeOf_23 : decode cX7_pipeOf 23 = .ok (.areturn, 1) := by decide +kernel
theorem dX7_pipeOf_24 : decode cX7_pipeOf 24 = .ok (.aload_n 0, 1) := by decide +kernel
theorem dX7_pipeOf_25 : decode cX7_pipeOf 25 = .ok (.getfield 33, 3) := by decide +kernel
theorem dX7_pipeOf_28 : decode cX7_pipeOf 28 = .ok (.iload_n 1, 1) := by decide +kernel
theorem dX7_pipeOf_29 : decode cX7_pipeOf 29 = .ok (.aload_n 0, 1) := by decide +kernel
theorem dX7_pipeOf_30 : decode cX7_pipeOf 30 = .ok (.getfield 9, 3) := by decide +kernel
theorem dX7_pipeOf_33 : decode cX7_pipeOf 33 = .ok (.isub, 1) := by decide +kernel
theorem dX7_pipeOf_34 : decode cX7_pipeOf 34 = .ok (.aaload, 1) := by decide +kernel
theorem dX7_pipeOf_35 : decode cX7_pipeOf 35 = .ok (.areturn, 1) := by decide +kernel
theorem dX7_trials_0 : decode cX7_trials 0 = .ok (.aload_n 0, 1) := by decide +kernel
theorem dX7_trials_1 : decode cX7_trials 1 = .ok (.getfield 33, 3) := by decide +kernel
theorem dX7_trials_4 : decode cX7_trials 4 = .ok (.arraylength, 1) := by decide +kernel
theorem dX7_trials_5 : decode cX7_trials 5 = .ok (.iconst 1, 1) := by decide +kernel
theorem dX7_trials_6 : decode cX7_trials 6 = .ok (.isub, 1) := by decide +kernel
theorem dX7_trials_7 : decode cX7_trials 7 = .ok (.istore_n 1, 1) := by decide +kernel
theorem dX7_trials_8 : decode cX7_trials 8 = .ok (.aload_n 0, 1) := by decide +kernel
theorem dX7_trials_9 : decode cX7_trials 9 = .ok (.getfield 33, 3) := by decide +kernel
theorem dX7_trials_12 : decode cX7_trials 12 = .ok (.iconst 0, 1) := by decide +kernel
theorem dX7_trials_13 : decode cX7_trials 13 = .ok (.iload_n 1, 1) := by decide +kernel
theorem dX7_trials_14 : decode cX7_trials 14 = .ok (.invokestatic 38, 3) := by decide +kernel
theorem dX7_trials_17 : decode cX7_trials 17 = .ok (.ifCond .eq 18, 3) := by decide +kernel
theorem dX7_trials_20 : decode cX7_trials 20 = .ok (.iconst 1, 1) := by decide +kernel
theorem dX7_trials_21 : decode cX7_trials 21 = .ok (.aload_n 0, 1) := by decide +kernel
theorem dX7_trials_22 : decode cX7_trials 22 = .ok (.getfield 33, 3) := by decide +kernel
theorem dX7_trials_25 : decode cX7_trials 25 = .ok (.iconst 0, 1) := by decide +kernel
theorem dX7_trials_26 : decode cX7_trials 26 = .ok (.iload_n 1, 1) := by decide +kernel
theorem dX7_trials_27 : decode cX7_trials 27 = .ok (.iconst 0, 1) := by decide +kernel
theorem dX7_trials_28 : decode cX7_trials 28 = .ok (.invokestatic 42, 3) := by decide +kernel
theorem dX7_trials_31 : decode cX7_trials 31 = .ok (.iadd, 1) := by decide +kernel
theorem dX7_trials_32 : decode cX7_trials 32 = .ok (.goto 4, 3) := by decide +kernel
theorem dX7_trials_35 : decode cX7_trials 35 = .ok (.iconst 1, 1) := by decide +kernel
theorem dX7_trials_36 : decode cX7_trials 36 = .ok (.ireturn, 1) := by decide +kernel
theorem dX7_trialsInside_0 : decode cX7_trialsInside 0 = .ok (.iload_n 1, 1) := by decide +kernel
theorem dX7_trialsInside_1 : decode cX7_trialsInside 1 = .ok (.iload_n 2, 1) := by decide +kernel
theorem dX7_trialsInside_2 : decode cX7_trialsInside 2 = .ok (.if_icmp .ge 9, 3) := by decide +kernel
theorem dX7_trialsInside_5 : decode cX7_trialsInside 5 = .ok (.iload_n 3, 1) := by decide +kernel
theorem dX7_trialsInside_6 : decode cX7_trialsInside 6 = .ok (.bipush 40, 2) := by decide +kernel
theorem dX7_trialsInside_8 : decode cX7_trialsInside 8 = .ok (.if_icmp .le 5, 3) := by decide +kernel
theorem dX7_trialsInside_11 : decode cX7_trialsInside 11 = .ok (.iconst 0, 1) := by decide +kernel
theorem dX7_trialsInside_12 : decode cX7_trialsInside 12 = .ok (.ireturn, 1) := by decide +kernel
theorem dX7_trialsInside_13 : decode cX7_trialsInside 13 = .ok (.iload_n 1, 1) := by decide +kernel
theorem dX7_trialsInside_14 : decode cX7_trialsInside 14 = .ok (.iload_n 2, 1) := by decide +kernel
theorem dX7_trialsInside_15 : decode cX7_trialsInside 15 = .ok (.iload_n 1, 1) := by decide +kernel
theorem dX7_trialsInside_16 : decode cX7_trialsInside 16 = .ok (.isub, 1) := by decide +kernel
theorem dX7_trialsInside_17 : decode cX7_trialsInside 17 = .ok (.iconst 2, 1) := by decide +kernel
theorem dX7_trialsInside_18 : decode cX7_trialsInside 18 = .ok (.idiv, 1) := by decide +kernel
theorem dX7_trialsInside_19 : decode cX7_trialsInside 19 = .ok (.iadd, 1) := by decide +kernel
theorem dX7_trialsInside_20 : decode cX7_trialsInside 20 = .ok (.istore 4, 2) := by decide +kernel
theorem dX7_trialsInside_22 : decode cX7_trialsInside 22 = .ok (.iconst 1, 1) := by decide +kernel
theorem dX7_trialsInside_23 : decode cX7_trialsInside 23 = .ok (.istore 5, 2) := by decide +kernel
theorem dX7_trialsInside_25 : decode cX7_trialsInside 25 = .ok (.aload_n 0, 1) := by decide +kernel
theorem dX7_trialsInside_26 : decode cX7_trialsInside 26 = .ok (.iload_n 1, 1) := by decide +kernel
theorem dX7_trialsInside_27 : decode cX7_trialsInside 27 = .ok (.iload 4, 2) := by decide +kernel
theorem dX7_trialsInside_29 : decode cX7_trialsInside 29 = .ok (.invokestatic 38, 3) := by decide +kernel
theorem dX7_trialsInside_32 : decode cX7_trialsInside 32 = .ok (.ifCond .eq 20, 3) := by decide +kernel
theorem dX7_trialsInside_35 : decode cX7_trialsInside 35 = .ok (.iload 5, 2) := by decide +kernel
theorem dX7_trialsInside_37 : decode cX7_trialsInside 37 = .ok (.iconst 1, 1) := by decide +kernel
theorem dX7_trialsInside_38 : decode cX7_trialsInside 38 = .ok (.aload_n 0, 1) := by decide +kernel
theorem dX7_trialsInside_39 : decode cX7_trialsInside 39 = .ok (.iload_n 1, 1) := by decide +kernel
theorem dX7_trialsInside_40 : decode cX7_trialsInside 40 = .ok (.iload 4, 2) := by decide +kernel
theorem dX7_trialsInside_42 : decode cX7_trialsInside 42 = .ok (.iload_n 3, 1) := by decide +kernel
theorem dX7_trialsInside_43 : decode cX7_trialsInside 43 = .ok (.iconst 1, 1) := by decide +kernel
theorem dX7_trialsInside_44 : decode cX7_trialsInside 44 = .ok (.iadd, 1) := by decide +kernel
theorem dX7_trialsInside_45 : decode cX7_trialsInside 45 = .ok (.invokestatic 42, 3) := by decide +kernel
theorem dX7_trialsInside_48 : decode cX7_trialsInside 48 = .ok (.iadd, 1) := by decide +kernel
theorem dX7_trialsInside_49 : decode cX7_trialsInside 49 = .ok (.iadd, 1) := by decide +kernel
theorem dX7_trialsInside_50 : decode cX7_trialsInside 50 = .ok (.istore 5, 2) := by decide +kernel
theorem dX7_trialsInside_52 : decode cX7_trialsInside 52 = .ok (.aload_n 0, 1) := by decide +kernel
theorem dX7_trialsInside_53 : decode cX7_trialsInside 53 = .ok (.iload 4, 2) := by decide +kernel
theorem dX7_trialsInside_55 : decode cX7_trialsInside 55 = .ok (.iconst 1, 1) := by decide +kernel
theorem dX7_trialsInside_56 : decode cX7_trialsInside 56 = .ok (.iadd, 1) := by decide +kernel
theorem dX7_trialsInside_57 : decode cX7_trialsInside 57 = .ok (.iload_n 2, 1) := by decide +kernel
theorem dX7_trialsInside_58 : decode cX7_trialsInside 58 = .ok (.invokestatic 38, 3) := by decide +kernel
theorem dX7_trialsInside_61 : decode cX7_trialsInside 61 = .ok (.ifCond .eq 20, 3) := by decide +kernel
theorem dX7_trialsInside_64 : decode cX7_trialsInside 64 = .ok (.iload 5, 2) := by decide +kernel
theorem dX7_trialsInside_66 : decode cX7_trialsInside 66 = .ok (.aload_n 0, 1) := by decide +kernel
theorem dX7_trialsInside_67 : decode cX7_trialsInside 67 = .ok (.iload 4, 2) := by decide +kernel
theorem dX7_trialsInside_69 : decode cX7_trialsInside 69 = .ok (.iconst 1, 1) := by decide +kernel
theorem dX7_trialsInside_70 : decode cX7_trialsInside 70 = .ok (.iadd, 1) := by decide +kernel
theorem dX7_trialsInside_71 : decode cX7_trialsInside 71 = .ok (.iload_n 2, 1) := by decide +kernel
theorem dX7_trialsInside_72 : decode cX7_trialsInside 72 = .ok (.iload_n 3, 1) := by decide +kernel
theorem dX7_trialsInside_73 : decode cX7_trialsInside 73 = .ok (.iconst 1, 1) := by decide +kernel
theorem dX7_trialsInside_74 : decode cX7_trialsInside 74 = .ok (.iadd, 1) := by decide +kernel
theorem dX7_trialsInside_75 : decode cX7_trialsInside 75 = .ok (.invokestatic 42, 3) := by decide +kernel
theorem dX7_trialsInside_78 : decode cX7_trialsInside 78 = .ok (.iadd, 1) := by decide +kernel
theorem dX7_trialsInside_79 : decode cX7_trialsInside 79 = .ok (.istore 5, 2) := by decide +kernel
theorem dX7_trialsInside_81 : decode cX7_trialsInside 81 = .ok (.iload 5, 2) := by decide +kernel
theorem dX7_trialsInside_83 : decode cX7_trialsInside 83 = .ok (.ireturn, 1) := by decide +kernel
theorem dX7_hasFault_0 : decode cX7_hasFault 0 = .ok (.iconst 0, 1) := by decide +kernel
theorem dX7_hasFault_1 : decode cX7_hasFault 1 = .ok (.iload_n 1, 1) := by decide +kernel
theorem dX7_hasFault_2 : decode cX7_hasFault 2 = .ok (.invokestatic 28, 3) := by decide +kernel
theorem dX7_hasFault_5 : decode cX7_hasFault 5 = .ok (.istore_n 3, 1) := by decide +kernel
theorem dX7_hasFault_6 : decode cX7_hasFault 6 = .ok (.iload_n 3, 1) := by decide +kernel
theorem dX7_hasFault_7 : decode cX7_hasFault 7 = .ok (.iload_n 2, 1) := by decide +kernel
theorem dX7_hasFault_8 : decode cX7_hasFault 8 = .ok (.if_icmp .gt 28, 3) := by decide +kernel
theorem dX7_hasFault_11 : decode cX7_hasFault 11 = .ok (.iload_n 3, 1) := by decide +kernel
theorem dX7_hasFault_12 : decode cX7_hasFault 12 = .ok (.aload_n 0, 1) := by decide +kernel
theorem dX7_hasFault_13 : decode cX7_hasFault 13 = .ok (.arraylength, 1) := by decide +kernel
theorem dX7_hasFault_14 : decode cX7_hasFault 14 = .ok (.if_icmp .ge 22, 3) := by decide +kernel
theorem dX7_hasFault_17 : decode cX7_hasFault 17 = .ok (.aload_n 0, 1) := by decide +kernel
theorem dX7_hasFault_18 : decode cX7_hasFault 18 = .ok (.iload_n 3, 1) := by decide +kernel
theorem dX7_hasFault_19 : decode cX7_hasFault 19 = .ok (.aaload, 1) := by decide +kernel
theorem dX7_hasFault_20 : decode cX7_hasFault 20 = .ok (.getfield 46, 3) := by decide +kernel
theorem dX7_hasFault_23 : decode cX7_hasFault 23 = .ok (.bipush 45, 2) := by decide +kernel
theorem dX7_hasFault_25 : decode cX7_hasFault 25 = .ok (.if_icmp .eq 5, 3) := by decide +kernel
theorem dX7_hasFault_28 : decode cX7_hasFault 28 = .ok (.iconst 1, 1) := by decide +kernel
theorem dX7_hasFault_29 : decode cX7_hasFault 29 = .ok (.ireturn, 1) := by decide +kernel
theorem dX7_hasFault_30 : decode cX7_hasFault 30 = .ok (.iinc 3 1, 3) := by decide +kernel
theorem dX7_hasFault_33 : decode cX7_hasFault 33 = .ok (.goto (-27), 3) := by decide +kernel
theorem dX7_hasFault_36 : decode cX7_hasFault 36 = .ok (.iconst 0, 1) := by decide +kernel
theorem dX7_hasFault_37 : decode cX7_hasFault 37 = .ok (.ireturn, 1) := by decide +kernel
theorem dX8_init_0 : decode cX8_init 0 = .ok (.aload_n 0, 1) := by decide +kernel
theorem dX8_init_1 : decode cX8_init 1 = .ok (.invokespecial 3, 3) := by decide +kernel
theorem dX8_init_4 : decode cX8_init 4 = .ok (.aload_n 0, 1) := by decide +kernel
theorem dX8_init_5 : decode cX8_init 5 = .ok (.iconst 4, 1) := by decide +kernel
theorem dX8_init_6 : decode cX8_init 6 = .ok (.newarray .int, 2) := by decide +kernel
theorem dX8_init_8 : decode cX8_init 8 = .ok (.putfield 9, 3) := by decide +kernel
theorem dX8_init_11 : decode cX8_init 11 = .ok (.aload_n 0, 1) := by decide +kernel
theorem dX8_init_12 : decode cX8_init 12 = .ok (.iconst 4, 1) := by decide +kernel
theorem dX8_init_13 : decode cX8_init 13 = .ok (.newarray .int, 2) := by decide +kernel
theorem dX8_init_15 : decode cX8_init 15 = .ok (.putfield 15, 3) := by decide +kernel
theorem dX8_init_18 : decode cX8_init 18 = .ok (.aload_n 0, 1) := by decide +kernel
theorem dX8_init_19 : decode cX8_init 19 = .ok (.iconst 4, 1) := by decide +kernel
theorem dX8_init_20 : decode cX8_init 20 = .ok (.newarray .int, 2) := by decide +kernel
theorem dX8_init_22 : decode cX8_init 22 = .ok (.putfield 18, 3) := by decide +kernel
theorem dX8_init_25 : decode cX8_init 25 = .ok (.aload_n 0, 1) := by decide +kernel
theorem dX8_init_26 : decode cX8_init 26 = .ok (.iconst 4, 1) := by decide +kernel
theorem dX8_init_27 : decode cX8_init 27 = .ok (.newarray .int, 2) := by decide +kernel
theorem dX8_init_29 : decode cX8_init 29 = .ok (.putfield 21, 3) := by decide +kernel
theorem dX8_init_32 : decode cX8_init 32 = .ok (.aload_n 0, 1) := by decide +kernel
theorem dX8_init_33 : decode cX8_init 33 = .ok (.bipush 61, 2) := by decide +kernel
theorem dX8_init_35 : decode cX8_init 35 = .ok (.newarray .int, 2) := by decide +kernel
theorem dX8_init_37 : decode cX8_init 37 = .ok (.putfield 24, 3) := by decide +kernel
theorem dX8_init_40 : decode cX8_init 40 = .ok (.aload_n 0, 1) := by decide +kernel
theorem dX8_init_41 : decode cX8_init 41 = .ok (.bipush 61, 2) := by decide +kernel
theorem dX8_init_43 : decode cX8_init 43 = .ok (.newarray .int, 2) := by decide +kernel
theorem dX8_init_45 : decode cX8_init 45 = .ok (.putfield 27, 3) := by decide +kernel
theorem dX8_init_48 : decode cX8_init 48 = .ok (.iconst 0, 1) := by decide +kernel
theorem dX8_init_49 : decode cX8_init 49 = .ok (.istore_n 1, 1) := by decide +kernel
theorem dX8_init_50 : decode cX8_init 50 = .ok (.iload_n 1, 1) := by decide +kernel
theorem dX8_init_51 : decode cX8_init 51 = .ok (.bipush 61, 2) := by decide +kernel
theorem dX8_init_53 : decode cX8_init 53 = .ok (.if_icmp .ge 23, 3) := by decide +kernel
theorem dX8_init_56 : decode cX8_init 56 = .ok (.aload_n 0, 1) := by decide +kernel
theorem dX8_init_57 : decode cX8_init 57 = .ok (.getfield 24, 3) := by decide +kernel
theorem dX8_init_60 : decode cX8_init 60 = .ok (.iload_n 1, 1) := by decide +kernel
theorem dX8_init_61 : decode cX8_init 61 = .ok (.iload_n 1, 1) := by decide +kernel
theorem dX8_init_62 : decode cX8_init 62 = .ok (.iastore, 1) := by decide +kernel
theorem dX8_init_63 : decode cX8_init 63 = .ok (.aload_n 0, 1) := by decide +kernel
theorem dX8_init_64 : decode cX8_init 64 = .ok (.getfield 27, 3) := by decide +kernel
theorem dX8_init_67 : decode cX8_init 67 = .ok (.iload_n 1, 1) := by decide +kernel
theorem dX8_init_68 : decode cX8_init 68 = .ok (.iload_n 1, 1) := by decide +kernel
theorem dX8_init_69 : decode cX8_init 69 = .ok (.iastore, 1) := by decide +kernel
theorem dX8_init_70 : decode cX8_init 70 = .ok (.iinc 1 1, 3) := by decide +kernel
theorem dX8_init_73 : decode cX8_init 73 = .ok (.goto (-23), 3) := by decide +kernel
theorem dX8_init_76 : decode cX8_init 76 = .ok (.return_, 1) := by decide +kernel
theorem dX8_addRow_0 : decode cX8_addRow 0 = .ok (.aload_n 0, 1) := by decide +kernel
theorem dX8_addRow_1 : decode cX8_addRow 1 = .ok (.getfield 30, 3) := by decide +kernel
theorem dX8_addRow_4 : decode cX8_addRow 4 = .ok (.ifCond .lt 11, 3) := by decide +kernel
theorem dX8_addRow_7 : decode cX8_addRow 7 = .ok (.aload_n 0, 1) := by decide +kernel
theorem dX8_addRow_8 : decode cX8_addRow 8 = .ok (.getfield 30, 3) := by decide +kernel
theorem dX8_addRow_11 : decode cX8_addRow 11 = .ok (.iconst 4, 1) := by decide +kernel
theorem dX8_addRow_12 : decode cX8_addRow 12 = .ok (.if_icmp .lt 5, 3) := by decide +kernel
theorem dX8_addRow_15 : decode cX8_addRow 15 = .ok (.iconst 0, 1) := by decide +kernel
theorem dX8_addRow_16 : decode cX8_addRow 16 = .ok (.ireturn, 1) := by decide +kernel
theorem dX8_addRow_17 : decode cX8_addRow 17 = .ok (.aload_n 0, 1) := by decide +kernel
theorem dX8_addRow_18 : decode cX8_addRow 18 = .ok (.getfield 9, 3) := by decide +kernel
theorem dX8_addRow_21 : decode cX8_addRow 21 = .ok (.aload_n 0, 1) := by decide +kernel
theorem dX8_addRow_22 : decode cX8_addRow 22 = .ok (.getfield 30, 3) := by decide +kernel
theorem dX8_addRow_25 : decode cX8_addRow 25 = .ok (.iload_n 1, 1) := by decide +kernel
theorem dX8_addRow_26 : decode cX8_addRow 26 = .ok (.iastore, 1) := by decide +kernel
theorem dX8_addRow_27 : decode cX8_addRow 27 = .ok (.aload_n 0, 1) := by decide +kernel
theorem dX8_addRow_28 : decode cX8_addRow 28 = .ok (.getfield 15, 3) := by decide +kernel
theorem dX8_addRow_31 : decode cX8_addRow 31 = .ok (.aload_n 0, 1) := by decide +kernel
theorem dX8_addRow_32 : decode cX8_addRow 32 = .ok (.getfield 30, 3) := by decide +kernel
theorem dX8_addRow_35 : decode cX8_addRow 35 = .ok (.iload_n 2, 1) := by decide +kernel
theorem dX8_addRow_36 : decode cX8_addRow 36 = .ok (.iastore, 1) := by decide +kernel
theorem dX8_addRow_37 : decode cX8_addRow 37 = .ok (.aload_n 0, 1) := by decide +kernel
theorem dX8_addRow_38 : decode cX8_addRow 38 = .ok (.getfield 18, 3) := by decide +kernel
theorem dX8_addRow_41 : decode cX8_addRow 41 = .ok (.aload_n 0, 1) := by decide +kernel
theorem dX8_addRow_42 : decode cX8_addRow 42 = .ok (.getfield 30, 3) := by decide +kernel
theorem dX8_addRow_45 : decode cX8_addRow 45 = .ok (.iload_n 3, 1) := by decide +kernel
theorem dX8_addRow_46 : decode cX8_addRow 46 = .ok (.iastore, 1) := by decide +kernel
theorem dX8_addRow_47 : decode cX8_addRow 47 = .ok (.aload_n 0, 1) := by decide +kernel
theorem dX8_addRow_48 : decode cX8_addRow 48 = .ok (.getfield 21, 3) := by decide +kernel
theorem dX8_addRow_51 : decode cX8_addRow 51 = .ok (.aload_n 0, 1) := by decide +kernel
theorem dX8_addRow_52 : decode cX8_addRow 52 = .ok (.getfield 30, 3) := by decide +kernel
theorem dX8_addRow_55 : decode cX8_addRow 55 = .ok (.iload 4, 2) := by decide +kernel
theorem dX8_addRow_57 : decode cX8_addRow 57 = .ok (.iastore, 1) := by decide +kernel
theorem dX8_addRow_58 : decode cX8_addRow 58 = .ok (.aload_n 0, 1) := by decide +kernel
theorem dX8_addRow_59 : decode cX8_addRow 59 = .ok (.dup, 1) := by decide +kernel
theorem dX8_addRow_60 : decode cX8_addRow 60 = .ok (.getfield 30, 3) := by decide +kernel
theorem dX8_addRow_63 : decode cX8_addRow 63 = .ok (.iconst 1, 1) := by decide +kernel
theorem dX8_addRow_64 : decode cX8_addRow 64 = .ok (.iadd, 1) := by decide +kernel
theorem dX8_addRow_65 : decode cX8_addRow 65 = .ok (.putfield 30, 3) := by decide +kernel
theorem dX8_addRow_68 : decode cX8_addRow 68 = .ok (.iconst 1, 1) := by decide +kernel
theorem dX8_addRow_69 : decode cX8_addRow 69 = .ok (.ireturn, 1) := by decide +kernel
theorem dX8_changePlaces_0 : decode cX8_changePlaces 0 = .ok (.aload_n 0, 1) := by decide +kernel
theorem dX8_changePlaces_1 : decode cX8_changePlaces 1 = .ok (.iload_n 1, 1) := by decide +kernel
theorem dX8_changePlaces_2 : decode cX8_changePlaces 2 = .ok (.invokevirtual 34, 3) := by decide +kernel
theorem dX8_changePlaces_5 : decode cX8_changePlaces 5 = .ok (.istore_n 3, 1) := by decide +kernel
theorem dX8_changePlaces_6 : decode cX8_changePlaces 6 = .ok (.aload_n 0, 1) := by decide +kernel
theorem dX8_changePlaces_7 : decode cX8_changePlaces 7 = .ok (.iload_n 2, 1) := by decide +kernel
theorem dX8_changePlaces_8 : decode cX8_changePlaces 8 = .ok (.invokevirtual 34, 3) := by decide +kernel
theorem dX8_changePlaces_11 : decode cX8_changePlaces 11 = .ok (.istore 4, 2) := by decide +kernel
theorem dX8_changePlaces_13 : decode cX8_changePlaces 13 = .ok (.aload_n 0, 1) := by decide +kernel
theorem dX8_changePlaces_14 : decode cX8_changePlaces 14 = .ok (.iload_n 1, 1) := by decide +kernel
theorem dX8_changePlaces_15 : decode cX8_changePlaces 15 = .ok (.iload 4, 2) := by decide +kernel
theorem dX8_changePlaces_17 : decode cX8_changePlaces 17 = .ok (.invokevirtual 38, 3) := by decide +kernel
theorem dX8_changePlaces_20 : decode cX8_changePlaces 20 = .ok (.aload_n 0, 1) := by decide +kernel
theorem dX8_changePlaces_21 : decode cX8_changePlaces 21 = .ok (.iload_n 2, 1) := by decide +kernel
theorem dX8_changePlaces_22 : decode cX8_changePlaces 22 = .ok (.iload_n 3, 1) := by decide +kernel
theorem dX8_changePlaces_23 : decode cX8_changePlaces 23 = .ok (.invokevirtual 38, 3) := by decide +kernel
theorem dX8_changePlaces_26 : decode cX8_changePlaces 26 = .ok (.return_, 1) := by decide +kernel
theorem dX8_placeOf_0 : decode cX8_placeOf 0 = .ok (.iload_n 1, 1) := by decide +kernel
theorem dX8_placeOf_1 : decode cX8_placeOf 1 = .ok (.ifCond .lt 9, 3) := by decide +kernel
theorem dX8_placeOf_4 : decode cX8_placeOf 4 = .ok (.iload_n 1, 1) := by decide +kernel
theorem dX8_placeOf_5 : decode cX8_placeOf 5 = .ok (.bipush 61, 2) := by decide +kernel
theorem dX8_placeOf_7 : decode cX8_placeOf 7 = .ok (.if_icmp .lt 7, 3) := by decide +kernel
theorem dX8_placeOf_10 : decode cX8_placeOf 10 = .ok (.iconst (-1), 1) := by decide +kernel
theorem dX8_placeOf_11 : decode cX8_placeOf 11 = .ok (.goto 9, 3) := by decide +kernel
theorem dX8_placeOf_14 : decode cX8_placeOf 14 = .ok (.aload_n 0, 1) := by decide +kernel
theorem dX8_placeOf_15 : decode cX8_placeOf 15 = .ok (.getfield 24, 3) := by decide +kernel
theorem dX8_placeOf_18 : decode cX8_placeOf 18 = .ok (.iload_n 1, 1) := by decide +kernel
theorem dX8_placeOf_19 : decode cX8_placeOf 19 = .ok (.iaload, 1) := by decide +kernel
theorem dX8_placeOf_20 : decode cX8_placeOf 20 = .ok (.ireturn, 1) := by decide +kernel
theorem dX8_putPlace_0 : decode cX8_putPlace 0 = .ok (.iload_n 1, 1) := by decide +kernel
theorem dX8_putPlace_1 : decode cX8_putPlace 1 = .ok (.ifCond .lt 33, 3) := by decide +kernel
theorem dX8_putPlace_4 : decode cX8_putPlace 4 = .ok (.iload_n 1, 1) := by decide +kernel
theorem dX8_putPlace_5 : decode cX8_putPlace 5 = .ok (.bipush 61, 2) := by decide +kernel
theorem dX8_putPlace_7 : decode cX8_putPlace 7 = .ok (.if_icmp .ge 27, 3) := by decide +kernel
theorem dX8_putPlace_10 : decode cX8_putPlace 10 = .ok (.iload_n 2, 1) := by decide +kernel
theorem dX8_putPlace_11 : decode cX8_putPlace 11 = .ok (.ifCond .lt 23, 3) := by decide +kernel
theorem dX8_putPlace_14 : decode cX8_putPlace 14 = .ok (.iload_n 2, 1) := by decide +kernel
theorem dX8_putPlace_15 : decode cX8_putPlace 15 = .ok (.bipush 61, 2) := by decide +kernel
theorem dX8_putPlace_17 : decode cX8_putPlace 17 = .ok (.if_icmp .ge 17, 3) := by decide +kernel
theorem dX8_putPlace_20 : decode cX8_putPlace 20 = .ok (.aload_n 0, 1) := by decide +kernel
theorem dX8_putPlace_21 : decode cX8_putPlace 21 = .ok (.getfield 24, 3) := by decide +kernel
theorem dX8_putPlace_24 : decode cX8_putPlace 24 = .ok (.iload_n 1, 1) := by decide +kernel
theorem dX8_putPlace_25 : decode cX8_putPlace 25 = .ok (.iload_n 2, 1) := by decide +kernel
theorem dX8_putPlace_26 : decode cX8_putPlace 26 = .ok (.iastore, 1) := by decide +kernel
theorem dX8_putPlace_27 : decode cX8_putPlace 27 = .ok (.aload_n 0, 1) := by decide +kernel
theorem dX8_putPlace_28 : decode cX8_putPlace 28 = .ok (.getfield 27, 3) := by decide +kernel
theorem dX8_putPlace_31 : decode cX8_putPlace 31 = .ok (.iload_n 2, 1) := by decide +kernel
theorem dX8_putPlace_32 : decode cX8_putPlace 32 = .ok (.iload_n 1, 1) := by decide +kernel
theorem dX8_putPlace_33 : decode cX8_putPlace 33 = .ok (.iastore, 1) := by decide +kernel
theorem dX8_putPlace_34 : decode cX8_putPlace 34 = .ok (.return_, 1) := by decide +kernel
theorem dX8_displaced_0 : decode cX8_displaced 0 = .ok (.iconst 0, 1) := by decide +kernel
theorem dX8_displaced_1 : decode cX8_displaced 1 = .ok (.istore_n 1, 1) := by decide +kernel
theorem dX8_displaced_2 : decode cX8_displaced 2 = .ok (.iconst 0, 1) := by decide +kernel
theorem dX8_displaced_3 : decode cX8_displaced 3 = .ok (.istore_n 2, 1) := by decide +kernel
theorem dX8_displaced_4 : decode cX8_displaced 4 = .ok (.iload_n 2, 1) := by decide +kernel
theorem dX8_displaced_5 : decode cX8_displaced 5 = .ok (.bipush 61, 2) := by decide +kernel
theorem dX8_displaced_7 : decode cX8_displaced 7 = .ok (.if_icmp .ge 22, 3) := by decide +kernel
theorem dX8_displaced_10 : decode cX8_displaced 10 = .ok (.aload_n 0, 1) := by decide +kernel
theorem dX8_displaced_11 : decode cX8_displaced 11 = .ok (.getfield 24, 3) := by decide +kernel
theorem dX8_displaced_14 : decode cX8_displaced 14 = .ok (.iload_n 2, 1) := by decide +kernel
theorem dX8_displaced_15 : decode cX8_displaced 15 = .ok (.iaload, 1) := by decide +kernel
theorem dX8_displaced_16 : decode cX8_displaced 16 = .ok (.iload_n 2, 1) := by decide +kernel
theorem dX8_displaced_17 : decode cX8_displaced 17 = .ok (.if_icmp .eq 6, 3) := by decide +kernel
theorem dX8_displaced_20 : decode cX8_displaced 20 = .ok (.iinc 1 1, 3) := by decide +kernel
theorem dX8_displaced_23 : decode cX8_displaced 23 = .ok (.iinc 2 1, 3) := by decide +kernel
theorem dX8_displaced_26 : decode cX8_displaced 26 = .ok (.goto (-22), 3) := by decide +kernel
theorem dX8_displaced_29 : decode cX8_displaced 29 = .ok (.iload_n 1, 1) := by decide +kernel
theorem dX8_displaced_30 : decode cX8_displaced 30 = .ok (.ireturn, 1) := by decide +kernel
theorem dX8_hasRow_0 : decode cX8_hasRow 0 = .ok (.iload_n 1, 1) := by decide +kernel
theorem dX8_hasRow_1 : decode cX8_hasRow 1 = .ok (.ifCond .lt 20, 3) := by decide +kernel
theorem dX8_hasRow_4 : decode cX8_hasRow 4 = .ok (.iload_n 1, 1) := by decide +kernel
theorem dX8_hasRow_5 : decode cX8_hasRow 5 = .ok (.aload_n 0, 1) := by decide +kernel
theorem dX8_hasRow_6 : decode cX8_hasRow 6 = .ok (.getfield 30, 3) := by decide +kernel
theorem dX8_hasRow_9 : decode cX8_hasRow 9 = .ok (.if_icmp .ge 12, 3) := by decide +kernel
theorem dX8_hasRow_12 : decode cX8_hasRow 12 = .ok (.iload_n 1, 1) := by decide +kernel
theorem dX8_hasRow_13 : decode cX8_hasRow 13 = .ok (.iconst 4, 1) := by decide +kernel
theorem dX8_hasRow_14 : decode cX8_hasRow 14 = .ok (.if_icmp .ge 7, 3) := by decide +kernel
theorem dX8_hasRow_17 : decode cX8_hasRow 17 = .ok (.iconst 1, 1) := by decide +kernel
theorem dX8_hasRow_18 : decode cX8_hasRow 18 = .ok (.goto 4, 3) := by decide +kernel
theorem dX8_hasRow_21 : decode cX8_hasRow 21 = .ok (.iconst 0, 1) := by decide +kernel
theorem dX8_hasRow_22 : decode cX8_hasRow 22 = .ok (.ireturn, 1) := by decide +kernel
theorem dX8_rankOf_0 : decode cX8_rankOf 0 = .ok (.aload_n 0, 1) := by decide +kernel
theorem dX8_rankOf_1 : decode cX8_rankOf 1 = .ok (.iload_n 1, 1) := by decide +kernel
theorem dX8_rankOf_2 : decode cX8_rankOf 2 = .ok (.invokevirtual 42, 3) := by decide +kernel
theorem dX8_rankOf_5 : decode cX8_rankOf 5 = .ok (.ifCond .eq 12, 3) := by decide +kernel
theorem dX8_rankOf_8 : decode cX8_rankOf 8 = .ok (.aload_n 0, 1) := by decide +kernel
theorem dX8_rankOf_9 : decode cX8_rankOf 9 = .ok (.getfield 9, 3) := by decide +kernel
theorem dX8_rankOf_12 : decode cX8_rankOf 12 = .ok (.iload_n 1, 1) := by decide +kernel
theorem dX8_rankOf_13 : decode cX8_rankOf 13 = .ok (.iaload, 1) := by decide +kernel
theorem dX8_rankOf_14 : decode cX8_rankOf 14 = .ok (.goto 4, 3) := by decide +kernel
theorem dX8_rankOf_17 : decode cX8_rankOf 17 = .ok (.iconst (-1), 1) := by decide +kernel
theorem dX8_rankOf_18 : decode cX8_rankOf 18 = .ok (.ireturn, 1) := by decide +kernel
theorem dX8_noteOf_0 : decode cX8_noteOf 0 = .ok (.aload_n 0, 1) := by decide +kernel
theorem dX8_noteOf_1 : decode cX8_noteOf 1 = .ok (.iload_n 2, 1) := by decide +kernel
theorem dX8_noteOf_2 : decode cX8_noteOf 2 = .ok (.invokevirtual 34, 3) := by decide +kernel
theorem dX8_noteOf_5 : decode cX8_noteOf 5 = .ok (.istore_n 3, 1) := by decide +kernel
theorem dX8_noteOf_6 : decode cX8_noteOf 6 = .ok (.aload_n 0, 1) := by decide +kernel
theorem dX8_noteOf_7 : decode cX8_noteOf 7 = .ok (.iload_n 1, 1) := by decide +kernel
theorem dX8_noteOf_8 : decode cX8_noteOf 8 = .ok (.invokevirtual 42, 3) := by decide +kernel
theorem dX8_noteOf_11 : decode cX8_noteOf 11 = .ok (.ifCond .eq 27, 3) := by decide +kernel
theorem dX8_noteOf_14 : decode cX8_noteOf 14 = .ok (.iload_n 3, 1) := by decide +kernel
theorem dX8_noteOf_15 : decode cX8_noteOf 15 = .ok (.aload_n 0, 1) := by decide +kernel
theorem dX8_noteOf_16 : decode cX8_noteOf 16 = .ok (.getfield 18, 3) := by decide +kernel
theorem dX8_noteOf_19 : decode cX8_noteOf 19 = .ok (.iload_n 1, 1) := by decide +kernel
theorem dX8_noteOf_20 : decode cX8_noteOf 20 = .ok (.iaload, 1) := by decide +kernel
theorem dX8_noteOf_21 : decode cX8_noteOf 21 = .ok (.if_icmp .lt 17, 3) := by decide +kernel
theorem dX8_noteOf_24 : decode cX8_noteOf 24 = .ok (.iload_n 3, 1) := by decide +kernel
theorem dX8_noteOf_25 : decode cX8_noteOf 25 = .ok (.aload_n 0, 1) := by decide +kernel
theorem dX8_noteOf_26 : decode cX8_noteOf 26 = .ok (.getfield 21, 3) := by decide +kernel
theorem dX8_noteOf_29 : decode cX8_noteOf 29 = .ok (.iload_n 1, 1) := by decide +kernel
theorem dX8_noteOf_30 : decode cX8_noteOf 30 = .ok (.iaload, 1) := by decide +kernel
theorem dX8_noteOf_31 : decode cX8_noteOf 31 = .ok (.if_icmp .gt 7, 3) := by decide +kernel
theorem dX8_noteOf_34 : decode cX8_noteOf 34 = .ok (.iconst 1, 1) := by decide +kernel
theorem dX8_noteOf_35 : decode cX8_noteOf 35 = .ok (.goto 4, 3) := by decide +kernel
theorem dX8_noteOf_38 : decode cX8_noteOf 38 = .ok (.iconst 0, 1) := by decide +kernel
theorem dX8_noteOf_39 : decode cX8_noteOf 39 = .ok (.istore 4, 2) := by decide +kernel
theorem dX8_noteOf_41 : decode cX8_noteOf 41 = .ok (.iload 4, 2) := by decide +kernel
theorem dX8_noteOf_43 : decode cX8_noteOf 43 = .ok (.ifCond .eq 17, 3) := by decide +kernel
theorem dX8_noteOf_46 : decode cX8_noteOf 46 = .ok (.bipush 36, 2) := by decide +kernel
theorem dX8_noteOf_48 : decode cX8_noteOf 48 = .ok (.iload_n 3, 1) := by decide +kernel
theorem dX8_noteOf_49 : decode cX8_noteOf 49 = .ok (.iadd, 1) := by decide +kernel
theorem dX8_noteOf_50 : decode cX8_noteOf 50 = .ok (.aload_n 0, 1) := by decide +kernel
theorem dX8_noteOf_51 : decode cX8_noteOf 51 = .ok (.getfield 15, 3) := by decide +kernel
theorem dX8_noteOf_54 : decode cX8_noteOf 54 = .ok (.iload_n 1, 1) := by decide +kernel
theorem dX8_noteOf_55 : decode cX8_noteOf 55 = .ok (.iaload, 1) := by decide +kernel
theorem dX8_noteOf_56 : decode cX8_noteOf 56 = .ok (.iadd, 1) := by decide +kernel
theorem dX8_noteOf_57 : decode cX8_noteOf 57 = .ok (.goto 4, 3) := by decide +kernel
theorem dX8_noteOf_60 : decode cX8_noteOf 60 = .ok (.iconst (-1), 1) := by decide +kernel
theorem dX8_noteOf_61 : decode cX8_noteOf 61 = .ok (.ireturn, 1) := by decide +kernel
theorem dX8_keyOf_0 : decode cX8_keyOf 0 = .ok (.aload_n 0, 1) := by decide +kernel
theorem dX8_keyOf_1 : decode cX8_keyOf 1 = .ok (.iload_n 1, 1) := by decide +kernel
theorem dX8_keyOf_2 : decode cX8_keyOf 2 = .ok (.invokevirtual 42, 3) := by decide +kernel
theorem dX8_keyOf_5 : decode cX8_keyOf 5 = .ok (.ifCond .ne 5, 3) := by decide +kernel
theorem dX8_keyOf_8 : decode cX8_keyOf 8 = .ok (.iconst (-1), 1) := by decide +kernel
theorem dX8_keyOf_9 : decode cX8_keyOf 9 = .ok (.ireturn, 1) := by decide +kernel
theorem dX8_keyOf_10 : decode cX8_keyOf 10 = .ok (.iload_n 2, 1) := by decide +kernel
theorem dX8_keyOf_11 : decode cX8_keyOf 11 = .ok (.bipush 36, 2) := by decide +kernel
theorem dX8_keyOf_13 : decode cX8_keyOf 13 = .ok (.isub, 1) := by decide +kernel
theorem dX8_keyOf_14 : decode cX8_keyOf 14 = .ok (.aload_n 0, 1) := by decide +kernel
theorem dX8_keyOf_15 : decode cX8_keyOf 15 = .ok (.getfield 15, 3) := by decide +kernel
theorem dX8_keyOf_18 : decode cX8_keyOf 18 = .ok (.iload_n 1, 1) := by decide +kernel
theorem dX8_keyOf_19 : decode cX8_keyOf 19 = .ok (.iaload, 1) := by decide +kernel
theorem dX8_keyOf_20 : decode cX8_keyOf 20 = .ok (.isub, 1) := by decide +kernel
theorem dX8_keyOf_21 : decode cX8_keyOf 21 = .ok (.istore_n 3, 1) := by decide +kernel
theorem dX8_keyOf_22 : decode cX8_keyOf 22 = .ok (.iload_n 3, 1) := by decide +kernel
theorem dX8_keyOf_23 : decode cX8_keyOf 23 = .ok (.aload_n 0, 1) := by decide +kernel
theorem dX8_keyOf_24 : decode cX8_keyOf 24 = .ok (.getfield 18, 3) := by decide +kernel
theorem dX8_keyOf_27 : decode cX8_keyOf 27 = .ok (.iload_n 1, 1) := by decide +kernel
theorem dX8_keyOf_28 : decode cX8_keyOf 28 = .ok (.iaload, 1) := by decide +kernel
theorem dX8_keyOf_29 : decode cX8_keyOf 29 = .ok (.if_icmp .lt 17, 3) := by decide +kernel
theorem dX8_keyOf_32 : decode cX8_keyOf 32 = .ok (.iload_n 3, 1) := by decide +kernel
theorem dX8_keyOf_33 : decode cX8_keyOf 33 = .ok (.aload_n 0, 1) := by decide +kernel
theorem dX8_keyOf_34 : decode cX8_keyOf 34 = .ok (.getfield 21, 3) := by decide +kernel
theorem dX8_keyOf_37 : decode cX8_keyOf 37 = .ok (.iload_n 1, 1) := by decide +kernel
theorem dX8_keyOf_38 : decode cX8_keyOf 38 = .ok (.iaload, 1) := by decide +kernel
theorem dX8_keyOf_39 : decode cX8_keyOf 39 = .ok (.if_icmp .gt 7, 3) := by decide +kernel
theorem dX8_keyOf_42 : decode cX8_keyOf 42 = .ok (.iconst 1, 1) := by decide +kernel
theorem dX8_keyOf_43 : decode cX8_keyOf 43 = .ok (.goto 4, 3) := by decide +kernel
theorem dX8_keyOf_46 : decode cX8_keyOf 46 = .ok (.iconst 0, 1) := by decide +kernel
theorem dX8_keyOf_47 : decode cX8_keyOf 47 = .ok (.istore 4, 2) := by decide +kernel
theorem dX8_keyOf_49 : decode cX8_keyOf 49 = .ok (.iload 4, 2) := by decide +kernel
theorem dX8_keyOf_51 : decode cX8_keyOf 51 = .ok (.ifCond .eq 22, 3) := by decide +kernel
theorem dX8_keyOf_54 : decode cX8_keyOf 54 = .ok (.iload_n 3, 1) := by decide +kernel
theorem dX8_keyOf_55 : decode cX8_keyOf 55 = .ok (.ifCond .lt 18, 3) := by decide +kernel
theorem dX8_keyOf_58 : decode cX8_keyOf 58 = .ok (.iload_n 3, 1) := by decide +kernel
theorem dX8_keyOf_59 : decode cX8_keyOf 59 = .ok (.bipush 61, 2) := by decide +kernel
theorem dX8_keyOf_61 : decode cX8_keyOf 61 = .ok (.if_icmp .ge 12, 3) := by decide +kernel
theorem dX8_keyOf_64 : decode cX8_keyOf 64 = .ok (.aload_n 0, 1) := by decide +kernel
theorem dX8_keyOf_65 : decode cX8_keyOf 65 = .ok (.getfield 27, 3) := by decide +kernel
theorem dX8_keyOf_68 : decode cX8_keyOf 68 = .ok (.iload_n 3, 1) := by decide +kernel
theorem dX8_keyOf_69 : decode cX8_keyOf 69 = .ok (.iaload, 1) := by decide +kernel
theorem dX8_keyOf_70 : decode cX8_keyOf 70 = .ok (.goto 4, 3) := by decide +kernel
theorem dX8_keyOf_73 : decode cX8_keyOf 73 = .ok (.iconst (-1), 1) := by decide +kernel
theorem dX8_keyOf_74 : decode cX8_keyOf 74 = .ok (.ireturn, 1) := by decide +kernel
theorem dX9_init_0 : decode cX9_init 0 = .ok (.aload_n 0, 1) := by decide +kernel
theorem dX9_init_1 : decode cX9_init 1 = .ok (.invokespecial 3, 3) := by decide +kernel
theorem dX9_init_4 : decode cX9_init 4 = .ok (.aload_n 0, 1) := by decide +kernel
theorem dX9_init_5 : decode cX9_init 5 = .ok (.bipush 45, 2) := by decide +kernel
theorem dX9_init_7 : decode cX9_init 7 = .ok (.putfield 9, 3) := by decide +kernel
theorem dX9_init_10 : decode cX9_init 10 = .ok (.aload_n 0, 1) := by decide +kernel
theorem dX9_init_11 : decode cX9_init 11 = .ok (.bipush 45, 2) := by decide +kernel
theorem dX9_init_13 : decode cX9_init 13 = .ok (.putfield 15, 3) := by decide +kernel
theorem dX9_init_16 : decode cX9_init 16 = .ok (.aload_n 0, 1) := by decide +kernel
theorem dX9_init_17 : decode cX9_init 17 = .ok (.sipush 256, 3) := by decide +kernel
theorem dX9_init_20 : decode cX9_init 20 = .ok (.newarray .int, 2) := by decide +kernel
theorem dX9_init_22 : decode cX9_init 22 = .ok (.putfield 18, 3) := by decide +kernel
theorem dX9_init_25 : decode cX9_init 25 = .ok (.return_, 1) := by decide +kernel
theorem dX9_start_0 : decode cX9_start 0 = .ok (.aload_n 0, 1) := by decide +kernel
theorem dX9_start_1 : decode cX9_start 1 = .ok (.iload_n 1, 1) := by decide +kernel
theorem dX9_start_2 : decode cX9_start 2 = .ok (.putfield 9, 3) := by decide +kernel
theorem dX9_start_5 : decode cX9_start 5 = .ok (.aload_n 0, 1) := by decide +kernel
theorem dX9_start_6 : decode cX9_start 6 = .ok (.iload_n 1, 1) := by decide +kernel
theorem dX9_start_7 : decode cX9_start 7 = .ok (.putfield 15, 3) := by decide +kernel
theorem dX9_start_10 : decode cX9_start 10 = .ok (.aload_n 0, 1) := by decide +kernel
theorem dX9_start_11 : decode cX9_start 11 = .ok (.iconst 0, 1) := by decide +kernel
theorem dX9_start_12 : decode cX9_start 12 = .ok (.putfield 22, 3) := by decide +kernel
theorem dX9_start_15 : decode cX9_start 15 = .ok (.aload_n 0, 1) := by decide +kernel
theorem dX9_start_16 : decode cX9_start 16 = .ok (.iload_n 2, 1) := by decide +kernel
theorem dX9_start_17 : decode cX9_start 17 = .ok (.putfield 26, 3) := by decide +kernel
theorem dX9_start_20 : decode cX9_start 20 = .ok (.return_, 1) := by decide +kernel
theorem dX9_keepKey_0 : decode cX9_keepKey 0 = .ok (.aload_n 0, 1) := by decide +kernel
theorem dX9_keepKey_1 : decode cX9_keepKey 1 = .ok (.getfield 9, 3) := by decide +kernel
theorem dX9_keepKey_4 : decode cX9_keepKey 4 = .ok (.bipush 107, 2) := by decide +kernel
theorem dX9_keepKey_6 : decode cX9_keepKey 6 = .ok (.if_icmp .ne 17, 3) := by decide +kernel
theorem dX9_keepKey_9 : decode cX9_keepKey 9 = .ok (.aload_n 0, 1) := by decide +kernel
theorem dX9_keepKey_10 : decode cX9_keepKey 10 = .ok (.iload_n 1, 1) := by decide +kernel
theorem dX9_keepKey_11 : decode cX9_keepKey 11 = .ok (.sipush 128, 3) := by decide +kernel
theorem dX9_keepKey_14 : decode cX9_keepKey 14 = .ok (.imul, 1) := by decide +kernel
theorem dX9_keepKey_15 : decode cX9_keepKey 15 = .ok (.iload_n 2, 1) := by decide +kernel
theorem dX9_keepKey_16 : decode cX9_keepKey 16 = .ok (.iadd, 1) := by decide +kernel
theorem dX9_keepKey_17 : decode cX9_keepKey 17 = .ok (.iload_n 3, 1) := by decide +kernel
theorem dX9_keepKey_18 : decode cX9_keepKey 18 = .ok (.iload 4, 2) := by decide +kernel
theorem dX9_keepKey_20 : decode cX9_keepKey 20 = .ok (.invokevirtual 29, 3) := by decide +kernel
theorem dX9_keepKey_23 : decode cX9_keepKey 23 = .ok (.return_, 1) := by decide +kernel
theorem dX9_keepPipe_0 : decode cX9_keepPipe 0 = .ok (.aload_n 0, 1) := by decide +kernel
theorem dX9_keepPipe_1 : decode cX9_keepPipe 1 = .ok (.getfield 9, 3) := by decide +kernel
theorem dX9_keepPipe_4 : decode cX9_keepPipe 4 = .ok (.bipush 114, 2) := by decide +kernel
theorem dX9_keepPipe_6 : decode cX9_keepPipe 6 = .ok (.if_icmp .ne 17, 3) := by decide +kernel
theorem dX9_keepPipe_9 : decode cX9_keepPipe 9 = .ok (.aload_n 0, 1) := by decide +kernel
theorem dX9_keepPipe_10 : decode cX9_keepPipe 10 = .ok (.iload_n 1, 1) := by decide +kernel
theorem dX9_keepPipe_11 : decode cX9_keepPipe 11 = .ok (.sipush 128, 3) := by decide +kernel
theorem dX9_keepPipe_14 : decode cX9_keepPipe 14 = .ok (.imul, 1) := by decide +kernel
theorem dX9_keepPipe_15 : decode cX9_keepPipe 15 = .ok (.iload_n 2, 1) := by decide +kernel
theorem dX9_keepPipe_16 : decode cX9_keepPipe 16 = .ok (.iadd, 1) := by decide +kernel
theorem dX9_keepPipe_17 : decode cX9_keepPipe 17 = .ok (.iload_n 3, 1) := by decide +kernel
theorem dX9_keepPipe_18 : decode cX9_keepPipe 18 = .ok (.iload 4, 2) := by decide +kernel
theorem dX9_keepPipe_20 : decode cX9_keepPipe 20 = .ok (.invokevirtual 29, 3) := by decide +kernel
theorem dX9_keepPipe_23 : decode cX9_keepPipe 23 = .ok (.return_, 1) := by decide +kernel
theorem dX9_keepEntry_0 : decode cX9_keepEntry 0 = .ok (.aload_n 0, 1) := by decide +kernel
theorem dX9_keepEntry_1 : decode cX9_keepEntry 1 = .ok (.getfield 22, 3) := by decide +kernel
theorem dX9_keepEntry_4 : decode cX9_keepEntry 4 = .ok (.ldc 33, 2) := by decide +kernel
theorem dX9_keepEntry_6 : decode cX9_keepEntry 6 = .ok (.if_icmp .lt 4, 3) := by decide +kernel
theorem dX9_keepEntry_9 : decode cX9_keepEntry 9 = .ok (.return_, 1) := by decide +kernel
theorem dX9_keepEntry_10 : decode cX9_keepEntry 10 = .ok (.aload_n 0, 1) := by decide +kernel
theorem dX9_keepEntry_11 : decode cX9_keepEntry 11 = .ok (.getfield 22, 3) := by decide +kernel
theorem dX9_keepEntry_14 : decode cX9_keepEntry 14 = .ok (.aload_n 0, 1) := by decide +kernel
theorem dX9_keepEntry_15 : decode cX9_keepEntry 15 = .ok (.getfield 18, 3) := by decide +kernel
theorem dX9_keepEntry_18 : decode cX9_keepEntry 18 = .ok (.arraylength, 1) := by decide +kernel
theorem dX9_keepEntry_19 : decode cX9_keepEntry 19 = .ok (.if_icmp .lt 21, 3) := by decide +kernel
theorem dX9_keepEntry_22 : decode cX9_keepEntry 22 = .ok (.aload_n 0, 1) := by decide +kernel
theorem dX9_keepEntry_23 : decode cX9_keepEntry 23 = .ok (.aload_n 0, 1) := by decide +kernel
theorem dX9_keepEntry_24 : decode cX9_keepEntry 24 = .ok (.getfield 18, 3) := by decide +kernel
theorem dX9_keepEntry_27 : decode cX9_keepEntry 27 = .ok (.iconst 2, 1) := by decide +kernel
theorem dX9_keepEntry_28 : decode cX9_keepEntry 28 = .ok (.aload_n 0, 1) := by decide +kernel
theorem dX9_keepEntry_29 : decode cX9_keepEntry 29 = .ok (.getfield 18, 3) := by decide +kernel
theorem dX9_keepEntry_32 : decode cX9_keepEntry 32 = .ok (.arraylength, 1) := by decide +kernel
theorem dX9_keepEntry_33 : decode cX9_keepEntry 33 = .ok (.imul, 1) := by decide +kernel
theorem dX9_keepEntry_34 : decode cX9_keepEntry 34 = .ok (.invokestatic 34, 3) := by decide +kernel
theorem dX9_keepEntry_37 : decode cX9_keepEntry 37 = .ok (.putfield 18, 3) := by decide +kernel
theorem dX9_keepEntry_40 : decode cX9_keepEntry 40 = .ok (.aload_n 0, 1) := by decide +kernel
theorem dX9_keepEntry_41 : decode cX9_keepEntry 41 = .ok (.getfield 18, 3) := by decide +kernel
theorem dX9_keepEntry_44 : decode cX9_keepEntry 44 = .ok (.aload_n 0, 1) := by decide +kernel
theorem dX9_keepEntry_45 : decode cX9_keepEntry 45 = .ok (.getfield 22, 3) := by decide +kernel
theorem dX9_keepEntry_48 : decode cX9_keepEntry 48 = .ok (.iload_n 3, 1) := by decide +kernel
theorem dX9_keepEntry_49 : decode cX9_keepEntry 49 = .ok (.aload_n 0, 1) := by decide +kernel
theorem dX9_keepEntry_50 : decode cX9_keepEntry 50 = .ok (.getfield 26, 3) := by decide +kernel
theorem dX9_keepEntry_53 : decode cX9_keepEntry 53 = .ok (.isub, 1) := by decide +kernel
theorem dX9_keepEntry_54 : decode cX9_keepEntry 54 = .ok (.sipush 1280, 3) := by decide +kernel
theorem dX9_keepEntry_57 : decode cX9_keepEntry 57 = .ok (.imul, 1) := by decide +kernel
theorem dX9_keepEntry_58 : decode cX9_keepEntry 58 = .ok (.iload_n 1, 1) := by decide +kernel
theorem dX9_keepEntry_59 : decode cX9_keepEntry 59 = .ok (.iadd, 1) := by decide +kernel
theorem dX9_keepEntry_60 : decode cX9_keepEntry 60 = .ok (.iconst 2, 1) := by decide +kernel
theorem dX9_keepEntry_61 : decode cX9_keepEntry 61 = .ok (.imul, 1) := by decide +kernel
theorem dX9_keepEntry_62 : decode cX9_keepEntry 62 = .ok (.iload_n 2, 1) := by decide +kernel
theorem dX9_keepEntry_63 : decode cX9_keepEntry 63 = .ok (.ifCond .eq 7, 3) := by decide +kernel
theorem dX9_keepEntry_66 : decode cX9_keepEntry 66 = .ok (.iconst 1, 1) := by decide +kernel
theorem dX9_keepEntry_67 : decode cX9_keepEntry 67 = .ok (.goto 4, 3) := by decide +kernel
theorem dX9_keepEntry_70 : decode cX9_keepEntry 70 = .ok (.iconst 0, 1) := by decide +kernel
theorem dX9_keepEntry_71 : decode cX9_keepEntry 71 = .ok (.iadd, 1) := by decide +kernel
theorem dX9_keepEntry_72 : decode cX9_keepEntry 72 = .ok (.iastore, 1) := by decide +kernel
theorem dX9_keepEntry_73 : decode cX9_keepEntry 73 = .ok (.aload_n 0, 1) := by decide +kernel
theorem dX9_keepEntry_74 : decode cX9_keepEntry 74 = .ok (.dup, 1) := by decide +kernel
theorem dX9_keepEntry_75 : decode cX9_keepEntry 75 = .ok (.getfield 22, 3) := by decide +kernel
theorem dX9_keepEntry_78 : decode cX9_keepEntry 78 = .ok (.iconst 1, 1) := by decide +kernel
theorem dX9_keepEntry_79 : decode cX9_keepEntry 79 = .ok (.iadd, 1) := by decide +kernel
theorem dX9_keepEntry_80 : decode cX9_keepEntry 80 = .ok (.putfield 22, 3) := by decide +kernel
theorem dX9_keepEntry_83 : decode cX9_keepEntry 83 = .ok (.return_, 1) := by decide +kernel
theorem dX9_entryAt_0 : decode cX9_entryAt 0 = .ok (.iload_n 1, 1) := by decide +kernel
theorem dX9_entryAt_1 : decode cX9_entryAt 1 = .ok (.ifCond .lt 20, 3) := by decide +kernel
theorem dX9_entryAt_4 : decode cX9_entryAt 4 = .ok (.iload_n 1, 1) := by decide +kernel
theorem dX9_entryAt_5 : decode cX9_entryAt 5 = .ok (.aload_n 0, 1) := by decide +kernel
theorem dX9_entryAt_6 : decode cX9_entryAt 6 = .ok (.getfield 22, 3) := by decide +kernel
theorem dX9_entryAt_9 : decode cX9_entryAt 9 = .ok (.if_icmp .ge 12, 3) := by decide +kernel
theorem dX9_entryAt_12 : decode cX9_entryAt 12 = .ok (.iload_n 1, 1) := by decide +kernel
theorem dX9_entryAt_13 : decode cX9_entryAt 13 = .ok (.aload_n 0, 1) := by decide +kernel
theorem dX9_entryAt_14 : decode cX9_entryAt 14 = .ok (.getfield 18, 3) := by decide +kernel
theorem dX9_entryAt_17 : decode cX9_entryAt 17 = .ok (.arraylength, 1) := by decide +kernel
theorem dX9_entryAt_18 : decode cX9_entryAt 18 = .ok (.if_icmp .lt 7, 3) := by decide +kernel
theorem dX9_entryAt_21 : decode cX9_entryAt 21 = .ok (.iconst 0, 1) := by decide +kernel
theorem dX9_entryAt_22 : decode cX9_entryAt 22 = .ok (.goto 9, 3) := by decide +kernel
theorem dX9_entryAt_25 : decode cX9_entryAt 25 = .ok (.aload_n 0, 1) := by decide +kernel
theorem dX9_entryAt_26 : decode cX9_entryAt 26 = .ok (.getfield 18, 3) := by decide +kernel
theorem dX9_entryAt_29 : decode cX9_entryAt 29 = .ok (.iload_n 1, 1) := by decide +kernel
theorem dX9_entryAt_30 : decode cX9_entryAt 30 = .ok (.iaload, 1) := by decide +kernel
theorem dX9_entryAt_31 : decode cX9_entryAt 31 = .ok (.ireturn, 1) := by decide +kernel
theorem dX9_highCodeAt_0 : decode cX9_highCodeAt 0 = .ok (.aload_n 0, 1) := by decide +kernel
theorem dX9_highCodeAt_1 : decode cX9_highCodeAt 1 = .ok (.iload_n 1, 1) := by decide +kernel
theorem dX9_highCodeAt_2 : decode cX9_highCodeAt 2 = .ok (.invokevirtual 40, 3) := by decide +kernel
theorem dX9_highCodeAt_5 : decode cX9_highCodeAt 5 = .ok (.iconst 2, 1) := by decide +kernel
theorem dX9_highCodeAt_6 : decode cX9_highCodeAt 6 = .ok (.idiv, 1) := by decide +kernel
theorem dX9_highCodeAt_7 : decode cX9_highCodeAt 7 = .ok (.sipush 1280, 3) := by decide +kernel
theorem dX9_highCodeAt_10 : decode cX9_highCodeAt 10 = .ok (.irem, 1) := by decide +kernel
theorem dX9_highCodeAt_11 : decode cX9_highCodeAt 11 = .ok (.sipush 128, 3) := by decide +kernel
theorem dX9_highCodeAt_14 : decode cX9_highCodeAt 14 = .ok (.idiv, 1) := by decide +kernel
theorem dX9_highCodeAt_15 : decode cX9_highCodeAt 15 = .ok (.ireturn, 1) := by decide +kernel
theorem dX9_lowCodeAt_0 : decode cX9_lowCodeAt 0 = .ok (.aload_n 0, 1) := by decide +kernel
theorem dX9_lowCodeAt_1 : decode cX9_lowCodeAt 1 = .ok (.iload_n 1, 1) := by decide +kernel
theorem dX9_lowCodeAt_2 : decode cX9_lowCodeAt 2 = .ok (.invokevirtual 40, 3) := by decide +kernel
theorem dX9_lowCodeAt_5 : decode cX9_lowCodeAt 5 = .ok (.iconst 2, 1) := by decide +kernel
theorem dX9_lowCodeAt_6 : decode cX9_lowCodeAt 6 = .ok (.idiv, 1) := by decide +kernel
theorem dX9_lowCodeAt_7 : decode cX9_lowCodeAt 7 = .ok (.sipush 128, 3) := by decide +kernel
theorem dX9_lowCodeAt_10 : decode cX9_lowCodeAt 10 = .ok (.irem, 1) := by decide +kernel
theorem dX9_lowCodeAt_11 : decode cX9_lowCodeAt 11 = .ok (.ireturn, 1) := by decide +kernel
theorem dX9_isOnAt_0 : decode cX9_isOnAt 0 = .ok (.aload_n 0, 1) := by decide +kernel
theorem dX9_isOnAt_1 : decode cX9_isOnAt 1 = .ok (.iload_n 1, 1) := by decide +kernel
theorem dX9_isOnAt_2 : decode cX9_isOnAt 2 = .ok (.invokevirtual 40, 3) := by decide +kernel
theorem dX9_isOnAt_5 : decode cX9_isOnAt 5 = .ok (.iconst 2, 1) := by decide +kernel
theorem dX9_isOnAt_6 : decode cX9_isOnAt 6 = .ok (.irem, 1) := by decide +kernel
theorem dX9_isOnAt_7 : decode cX9_isOnAt 7 = .ok (.iconst 1, 1) := by decide +kernel
theorem dX9_isOnAt_8 : decode cX9_isOnAt 8 = .ok (.if_icmp .ne 7, 3) := by decide +kernel
theorem dX9_isOnAt_11 : decode cX9_isOnAt 11 = .ok (.iconst 1, 1) := by decide +kernel
theorem dX9_isOnAt_12 : decode cX9_isOnAt 12 = .ok (.goto 4, 3) := by decide +kernel
theorem dX9_isOnAt_15 : decode cX9_isOnAt 15 = .ok (.iconst 0, 1) := by decide +kernel
theorem dX9_isOnAt_16 : decode cX9_isOnAt 16 = .ok (.ireturn, 1) := by decide +kernel
theorem dX9_ticksBefore_0 : decode cX9_ticksBefore 0 = .ok (.iload_n 1, 1) := by decide +kernel
theorem dX9_ticksBefore_1 : decode cX9_ticksBefore 1 = .ok (.ifCond .gt 7, 3) := by decide +kernel
theorem dX9_ticksBefore_4 : decode cX9_ticksBefore 4 = .ok (.iconst 0, 1) := by decide +kernel
theorem dX9_ticksBefore_5 : decode cX9_ticksBefore 5 = .ok (.goto 28, 3) := by decide +kernel
theorem dX9_ticksBefore_8 : decode cX9_ticksBefore 8 = .ok (.aload_n 0, 1) := by decide +kernel
theorem dX9_ticksBefore_9 : decode cX9_ticksBefore 9 = .ok (.iload_n 1, 1) := by decide +kernel
theorem dX9_ticksBefore_10 : decode cX9_ticksBefore 10 = .ok (.invokevirtual 40, 3) := by decide +kernel
theorem dX9_ticksBefore_13 : decode cX9_ticksBefore 13 = .ok (.iconst 2, 1) := by decide +kernel
theorem dX9_ticksBefore_14 : decode cX9_ticksBefore 14 = .ok (.idiv, 1) := by decide +kernel
theorem dX9_ticksBefore_15 : decode cX9_ticksBefore 15 = .ok (.sipush 1280, 3) := by decide +kernel
theorem dX9_ticksBefore_18 : decode cX9_ticksBefore 18 = .ok (.idiv, 1) := by decide +kernel
theorem dX9_ticksBefore_19 : decode cX9_ticksBefore 19 = .ok (.aload_n 0, 1) := by decide +kernel
theorem dX9_ticksBefore_20 : decode cX9_ticksBefore 20 = .ok (.iload_n 1, 1) := by decide +kernel
theorem dX9_ticksBefore_21 : decode cX9_ticksBefore 21 = .ok (.iconst 1, 1) := by decide +kernel
theorem dX9_ticksBefore_22 : decode cX9_ticksBefore 22 = .ok (.isub, 1) := by decide +kernel
theorem dX9_ticksBefore_23 : decode cX9_ticksBefore 23 = .ok (.invokevirtual 40, 3) := by decide +kernel
theorem dX9_ticksBefore_26 : decode cX9_ticksBefore 26 = .ok (.iconst 2, 1) := by decide +kernel
theorem dX9_ticksBefore_27 : decode cX9_ticksBefore 27 = .ok (.idiv, 1) := by decide +kernel
theorem dX9_ticksBefore_28 : decode cX9_ticksBefore 28 = .ok (.sipush 1280, 3) := by decide +kernel
theorem dX9_ticksBefore_31 : decode cX9_ticksBefore 31 = .ok (.idiv, 1) := by decide +kernel
theorem dX9_ticksBefore_32 : decode cX9_ticksBefore 32 = .ok (.isub, 1) := by decide +kernel
theorem dX9_ticksBefore_33 : decode cX9_ticksBefore 33 = .ok (.ireturn, 1) := by decide +kernel
theorem dX10_init_0 : decode cX10_init 0 = .ok (.aload_n 0, 1) := by decide +kernel
theorem dX10_init_1 : decode cX10_init 1 = .ok (.invokespecial 3, 3) := by decide +kernel
theorem dX10_init_4 : decode cX10_init 4 = .ok (.aload_n 0, 1) := by decide +kernel
theorem dX10_init_5 : decode cX10_init 5 = .ok (.new 9, 3) := by decide +kernel
theorem dX10_init_8 : decode cX10_init 8 = .ok (.dup, 1) := by decide +kernel
theorem dX10_init_9 : decode cX10_init 9 = .ok (.invokespecial 11, 3) := by decide +kernel
theorem dX10_init_12 : decode cX10_init 12 = .ok (.putfield 12, 3) := by decide +kernel
theorem dX10_init_15 : decode cX10_init 15 = .ok (.aload_n 0, 1) := by decide +kernel
theorem dX10_init_16 : decode cX10_init 16 = .ok (.new 18, 3) := by decide +kernel
theorem dX10_init_19 : decode cX10_init 19 = .ok (.dup, 1) := by decide +kernel
theorem dX10_init_20 : decode cX10_init 20 = .ok (.invokespecial 20, 3) := by decide +kernel
theorem dX10_init_23 : decode cX10_init 23 = .ok (.putfield 21, 3) := by decide +kernel
theorem dX10_init_26 : decode cX10_init 26 = .ok (.aload_n 0, 1) := by decide +kernel
theorem dX10_init_27 : decode cX10_init 27 = .ok (.new 25, 3) := by decide +kernel
theorem dX10_init_30 : decode cX10_init 30 = .ok (.dup, 1) := by decide +kernel
theorem dX10_init_31 : decode cX10_init 31 = .ok (.invokespecial 27, 3) := by decide +kernel
theorem dX10_init_34 : decode cX10_init 34 = .ok (.putfield 28, 3) := by decide +kernel
theorem dX10_init_37 : decode cX10_init 37 = .ok (.aload_n 0, 1) := by decide +kernel
theorem dX10_init_38 : decode cX10_init 38 = .ok (.new 32, 3) := by decide +kernel
theorem dX10_init_41 : decode cX10_init 41 = .ok (.dup, 1) := by decide +kernel
theorem dX10_init_42 : decode cX10_init 42 = .ok (.invokespecial 34, 3) := by decide +kernel
theorem dX10_init_45 : decode cX10_init 45 = .ok (.putfield 35, 3) := by decide +kernel
theorem dX10_init_48 : decode cX10_init 48 = .ok (.aload_n 0, 1) := by decide +kernel
theorem dX10_init_49 : decode cX10_init 49 = .ok (.iconst 3, 1) := by decide +kernel
theorem dX10_init_50 : decode cX10_init 50 = .ok (.newarray .int, 2) := by decide +kernel
theorem dX10_init_52 : decode cX10_init 52 = .ok (.putfield 39, 3) := by decide +kernel
theorem dX10_init_55 : decode cX10_init 55 = .ok (.aload_n 0, 1) := by decide +kernel
theorem dX10_init_56 : decode cX10_init 56 = .ok (.iconst 3, 1) := by decide +kernel
theorem dX10_init_57 : decode cX10_init 57 = .ok (.newarray .int, 2) := by decide +kernel
theorem dX10_init_59 : decode cX10_init 59 = .ok (.putfield 43, 3) := by decide +kernel
theorem dX10_init_62 : decode cX10_init 62 = .ok (.aload_n 0, 1) := by decide +kernel
theorem dX10_init_63 : decode cX10_init 63 = .ok (.iconst 3, 1) := by decide +kernel
theorem dX10_init_64 : decode cX10_init 64 = .ok (.newarray .int, 2) := by decide +kernel
theorem dX10_init_66 : decode cX10_init 66 = .ok (.putfield 46, 3) := by decide +kernel
theorem dX10_init_69 : decode cX10_init 69 = .ok (.aload_n 0, 1) := by decide +kernel
theorem dX10_init_70 : decode cX10_init 70 = .ok (.bipush 12, 2) := by decide +kernel
theorem dX10_init_72 : decode cX10_init 72 = .ok (.newarray .int, 2) := by decide +kernel
theorem dX10_init_74 : decode cX10_init 74 = .ok (.putfield 49, 3) := by decide +kernel
theorem dX10_init_77 : decode cX10_init 77 = .ok (.aload_n 0, 1) := by decide +kernel
theorem dX10_init_78 : decode cX10_init 78 = .ok (.iconst 3, 1) := by decide +kernel
theorem dX10_init_79 : decode cX10_init 79 = .ok (.newarray .int, 2) := by decide +kernel
theorem dX10_init_81 : decode cX10_init 81 = .ok (.putfield 52, 3) := by decide +kernel
theorem dX10_init_84 : decode cX10_init 84 = .ok (.aload_n 0, 1) := by decide +kernel
theorem dX10_init_85 : decode cX10_init 85 = .ok (.sipush 183, 3) := by decide +kernel
theorem dX10_init_88 : decode cX10_init 88 = .ok (.newarray .int, 2) := by decide +kernel
theorem dX10_init_90 : decode cX10_init 90 = .ok (.putfield 55, 3) := by decide +kernel
theorem dX10_init_93 : decode cX10_init 93 = .ok (.aload_n 0, 1) := by decide +kernel
theorem dX10_init_94 : decode cX10_init 94 = .ok (.getfield 39, 3) := by decide +kernel
theorem dX10_init_97 : decode cX10_init 97 = .ok (.bipush 50, 2) := by decide +kernel
theorem dX10_init_99 : decode cX10_init 99 = .ok (.invokestatic 58, 3) := by decide +kernel
theorem dX10_init_102 : decode cX10_init 102 = .ok (.aload_n 0, 1) := by decide +kernel
theorem dX10_init_103 : decode cX10_init 103 = .ok (.getfield 43, 3) := by decide +kernel
theorem dX10_init_106 : decode cX10_init 106 = .ok (.bipush 100, 2) := by decide +kernel
theorem dX10_init_108 : decode cX10_init 108 = .ok (.invokestatic 58, 3) := by decide +kernel
theorem dX10_init_111 : decode cX10_init 111 = .ok (.aload_n 0, 1) := by decide +kernel
theorem dX10_init_112 : decode cX10_init 112 = .ok (.getfield 46, 3) := by decide +kernel
theorem dX10_init_115 : decode cX10_init 115 = .ok (.bipush 10, 2) := by decide +kernel
theorem dX10_init_117 : decode cX10_init 117 = .ok (.invokestatic 58, 3) := by decide +kernel
theorem dX10_init_120 : decode cX10_init 120 = .ok (.return_, 1) := by decide +kernel
theorem dX10_rankAt_0 : decode cX10_rankAt 0 = .ok (.iload_n 1, 1) := by decide +kernel
theorem dX10_rankAt_1 : decode cX10_rankAt 1 = .ok (.ifCond .lt 14, 3) := by decide +kernel
theorem dX10_rankAt_4 : decode cX10_rankAt 4 = .ok (.iload_n 1, 1) := by decide +kernel
theorem dX10_rankAt_5 : decode cX10_rankAt 5 = .ok (.aload_n 0, 1) := by decide +kernel
theorem dX10_rankAt_6 : decode cX10_rankAt 6 = .ok (.getfield 35, 3) := by decide +kernel
theorem dX10_rankAt_9 : decode cX10_rankAt 9 = .ok (.invokevirtual 64, 3) := by decide +kernel
theorem dX10_rankAt_12 : decode cX10_rankAt 12 = .ok (.if_icmp .lt 7, 3) := by decide +kernel
theorem dX10_rankAt_15 : decode cX10_rankAt 15 = .ok (.aconst_null, 1) := by decide +kernel
theorem dX10_rankAt_16 : decode cX10_rankAt 16 = .ok (.goto 14, 3) := by decide +kernel
theorem dX10_rankAt_19 : decode cX10_rankAt 19 = .ok (.aload_n 0, 1) := by decide +kernel
theorem dX10_rankAt_20 : decode cX10_rankAt 20 = .ok (.getfield 35, 3) := by decide +kernel
theorem dX10_rankAt_23 : decode cX10_rankAt 23 = .ok (.iload_n 1, 1) := by decide +kernel
theorem dX10_rankAt_24 : decode cX10_rankAt 24 = .ok (.invokevirtual 68, 3) := by decide +kernel
theorem dX10_rankAt_27 : decode cX10_rankAt 27 = .ok (.checkcast 72, 3) := by decide +kernel
theorem dX10_rankAt_30 : decode cX10_rankAt 30 = .ok (.areturn, 1) := by decide +kernel
theorem dX10_pipeAt_0 : decode cX10_pipeAt 0 = .ok (.iload_n 1, 1) := by decide +kernel
theorem dX10_pipeAt_1 : decode cX10_pipeAt 1 = .ok (.ifCond .lt 14, 3) := by decide +kernel
theorem dX10_pipeAt_4 : decode cX10_pipeAt 4 = .ok (.iload_n 1, 1) := by decide +kernel
theorem dX10_pipeAt_5 : decode cX10_pipeAt 5 = .ok (.aload_n 0, 1) := by decide +kernel
theorem dX10_pipeAt_6 : decode cX10_pipeAt 6 = .ok (.getfield 35, 3) := by decide +kernel
theorem dX10_pipeAt_9 : decode cX10_pipeAt 9 = .ok (.invokevirtual 64, 3) := by decide +kernel
theorem dX10_pipeAt_12 : decode cX10_pipeAt 12 = .ok (.if_icmp .lt 7, 3) := by decide +kernel
theorem dX10_pipeAt_15 : decode cX10_pipeAt 15 = .ok (.aconst_null, 1) := by decide +kernel
theorem dX10_pipeAt_16 : decode cX10_pipeAt 16 = .ok (.goto 14, 3) := by decide +kernel
theorem dX10_pipeAt_19 : decode cX10_pipeAt 19 = .ok (.aload_n 0, 1) := by decide +kernel
theorem dX10_pipeAt_20 : decode cX10_pipeAt 20 = .ok (.getfield 35, 3) := by decide +kernel
theorem dX10_pipeAt_23 : decode cX10_pipeAt 23 = .ok (.iload_n 1, 1) := by decide +kernel
theorem dX10_pipeAt_24 : decode cX10_pipeAt 24 = .ok (.invokevirtual 68, 3) := by decide +kernel
theorem dX10_pipeAt_27 : decode cX10_pipeAt 27 = .ok (.checkcast 72, 3) := by decide +kernel
theorem dX10_pipeAt_30 : decode cX10_pipeAt 30 = .ok (.astore_n 3, 1) := by decide +kernel
theorem dX10_pipeAt_31 : decode cX10_pipeAt 31 = .ok (.aload_n 3, 1) := by decide +kernel
theorem dX10_pipeAt_32 : decode cX10_pipeAt 32 = .ok (.ifnonnull 7, 3) := by decide +kernel
theorem dX10_pipeAt_35 : decode cX10_pipeAt 35 = .ok (.aconst_null, 1) := by decide +kernel
theorem dX10_pipeAt_36 : decode cX10_pipeAt 36 = .ok (.goto 8, 3) := by decide +kernel
theorem dX10_pipeAt_39 : decode cX10_pipeAt 39 = .ok (.aload_n 3, 1) := by decide +kernel
theorem dX10_pipeAt_40 : decode cX10_pipeAt 40 = .ok (.iload_n 2, 1) := by decide +kernel
theorem dX10_pipeAt_41 : decode cX10_pipeAt 41 = .ok (.invokevirtual 74, 3) := by decide +kernel
theorem dX10_pipeAt_44 : decode cX10_pipeAt 44 = .ok (.areturn, 1) := by decide +kernel
theorem dX10_settle_0 : decode cX10_settle 0 = .ok (.aload_n 0, 1) := by decide +kernel
theorem dX10_settle_1 : decode cX10_settle 1 = .ok (.getfield 21, 3) := by decide +kernel
theorem dX10_settle_4 : decode cX10_settle 4 = .ok (.aload_n 0, 1) := by decide +kernel
theorem dX10_settle_5 : decode cX10_settle 5 = .ok (.getfield 12, 3) := by decide +kernel
theorem dX10_settle_8 : decode cX10_settle 8 = .ok (.invokevirtual 78, 3) := by decide +kernel
theorem dX10_settle_11 : decode cX10_settle 11 = .ok (.aload_n 0, 1) := by decide +kernel
theorem dX10_settle_12 : decode cX10_settle 12 = .ok (.invokevirtual 82, 3) := by decide +kernel
theorem dX10_settle_15 : decode cX10_settle 15 = .ok (.aload_n 0, 1) := by decide +kernel
theorem dX10_settle_16 : decode cX10_settle 16 = .ok (.getfield 12, 3) := by decide +kernel
theorem dX10_settle_19 : decode cX10_settle 19 = .ok (.invokevirtual 85, 3) := by decide +kernel
theorem dX10_settle_22 : decode cX10_settle 22 = .ok (.ifCond .eq 11, 3) := by decide +kernel
theorem dX10_settle_25 : decode cX10_settle 25 = .ok (.aload_n 0, 1) := by decide +kernel
theorem dX10_settle_26 : decode cX10_settle 26 = .ok (.invokevirtual 89, 3) := by decide +kernel
theorem dX10_settle_29 : decode cX10_settle 29 = .ok (.aload_n 0, 1) := by decide +kernel
theorem dX10_settle_30 : decode cX10_settle 30 = .ok (.invokevirtual 92, 3) := by decide +kernel
theorem dX10_settle_33 : decode cX10_settle 33 = .ok (.aload_n 0, 1) := by decide +kernel
theorem dX10_settle_34 : decode cX10_settle 34 = .ok (.invokevirtual 95, 3) := by decide +kernel
theorem dX10_settle_37 : decode cX10_settle 37 = .ok (.aload_n 0, 1) := by decide +kernel
theorem dX10_settle_38 : decode cX10_settle 38 = .ok (.invokevirtual 98, 3) := by decide +kernel
theorem dX10_settle_41 : decode cX10_settle 41 = .ok (.aload_n 0, 1) := by decide +kernel
theorem dX10_settle_42 : decode cX10_settle 42 = .ok (.invokevirtual 101, 3) := by decide +kernel
theorem dX10_settle_45 : decode cX10_settle 45 = .ok (.return_, 1) := by decide +kernel
theorem dX10_passTicks_0 : decode cX10_passTicks 0 = .ok (.iconst 0, 1) := by decide +kernel
theorem dX10_passTicks_1 : decode cX10_passTicks 1 = .ok (.istore_n 2, 1) := by decide +kernel
theorem dX10_passTicks_2 : decode cX10_passTicks 2 = .ok (.iload_n 2, 1) := by decide +kernel
theorem dX10_passTicks_3 : decode cX10_passTicks 3 = .ok (.iload_n 1, 1) := by decide +kernel
theorem dX10_passTicks_4 : decode cX10_passTicks 4 = .ok (.if_icmp .ge 53, 3) := by decide +kernel
theorem dX10_passTicks_7 : decode cX10_passTicks 7 = .ok (.aload_n 0, 1) := by decide +kernel
theorem dX10_passTicks_8 : decode cX10_passTicks 8 = .ok (.dup, 1) := by decide +kernel
theorem dX10_passTicks_9 : decode cX10_passTicks 9 = .ok (.getfield 104, 3) := by decide +kernel
theorem dX10_passTicks_12 : decode cX10_passTicks 12 = .ok (.iconst 1, 1) := by decide +kernel
theorem dX10_passTicks_13 : decode cX10_passTicks 13 = .ok (.iadd, 1) := by decide +kernel
theorem dX10_passTicks_14 : decode cX10_passTicks 14 = .ok (.putfield 104, 3) := by decide +kernel
theorem dX10_passTicks_17 : decode cX10_passTicks 17 = .ok (.aload_n 0, 1) := by decide +kernel
theorem dX10_passTicks_18 : decode cX10_passTicks 18 = .ok (.getfield 108, 3) := by decide +kernel
theorem dX10_passTicks_21 : decode cX10_passTicks 21 = .ok (.ifCond .ne 19, 3) := by decide +kernel
theorem dX10_passTicks_24 : decode cX10_passTicks 24 = .ok (.aload_n 0, 1) := by decide +kernel
theorem dX10_passTicks_25 : decode cX10_passTicks 25 = .ok (.getfield 12, 3) := by decide +kernel
theorem dX10_passTicks_28 : decode cX10_passTicks 28 = .ok (.getfield 112, 3) := by decide +kernel
theorem dX10_passTicks_31 : decode cX10_passTicks 31 = .ok (.aload_n 0, 1) := by decide +kernel
theorem dX10_passTicks_32 : decode cX10_passTicks 32 = .ok (.getfield 104, 3) := by decide +kernel
theorem dX10_passTicks_35 : decode cX10_passTicks 35 = .ok (.iconst 1, 1) := by decide +kernel
theorem dX10_passTicks_36 : decode cX10_passTicks 36 = .ok (.isub, 1) := by decide +kernel
theorem dX10_passTicks_37 : decode cX10_passTicks 37 = .ok (.if_icmp .ne 10, 3) := by decide +kernel
theorem dX10_passTicks_40 : decode cX10_passTicks 40 = .ok (.aload_n 0, 1) := by decide +kernel
theorem dX10_passTicks_41 : decode cX10_passTicks 41 = .ok (.invokevirtual 115, 3) := by decide +kernel
theorem dX10_passTicks_44 : decode cX10_passTicks 44 = .ok (.goto 7, 3) := by decide +kernel
theorem dX10_passTicks_47 : decode cX10_passTicks 47 = .ok (.aload_n 0, 1) := by decide +kernel
theorem dX10_passTicks_48 : decode cX10_passTicks 48 = .ok (.invokevirtual 118, 3) := by decide +kernel
theorem dX10_passTicks_51 : decode cX10_passTicks 51 = .ok (.iinc 2 1, 3) := by decide +kernel
theorem dX10_passTicks_54 : decode cX10_passTicks 54 = .ok (.goto (-52), 3) := by decide +kernel
theorem dX10_passTicks_57 : decode cX10_passTicks 57 = .ok (.return_, 1) := by decide +kernel
theorem dX10_passIdly_0 : decode cX10_passIdly 0 = .ok (.aload_n 0, 1) := by decide +kernel
theorem dX10_passIdly_1 : decode cX10_passIdly 1 = .ok (.invokevirtual 121, 3) := by decide +kernel
theorem dX10_passIdly_4 : decode cX10_passIdly 4 = .ok (.istore_n 1, 1) := by decide +kernel
theorem dX10_passIdly_5 : decode cX10_passIdly 5 = .ok (.aload_n 0, 1) := by decide +kernel
theorem dX10_passIdly_6 : decode cX10_passIdly 6 = .ok (.invokevirtual 98, 3) := by decide +kernel
theorem dX10_passIdly_9 : decode cX10_passIdly 9 = .ok (.aload_n 0, 1) := by decide +kernel
theorem dX10_passIdly_10 : decode cX10_passIdly 10 = .ok (.invokevirtual 121, 3) := by decide +kernel
theorem dX10_passIdly_13 : decode cX10_passIdly 13 = .ok (.iload_n 1, 1) := by decide +kernel
theorem dX10_passIdly_14 : decode cX10_passIdly 14 = .ok (.if_icmp .eq 7, 3) := by decide +kernel
theorem dX10_passIdly_17 : decode cX10_passIdly 17 = .ok (.aload_n 0, 1) := by decide +kernel
theorem dX10_passIdly_18 : decode cX10_passIdly 18 = .ok (.invokevirtual 101, 3) := by decide +kernel
theorem dX10_passIdly_21 : decode cX10_passIdly 21 = .ok (.return_, 1) := by decide +kernel
theorem dX10_windless_0 : decode cX10_windless 0 = .ok (.iconst 0, 1) := by decide +kernel
theorem dX10_windless_1 : decode cX10_windless 1 = .ok (.istore_n 1, 1) := by decide +kernel
theorem dX10_windless_2 : decode cX10_windless 2 = .ok (.iconst 0, 1) := by decide +kernel
theorem dX10_windless_3 : decode cX10_windless 3 = .ok (.istore_n 2, 1) := by decide +kernel
theorem dX10_windless_4 : decode cX10_windless 4 = .ok (.iload_n 2, 1) := by decide +kernel
theorem dX10_windless_5 : decode cX10_windless 5 = .ok (.iconst 3, 1) := by decide +kernel
theorem dX10_windless_6 : decode cX10_windless 6 = .ok (.if_icmp .ge 24, 3) := by decide +kernel
theorem dX10_windless_9 : decode cX10_windless 9 = .ok (.aload_n 0, 1) := by decide +kernel
theorem dX10_windless_10 : decode cX10_windless 10 = .ok (.getfield 43, 3) := by decide +kernel
theorem dX10_windless_13 : decode cX10_windless 13 = .ok (.iload_n 2, 1) := by decide +kernel
theorem dX10_windless_14 : decode cX10_windless 14 = .ok (.iaload, 1) := by decide +kernel
theorem dX10_windless_15 : decode cX10_windless 15 = .ok (.ifCond .ne 9, 3) := by decide +kernel
theorem dX10_windless_18 : decode cX10_windless 18 = .ok (.iload_n 1, 1) := by decide +kernel
theorem dX10_windless_19 : decode cX10_windless 19 = .ok (.iconst 1, 1) := by decide +kernel
theorem dX10_windless_20 : decode cX10_windless 20 = .ok (.iload_n 2, 1) := by decide +kernel
theorem dX10_windless_21 : decode cX10_windless 21 = .ok (.ishl, 1) := by decide +kernel
theorem dX10_windless_22 : decode cX10_windless 22 = .ok (.ior, 1) := by decide +kernel
theorem dX10_windless_23 : decode cX10_windless 23 = .ok (.istore_n 1, 1) := by decide +kernel
theorem dX10_windless_24 : decode cX10_windless 24 = .ok (.iinc 2 1, 3) := by decide +kernel
theorem dX10_windless_27 : decode cX10_windless 27 = .ok (.goto (-23), 3) := by decide +kernel
theorem dX10_windless_30 : decode cX10_windless 30 = .ok (.iload_n 1, 1) := by decide +kernel
theorem dX10_windless_31 : decode cX10_windless 31 = .ok (.ireturn, 1) := by decide +kernel
theorem dX10_forgetReasons_0 : decode cX10_forgetReasons 0 = .ok (.iconst 0, 1) := by decide +kernel
theorem dX10_forgetReasons_1 : decode cX10_forgetReasons 1 = .ok (.istore_n 1, 1) := by decide +kernel
theorem dX10_forgetReasons_2 : decode cX10_forgetReasons 2 = .ok (.iload_n 1, 1) := by decide +kernel
theorem dX10_forgetReasons_3 : decode cX10_forgetReasons 3 = .ok (.aload_n 0, 1) := by decide +kernel
theorem dX10_forgetReasons_4 : decode cX10_forgetReasons 4 = .ok (.getfield 35, 3) := by decide +kernel
theorem dX10_forgetReasons_7 : decode cX10_forgetReasons 7 = .ok (.invokevirtual 64, 3) := by decide +kernel
theorem dX10_forgetReasons_10 : decode cX10_forgetReasons 10 = .ok (.if_icmp .ge 54, 3) := by decide +kernel
theorem dX10_forgetReasons_13 : decode cX10_forgetReasons 13 = .ok (.aload_n 0, 1) := by decide +kernel
theorem dX10_forgetReasons_14 : decode cX10_forgetReasons 14 = .ok (.getfield 35, 3) := by decide +kernel
theorem dX10_forgetReasons_17 : decode cX10_forgetReasons 17 = .ok (.iload_n 1, 1) := by decide +kernel
theorem dX10_forgetReasons_18 : decode cX10_forgetReasons 18 = .ok (.invokevirtual 68, 3) := by decide +kernel
theorem dX10_forgetReasons_21 : decode cX10_forgetReasons 21 = .ok (.checkcast 72, 3) := by decide +kernel
theorem dX10_forgetReasons_24 : decode cX10_forgetReasons 24 = .ok (.getfield 124, 3) := by decide +kernel
theorem dX10_forgetReasons_27 : decode cX10_forgetReasons 27 = .ok (.astore_n 2, 1) := by decide +kernel
theorem dX10_forgetReasons_28 : decode cX10_forgetReasons 28 = .ok (.aload_n 2, 1) := by decide +kernel
theorem dX10_forgetReasons_29 : decode cX10_forgetReasons 29 = .ok (.arraylength, 1) := by decide +kernel
theorem dX10_forgetReasons_30 : decode cX10_forgetReasons 30 = .ok (.istore_n 3, 1) := by decide +kernel
theorem dX10_forgetReasons_31 : decode cX10_forgetReasons 31 = .ok (.iconst 0, 1) := by decide +kernel
theorem dX10_forgetReasons_32 : decode cX10_forgetReasons 32 = .ok (.istore 4, 2) := by decide +kernel
theorem dX10_forgetReasons_34 : decode cX10_forgetReasons 34 = .ok (.iload 4, 2) := by decide +kernel
theorem dX10_forgetReasons_36 : decode cX10_forgetReasons 36 = .ok (.iload_n 3, 1) := by decide +kernel
theorem dX10_forgetReasons_37 : decode cX10_forgetReasons 37 = .ok (.if_icmp .ge 21, 3) := by decide +kernel
theorem dX10_forgetReasons_40 : decode cX10_forgetReasons 40 = .ok (.aload_n 2, 1) := by decide +kernel
theorem dX10_forgetReasons_41 : decode cX10_forgetReasons 41 = .ok (.iload 4, 2) := by decide +kernel
theorem dX10_forgetReasons_43 : decode cX10_forgetReasons 43 = .ok (.aaload, 1) := by decide +kernel
theorem dX10_forgetReasons_44 : decode cX10_forgetReasons 44 = .ok (.astore 5, 2) := by decide +kernel
theorem dX10_forgetReasons_46 : decode cX10_forgetReasons 46 = .ok (.aload 5, 2) := by decide +kernel
theorem dX10_forgetReasons_48 : decode cX10_forgetReasons 48 = .ok (.iconst 0, 1) := by decide +kernel
theorem dX10_forgetReasons_49 : decode cX10_forgetReasons 49 = .ok (.putfield 128, 3) := by decide +kernel
theorem dX10_forgetReasons_52 : decode cX10_forgetReasons 52 = .ok (.iinc 4 1, 3) := by decide +kernel
theorem dX10_forgetReasons_55 : decode cX10_forgetReasons 55 = .ok (.goto (-21), 3) := by decide +kernel
theorem dX10_forgetReasons_58 : decode cX10_forgetReasons 58 = .ok (.iinc 1 1, 3) := by decide +kernel
theorem dX10_forgetReasons_61 : decode cX10_forgetReasons 61 = .ok (.goto (-59), 3) := by decide +kernel
theorem dX10_forgetReasons_64 : decode cX10_forgetReasons 64 = .ok (.return_, 1) := by decide +kernel
theorem dX10_findWays_0 : decode cX10_findWays 0 = .ok (.aload_n 0, 1) := by decide +kernel
theorem dX10_findWays_1 : decode cX10_findWays 1 = .ok (.getfield 55, 3) := by decide +kernel
theorem dX10_findWays_4 : decode cX10_findWays 4 = .ok (.iconst 0, 1) := by decide +kernel
theorem dX10_findWays_5 : decode cX10_findWays 5 = .ok (.invokestatic 58, 3) := by decide +kernel
theorem dX10_findWays_8 : decode cX10_findWays 8 = .ok (.iconst 0, 1) := by decide +kernel
theorem dX10_findWays_9 : decode cX10_findWays 9 = .ok (.istore_n 1, 1) := by decide +kernel
theorem dX10_findWays_10 : decode cX10_findWays 10 = .ok (.iload_n 1, 1) := by decide +kernel
theorem dX10_findWays_11 : decode cX10_findWays 11 = .ok (.aload_n 0, 1) := by decide +kernel
theorem dX10_findWays_12 : decode cX10_findWays 12 = .ok (.getfield 21, 3) := by decide +kernel
theorem dX10_findWays_15 : decode cX10_findWays 15 = .ok (.getfield 133, 3) := by decide +kernel
theorem dX10_findWays_18 : decode cX10_findWays 18 = .ok (.invokevirtual 64, 3) := by decide +kernel
theorem dX10_findWays_21 : decode cX10_findWays 21 = .ok (.if_icmp .ge 109, 3) := by decide +kernel
theorem dX10_findWays_24 : decode cX10_findWays 24 = .ok (.aload_n 0, 1) := by decide +kernel
theorem dX10_findWays_25 : decode cX10_findWays 25 = .ok (.getfield 21, 3) := by decide +kernel
theorem dX10_findWays_28 : decode cX10_findWays 28 = .ok (.getfield 133, 3) := by decide +kernel
theorem dX10_findWays_31 : decode cX10_findWays 31 = .ok (.iload_n 1, 1) := by decide +kernel
theorem dX10_findWays_32 : decode cX10_findWays 32 = .ok (.invokevirtual 68, 3) := by decide +kernel
theorem dX10_findWays_35 : decode cX10_findWays 35 = .ok (.checkcast 136, 3) := by decide +kernel
theorem dX10_findWays_38 : decode cX10_findWays 38 = .ok (.astore_n 2, 1) := by decide +kernel
theorem dX10_findWays_39 : decode cX10_findWays 39 = .ok (.aload_n 2, 1) := by decide +kernel
theorem dX10_findWays_40 : decode cX10_findWays 40 = .ok (.getfield 138, 3) := by decide +kernel
theorem dX10_findWays_43 : decode cX10_findWays 43 = .ok (.astore_n 3, 1) := by decide +kernel
theorem dX10_findWays_44 : decode cX10_findWays 44 = .ok (.iconst 0, 1) := by decide +kernel
theorem dX10_findWays_45 : decode cX10_findWays 45 = .ok (.istore 4, 2) := by decide +kernel
theorem dX10_findWays_47 : decode cX10_findWays 47 = .ok (.aload_n 3, 1) := by decide +kernel
theorem dX10_findWays_48 : decode cX10_findWays 48 = .ok (.ifnull 76, 3) := by decide +kernel
theorem dX10_findWays_51 : decode cX10_findWays 51 = .ok (.aload_n 0, 1) := by decide +kernel
theorem dX10_findWays_52 : decode cX10_findWays 52 = .ok (.getfield 21, 3) := by decide +kernel
theorem dX10_findWays_55 : decode cX10_findWays 55 = .ok (.aload_n 2, 1) := by decide +kernel
theorem dX10_findWays_56 : decode cX10_findWays 56 = .ok (.invokevirtual 142, 3) := by decide +kernel
theorem dX10_findWays_59 : decode cX10_findWays 59 = .ok (.ifCond .eq 65, 3) := by decide +kernel
theorem dX10_findWays_62 : decode cX10_findWays 62 = .ok (.iload 4, 2) := by decide +kernel
theorem dX10_findWays_64 : decode cX10_findWays 64 = .ok (.bipush 61, 2) := by decide +kernel
theorem dX10_findWays_66 : decode cX10_findWays 66 = .ok (.if_icmp .ge 58, 3) := by decide +kernel
theorem dX10_findWays_69 : decode cX10_findWays 69 = .ok (.aload_n 3, 1) := by decide +kernel
theorem dX10_findWays_70 : decode cX10_findWays 70 = .ok (.getfield 146, 3) := by decide +kernel
theorem dX10_findWays_73 : decode cX10_findWays 73 = .ok (.iload 4, 2) := by decide +kernel
theorem dX10_findWays_75 : decode cX10_findWays 75 = .ok (.aload_n 3, 1) := by decide +kernel
theorem dX10_findWays_76 : decode cX10_findWays 76 = .ok (.getfield 151, 3) := by decide +kernel
theorem dX10_findWays_79 : decode cX10_findWays 79 = .ok (.iadd, 1) := by decide +kernel
theorem dX10_findWays_80 : decode cX10_findWays 80 = .ok (.invokestatic 154, 3) := by decide +kernel
theorem dX10_findWays_83 : decode cX10_findWays 83 = .ok (.istore 5, 2) := by decide +kernel
theorem dX10_findWays_85 : decode cX10_findWays 85 = .ok (.iload 5, 2) := by decide +kernel
theorem dX10_findWays_87 : decode cX10_findWays 87 = .ok (.ifCond .lt 31, 3) := by decide +kernel
theorem dX10_findWays_90 : decode cX10_findWays 90 = .ok (.aload_n 3, 1) := by decide +kernel
theorem dX10_findWays_91 : decode cX10_findWays 91 = .ok (.iload 4, 2) := by decide +kernel
theorem dX10_findWays_93 : decode cX10_findWays 93 = .ok (.aload_n 0, 1) := by decide +kernel
theorem dX10_findWays_94 : decode cX10_findWays 94 = .ok (.getfield 12, 3) := by decide +kernel
theorem dX10_findWays_97 : decode cX10_findWays 97 = .ok (.aload_n 0, 1) := by decide +kernel
theorem dX10_findWays_98 : decode cX10_findWays 98 = .ok (.getfield 104, 3) := by decide +kernel
theorem dX10_findWays_101 : decode cX10_findWays 101 = .ok (.invokevirtual 158, 3) := by decide +kernel
theorem dX10_findWays_104 : decode cX10_findWays 104 = .ok (.ifCond .eq 14, 3) := by decide +kernel
theorem dX10_findWays_107 : decode cX10_findWays 107 = .ok (.aload_n 0, 1) := by decide +kernel
theorem dX10_findWays_108 : decode cX10_findWays 108 = .ok (.getfield 55, 3) := by decide +kernel
theorem dX10_findWays_111 : decode cX10_findWays 111 = .ok (.iload 5, 2) := by decide +kernel
theorem dX10_findWays_113 : decode cX10_findWays 113 = .ok (.dup2, 1) := by decide +kernel
theorem dX10_findWays_114 : decode cX10_findWays 114 = .ok (.iaload, 1) := by decide +kernel
theorem dX10_findWays_115 : decode cX10_findWays 115 = .ok (.iconst 1, 1) := by decide +kernel
theorem dX10_findWays_116 : decode cX10_findWays 116 = .ok (.iadd, 1) := by decide +kernel
theorem dX10_findWays_117 : decode cX10_findWays 117 = .ok (.iastore, 1) := by decide +kernel
theorem dX10_findWays_118 : decode cX10_findWays 118 = .ok (.iinc 4 1, 3) := by decide +kernel
theorem dX10_findWays_121 : decode cX10_findWays 121 = .ok (.goto (-74), 3) := by decide +kernel
theorem dX10_findWays_124 : decode cX10_findWays 124 = .ok (.iinc 1 1, 3) := by decide +kernel
theorem dX10_findWays_127 : decode cX10_findWays 127 = .ok (.goto (-117), 3) := by decide +kernel
theorem dX10_findWays_130 : decode cX10_findWays 130 = .ok (.return_, 1) := by decide +kernel
theorem dX10_findReasons_0 : decode cX10_findReasons 0 = .ok (.iconst 0, 1) := by decide +kernel
theorem dX10_findReasons_1 : decode cX10_findReasons 1 = .ok (.istore_n 1, 1) := by decide +kernel
theorem dX10_findReasons_2 : decode cX10_findReasons 2 = .ok (.iload_n 1, 1) := by decide +kernel
theorem dX10_findReasons_3 : decode cX10_findReasons 3 = .ok (.aload_n 0, 1) := by decide +kernel
theorem dX10_findReasons_4 : decode cX10_findReasons 4 = .ok (.getfield 21, 3) := by decide +kernel
theorem dX10_findReasons_7 : decode cX10_findReasons 7 = .ok (.getfield 133, 3) := by decide +kernel
theorem dX10_findReasons_10 : decode cX10_findReasons 10 = .ok (.invokevirtual 64, 3) := by decide +kernel
theorem dX10_findReasons_13 : decode cX10_findReasons 13 = .ok (.if_icmp .ge 54, 3) := by decide +kernel
theorem dX10_findReasons_16 : decode cX10_findReasons 16 = .ok (.aload_n 0, 1) := by decide +kernel
theorem dX10_findReasons_17 : decode cX10_findReasons 17 = .ok (.getfield 21, 3) := by decide +kernel
theorem dX10_findReasons_20 : decode cX10_findReasons 20 = .ok (.getfield 133, 3) := by decide +kernel
theorem dX10_findReasons_23 : decode cX10_findReasons 23 = .ok (.iload_n 1, 1) := by decide +kernel
theorem dX10_findReasons_24 : decode cX10_findReasons 24 = .ok (.invokevirtual 68, 3) := by decide +kernel
theorem dX10_findReasons_27 : decode cX10_findReasons 27 = .ok (.checkcast 136, 3) := by decide +kernel
theorem dX10_findReasons_30 : decode cX10_findReasons 30 = .ok (.astore_n 2, 1) := by decide +kernel
theorem dX10_findReasons_31 : decode cX10_findReasons 31 = .ok (.aload_n 2, 1) := by decide +kernel
theorem dX10_findReasons_32 : decode cX10_findReasons 32 = .ok (.getfield 162, 3) := by decide +kernel
theorem dX10_findReasons_35 : decode cX10_findReasons 35 = .ok (.ifnull 26, 3) := by decide +kernel
theorem dX10_findReasons_38 : decode cX10_findReasons 38 = .ok (.aload_n 0, 1) := by decide +kernel
theorem dX10_findReasons_39 : decode cX10_findReasons 39 = .ok (.getfield 21, 3) := by decide +kernel
theorem dX10_findReasons_42 : decode cX10_findReasons 42 = .ok (.aload_n 2, 1) := by decide +kernel
theorem dX10_findReasons_43 : decode cX10_findReasons 43 = .ok (.invokevirtual 166, 3) := by decide +kernel
theorem dX10_findReasons_46 : decode cX10_findReasons 46 = .ok (.ifCond .eq 15, 3) := by decide +kernel
theorem dX10_findReasons_49 : decode cX10_findReasons 49 = .ok (.aload_n 0, 1) := by decide +kernel
theorem dX10_findReasons_50 : decode cX10_findReasons 50 = .ok (.aload_n 2, 1) := by decide +kernel
theorem dX10_findReasons_51 : decode cX10_findReasons 51 = .ok (.getfield 162, 3) := by decide +kernel
theorem dX10_findReasons_54 : decode cX10_findReasons 54 = .ok (.aload_n 2, 1) := by decide +kernel
theorem dX10_findReasons_55 : decode cX10_findReasons 55 = .ok (.getfield 169, 3) := by decide +kernel
theorem dX10_findReasons_58 : decode cX10_findReasons 58 = .ok (.invokevirtual 172, 3) := by decide +kernel
theorem dX10_findReasons_61 : decode cX10_findReasons 61 = .ok (.iinc 1 1, 3) := by decide +kernel
theorem dX10_findReasons_64 : decode cX10_findReasons 64 = .ok (.goto (-62), 3) := by decide +kernel
theorem dX10_findReasons_67 : decode cX10_findReasons 67 = .ok (.return_, 1) := by decide +kernel
theorem dX10_addReasons_0 : decode cX10_addReasons 0 = .ok (.iconst 0, 1) := by decide +kernel
theorem dX10_addReasons_1 : decode cX10_addReasons 1 = .ok (.istore_n 3, 1) := by decide +kernel
theorem dX10_addReasons_2 : decode cX10_addReasons 2 = .ok (.iload_n 3, 1) := by decide +kernel
theorem dX10_addReasons_3 : decode cX10_addReasons 3 = .ok (.iload_n 2, 1) := by decide +kernel
theorem dX10_addReasons_4 : decode cX10_addReasons 4 = .ok (.invokestatic 176, 3) := by decide +kernel
theorem dX10_addReasons_7 : decode cX10_addReasons 7 = .ok (.if_icmp .ge 93, 3) := by decide +kernel
theorem dX10_addReasons_10 : decode cX10_addReasons 10 = .ok (.iload_n 2, 1) := by decide +kernel
theorem dX10_addReasons_11 : decode cX10_addReasons 11 = .ok (.iload_n 3, 1) := by decide +kernel
theorem dX10_addReasons_12 : decode cX10_addReasons 12 = .ok (.invokestatic 154, 3) := by decide +kernel
theorem dX10_addReasons_15 : decode cX10_addReasons 15 = .ok (.istore 4, 2) := by decide +kernel
theorem dX10_addReasons_17 : decode cX10_addReasons 17 = .ok (.iload 4, 2) := by decide +kernel
theorem dX10_addReasons_19 : decode cX10_addReasons 19 = .ok (.ifCond .ge 7, 3) := by decide +kernel
theorem dX10_addReasons_22 : decode cX10_addReasons 22 = .ok (.iconst 0, 1) := by decide +kernel
theorem dX10_addReasons_23 : decode cX10_addReasons 23 = .ok (.goto 10, 3) := by decide +kernel
theorem dX10_addReasons_26 : decode cX10_addReasons 26 = .ok (.aload_n 0, 1) := by decide +kernel
theorem dX10_addReasons_27 : decode cX10_addReasons 27 = .ok (.getfield 55, 3) := by decide +kernel
theorem dX10_addReasons_30 : decode cX10_addReasons 30 = .ok (.iload 4, 2) := by decide +kernel
theorem dX10_addReasons_32 : decode cX10_addReasons 32 = .ok (.iaload, 1) := by decide +kernel
theorem dX10_addReasons_33 : decode cX10_addReasons 33 = .ok (.istore 5, 2) := by decide +kernel
theorem dX10_addReasons_35 : decode cX10_addReasons 35 = .ok (.iconst 0, 1) := by decide +kernel
theorem dX10_addReasons_36 : decode cX10_addReasons 36 = .ok (.istore 6, 2) := by decide +kernel
theorem dX10_addReasons_38 : decode cX10_addReasons 38 = .ok (.iload 5, 2) := by decide +kernel
theorem dX10_addReasons_40 : decode cX10_addReasons 40 = .ok (.ifCond .le 54, 3) := by decide +kernel
theorem dX10_addReasons_43 : decode cX10_addReasons 43 = .ok (.iload 6, 2) := by decide +kernel
theorem dX10_addReasons_45 : decode cX10_addReasons 45 = .ok (.aload_n 1, 1) := by decide +kernel
theorem dX10_addReasons_46 : decode cX10_addReasons 46 = .ok (.getfield 180, 3) := by decide +kernel
theorem dX10_addReasons_49 : decode cX10_addReasons 49 = .ok (.if_icmp .ge 45, 3) := by decide +kernel
theorem dX10_addReasons_52 : decode cX10_addReasons 52 = .ok (.aload_n 0, 1) := by decide +kernel
theorem dX10_addReasons_53 : decode cX10_addReasons 53 = .ok (.aload_n 1, 1) := by decide +kernel
theorem dX10_addReasons_54 : decode cX10_addReasons 54 = .ok (.iload 6, 2) := by decide +kernel
theorem dX10_addReasons_56 : decode cX10_addReasons 56 = .ok (.invokevirtual 185, 3) := by decide +kernel
theorem dX10_addReasons_59 : decode cX10_addReasons 59 = .ok (.aload_n 1, 1) := by decide +kernel
theorem dX10_addReasons_60 : decode cX10_addReasons 60 = .ok (.iload 6, 2) := by decide +kernel
theorem dX10_addReasons_62 : decode cX10_addReasons 62 = .ok (.iload_n 3, 1) := by decide +kernel
theorem dX10_addReasons_63 : decode cX10_addReasons 63 = .ok (.invokevirtual 188, 3) := by decide +kernel
theorem dX10_addReasons_66 : decode cX10_addReasons 66 = .ok (.invokevirtual 191, 3) := by decide +kernel
theorem dX10_addReasons_69 : decode cX10_addReasons 69 = .ok (.astore 7, 2) := by decide +kernel
theorem dX10_addReasons_71 : decode cX10_addReasons 71 = .ok (.aload 7, 2) := by decide +kernel
theorem dX10_addReasons_73 : decode cX10_addReasons 73 = .ok (.ifnull 15, 3) := by decide +kernel
theorem dX10_addReasons_76 : decode cX10_addReasons 76 = .ok (.aload 7, 2) := by decide +kernel
theorem dX10_addReasons_78 : decode cX10_addReasons 78 = .ok (.dup, 1) := by decide +kernel
theorem dX10_addReasons_79 : decode cX10_addReasons 79 = .ok (.getfield 128, 3) := by decide +kernel
theorem dX10_addReasons_82 : decode cX10_addReasons 82 = .ok (.iload 5, 2) := by decide +kernel
theorem dX10_addReasons_84 : decode cX10_addReasons 84 = .ok (.iadd, 1) := by decide +kernel
theorem dX10_addReasons_85 : decode cX10_addReasons 85 = .ok (.putfield 128, 3) := by decide +kernel
theorem dX10_addReasons_88 : decode cX10_addReasons 88 = .ok (.iinc 6 1, 3) := by decide +kernel
theorem dX10_addReasons_91 : decode cX10_addReasons 91 = .ok (.goto (-53), 3) := by decide +kernel
theorem dX10_addReasons_94 : decode cX10_addReasons 94 = .ok (.iinc 3 1, 3) := by decide +kernel
theorem dX10_addReasons_97 : decode cX10_addReasons 97 = .ok (.goto (-95), 3) := by decide +kernel
theorem dX10_addReasons_100 : decode cX10_addReasons 100 = .ok (.return_, 1) := by decide +kernel
theorem dX10_reasonsAlone_0 : decode cX10_reasonsAlone 0 = .ok (.aload_n 0, 1) := by decide +kernel
theorem dX10_reasonsAlone_1 : decode cX10_reasonsAlone 1 = .ok (.iload_n 1, 1) := by decide +kernel
theorem dX10_reasonsAlone_2 : decode cX10_reasonsAlone 2 = .ok (.iload_n 2, 1) := by decide +kernel
theorem dX10_reasonsAlone_3 : decode cX10_reasonsAlone 3 = .ok (.invokevirtual 191, 3) := by decide +kernel
theorem dX10_reasonsAlone_6 : decode cX10_reasonsAlone 6 = .ok (.astore_n 3, 1) := by decide +kernel
theorem dX10_reasonsAlone_7 : decode cX10_reasonsAlone 7 = .ok (.aload_n 3, 1) := by decide +kernel
theorem dX10_reasonsAlone_8 : decode cX10_reasonsAlone 8 = .ok (.ifnull 14, 3) := by decide +kernel
theorem dX10_reasonsAlone_11 : decode cX10_reasonsAlone 11 = .ok (.aload_n 3, 1) := by decide +kernel
theorem dX10_reasonsAlone_12 : decode cX10_reasonsAlone 12 = .ok (.getfield 195, 3) := by decide +kernel
theorem dX10_reasonsAlone_15 : decode cX10_reasonsAlone 15 = .ok (.ifCond .eq 7, 3) := by decide +kernel
theorem dX10_reasonsAlone_18 : decode cX10_reasonsAlone 18 = .ok (.iconst 1, 1) := by decide +kernel
theorem dX10_reasonsAlone_19 : decode cX10_reasonsAlone 19 = .ok (.goto 4, 3) := by decide +kernel
theorem dX10_reasonsAlone_22 : decode cX10_reasonsAlone 22 = .ok (.iconst 0, 1) := by decide +kernel
theorem dX10_reasonsAlone_23 : decode cX10_reasonsAlone 23 = .ok (.istore 4, 2) := by decide +kernel
theorem dX10_reasonsAlone_25 : decode cX10_reasonsAlone 25 = .ok (.iconst 0, 1) := by decide +kernel
theorem dX10_reasonsAlone_26 : decode cX10_reasonsAlone 26 = .ok (.istore 5, 2) := by decide +kernel
theorem dX10_reasonsAlone_28 : decode cX10_reasonsAlone 28 = .ok (.iload 5, 2) := by decide +kernel
theorem dX10_reasonsAlone_30 : decode cX10_reasonsAlone 30 = .ok (.aload_n 0, 1) := by decide +kernel
theorem dX10_reasonsAlone_31 : decode cX10_reasonsAlone 31 = .ok (.getfield 21, 3) := by decide +kernel
theorem dX10_reasonsAlone_34 : decode cX10_reasonsAlone 34 = .ok (.getfield 133, 3) := by decide +kernel
theorem dX10_reasonsAlone_37 : decode cX10_reasonsAlone 37 = .ok (.invokevirtual 64, 3) := by decide +kernel
theorem dX10_reasonsAlone_40 : decode cX10_reasonsAlone 40 = .ok (.if_icmp .ge 134, 3) := by decide +kernel
theorem dX10_reasonsAlone_43 : decode cX10_reasonsAlone 43 = .ok (.aload_n 0, 1) := by decide +kernel
theorem dX10_reasonsAlone_44 : decode cX10_reasonsAlone 44 = .ok (.getfield 21, 3) := by decide +kernel
theorem dX10_reasonsAlone_47 : decode cX10_reasonsAlone 47 = .ok (.getfield 133, 3) := by decide +kernel
theorem dX10_reasonsAlone_50 : decode cX10_reasonsAlone 50 = .ok (.iload 5, 2) := by decide +kernel
theorem dX10_reasonsAlone_52 : decode cX10_reasonsAlone 52 = .ok (.invokevirtual 68, 3) := by decide +kernel
theorem dX10_reasonsAlone_55 : decode cX10_reasonsAlone 55 = .ok (.checkcast 136, 3) := by decide +kernel
theorem dX10_reasonsAlone_58 : decode cX10_reasonsAlone 58 = .ok (.astore 6, 2) := by decide +kernel
theorem dX10_reasonsAlone_60 : decode cX10_reasonsAlone 60 = .ok (.aload 6, 2) := by decide +kernel
theorem dX10_reasonsAlone_62 : decode cX10_reasonsAlone 62 = .ok (.getfield 162, 3) := by decide +kernel
theorem dX10_reasonsAlone_65 : decode cX10_reasonsAlone 65 = .ok (.astore 7, 2) := by decide +kernel
theorem dX10_reasonsAlone_67 : decode cX10_reasonsAlone 67 = .ok (.iconst 0, 1) := by decide +kernel
theorem dX10_reasonsAlone_68 : decode cX10_reasonsAlone 68 = .ok (.istore 8, 2) := by decide +kernel
theorem dX10_reasonsAlone_70 : decode cX10_reasonsAlone 70 = .ok (.aload 7, 2) := by decide +kernel
theorem dX10_reasonsAlone_72 : decode cX10_reasonsAlone 72 = .ok (.ifnull 96, 3) := by decide +kernel
theorem dX10_reasonsAlone_75 : decode cX10_reasonsAlone 75 = .ok (.iload 8, 2) := by decide +kernel
theorem dX10_reasonsAlone_77 : decode cX10_reasonsAlone 77 = .ok (.aload 7, 2) := by decide +kernel
theorem dX10_reasonsAlone_79 : decode cX10_reasonsAlone 79 = .ok (.getfield 180, 3) := by decide +kernel
theorem dX10_reasonsAlone_82 : decode cX10_reasonsAlone 82 = .ok (.if_icmp .ge 86, 3) := by decide +kernel
theorem dX10_reasonsAlone_85 : decode cX10_reasonsAlone 85 = .ok (.aload 7, 2) := by decide +kernel
theorem dX10_reasonsAlone_87 : decode cX10_reasonsAlone 87 = .ok (.iload 8, 2) := by decide +kernel
theorem dX10_reasonsAlone_89 : decode cX10_reasonsAlone 89 = .ok (.invokevirtual 185, 3) := by decide +kernel
theorem dX10_reasonsAlone_92 : decode cX10_reasonsAlone 92 = .ok (.iload_n 1, 1) := by decide +kernel
theorem dX10_reasonsAlone_93 : decode cX10_reasonsAlone 93 = .ok (.if_icmp .ne 14, 3) := by decide +kernel
theorem dX10_reasonsAlone_96 : decode cX10_reasonsAlone 96 = .ok (.aload 7, 2) := by decide +kernel
theorem dX10_reasonsAlone_98 : decode cX10_reasonsAlone 98 = .ok (.iload 8, 2) := by decide +kernel
theorem dX10_reasonsAlone_100 : decode cX10_reasonsAlone 100 = .ok (.iload_n 2, 1) := by decide +kernel
theorem dX10_reasonsAlone_101 : decode cX10_reasonsAlone 101 = .ok (.invokevirtual 198, 3) := by decide +kernel
theorem dX10_reasonsAlone_104 : decode cX10_reasonsAlone 104 = .ok (.goto 4, 3) := by decide +kernel
theorem dX10_reasonsAlone_107 : decode cX10_reasonsAlone 107 = .ok (.iconst (-1), 1) := by decide +kernel
theorem dX10_reasonsAlone_108 : decode cX10_reasonsAlone 108 = .ok (.istore 9, 2) := by decide +kernel
theorem dX10_reasonsAlone_110 : decode cX10_reasonsAlone 110 = .ok (.aload 6, 2) := by decide +kernel
theorem dX10_reasonsAlone_112 : decode cX10_reasonsAlone 112 = .ok (.getfield 169, 3) := by decide +kernel
theorem dX10_reasonsAlone_115 : decode cX10_reasonsAlone 115 = .ok (.iload 9, 2) := by decide +kernel
theorem dX10_reasonsAlone_117 : decode cX10_reasonsAlone 117 = .ok (.invokestatic 154, 3) := by decide +kernel
theorem dX10_reasonsAlone_120 : decode cX10_reasonsAlone 120 = .ok (.ifCond .lt 42, 3) := by decide +kernel
theorem dX10_reasonsAlone_123 : decode cX10_reasonsAlone 123 = .ok (.aload_n 0, 1) := by decide +kernel
theorem dX10_reasonsAlone_124 : decode cX10_reasonsAlone 124 = .ok (.getfield 21, 3) := by decide +kernel
theorem dX10_reasonsAlone_127 : decode cX10_reasonsAlone 127 = .ok (.aload 6, 2) := by decide +kernel
theorem dX10_reasonsAlone_129 : decode cX10_reasonsAlone 129 = .ok (.invokevirtual 166, 3) := by decide +kernel
theorem dX10_reasonsAlone_132 : decode cX10_reasonsAlone 132 = .ok (.ifCond .eq 30, 3) := by decide +kernel
theorem dX10_reasonsAlone_135 : decode cX10_reasonsAlone 135 = .ok (.iload 4, 2) := by decide +kernel
theorem dX10_reasonsAlone_137 : decode cX10_reasonsAlone 137 = .ok (.aload_n 0, 1) := by decide +kernel
theorem dX10_reasonsAlone_138 : decode cX10_reasonsAlone 138 = .ok (.getfield 21, 3) := by decide +kernel
theorem dX10_reasonsAlone_141 : decode cX10_reasonsAlone 141 = .ok (.aload 6, 2) := by decide +kernel
theorem dX10_reasonsAlone_143 : decode cX10_reasonsAlone 143 = .ok (.getfield 169, 3) := by decide +kernel
theorem dX10_reasonsAlone_146 : decode cX10_reasonsAlone 146 = .ok (.iload 9, 2) := by decide +kernel
theorem dX10_reasonsAlone_148 : decode cX10_reasonsAlone 148 = .ok (.aload_n 0, 1) := by decide +kernel
theorem dX10_reasonsAlone_149 : decode cX10_reasonsAlone 149 = .ok (.getfield 12, 3) := by decide +kernel
theorem dX10_reasonsAlone_152 : decode cX10_reasonsAlone 152 = .ok (.aload_n 0, 1) := by decide +kernel
theorem dX10_reasonsAlone_153 : decode cX10_reasonsAlone 153 = .ok (.getfield 104, 3) := by decide +kernel
theorem dX10_reasonsAlone_156 : decode cX10_reasonsAlone 156 = .ok (.invokevirtual 201, 3) := by decide +kernel
theorem dX10_reasonsAlone_159 : decode cX10_reasonsAlone 159 = .ok (.iadd, 1) := by decide +kernel
theorem dX10_reasonsAlone_160 : decode cX10_reasonsAlone 160 = .ok (.istore 4, 2) := by decide +kernel
theorem dX10_reasonsAlone_162 : decode cX10_reasonsAlone 162 = .ok (.iinc 8 1, 3) := by decide +kernel
theorem dX10_reasonsAlone_165 : decode cX10_reasonsAlone 165 = .ok (.goto (-95), 3) := by decide +kernel
theorem dX10_reasonsAlone_168 : decode cX10_reasonsAlone 168 = .ok (.iinc 5 1, 3) := by decide +kernel
theorem dX10_reasonsAlone_171 : decode cX10_reasonsAlone 171 = .ok (.goto (-143), 3) := by decide +kernel
theorem dX10_reasonsAlone_174 : decode cX10_reasonsAlone 174 = .ok (.iload 4, 2) := by decide +kernel
theorem dX10_reasonsAlone_176 : decode cX10_reasonsAlone 176 = .ok (.ireturn, 1) := by decide +kernel
theorem dX10_movePallets_0 : decode cX10_movePallets 0 = .ok (.aload_n 0, 1) := by decide +kernel
theorem dX10_movePallets_1 : decode cX10_movePallets 1 = .ok (.iconst 0, 1) := by decide +kernel
theorem dX10_movePallets_2 : decode cX10_movePallets 2 = .ok (.putfield 108, 3) := by decide +kernel
theorem dX10_movePallets_5 : decode cX10_movePallets 5 = .ok (.aload_n 0, 1) := by decide +kernel
theorem dX10_movePallets_6 : decode cX10_movePallets 6 = .ok (.getfield 52, 3) := by decide +kernel
theorem dX10_movePallets_9 : decode cX10_movePallets 9 = .ok (.iconst 0, 1) := by decide +kernel
theorem dX10_movePallets_10 : decode cX10_movePallets 10 = .ok (.invokestatic 58, 3) := by decide +kernel
theorem dX10_movePallets_13 : decode cX10_movePallets 13 = .ok (.iconst 0, 1) := by decide +kernel
theorem dX10_movePallets_14 : decode cX10_movePallets 14 = .ok (.istore_n 1, 1) := by decide +kernel
theorem dX10_movePallets_15 : decode cX10_movePallets 15 = .ok (.iload_n 1, 1) := by decide +kernel
theorem dX10_movePallets_16 : decode cX10_movePallets 16 = .ok (.aload_n 0, 1) := by decide +kernel
theorem dX10_movePallets_17 : decode cX10_movePallets 17 = .ok (.getfield 35, 3) := by decide +kernel
theorem dX10_movePallets_20 : decode cX10_movePallets 20 = .ok (.invokevirtual 64, 3) := by decide +kernel
theorem dX10_movePallets_23 : decode cX10_movePallets 23 = .ok (.if_icmp .ge 178, 3) := by decide +kernel
theorem dX10_movePallets_26 : decode cX10_movePallets 26 = .ok (.aload_n 0, 1) := by decide +kernel
theorem dX10_movePallets_27 : decode cX10_movePallets 27 = .ok (.getfield 35, 3) := by decide +kernel
theorem dX10_movePallets_30 : decode cX10_movePallets 30 = .ok (.iload_n 1, 1) := by decide +kernel
theorem dX10_movePallets_31 : decode cX10_movePallets 31 = .ok (.invokevirtual 68, 3) := by decide +kernel
theorem dX10_movePallets_34 : decode cX10_movePallets 34 = .ok (.checkcast 72, 3) := by decide +kernel
theorem dX10_movePallets_37 : decode cX10_movePallets 37 = .ok (.astore_n 2, 1) := by decide +kernel
theorem dX10_movePallets_38 : decode cX10_movePallets 38 = .ok (.iconst 0, 1) := by decide +kernel
theorem dX10_movePallets_39 : decode cX10_movePallets 39 = .ok (.istore_n 3, 1) := by decide +kernel
theorem dX10_movePallets_40 : decode cX10_movePallets 40 = .ok (.iload_n 3, 1) := by decide +kernel
theorem dX10_movePallets_41 : decode cX10_movePallets 41 = .ok (.aload_n 2, 1) := by decide +kernel
theorem dX10_movePallets_42 : decode cX10_movePallets 42 = .ok (.getfield 124, 3) := by decide +kernel
theorem dX10_movePallets_45 : decode cX10_movePallets 45 = .ok (.arraylength, 1) := by decide +kernel
theorem dX10_movePallets_46 : decode cX10_movePallets 46 = .ok (.if_icmp .ge 149, 3) := by decide +kernel
theorem dX10_movePallets_49 : decode cX10_movePallets 49 = .ok (.aload_n 2, 1) := by decide +kernel
theorem dX10_movePallets_50 : decode cX10_movePallets 50 = .ok (.getfield 124, 3) := by decide +kernel
theorem dX10_movePallets_53 : decode cX10_movePallets 53 = .ok (.iload_n 3, 1) := by decide +kernel
theorem dX10_movePallets_54 : decode cX10_movePallets 54 = .ok (.aaload, 1) := by decide +kernel
theorem dX10_movePallets_55 : decode cX10_movePallets 55 = .ok (.astore 4, 2) := by decide +kernel
theorem dX10_movePallets_57 : decode cX10_movePallets 57 = .ok (.aload 4, 2) := by decide +kernel
theorem dX10_movePallets_59 : decode cX10_movePallets 59 = .ok (.invokevirtual 205, 3) := by decide +kernel
theorem dX10_movePallets_62 : decode cX10_movePallets 62 = .ok (.ifCond .le 7, 3) := by decide +kernel
theorem dX10_movePallets_65 : decode cX10_movePallets 65 = .ok (.iconst 1, 1) := by decide +kernel
theorem dX10_movePallets_66 : decode cX10_movePallets 66 = .ok (.goto 4, 3) := by decide +kernel
theorem dX10_movePallets_69 : decode cX10_movePallets 69 = .ok (.iconst 0, 1) := by decide +kernel
theorem dX10_movePallets_70 : decode cX10_movePallets 70 = .ok (.istore 5, 2) := by decide +kernel
theorem dX10_movePallets_72 : decode cX10_movePallets 72 = .ok (.aload 4, 2) := by decide +kernel
theorem dX10_movePallets_74 : decode cX10_movePallets 74 = .ok (.getfield 208, 3) := by decide +kernel
theorem dX10_movePallets_77 : decode cX10_movePallets 77 = .ok (.iload 5, 2) := by decide +kernel
theorem dX10_movePallets_79 : decode cX10_movePallets 79 = .ok (.if_icmp .eq 39, 3) := by decide +kernel
theorem dX10_movePallets_82 : decode cX10_movePallets 82 = .ok (.aload 4, 2) := by decide +kernel
theorem dX10_movePallets_84 : decode cX10_movePallets 84 = .ok (.iload 5, 2) := by decide +kernel
theorem dX10_movePallets_86 : decode cX10_movePallets 86 = .ok (.putfield 208, 3) := by decide +kernel
theorem dX10_movePallets_89 : decode cX10_movePallets 89 = .ok (.aload 4, 2) := by decide +kernel
theorem dX10_movePallets_91 : decode cX10_movePallets 91 = .ok (.aload_n 0, 1) := by decide +kernel
theorem dX10_movePallets_92 : decode cX10_movePallets 92 = .ok (.getfield 104, 3) := by decide +kernel
theorem dX10_movePallets_95 : decode cX10_movePallets 95 = .ok (.putfield 211, 3) := by decide +kernel
theorem dX10_movePallets_98 : decode cX10_movePallets 98 = .ok (.aload_n 0, 1) := by decide +kernel
theorem dX10_movePallets_99 : decode cX10_movePallets 99 = .ok (.getfield 28, 3) := by decide +kernel
theorem dX10_movePallets_102 : decode cX10_movePallets 102 = .ok (.iload_n 1, 1) := by decide +kernel
theorem dX10_movePallets_103 : decode cX10_movePallets 103 = .ok (.aload_n 2, 1) := by decide +kernel
theorem dX10_movePallets_104 : decode cX10_movePallets 104 = .ok (.getfield 214, 3) := by decide +kernel
theorem dX10_movePallets_107 : decode cX10_movePallets 107 = .ok (.iload_n 3, 1) := by decide +kernel
theorem dX10_movePallets_108 : decode cX10_movePallets 108 = .ok (.iadd, 1) := by decide +kernel
theorem dX10_movePallets_109 : decode cX10_movePallets 109 = .ok (.iload 5, 2) := by decide +kernel
theorem dX10_movePallets_111 : decode cX10_movePallets 111 = .ok (.aload_n 0, 1) := by decide +kernel
theorem dX10_movePallets_112 : decode cX10_movePallets 112 = .ok (.getfield 104, 3) := by decide +kernel
theorem dX10_movePallets_115 : decode cX10_movePallets 115 = .ok (.invokevirtual 217, 3) := by decide +kernel
theorem dX10_movePallets_118 : decode cX10_movePallets 118 = .ok (.aload 4, 2) := by decide +kernel
theorem dX10_movePallets_120 : decode cX10_movePallets 120 = .ok (.aload_n 0, 1) := by decide +kernel
theorem dX10_movePallets_121 : decode cX10_movePallets 121 = .ok (.getfield 104, 3) := by decide +kernel
theorem dX10_movePallets_124 : decode cX10_movePallets 124 = .ok (.aload_n 2, 1) := by decide +kernel
theorem dX10_movePallets_125 : decode cX10_movePallets 125 = .ok (.getfield 221, 3) := by decide +kernel
theorem dX10_movePallets_128 : decode cX10_movePallets 128 = .ok (.aload_n 2, 1) := by decide +kernel
theorem dX10_movePallets_129 : decode cX10_movePallets 129 = .ok (.getfield 224, 3) := by decide +kernel
theorem dX10_movePallets_132 : decode cX10_movePallets 132 = .ok (.invokevirtual 227, 3) := by decide +kernel
theorem dX10_movePallets_135 : decode cX10_movePallets 135 = .ok (.aload_n 0, 1) := by decide +kernel
theorem dX10_movePallets_136 : decode cX10_movePallets 136 = .ok (.aload_n 0, 1) := by decide +kernel
theorem dX10_movePallets_137 : decode cX10_movePallets 137 = .ok (.getfield 108, 3) := by decide +kernel
theorem dX10_movePallets_140 : decode cX10_movePallets 140 = .ok (.ifCond .ne 13, 3) := by decide +kernel
theorem dX10_movePallets_143 : decode cX10_movePallets 143 = .ok (.aload 4, 2) := by decide +kernel
theorem dX10_movePallets_145 : decode cX10_movePallets 145 = .ok (.getfield 231, 3) := by decide +kernel
theorem dX10_movePallets_148 : decode cX10_movePallets 148 = .ok (.iload 5, 2) := by decide +kernel
theorem dX10_movePallets_150 : decode cX10_movePallets 150 = .ok (.if_icmp .eq 7, 3) := by decide +kernel
theorem dX10_movePallets_153 : decode cX10_movePallets 153 = .ok (.iconst 1, 1) := by decide +kernel
theorem dX10_movePallets_154 : decode cX10_movePallets 154 = .ok (.goto 4, 3) := by decide +kernel
theorem dX10_movePallets_157 : decode cX10_movePallets 157 = .ok (.iconst 0, 1) := by decide +kernel
theorem dX10_movePallets_158 : decode cX10_movePallets 158 = .ok (.putfield 108, 3) := by decide +kernel
theorem dX10_movePallets_161 : decode cX10_movePallets 161 = .ok (.aload_n 0, 1) := by decide +kernel
theorem dX10_movePallets_162 : decode cX10_movePallets 162 = .ok (.getfield 52, 3) := by decide +kernel
theorem dX10_movePallets_165 : decode cX10_movePallets 165 = .ok (.aload_n 2, 1) := by decide +kernel
theorem dX10_movePallets_166 : decode cX10_movePallets 166 = .ok (.getfield 234, 3) := by decide +kernel
theorem dX10_movePallets_169 : decode cX10_movePallets 169 = .ok (.dup2, 1) := by decide +kernel
theorem dX10_movePallets_170 : decode cX10_movePallets 170 = .ok (.iaload, 1) := by decide +kernel
theorem dX10_movePallets_171 : decode cX10_movePallets 171 = .ok (.aload 4, 2) := by decide +kernel
theorem dX10_movePallets_173 : decode cX10_movePallets 173 = .ok (.invokevirtual 235, 3) := by decide +kernel
theorem dX10_movePallets_176 : decode cX10_movePallets 176 = .ok (.ifCond .eq 10, 3) := by decide +kernel
theorem dX10_movePallets_179 : decode cX10_movePallets 179 = .ok (.aload_n 2, 1) := by decide +kernel
theorem dX10_movePallets_180 : decode cX10_movePallets 180 = .ok (.getfield 238, 3) := by decide +kernel
theorem dX10_movePallets_183 : decode cX10_movePallets 183 = .ok (.goto 4, 3) := by decide +kernel
theorem dX10_movePallets_186 : decode cX10_movePallets 186 = .ok (.iconst 0, 1) := by decide +kernel
theorem dX10_movePallets_187 : decode cX10_movePallets 187 = .ok (.iadd, 1) := by decide +kernel
theorem dX10_movePallets_188 : decode cX10_movePallets 188 = .ok (.iastore, 1) := by decide +kernel
theorem dX10_movePallets_189 : decode cX10_movePallets 189 = .ok (.iinc 3 1, 3) := by decide +kernel
theorem dX10_movePallets_192 : decode cX10_movePallets 192 = .ok (.goto (-152), 3) := by decide +kernel
theorem dX10_movePallets_195 : decode cX10_movePallets 195 = .ok (.iinc 1 1, 3) := by decide +kernel
theorem dX10_movePallets_198 : decode cX10_movePallets 198 = .ok (.goto (-183), 3) := by decide +kernel
theorem dX10_movePallets_201 : decode cX10_movePallets 201 = .ok (.return_, 1) := by decide +kernel
theorem dX10_findWinds_0 : decode cX10_findWinds 0 = .ok (.iconst 0, 1) := by decide +kernel
theorem dX10_findWinds_1 : decode cX10_findWinds 1 = .ok (.istore_n 1, 1) := by decide +kernel
theorem dX10_findWinds_2 : decode cX10_findWinds 2 = .ok (.iload_n 1, 1) := by decide +kernel
theorem dX10_findWinds_3 : decode cX10_findWinds 3 = .ok (.iconst 3, 1) := by decide +kernel
theorem dX10_findWinds_4 : decode cX10_findWinds 4 = .ok (.if_icmp .ge 71, 3) := by decide +kernel
theorem dX10_findWinds_7 : decode cX10_findWinds 7 = .ok (.iconst 0, 1) := by decide +kernel
theorem dX10_findWinds_8 : decode cX10_findWinds 8 = .ok (.aload_n 0, 1) := by decide +kernel
theorem dX10_findWinds_9 : decode cX10_findWinds 9 = .ok (.getfield 52, 3) := by decide +kernel
theorem dX10_findWinds_12 : decode cX10_findWinds 12 = .ok (.iload_n 1, 1) := by decide +kernel
theorem dX10_findWinds_13 : decode cX10_findWinds 13 = .ok (.iaload, 1) := by decide +kernel
theorem dX10_findWinds_14 : decode cX10_findWinds 14 = .ok (.aload_n 0, 1) := by decide +kernel
theorem dX10_findWinds_15 : decode cX10_findWinds 15 = .ok (.getfield 39, 3) := by decide +kernel
theorem dX10_findWinds_18 : decode cX10_findWinds 18 = .ok (.iload_n 1, 1) := by decide +kernel
theorem dX10_findWinds_19 : decode cX10_findWinds 19 = .ok (.iaload, 1) := by decide +kernel
theorem dX10_findWinds_20 : decode cX10_findWinds 20 = .ok (.isub, 1) := by decide +kernel
theorem dX10_findWinds_21 : decode cX10_findWinds 21 = .ok (.invokestatic 241, 3) := by decide +kernel
theorem dX10_findWinds_24 : decode cX10_findWinds 24 = .ok (.istore_n 2, 1) := by decide +kernel
theorem dX10_findWinds_25 : decode cX10_findWinds 25 = .ok (.bipush 100, 2) := by decide +kernel
theorem dX10_findWinds_27 : decode cX10_findWinds 27 = .ok (.iload_n 2, 1) := by decide +kernel
theorem dX10_findWinds_28 : decode cX10_findWinds 28 = .ok (.iconst 1, 1) := by decide +kernel
theorem dX10_findWinds_29 : decode cX10_findWinds 29 = .ok (.iadd, 1) := by decide +kernel
theorem dX10_findWinds_30 : decode cX10_findWinds 30 = .ok (.iconst 2, 1) := by decide +kernel
theorem dX10_findWinds_31 : decode cX10_findWinds 31 = .ok (.idiv, 1) := by decide +kernel
theorem dX10_findWinds_32 : decode cX10_findWinds 32 = .ok (.isub, 1) := by decide +kernel
theorem dX10_findWinds_33 : decode cX10_findWinds 33 = .ok (.istore_n 3, 1) := by decide +kernel
theorem dX10_findWinds_34 : decode cX10_findWinds 34 = .ok (.aload_n 0, 1) := by decide +kernel
theorem dX10_findWinds_35 : decode cX10_findWinds 35 = .ok (.getfield 104, 3) := by decide +kernel
theorem dX10_findWinds_38 : decode cX10_findWinds 38 = .ok (.iconst 4, 1) := by decide +kernel
theorem dX10_findWinds_39 : decode cX10_findWinds 39 = .ok (.irem, 1) := by decide +kernel
theorem dX10_findWinds_40 : decode cX10_findWinds 40 = .ok (.iconst 2, 1) := by decide +kernel
theorem dX10_findWinds_41 : decode cX10_findWinds 41 = .ok (.if_icmp .lt 17, 3) := by decide +kernel
theorem dX10_findWinds_44 : decode cX10_findWinds 44 = .ok (.aload_n 0, 1) := by decide +kernel
theorem dX10_findWinds_45 : decode cX10_findWinds 45 = .ok (.getfield 21, 3) := by decide +kernel
theorem dX10_findWinds_48 : decode cX10_findWinds 48 = .ok (.iload_n 1, 1) := by decide +kernel
theorem dX10_findWinds_49 : decode cX10_findWinds 49 = .ok (.invokevirtual 246, 3) := by decide +kernel
theorem dX10_findWinds_52 : decode cX10_findWinds 52 = .ok (.ifCond .eq 6, 3) := by decide +kernel
theorem dX10_findWinds_55 : decode cX10_findWinds 55 = .ok (.iinc 3 (-10), 3) := by decide +kernel
theorem dX10_findWinds_58 : decode cX10_findWinds 58 = .ok (.aload_n 0, 1) := by decide +kernel
theorem dX10_findWinds_59 : decode cX10_findWinds 59 = .ok (.getfield 43, 3) := by decide +kernel
theorem dX10_findWinds_62 : decode cX10_findWinds 62 = .ok (.iload_n 1, 1) := by decide +kernel
theorem dX10_findWinds_63 : decode cX10_findWinds 63 = .ok (.iconst 0, 1) := by decide +kernel
theorem dX10_findWinds_64 : decode cX10_findWinds 64 = .ok (.iload_n 3, 1) := by decide +kernel
theorem dX10_findWinds_65 : decode cX10_findWinds 65 = .ok (.invokestatic 241, 3) := by decide +kernel
theorem dX10_findWinds_68 : decode cX10_findWinds 68 = .ok (.iastore, 1) := by decide +kernel
theorem dX10_findWinds_69 : decode cX10_findWinds 69 = .ok (.iinc 1 1, 3) := by decide +kernel
theorem dX10_findWinds_72 : decode cX10_findWinds 72 = .ok (.goto (-70), 3) := by decide +kernel
theorem dX10_findWinds_75 : decode cX10_findWinds 75 = .ok (.return_, 1) := by decide +kernel
theorem dX10_findSpeech_0 : decode cX10_findSpeech 0 = .ok (.aload_n 0, 1) := by decide +kernel
theorem dX10_findSpeech_1 : decode cX10_findSpeech 1 = .ok (.iconst 0, 1) := by decide +kernel
theorem dX10_findSpeech_2 : decode cX10_findSpeech 2 = .ok (.putfield 250, 3) := by decide +kernel
theorem dX10_findSpeech_5 : decode cX10_findSpeech 5 = .ok (.iconst 0, 1) := by decide +kernel
theorem dX10_findSpeech_6 : decode cX10_findSpeech 6 = .ok (.istore_n 1, 1) := by decide +kernel
theorem dX10_findSpeech_7 : decode cX10_findSpeech 7 = .ok (.iload_n 1, 1) := by decide +kernel
theorem dX10_findSpeech_8 : decode cX10_findSpeech 8 = .ok (.aload_n 0, 1) := by decide +kernel
theorem dX10_findSpeech_9 : decode cX10_findSpeech 9 = .ok (.getfield 35, 3) := by decide +kernel
theorem dX10_findSpeech_12 : decode cX10_findSpeech 12 = .ok (.invokevirtual 64, 3) := by decide +kernel
theorem dX10_findSpeech_15 : decode cX10_findSpeech 15 = .ok (.if_icmp .ge 189, 3) := by decide +kernel
theorem dX10_findSpeech_18 : decode cX10_findSpeech 18 = .ok (.aload_n 0, 1) := by decide +kernel
theorem dX10_findSpeech_19 : decode cX10_findSpeech 19 = .ok (.getfield 35, 3) := by decide +kernel
theorem dX10_findSpeech_22 : decode cX10_findSpeech 22 = .ok (.iload_n 1, 1) := by decide +kernel
theorem dX10_findSpeech_23 : decode cX10_findSpeech 23 = .ok (.invokevirtual 68, 3) := by decide +kernel
theorem dX10_findSpeech_26 : decode cX10_findSpeech 26 = .ok (.checkcast 72, 3) := by decide +kernel
theorem dX10_findSpeech_29 : decode cX10_findSpeech 29 = .ok (.astore_n 2, 1) := by decide +kernel
theorem dX10_findSpeech_30 : decode cX10_findSpeech 30 = .ok (.aload_n 0, 1) := by decide +kernel
theorem dX10_findSpeech_31 : decode cX10_findSpeech 31 = .ok (.getfield 43, 3) := by decide +kernel
theorem dX10_findSpeech_34 : decode cX10_findSpeech 34 = .ok (.aload_n 2, 1) := by decide +kernel
theorem dX10_findSpeech_35 : decode cX10_findSpeech 35 = .ok (.getfield 234, 3) := by decide +kernel
theorem dX10_findSpeech_38 : decode cX10_findSpeech 38 = .ok (.iaload, 1) := by decide +kernel
theorem dX10_findSpeech_39 : decode cX10_findSpeech 39 = .ok (.ifCond .le 7, 3) := by decide +kernel
theorem dX10_findSpeech_42 : decode cX10_findSpeech 42 = .ok (.iconst 1, 1) := by decide +kernel
theorem dX10_findSpeech_43 : decode cX10_findSpeech 43 = .ok (.goto 4, 3) := by decide +kernel
theorem dX10_findSpeech_46 : decode cX10_findSpeech 46 = .ok (.iconst 0, 1) := by decide +kernel
theorem dX10_findSpeech_47 : decode cX10_findSpeech 47 = .ok (.istore_n 3, 1) := by decide +kernel
theorem dX10_findSpeech_48 : decode cX10_findSpeech 48 = .ok (.aload_n 2, 1) := by decide +kernel
theorem dX10_findSpeech_49 : decode cX10_findSpeech 49 = .ok (.getfield 124, 3) := by decide +kernel
theorem dX10_findSpeech_52 : decode cX10_findSpeech 52 = .ok (.astore 4, 2) := by decide +kernel
theorem dX10_findSpeech_54 : decode cX10_findSpeech 54 = .ok (.aload 4, 2) := by decide +kernel
theorem dX10_findSpeech_56 : decode cX10_findSpeech 56 = .ok (.arraylength, 1) := by decide +kernel
theorem dX10_findSpeech_57 : decode cX10_findSpeech 57 = .ok (.istore 5, 2) := by decide +kernel
theorem dX10_findSpeech_59 : decode cX10_findSpeech 59 = .ok (.iconst 0, 1) := by decide +kernel
theorem dX10_findSpeech_60 : decode cX10_findSpeech 60 = .ok (.istore 6, 2) := by decide +kernel
theorem dX10_findSpeech_62 : decode cX10_findSpeech 62 = .ok (.iload 6, 2) := by decide +kernel
theorem dX10_findSpeech_64 : decode cX10_findSpeech 64 = .ok (.iload 5, 2) := by decide +kernel
theorem dX10_findSpeech_66 : decode cX10_findSpeech 66 = .ok (.if_icmp .ge 132, 3) := by decide +kernel
theorem dX10_findSpeech_69 : decode cX10_findSpeech 69 = .ok (.aload 4, 2) := by decide +kernel
theorem dX10_findSpeech_71 : decode cX10_findSpeech 71 = .ok (.iload 6, 2) := by decide +kernel
theorem dX10_findSpeech_73 : decode cX10_findSpeech 73 = .ok (.aaload, 1) := by decide +kernel
theorem dX10_findSpeech_74 : decode cX10_findSpeech 74 = .ok (.astore 7, 2) := by decide +kernel
theorem dX10_findSpeech_76 : decode cX10_findSpeech 76 = .ok (.iload_n 3, 1) := by decide +kernel
theorem dX10_findSpeech_77 : decode cX10_findSpeech 77 = .ok (.ifCond .eq 15, 3) := by decide +kernel
theorem dX10_findSpeech_80 : decode cX10_findSpeech 80 = .ok (.aload 7, 2) := by decide +kernel
theorem dX10_findSpeech_82 : decode cX10_findSpeech 82 = .ok (.invokevirtual 235, 3) := by decide +kernel
theorem dX10_findSpeech_85 : decode cX10_findSpeech 85 = .ok (.ifCond .eq 7, 3) := by decide +kernel
theorem dX10_findSpeech_88 : decode cX10_findSpeech 88 = .ok (.iconst 1, 1) := by decide +kernel
theorem dX10_findSpeech_89 : decode cX10_findSpeech 89 = .ok (.goto 4, 3) := by decide +kernel
theorem dX10_findSpeech_92 : decode cX10_findSpeech 92 = .ok (.iconst 0, 1) := by decide +kernel
theorem dX10_findSpeech_93 : decode cX10_findSpeech 93 = .ok (.istore 8, 2) := by decide +kernel
theorem dX10_findSpeech_95 : decode cX10_findSpeech 95 = .ok (.iload 8, 2) := by decide +kernel
theorem dX10_findSpeech_97 : decode cX10_findSpeech 97 = .ok (.ifCond .eq 35, 3) := by decide +kernel
theorem dX10_findSpeech_100 : decode cX10_findSpeech 100 = .ok (.aload 7, 2) := by decide +kernel
theorem dX10_findSpeech_102 : decode cX10_findSpeech 102 = .ok (.getfield 253, 3) := by decide +kernel
theorem dX10_findSpeech_105 : decode cX10_findSpeech 105 = .ok (.ifCond .ne 27, 3) := by decide +kernel
theorem dX10_findSpeech_108 : decode cX10_findSpeech 108 = .ok (.aload 7, 2) := by decide +kernel
theorem dX10_findSpeech_110 : decode cX10_findSpeech 110 = .ok (.dup, 1) := by decide +kernel
theorem dX10_findSpeech_111 : decode cX10_findSpeech 111 = .ok (.getfield 256, 3) := by decide +kernel
theorem dX10_findSpeech_114 : decode cX10_findSpeech 114 = .ok (.iconst 1, 1) := by decide +kernel
theorem dX10_findSpeech_115 : decode cX10_findSpeech 115 = .ok (.iadd, 1) := by decide +kernel
theorem dX10_findSpeech_116 : decode cX10_findSpeech 116 = .ok (.putfield 256, 3) := by decide +kernel
theorem dX10_findSpeech_119 : decode cX10_findSpeech 119 = .ok (.aload_n 0, 1) := by decide +kernel
theorem dX10_findSpeech_120 : decode cX10_findSpeech 120 = .ok (.dup, 1) := by decide +kernel
theorem dX10_findSpeech_121 : decode cX10_findSpeech 121 = .ok (.getfield 259, 3) := by decide +kernel
theorem dX10_findSpeech_124 : decode cX10_findSpeech 124 = .ok (.iconst 1, 1) := by decide +kernel
theorem dX10_findSpeech_125 : decode cX10_findSpeech 125 = .ok (.iadd, 1) := by decide +kernel
theorem dX10_findSpeech_126 : decode cX10_findSpeech 126 = .ok (.putfield 259, 3) := by decide +kernel
theorem dX10_findSpeech_129 : decode cX10_findSpeech 129 = .ok (.goto 37, 3) := by decide +kernel
theorem dX10_findSpeech_132 : decode cX10_findSpeech 132 = .ok (.iload 8, 2) := by decide +kernel
theorem dX10_findSpeech_134 : decode cX10_findSpeech 134 = .ok (.ifCond .ne 32, 3) := by decide +kernel
theorem dX10_findSpeech_137 : decode cX10_findSpeech 137 = .ok (.aload 7, 2) := by decide +kernel
theorem dX10_findSpeech_139 : decode cX10_findSpeech 139 = .ok (.getfield 253, 3) := by decide +kernel
theorem dX10_findSpeech_142 : decode cX10_findSpeech 142 = .ok (.ifCond .eq 24, 3) := by decide +kernel
theorem dX10_findSpeech_145 : decode cX10_findSpeech 145 = .ok (.aload 7, 2) := by decide +kernel
theorem dX10_findSpeech_147 : decode cX10_findSpeech 147 = .ok (.dup, 1) := by decide +kernel
theorem dX10_findSpeech_148 : decode cX10_findSpeech 148 = .ok (.getfield 262, 3) := by decide +kernel
theorem dX10_findSpeech_151 : decode cX10_findSpeech 151 = .ok (.iconst 1, 1) := by decide +kernel
theorem dX10_findSpeech_152 : decode cX10_findSpeech 152 = .ok (.iadd, 1) := by decide +kernel
theorem dX10_findSpeech_153 : decode cX10_findSpeech 153 = .ok (.putfield 262, 3) := by decide +kernel
theorem dX10_findSpeech_156 : decode cX10_findSpeech 156 = .ok (.aload_n 0, 1) := by decide +kernel
theorem dX10_findSpeech_157 : decode cX10_findSpeech 157 = .ok (.dup, 1) := by decide +kernel
theorem dX10_findSpeech_158 : decode cX10_findSpeech 158 = .ok (.getfield 265, 3) := by decide +kernel
theorem dX10_findSpeech_161 : decode cX10_findSpeech 161 = .ok (.lconst 1, 1) := by decide +kernel
theorem dX10_findSpeech_162 : decode cX10_findSpeech 162 = .ok (.ladd, 1) := by decide +kernel
theorem dX10_findSpeech_163 : decode cX10_findSpeech 163 = .ok (.putfield 265, 3) := by decide +kernel
theorem dX10_findSpeech_166 : decode cX10_findSpeech 166 = .ok (.aload 7, 2) := by decide +kernel
theorem dX10_findSpeech_168 : decode cX10_findSpeech 168 = .ok (.iload 8, 2) := by decide +kernel
theorem dX10_findSpeech_170 : decode cX10_findSpeech 170 = .ok (.putfield 253, 3) := by decide +kernel
theorem dX10_findSpeech_173 : decode cX10_findSpeech 173 = .ok (.aload_n 0, 1) := by decide +kernel
theorem dX10_findSpeech_174 : decode cX10_findSpeech 174 = .ok (.dup, 1) := by decide +kernel
theorem dX10_findSpeech_175 : decode cX10_findSpeech 175 = .ok (.getfield 250, 3) := by decide +kernel
theorem dX10_findSpeech_178 : decode cX10_findSpeech 178 = .ok (.iload 8, 2) := by decide +kernel
theorem dX10_findSpeech_180 : decode cX10_findSpeech 180 = .ok (.ifCond .eq 7, 3) := by decide +kernel
theorem dX10_findSpeech_183 : decode cX10_findSpeech 183 = .ok (.iconst 1, 1) := by decide +kernel
theorem dX10_findSpeech_184 : decode cX10_findSpeech 184 = .ok (.goto 4, 3) := by decide +kernel
theorem dX10_findSpeech_187 : decode cX10_findSpeech 187 = .ok (.iconst 0, 1) := by decide +kernel
theorem dX10_findSpeech_188 : decode cX10_findSpeech 188 = .ok (.iadd, 1) := by decide +kernel
theorem dX10_findSpeech_189 : decode cX10_findSpeech 189 = .ok (.putfield 250, 3) := by decide +kernel
theorem dX10_findSpeech_192 : decode cX10_findSpeech 192 = .ok (.iinc 6 1, 3) := by decide +kernel
theorem dX10_findSpeech_195 : decode cX10_findSpeech 195 = .ok (.goto (-133), 3) := by decide +kernel
theorem dX10_findSpeech_198 : decode cX10_findSpeech 198 = .ok (.iinc 1 1, 3) := by decide +kernel
theorem dX10_findSpeech_201 : decode cX10_findSpeech 201 = .ok (.goto (-194), 3) := by decide +kernel
theorem dX10_findSpeech_204 : decode cX10_findSpeech 204 = .ok (.return_, 1) := by decide +kernel
theorem dX10_pressKey_0 : decode cX10_pressKey 0 = .ok (.aload_n 0, 1) := by decide +kernel
theorem dX10_pressKey_1 : decode cX10_pressKey 1 = .ok (.getfield 12, 3) := by decide +kernel
theorem dX10_pressKey_4 : decode cX10_pressKey 4 = .ok (.iload_n 1, 1) := by decide +kernel
theorem dX10_pressKey_5 : decode cX10_pressKey 5 = .ok (.iload_n 2, 1) := by decide +kernel
theorem dX10_pressKey_6 : decode cX10_pressKey 6 = .ok (.iload_n 3, 1) := by decide +kernel
theorem dX10_pressKey_7 : decode cX10_pressKey 7 = .ok (.aload_n 0, 1) := by decide +kernel
theorem dX10_pressKey_8 : decode cX10_pressKey 8 = .ok (.getfield 104, 3) := by decide +kernel
theorem dX10_pressKey_11 : decode cX10_pressKey 11 = .ok (.invokevirtual 269, 3) := by decide +kernel
theorem dX10_pressKey_14 : decode cX10_pressKey 14 = .ok (.ifCond .eq 17, 3) := by decide +kernel
theorem dX10_pressKey_17 : decode cX10_pressKey 17 = .ok (.aload_n 0, 1) := by decide +kernel
theorem dX10_pressKey_18 : decode cX10_pressKey 18 = .ok (.getfield 28, 3) := by decide +kernel
theorem dX10_pressKey_21 : decode cX10_pressKey 21 = .ok (.iload_n 1, 1) := by decide +kernel
theorem dX10_pressKey_22 : decode cX10_pressKey 22 = .ok (.iload_n 2, 1) := by decide +kernel
theorem dX10_pressKey_23 : decode cX10_pressKey 23 = .ok (.iload_n 3, 1) := by decide +kernel
theorem dX10_pressKey_24 : decode cX10_pressKey 24 = .ok (.aload_n 0, 1) := by decide +kernel
theorem dX10_pressKey_25 : decode cX10_pressKey 25 = .ok (.getfield 104, 3) := by decide +kernel
theorem dX10_pressKey_28 : decode cX10_pressKey 28 = .ok (.invokevirtual 273, 3) := by decide +kernel
theorem dX10_pressKey_31 : decode cX10_pressKey 31 = .ok (.return_, 1) := by decide +kernel
theorem dX10_releaseAll_0 : decode cX10_releaseAll 0 = .ok (.iconst 0, 1) := by decide +kernel
theorem dX10_releaseAll_1 : decode cX10_releaseAll 1 = .ok (.istore_n 1, 1) := by decide +kernel
theorem dX10_releaseAll_2 : decode cX10_releaseAll 2 = .ok (.iconst 0, 1) := by decide +kernel
theorem dX10_releaseAll_3 : decode cX10_releaseAll 3 = .ok (.istore_n 2, 1) := by decide +kernel
theorem dX10_releaseAll_4 : decode cX10_releaseAll 4 = .ok (.iload_n 2, 1) := by decide +kernel
theorem dX10_releaseAll_5 : decode cX10_releaseAll 5 = .ok (.iconst 3, 1) := by decide +kernel
theorem dX10_releaseAll_6 : decode cX10_releaseAll 6 = .ok (.if_icmp .ge 47, 3) := by decide +kernel
theorem dX10_releaseAll_9 : decode cX10_releaseAll 9 = .ok (.iconst 0, 1) := by decide +kernel
theorem dX10_releaseAll_10 : decode cX10_releaseAll 10 = .ok (.istore_n 3, 1) := by decide +kernel
theorem dX10_releaseAll_11 : decode cX10_releaseAll 11 = .ok (.iload_n 3, 1) := by decide +kernel
theorem dX10_releaseAll_12 : decode cX10_releaseAll 12 = .ok (.iload_n 2, 1) := by decide +kernel
theorem dX10_releaseAll_13 : decode cX10_releaseAll 13 = .ok (.invokestatic 176, 3) := by decide +kernel
theorem dX10_releaseAll_16 : decode cX10_releaseAll 16 = .ok (.if_icmp .ge 31, 3) := by decide +kernel
theorem dX10_releaseAll_19 : decode cX10_releaseAll 19 = .ok (.aload_n 0, 1) := by decide +kernel
theorem dX10_releaseAll_20 : decode cX10_releaseAll 20 = .ok (.getfield 12, 3) := by decide +kernel
theorem dX10_releaseAll_23 : decode cX10_releaseAll 23 = .ok (.iload_n 2, 1) := by decide +kernel
theorem dX10_releaseAll_24 : decode cX10_releaseAll 24 = .ok (.iload_n 3, 1) := by decide +kernel
theorem dX10_releaseAll_25 : decode cX10_releaseAll 25 = .ok (.invokevirtual 276, 3) := by decide +kernel
theorem dX10_releaseAll_28 : decode cX10_releaseAll 28 = .ok (.ifCond .eq 13, 3) := by decide +kernel
theorem dX10_releaseAll_31 : decode cX10_releaseAll 31 = .ok (.aload_n 0, 1) := by decide +kernel
theorem dX10_releaseAll_32 : decode cX10_releaseAll 32 = .ok (.iload_n 2, 1) := by decide +kernel
theorem dX10_releaseAll_33 : decode cX10_releaseAll 33 = .ok (.iload_n 3, 1) := by decide +kernel
theorem dX10_releaseAll_34 : decode cX10_releaseAll 34 = .ok (.iconst 0, 1) := by decide +kernel
theorem dX10_releaseAll_35 : decode cX10_releaseAll 35 = .ok (.invokevirtual 280, 3) := by decide +kernel
theorem dX10_releaseAll_38 : decode cX10_releaseAll 38 = .ok (.iinc 1 1, 3) := by decide +kernel
theorem dX10_releaseAll_41 : decode cX10_releaseAll 41 = .ok (.iinc 3 1, 3) := by decide +kernel
theorem dX10_releaseAll_44 : decode cX10_releaseAll 44 = .ok (.goto (-33), 3) := by decide +kernel
theorem dX10_releaseAll_47 : decode cX10_releaseAll 47 = .ok (.iinc 2 1, 3) := by decide +kernel
theorem dX10_releaseAll_50 : decode cX10_releaseAll 50 = .ok (.goto (-46), 3) := by decide +kernel
theorem dX10_releaseAll_53 : decode cX10_releaseAll 53 = .ok (.aload_n 0, 1) := by decide +kernel
theorem dX10_releaseAll_54 : decode cX10_releaseAll 54 = .ok (.invokevirtual 115, 3) := by decide +kernel
theorem dX10_releaseAll_57 : decode cX10_releaseAll 57 = .ok (.iload_n 1, 1) := by decide +kernel
theorem dX10_releaseAll_58 : decode cX10_releaseAll 58 = .ok (.ireturn, 1) := by decide +kernel
theorem dX10_pressChord_0 : decode cX10_pressChord 0 = .ok (.iconst 0, 1) := by decide +kernel
theorem dX10_pressChord_1 : decode cX10_pressChord 1 = .ok (.istore_n 2, 1) := by decide +kernel
theorem dX10_pressChord_2 : decode cX10_pressChord 2 = .ok (.iload_n 2, 1) := by decide +kernel
theorem dX10_pressChord_3 : decode cX10_pressChord 3 = .ok (.iconst 1, 1) := by decide +kernel
theorem dX10_pressChord_4 : decode cX10_pressChord 4 = .ok (.if_icmp .gt 41, 3) := by decide +kernel
theorem dX10_pressChord_7 : decode cX10_pressChord 7 = .ok (.iconst 0, 1) := by decide +kernel
theorem dX10_pressChord_8 : decode cX10_pressChord 8 = .ok (.istore_n 3, 1) := by decide +kernel
theorem dX10_pressChord_9 : decode cX10_pressChord 9 = .ok (.iload_n 3, 1) := by decide +kernel
theorem dX10_pressChord_10 : decode cX10_pressChord 10 = .ok (.iload_n 2, 1) := by decide +kernel
theorem dX10_pressChord_11 : decode cX10_pressChord 11 = .ok (.invokestatic 176, 3) := by decide +kernel
theorem dX10_pressChord_14 : decode cX10_pressChord 14 = .ok (.if_icmp .ge 25, 3) := by decide +kernel
theorem dX10_pressChord_17 : decode cX10_pressChord 17 = .ok (.aload_n 1, 1) := by decide +kernel
theorem dX10_pressChord_18 : decode cX10_pressChord 18 = .ok (.iload_n 2, 1) := by decide +kernel
theorem dX10_pressChord_19 : decode cX10_pressChord 19 = .ok (.iload_n 3, 1) := by decide +kernel
theorem dX10_pressChord_20 : decode cX10_pressChord 20 = .ok (.invokevirtual 284, 3) := by decide +kernel
theorem dX10_pressChord_23 : decode cX10_pressChord 23 = .ok (.ifCond .ne 10, 3) := by decide +kernel
theorem dX10_pressChord_26 : decode cX10_pressChord 26 = .ok (.aload_n 0, 1) := by decide +kernel
theorem dX10_pressChord_27 : decode cX10_pressChord 27 = .ok (.iload_n 2, 1) := by decide +kernel
theorem dX10_pressChord_28 : decode cX10_pressChord 28 = .ok (.iload_n 3, 1) := by decide +kernel
theorem dX10_pressChord_29 : decode cX10_pressChord 29 = .ok (.iconst 0, 1) := by decide +kernel
theorem dX10_pressChord_30 : decode cX10_pressChord 30 = .ok (.invokevirtual 280, 3) := by decide +kernel
theorem dX10_pressChord_33 : decode cX10_pressChord 33 = .ok (.iinc 3 1, 3) := by decide +kernel
theorem dX10_pressChord_36 : decode cX10_pressChord 36 = .ok (.goto (-27), 3) := by decide +kernel
theorem dX10_pressChord_39 : decode cX10_pressChord 39 = .ok (.iinc 2 1, 3) := by decide +kernel
theorem dX10_pressChord_42 : decode cX10_pressChord 42 = .ok (.goto (-40), 3) := by decide +kernel
theorem dX10_pressChord_45 : decode cX10_pressChord 45 = .ok (.iconst 0, 1) := by decide +kernel
theorem dX10_pressChord_46 : decode cX10_pressChord 46 = .ok (.istore_n 2, 1) := by decide +kernel
theorem dX10_pressChord_47 : decode cX10_pressChord 47 = .ok (.iload_n 2, 1) := by decide +kernel
theorem dX10_pressChord_48 : decode cX10_pressChord 48 = .ok (.iconst 4, 1) := by decide +kernel
theorem dX10_pressChord_49 : decode cX10_pressChord 49 = .ok (.if_icmp .ge 28, 3) := by decide +kernel
theorem dX10_pressChord_52 : decode cX10_pressChord 52 = .ok (.aload_n 0, 1) := by decide +kernel
theorem dX10_pressChord_53 : decode cX10_pressChord 53 = .ok (.iload_n 2, 1) := by decide +kernel
theorem dX10_pressChord_54 : decode cX10_pressChord 54 = .ok (.ifCond .ne 7, 3) := by decide +kernel
theorem dX10_pressChord_57 : decode cX10_pressChord 57 = .ok (.iconst 0, 1) := by decide +kernel
theorem dX10_pressChord_58 : decode cX10_pressChord 58 = .ok (.goto 4, 3) := by decide +kernel
theorem dX10_pressChord_61 : decode cX10_pressChord 61 = .ok (.iconst 1, 1) := by decide +kernel
theorem dX10_pressChord_62 : decode cX10_pressChord 62 = .ok (.aload_n 1, 1) := by decide +kernel
theorem dX10_pressChord_63 : decode cX10_pressChord 63 = .ok (.iload_n 2, 1) := by decide +kernel
theorem dX10_pressChord_64 : decode cX10_pressChord 64 = .ok (.invokevirtual 289, 3) := by decide +kernel
theorem dX10_pressChord_67 : decode cX10_pressChord 67 = .ok (.iconst 1, 1) := by decide +kernel
theorem dX10_pressChord_68 : decode cX10_pressChord 68 = .ok (.invokevirtual 280, 3) := by decide +kernel
theorem dX10_pressChord_71 : decode cX10_pressChord 71 = .ok (.iinc 2 1, 3) := by decide +kernel
theorem dX10_pressChord_74 : decode cX10_pressChord 74 = .ok (.goto (-27), 3) := by decide +kernel
theorem dX10_pressChord_77 : decode cX10_pressChord 77 = .ok (.aload_n 0, 1) := by decide +kernel
theorem dX10_pressChord_78 : decode cX10_pressChord 78 = .ok (.invokevirtual 115, 3) := by decide +kernel
theorem dX10_pressChord_81 : decode cX10_pressChord 81 = .ok (.return_, 1) := by decide +kernel
theorem dX10_hold_0 : decode cX10_hold 0 = .ok (.aload_n 0, 1) := by decide +kernel
theorem dX10_hold_1 : decode cX10_hold 1 = .ok (.iload_n 1, 1) := by decide +kernel
theorem dX10_hold_2 : decode cX10_hold 2 = .ok (.iload_n 2, 1) := by decide +kernel
theorem dX10_hold_3 : decode cX10_hold 3 = .ok (.invokevirtual 191, 3) := by decide +kernel
theorem dX10_hold_6 : decode cX10_hold 6 = .ok (.astore 4, 2) := by decide +kernel
theorem dX10_hold_8 : decode cX10_hold 8 = .ok (.aload 4, 2) := by decide +kernel
theorem dX10_hold_10 : decode cX10_hold 10 = .ok (.ifnull 9, 3) := by decide +kernel
theorem dX10_hold_13 : decode cX10_hold 13 = .ok (.aload 4, 2) := by decide +kernel
theorem dX10_hold_15 : decode cX10_hold 15 = .ok (.iload_n 3, 1) := by decide +kernel
theorem dX10_hold_16 : decode cX10_hold 16 = .ok (.putfield 195, 3) := by decide +kernel
theorem dX10_hold_19 : decode cX10_hold 19 = .ok (.return_, 1) := by decide +kernel
theorem dX10_holdNone_0 : decode cX10_holdNone 0 = .ok (.iconst 0, 1) := by decide +kernel
theorem dX10_holdNone_1 : decode cX10_holdNone 1 = .ok (.istore_n 1, 1) := by decide +kernel
theorem dX10_holdNone_2 : decode cX10_holdNone 2 = .ok (.iload_n 1, 1) := by decide +kernel
theorem dX10_holdNone_3 : decode cX10_holdNone 3 = .ok (.aload_n 0, 1) := by decide +kernel
theorem dX10_holdNone_4 : decode cX10_holdNone 4 = .ok (.getfield 35, 3) := by decide +kernel
theorem dX10_holdNone_7 : decode cX10_holdNone 7 = .ok (.invokevirtual 64, 3) := by decide +kernel
theorem dX10_holdNone_10 : decode cX10_holdNone 10 = .ok (.if_icmp .ge 54, 3) := by decide +kernel
theorem dX10_holdNone_13 : decode cX10_holdNone 13 = .ok (.aload_n 0, 1) := by decide +kernel
theorem dX10_holdNone_14 : decode cX10_holdNone 14 = .ok (.getfield 35, 3) := by decide +kernel
theorem dX10_holdNone_17 : decode cX10_holdNone 17 = .ok (.iload_n 1, 1) := by decide +kernel
theorem dX10_holdNone_18 : decode cX10_holdNone 18 = .ok (.invokevirtual 68, 3) := by decide +kernel
theorem dX10_holdNone_21 : decode cX10_holdNone 21 = .ok (.checkcast 72, 3) := by decide +kernel
theorem dX10_holdNone_24 : decode cX10_holdNone 24 = .ok (.getfield 124, 3) := by decide +kernel
theorem dX10_holdNone_27 : decode cX10_holdNone 27 = .ok (.astore_n 2, 1) := by decide +kernel
theorem dX10_holdNone_28 : decode cX10_holdNone 28 = .ok (.aload_n 2, 1) := by decide +kernel
theorem dX10_holdNone_29 : decode cX10_holdNone 29 = .ok (.arraylength, 1) := by decide +kernel
theorem dX10_holdNone_30 : decode cX10_holdNone 30 = .ok (.istore_n 3, 1) := by decide +kernel
theorem dX10_holdNone_31 : decode cX10_holdNone 31 = .ok (.iconst 0, 1) := by decide +kernel
theorem dX10_holdNone_32 : decode cX10_holdNone 32 = .ok (.istore 4, 2) := by decide +kernel
theorem dX10_holdNone_34 : decode cX10_holdNone 34 = .ok (.iload 4, 2) := by decide +kernel
theorem dX10_holdNone_36 : decode cX10_holdNone 36 = .ok (.iload_n 3, 1) := by decide +kernel
theorem dX10_holdNone_37 : decode cX10_holdNone 37 = .ok (.if_icmp .ge 21, 3) := by decide +kernel
theorem dX10_holdNone_40 : decode cX10_holdNone 40 = .ok (.aload_n 2, 1) := by decide +kernel
theorem dX10_holdNone_41 : decode cX10_holdNone 41 = .ok (.iload 4, 2) := by decide +kernel
theorem dX10_holdNone_43 : decode cX10_holdNone 43 = .ok (.aaload, 1) := by decide +kernel
theorem dX10_holdNone_44 : decode cX10_holdNone 44 = .ok (.astore 5, 2) := by decide +kernel
theorem dX10_holdNone_46 : decode cX10_holdNone 46 = .ok (.aload 5, 2) := by decide +kernel
theorem dX10_holdNone_48 : decode cX10_holdNone 48 = .ok (.iconst 0, 1) := by decide +kernel
theorem dX10_holdNone_49 : decode cX10_holdNone 49 = .ok (.putfield 195, 3) := by decide +kernel
theorem dX10_holdNone_52 : decode cX10_holdNone 52 = .ok (.iinc 4 1, 3) := by decide +kernel
theorem dX10_holdNone_55 : decode cX10_holdNone 55 = .ok (.goto (-21), 3) := by decide +kernel
theorem dX10_holdNone_58 : decode cX10_holdNone 58 = .ok (.iinc 1 1, 3) := by decide +kernel
theorem dX10_holdNone_61 : decode cX10_holdNone 61 = .ok (.goto (-59), 3) := by decide +kernel
theorem dX10_holdNone_64 : decode cX10_holdNone 64 = .ok (.aload_n 0, 1) := by decide +kernel
theorem dX10_holdNone_65 : decode cX10_holdNone 65 = .ok (.invokevirtual 115, 3) := by decide +kernel
theorem dX10_holdNone_68 : decode cX10_holdNone 68 = .ok (.return_, 1) := by decide +kernel
theorem dX10_pitchOf_0 : decode cX10_pitchOf 0 = .ok (.aload_n 0, 1) := by decide +kernel
theorem dX10_pitchOf_1 : decode cX10_pitchOf 1 = .ok (.iload_n 1, 1) := by decide +kernel
theorem dX10_pitchOf_2 : decode cX10_pitchOf 2 = .ok (.invokevirtual 291, 3) := by decide +kernel
theorem dX10_pitchOf_5 : decode cX10_pitchOf 5 = .ok (.astore_n 3, 1) := by decide +kernel
theorem dX10_pitchOf_6 : decode cX10_pitchOf 6 = .ok (.aload_n 0, 1) := by decide +kernel
theorem dX10_pitchOf_7 : decode cX10_pitchOf 7 = .ok (.iload_n 1, 1) := by decide +kernel
theorem dX10_pitchOf_8 : decode cX10_pitchOf 8 = .ok (.iload_n 2, 1) := by decide +kernel
theorem dX10_pitchOf_9 : decode cX10_pitchOf 9 = .ok (.invokevirtual 191, 3) := by decide +kernel
theorem dX10_pitchOf_12 : decode cX10_pitchOf 12 = .ok (.astore 4, 2) := by decide +kernel
theorem dX10_pitchOf_14 : decode cX10_pitchOf 14 = .ok (.aload_n 3, 1) := by decide +kernel
theorem dX10_pitchOf_15 : decode cX10_pitchOf 15 = .ok (.ifnull 12, 3) := by decide +kernel
theorem dX10_pitchOf_18 : decode cX10_pitchOf 18 = .ok (.aload 4, 2) := by decide +kernel
theorem dX10_pitchOf_20 : decode cX10_pitchOf 20 = .ok (.ifnull 7, 3) := by decide +kernel
theorem dX10_pitchOf_23 : decode cX10_pitchOf 23 = .ok (.iload_n 2, 1) := by decide +kernel
theorem dX10_pitchOf_24 : decode cX10_pitchOf 24 = .ok (.ifCond .ge 5, 3) := by decide +kernel
theorem dX10_pitchOf_27 : decode cX10_pitchOf 27 = .ok (.iconst 0, 1) := by decide +kernel
theorem dX10_pitchOf_28 : decode cX10_pitchOf 28 = .ok (.ireturn, 1) := by decide +kernel
theorem dX10_pitchOf_29 : decode cX10_pitchOf 29 = .ok (.bipush 100, 2) := by decide +kernel
theorem dX10_pitchOf_31 : decode cX10_pitchOf 31 = .ok (.aload_n 0, 1) := by decide +kernel
theorem dX10_pitchOf_32 : decode cX10_pitchOf 32 = .ok (.getfield 43, 3) := by decide +kernel
theorem dX10_pitchOf_35 : decode cX10_pitchOf 35 = .ok (.aload_n 3, 1) := by decide +kernel
theorem dX10_pitchOf_36 : decode cX10_pitchOf 36 = .ok (.getfield 234, 3) := by decide +kernel
theorem dX10_pitchOf_39 : decode cX10_pitchOf 39 = .ok (.iaload, 1) := by decide +kernel
theorem dX10_pitchOf_40 : decode cX10_pitchOf 40 = .ok (.isub, 1) := by decide +kernel
theorem dX10_pitchOf_41 : decode cX10_pitchOf 41 = .ok (.istore 5, 2) := by decide +kernel
theorem dX10_pitchOf_43 : decode cX10_pitchOf 43 = .ok (.bipush 100, 2) := by decide +kernel
theorem dX10_pitchOf_45 : decode cX10_pitchOf 45 = .ok (.iload_n 2, 1) := by decide +kernel
theorem dX10_pitchOf_46 : decode cX10_pitchOf 46 = .ok (.imul, 1) := by decide +kernel
theorem dX10_pitchOf_47 : decode cX10_pitchOf 47 = .ok (.aload_n 0, 1) := by decide +kernel
theorem dX10_pitchOf_48 : decode cX10_pitchOf 48 = .ok (.getfield 49, 3) := by decide +kernel
theorem dX10_pitchOf_51 : decode cX10_pitchOf 51 = .ok (.iload_n 2, 1) := by decide +kernel
theorem dX10_pitchOf_52 : decode cX10_pitchOf 52 = .ok (.bipush 12, 2) := by decide +kernel
theorem dX10_pitchOf_54 : decode cX10_pitchOf 54 = .ok (.irem, 1) := by decide +kernel
theorem dX10_pitchOf_55 : decode cX10_pitchOf 55 = .ok (.iaload, 1) := by decide +kernel
theorem dX10_pitchOf_56 : decode cX10_pitchOf 56 = .ok (.iadd, 1) := by decide +kernel
theorem dX10_pitchOf_57 : decode cX10_pitchOf 57 = .ok (.aload 4, 2) := by decide +kernel
theorem dX10_pitchOf_59 : decode cX10_pitchOf 59 = .ok (.getfield 295, 3) := by decide +kernel
theorem dX10_pitchOf_62 : decode cX10_pitchOf 62 = .ok (.iadd, 1) := by decide +kernel
theorem dX10_pitchOf_63 : decode cX10_pitchOf 63 = .ok (.aload_n 0, 1) := by decide +kernel
theorem dX10_pitchOf_64 : decode cX10_pitchOf 64 = .ok (.getfield 298, 3) := by decide +kernel
theorem dX10_pitchOf_67 : decode cX10_pitchOf 67 = .ok (.aload_n 3, 1) := by decide +kernel
theorem dX10_pitchOf_68 : decode cX10_pitchOf 68 = .ok (.getfield 301, 3) := by decide +kernel
theorem dX10_pitchOf_71 : decode cX10_pitchOf 71 = .ok (.imul, 1) := by decide +kernel
theorem dX10_pitchOf_72 : decode cX10_pitchOf 72 = .ok (.bipush 10, 2) := by decide +kernel
theorem dX10_pitchOf_74 : decode cX10_pitchOf 74 = .ok (.idiv, 1) := by decide +kernel
theorem dX10_pitchOf_75 : decode cX10_pitchOf 75 = .ok (.iadd, 1) := by decide +kernel
theorem dX10_pitchOf_76 : decode cX10_pitchOf 76 = .ok (.iload 5, 2) := by decide +kernel
theorem dX10_pitchOf_78 : decode cX10_pitchOf 78 = .ok (.bipush 10, 2) := by decide +kernel
theorem dX10_pitchOf_80 : decode cX10_pitchOf 80 = .ok (.idiv, 1) := by decide +kernel
theorem dX10_pitchOf_81 : decode cX10_pitchOf 81 = .ok (.isub, 1) := by decide +kernel
theorem dX10_pitchOf_82 : decode cX10_pitchOf 82 = .ok (.ireturn, 1) := by decide +kernel
theorem dX10_sumOfPitches_0 : decode cX10_sumOfPitches 0 = .ok (.iconst 0, 1) := by decide +kernel
theorem dX10_sumOfPitches_1 : decode cX10_sumOfPitches 1 = .ok (.istore_n 1, 1) := by decide +kernel
theorem dX10_sumOfPitches_2 : decode cX10_sumOfPitches 2 = .ok (.iconst 0, 1) := by decide +kernel
theorem dX10_sumOfPitches_3 : decode cX10_sumOfPitches 3 = .ok (.istore_n 2, 1) := by decide +kernel
theorem dX10_sumOfPitches_4 : decode cX10_sumOfPitches 4 = .ok (.iload_n 2, 1) := by decide +kernel
theorem dX10_sumOfPitches_5 : decode cX10_sumOfPitches 5 = .ok (.aload_n 0, 1) := by decide +kernel
theorem dX10_sumOfPitches_6 : decode cX10_sumOfPitches 6 = .ok (.getfield 35, 3) := by decide +kernel
theorem dX10_sumOfPitches_9 : decode cX10_sumOfPitches 9 = .ok (.invokevirtual 64, 3) := by decide +kernel
theorem dX10_sumOfPitches_12 : decode cX10_sumOfPitches 12 = .ok (.if_icmp .ge 72, 3) := by decide +kernel
theorem dX10_sumOfPitches_15 : decode cX10_sumOfPitches 15 = .ok (.aload_n 0, 1) := by decide +kernel
theorem dX10_sumOfPitches_16 : decode cX10_sumOfPitches 16 = .ok (.getfield 35, 3) := by decide +kernel
theorem dX10_sumOfPitches_19 : decode cX10_sumOfPitches 19 = .ok (.iload_n 2, 1) := by decide +kernel
theorem dX10_sumOfPitches_20 : decode cX10_sumOfPitches 20 = .ok (.invokevirtual 68, 3) := by decide +kernel
theorem dX10_sumOfPitches_23 : decode cX10_sumOfPitches 23 = .ok (.checkcast 72, 3) := by decide +kernel
theorem dX10_sumOfPitches_26 : decode cX10_sumOfPitches 26 = .ok (.astore_n 3, 1) := by decide +kernel
theorem dX10_sumOfPitches_27 : decode cX10_sumOfPitches 27 = .ok (.iconst 0, 1) := by decide +kernel
theorem dX10_sumOfPitches_28 : decode cX10_sumOfPitches 28 = .ok (.istore 4, 2) := by decide +kernel
theorem dX10_sumOfPitches_30 : decode cX10_sumOfPitches 30 = .ok (.iload 4, 2) := by decide +kernel
theorem dX10_sumOfPitches_32 : decode cX10_sumOfPitches 32 = .ok (.aload_n 3, 1) := by decide +kernel
theorem dX10_sumOfPitches_33 : decode cX10_sumOfPitches 33 = .ok (.getfield 124, 3) := by decide +kernel
theorem dX10_sumOfPitches_36 : decode cX10_sumOfPitches 36 = .ok (.arraylength, 1) := by decide +kernel
theorem dX10_sumOfPitches_37 : decode cX10_sumOfPitches 37 = .ok (.if_icmp .ge 41, 3) := by decide +kernel
theorem dX10_sumOfPitches_40 : decode cX10_sumOfPitches 40 = .ok (.iload_n 1, 1) := by decide +kernel
theorem dX10_sumOfPitches_41 : decode cX10_sumOfPitches 41 = .ok (.aload_n 3, 1) := by decide +kernel
theorem dX10_sumOfPitches_42 : decode cX10_sumOfPitches 42 = .ok (.getfield 124, 3) := by decide +kernel
theorem dX10_sumOfPitches_45 : decode cX10_sumOfPitches 45 = .ok (.iload 4, 2) := by decide +kernel
theorem dX10_sumOfPitches_47 : decode cX10_sumOfPitches 47 = .ok (.aaload, 1) := by decide +kernel
theorem dX10_sumOfPitches_48 : decode cX10_sumOfPitches 48 = .ok (.getfield 253, 3) := by decide +kernel
theorem dX10_sumOfPitches_51 : decode cX10_sumOfPitches 51 = .ok (.ifCond .eq 18, 3) := by decide +kernel
theorem dX10_sumOfPitches_54 : decode cX10_sumOfPitches 54 = .ok (.aload_n 0, 1) := by decide +kernel
theorem dX10_sumOfPitches_55 : decode cX10_sumOfPitches 55 = .ok (.iload_n 2, 1) := by decide +kernel
theorem dX10_sumOfPitches_56 : decode cX10_sumOfPitches 56 = .ok (.aload_n 3, 1) := by decide +kernel
theorem dX10_sumOfPitches_57 : decode cX10_sumOfPitches 57 = .ok (.getfield 214, 3) := by decide +kernel
theorem dX10_sumOfPitches_60 : decode cX10_sumOfPitches 60 = .ok (.iload 4, 2) := by decide +kernel
theorem dX10_sumOfPitches_62 : decode cX10_sumOfPitches 62 = .ok (.iadd, 1) := by decide +kernel
theorem dX10_sumOfPitches_63 : decode cX10_sumOfPitches 63 = .ok (.invokevirtual 304, 3) := by decide +kernel
theorem dX10_sumOfPitches_66 : decode cX10_sumOfPitches 66 = .ok (.goto 4, 3) := by decide +kernel
theorem dX10_sumOfPitches_69 : decode cX10_sumOfPitches 69 = .ok (.iconst 0, 1) := by decide +kernel
theorem dX10_sumOfPitches_70 : decode cX10_sumOfPitches 70 = .ok (.iadd, 1) := by decide +kernel
theorem dX10_sumOfPitches_71 : decode cX10_sumOfPitches 71 = .ok (.istore_n 1, 1) := by decide +kernel
theorem dX10_sumOfPitches_72 : decode cX10_sumOfPitches 72 = .ok (.iinc 4 1, 3) := by decide +kernel
theorem dX10_sumOfPitches_75 : decode cX10_sumOfPitches 75 = .ok (.goto (-45), 3) := by decide +kernel
theorem dX10_sumOfPitches_78 : decode cX10_sumOfPitches 78 = .ok (.iinc 2 1, 3) := by decide +kernel
theorem dX10_sumOfPitches_81 : decode cX10_sumOfPitches 81 = .ok (.goto (-77), 3) := by decide +kernel
theorem dX10_sumOfPitches_84 : decode cX10_sumOfPitches 84 = .ok (.iload_n 1, 1) := by decide +kernel
theorem dX10_sumOfPitches_85 : decode cX10_sumOfPitches 85 = .ok (.ireturn, 1) := by decide +kernel
theorem dX10_allLoudness_0 : decode cX10_allLoudness 0 = .ok (.iconst 0, 1) := by decide +kernel
theorem dX10_allLoudness_1 : decode cX10_allLoudness 1 = .ok (.istore_n 1, 1) := by decide +kernel
theorem dX10_allLoudness_2 : decode cX10_allLoudness 2 = .ok (.iconst 0, 1) := by decide +kernel
theorem dX10_allLoudness_3 : decode cX10_allLoudness 3 = .ok (.istore_n 2, 1) := by decide +kernel
theorem dX10_allLoudness_4 : decode cX10_allLoudness 4 = .ok (.iload_n 2, 1) := by decide +kernel
theorem dX10_allLoudness_5 : decode cX10_allLoudness 5 = .ok (.aload_n 0, 1) := by decide +kernel
theorem dX10_allLoudness_6 : decode cX10_allLoudness 6 = .ok (.getfield 35, 3) := by decide +kernel
theorem dX10_allLoudness_9 : decode cX10_allLoudness 9 = .ok (.invokevirtual 64, 3) := by decide +kernel
theorem dX10_allLoudness_12 : decode cX10_allLoudness 12 = .ok (.if_icmp .ge 91, 3) := by decide +kernel
theorem dX10_allLoudness_15 : decode cX10_allLoudness 15 = .ok (.aload_n 0, 1) := by decide +kernel
theorem dX10_allLoudness_16 : decode cX10_allLoudness 16 = .ok (.getfield 35, 3) := by decide +kernel
theorem dX10_allLoudness_19 : decode cX10_allLoudness 19 = .ok (.iload_n 2, 1) := by decide +kernel
theorem dX10_allLoudness_20 : decode cX10_allLoudness 20 = .ok (.invokevirtual 68, 3) := by decide +kernel
theorem dX10_allLoudness_23 : decode cX10_allLoudness 23 = .ok (.checkcast 72, 3) := by decide +kernel
theorem dX10_allLoudness_26 : decode cX10_allLoudness 26 = .ok (.astore_n 3, 1) := by decide +kernel
theorem dX10_allLoudness_27 : decode cX10_allLoudness 27 = .ok (.aload_n 3, 1) := by decide +kernel
theorem dX10_allLoudness_28 : decode cX10_allLoudness 28 = .ok (.getfield 307, 3) := by decide +kernel
theorem dX10_allLoudness_31 : decode cX10_allLoudness 31 = .ok (.aload_n 0, 1) := by decide +kernel
theorem dX10_allLoudness_32 : decode cX10_allLoudness 32 = .ok (.getfield 46, 3) := by decide +kernel
theorem dX10_allLoudness_35 : decode cX10_allLoudness 35 = .ok (.aload_n 3, 1) := by decide +kernel
theorem dX10_allLoudness_36 : decode cX10_allLoudness 36 = .ok (.getfield 234, 3) := by decide +kernel
theorem dX10_allLoudness_39 : decode cX10_allLoudness 39 = .ok (.iaload, 1) := by decide +kernel
theorem dX10_allLoudness_40 : decode cX10_allLoudness 40 = .ok (.imul, 1) := by decide +kernel
theorem dX10_allLoudness_41 : decode cX10_allLoudness 41 = .ok (.bipush 10, 2) := by decide +kernel
theorem dX10_allLoudness_43 : decode cX10_allLoudness 43 = .ok (.idiv, 1) := by decide +kernel
theorem dX10_allLoudness_44 : decode cX10_allLoudness 44 = .ok (.istore 4, 2) := by decide +kernel
theorem dX10_allLoudness_46 : decode cX10_allLoudness 46 = .ok (.aload_n 3, 1) := by decide +kernel
theorem dX10_allLoudness_47 : decode cX10_allLoudness 47 = .ok (.getfield 124, 3) := by decide +kernel
theorem dX10_allLoudness_50 : decode cX10_allLoudness 50 = .ok (.astore 5, 2) := by decide +kernel
theorem dX10_allLoudness_52 : decode cX10_allLoudness 52 = .ok (.aload 5, 2) := by decide +kernel
theorem dX10_allLoudness_54 : decode cX10_allLoudness 54 = .ok (.arraylength, 1) := by decide +kernel
theorem dX10_allLoudness_55 : decode cX10_allLoudness 55 = .ok (.istore 6, 2) := by decide +kernel
theorem dX10_allLoudness_57 : decode cX10_allLoudness 57 = .ok (.iconst 0, 1) := by decide +kernel
theorem dX10_allLoudness_58 : decode cX10_allLoudness 58 = .ok (.istore 7, 2) := by decide +kernel
theorem dX10_allLoudness_60 : decode cX10_allLoudness 60 = .ok (.iload 7, 2) := by decide +kernel
theorem dX10_allLoudness_62 : decode cX10_allLoudness 62 = .ok (.iload 6, 2) := by decide +kernel
theorem dX10_allLoudness_64 : decode cX10_allLoudness 64 = .ok (.if_icmp .ge 33, 3) := by decide +kernel
theorem dX10_allLoudness_67 : decode cX10_allLoudness 67 = .ok (.aload 5, 2) := by decide +kernel
theorem dX10_allLoudness_69 : decode cX10_allLoudness 69 = .ok (.iload 7, 2) := by decide +kernel
theorem dX10_allLoudness_71 : decode cX10_allLoudness 71 = .ok (.aaload, 1) := by decide +kernel
theorem dX10_allLoudness_72 : decode cX10_allLoudness 72 = .ok (.astore 8, 2) := by decide +kernel
theorem dX10_allLoudness_74 : decode cX10_allLoudness 74 = .ok (.iload_n 1, 1) := by decide +kernel
theorem dX10_allLoudness_75 : decode cX10_allLoudness 75 = .ok (.aload 8, 2) := by decide +kernel
theorem dX10_allLoudness_77 : decode cX10_allLoudness 77 = .ok (.getfield 253, 3) := by decide +kernel
theorem dX10_allLoudness_80 : decode cX10_allLoudness 80 = .ok (.ifCond .eq 8, 3) := by decide +kernel
theorem dX10_allLoudness_83 : decode cX10_allLoudness 83 = .ok (.iload 4, 2) := by decide +kernel
theorem dX10_allLoudness_85 : decode cX10_allLoudness 85 = .ok (.goto 4, 3) := by decide +kernel
theorem dX10_allLoudness_88 : decode cX10_allLoudness 88 = .ok (.iconst 0, 1) := by decide +kernel
theorem dX10_allLoudness_89 : decode cX10_allLoudness 89 = .ok (.iadd, 1) := by decide +kernel
theorem dX10_allLoudness_90 : decode cX10_allLoudness 90 = .ok (.istore_n 1, 1) := by decide +kernel
theorem dX10_allLoudness_91 : decode cX10_allLoudness 91 = .ok (.iinc 7 1, 3) := by decide +kernel
theorem dX10_allLoudness_94 : decode cX10_allLoudness 94 = .ok (.goto (-34), 3) := by decide +kernel
theorem dX10_allLoudness_97 : decode cX10_allLoudness 97 = .ok (.iinc 2 1, 3) := by decide +kernel
theorem dX10_allLoudness_100 : decode cX10_allLoudness 100 = .ok (.goto (-96), 3) := by decide +kernel
theorem dX10_allLoudness_103 : decode cX10_allLoudness 103 = .ok (.iload_n 1, 1) := by decide +kernel
theorem dX10_allLoudness_104 : decode cX10_allLoudness 104 = .ok (.ireturn, 1) := by decide +kernel
theorem dX10_allPipes_0 : decode cX10_allPipes 0 = .ok (.iconst 0, 1) := by decide +kernel
theorem dX10_allPipes_1 : decode cX10_allPipes 1 = .ok (.istore_n 1, 1) := by decide +kernel
theorem dX10_allPipes_2 : decode cX10_allPipes 2 = .ok (.iconst 0, 1) := by decide +kernel
theorem dX10_allPipes_3 : decode cX10_allPipes 3 = .ok (.istore_n 2, 1) := by decide +kernel
theorem dX10_allPipes_4 : decode cX10_allPipes 4 = .ok (.iload_n 2, 1) := by decide +kernel
theorem dX10_allPipes_5 : decode cX10_allPipes 5 = .ok (.aload_n 0, 1) := by decide +kernel
theorem dX10_allPipes_6 : decode cX10_allPipes 6 = .ok (.getfield 35, 3) := by decide +kernel
theorem dX10_allPipes_9 : decode cX10_allPipes 9 = .ok (.invokevirtual 64, 3) := by decide +kernel
theorem dX10_allPipes_12 : decode cX10_allPipes 12 = .ok (.if_icmp .ge 27, 3) := by decide +kernel
theorem dX10_allPipes_15 : decode cX10_allPipes 15 = .ok (.iload_n 1, 1) := by decide +kernel
theorem dX10_allPipes_16 : decode cX10_allPipes 16 = .ok (.aload_n 0, 1) := by decide +kernel
theorem dX10_allPipes_17 : decode cX10_allPipes 17 = .ok (.getfield 35, 3) := by decide +kernel
theorem dX10_allPipes_20 : decode cX10_allPipes 20 = .ok (.iload_n 2, 1) := by decide +kernel
theorem dX10_allPipes_21 : decode cX10_allPipes 21 = .ok (.invokevirtual 68, 3) := by decide +kernel
theorem dX10_allPipes_24 : decode cX10_allPipes 24 = .ok (.checkcast 72, 3) := by decide +kernel
theorem dX10_allPipes_27 : decode cX10_allPipes 27 = .ok (.getfield 124, 3) := by decide +kernel
theorem dX10_allPipes_30 : decode cX10_allPipes 30 = .ok (.arraylength, 1) := by decide +kernel
theorem dX10_allPipes_31 : decode cX10_allPipes 31 = .ok (.iadd, 1) := by decide +kernel
theorem dX10_allPipes_32 : decode cX10_allPipes 32 = .ok (.istore_n 1, 1) := by decide +kernel
theorem dX10_allPipes_33 : decode cX10_allPipes 33 = .ok (.iinc 2 1, 3) := by decide +kernel
theorem dX10_allPipes_36 : decode cX10_allPipes 36 = .ok (.goto (-32), 3) := by decide +kernel
theorem dX10_allPipes_39 : decode cX10_allPipes 39 = .ok (.iload_n 1, 1) := by decide +kernel
theorem dX10_allPipes_40 : decode cX10_allPipes 40 = .ok (.ireturn, 1) := by decide +kernel
theorem dX10_isConsistent_0 : decode cX10_isConsistent 0 = .ok (.iconst 0, 1) := by decide +kernel
theorem dX10_isConsistent_1 : decode cX10_isConsistent 1 = .ok (.istore_n 1, 1) := by decide +kernel
theorem dX10_isConsistent_2 : decode cX10_isConsistent 2 = .ok (.iload_n 1, 1) := by decide +kernel
theorem dX10_isConsistent_3 : decode cX10_isConsistent 3 = .ok (.aload_n 0, 1) := by decide +kernel
theorem dX10_isConsistent_4 : decode cX10_isConsistent 4 = .ok (.getfield 35, 3) := by decide +kernel
theorem dX10_isConsistent_7 : decode cX10_isConsistent 7 = .ok (.invokevirtual 64, 3) := by decide +kernel
theorem dX10_isConsistent_10 : decode cX10_isConsistent 10 = .ok (.if_icmp .ge 98, 3) := by decide +kernel
theorem dX10_isConsistent_13 : decode cX10_isConsistent 13 = .ok (.aload_n 0, 1) := by decide +kernel
theorem dX10_isConsistent_14 : decode cX10_isConsistent 14 = .ok (.getfield 35, 3) := by decide +kernel
theorem dX10_isConsistent_17 : decode cX10_isConsistent 17 = .ok (.iload_n 1, 1) := by decide +kernel
theorem dX10_isConsistent_18 : decode cX10_isConsistent 18 = .ok (.invokevirtual 68, 3) := by decide +kernel
theorem dX10_isConsistent_21 : decode cX10_isConsistent 21 = .ok (.checkcast 72, 3) := by decide +kernel
theorem dX10_isConsistent_24 : decode cX10_isConsistent 24 = .ok (.astore_n 2, 1) := by decide +kernel
theorem dX10_isConsistent_25 : decode cX10_isConsistent 25 = .ok (.iconst 0, 1) := by decide +kernel
theorem dX10_isConsistent_26 : decode cX10_isConsistent 26 = .ok (.istore_n 3, 1) := by decide +kernel
theorem dX10_isConsistent_27 : decode cX10_isConsistent 27 = .ok (.iload_n 3, 1) := by decide +kernel
theorem dX10_isConsistent_28 : decode cX10_isConsistent 28 = .ok (.aload_n 2, 1) := by decide +kernel
theorem dX10_isConsistent_29 : decode cX10_isConsistent 29 = .ok (.getfield 124, 3) := by decide +kernel
theorem dX10_isConsistent_32 : decode cX10_isConsistent 32 = .ok (.arraylength, 1) := by decide +kernel
theorem dX10_isConsistent_33 : decode cX10_isConsistent 33 = .ok (.if_icmp .ge 69, 3) := by decide +kernel
theorem dX10_isConsistent_36 : decode cX10_isConsistent 36 = .ok (.aload_n 2, 1) := by decide +kernel
theorem dX10_isConsistent_37 : decode cX10_isConsistent 37 = .ok (.getfield 124, 3) := by decide +kernel
theorem dX10_isConsistent_40 : decode cX10_isConsistent 40 = .ok (.iload_n 3, 1) := by decide +kernel
theorem dX10_isConsistent_41 : decode cX10_isConsistent 41 = .ok (.aaload, 1) := by decide +kernel
theorem dX10_isConsistent_42 : decode cX10_isConsistent 42 = .ok (.astore 4, 2) := by decide +kernel
theorem dX10_isConsistent_44 : decode cX10_isConsistent 44 = .ok (.aload 4, 2) := by decide +kernel
theorem dX10_isConsistent_46 : decode cX10_isConsistent 46 = .ok (.getfield 253, 3) := by decide +kernel
theorem dX10_isConsistent_49 : decode cX10_isConsistent 49 = .ok (.ifCond .eq 7, 3) := by decide +kernel
theorem dX10_isConsistent_52 : decode cX10_isConsistent 52 = .ok (.iconst 1, 1) := by decide +kernel
theorem dX10_isConsistent_53 : decode cX10_isConsistent 53 = .ok (.goto 4, 3) := by decide +kernel
theorem dX10_isConsistent_56 : decode cX10_isConsistent 56 = .ok (.iconst 0, 1) := by decide +kernel
theorem dX10_isConsistent_57 : decode cX10_isConsistent 57 = .ok (.istore 5, 2) := by decide +kernel
theorem dX10_isConsistent_59 : decode cX10_isConsistent 59 = .ok (.aload 4, 2) := by decide +kernel
theorem dX10_isConsistent_61 : decode cX10_isConsistent 61 = .ok (.getfield 256, 3) := by decide +kernel
theorem dX10_isConsistent_64 : decode cX10_isConsistent 64 = .ok (.aload 4, 2) := by decide +kernel
theorem dX10_isConsistent_66 : decode cX10_isConsistent 66 = .ok (.getfield 262, 3) := by decide +kernel
theorem dX10_isConsistent_69 : decode cX10_isConsistent 69 = .ok (.iload 5, 2) := by decide +kernel
theorem dX10_isConsistent_71 : decode cX10_isConsistent 71 = .ok (.iadd, 1) := by decide +kernel
theorem dX10_isConsistent_72 : decode cX10_isConsistent 72 = .ok (.if_icmp .ne 22, 3) := by decide +kernel
theorem dX10_isConsistent_75 : decode cX10_isConsistent 75 = .ok (.aload 4, 2) := by decide +kernel
theorem dX10_isConsistent_77 : decode cX10_isConsistent 77 = .ok (.invokevirtual 205, 3) := by decide +kernel
theorem dX10_isConsistent_80 : decode cX10_isConsistent 80 = .ok (.aload_n 0, 1) := by decide +kernel
theorem dX10_isConsistent_81 : decode cX10_isConsistent 81 = .ok (.iload_n 1, 1) := by decide +kernel
theorem dX10_isConsistent_82 : decode cX10_isConsistent 82 = .ok (.aload_n 2, 1) := by decide +kernel
theorem dX10_isConsistent_83 : decode cX10_isConsistent 83 = .ok (.getfield 214, 3) := by decide +kernel
theorem dX10_isConsistent_86 : decode cX10_isConsistent 86 = .ok (.iload_n 3, 1) := by decide +kernel
theorem dX10_isConsistent_87 : decode cX10_isConsistent 87 = .ok (.iadd, 1) := by decide +kernel
theorem dX10_isConsistent_88 : decode cX10_isConsistent 88 = .ok (.invokevirtual 310, 3) := by decide +kernel
theorem dX10_isConsistent_91 : decode cX10_isConsistent 91 = .ok (.if_icmp .eq 5, 3) := by decide +kernel
theorem dX10_isConsistent_94 : decode cX10_isConsistent 94 = .ok (.iconst 0, 1) := by decide +kernel
theorem dX10_isConsistent_95 : decode cX10_isConsistent 95 = .ok (.ireturn, 1) := by decide +kernel
theorem dX10_isConsistent_96 : decode cX10_isConsistent 96 = .ok (.iinc 3 1, 3) := by decide +kernel
theorem dX10_isConsistent_99 : decode cX10_isConsistent 99 = .ok (.goto (-72), 3) := by decide +kernel
theorem dX10_isConsistent_102 : decode cX10_isConsistent 102 = .ok (.iinc 1 1, 3) := by decide +kernel
theorem dX10_isConsistent_105 : decode cX10_isConsistent 105 = .ok (.goto (-103), 3) := by decide +kernel
theorem dX10_isConsistent_108 : decode cX10_isConsistent 108 = .ok (.iconst 1, 1) := by decide +kernel
theorem dX10_isConsistent_109 : decode cX10_isConsistent 109 = .ok (.ireturn, 1) := by decide +kernel
theorem dX11_init_0 : decode cX11_init 0 = .ok (.aload_n 0, 1) := by decide +kernel
theorem dX11_init_1 : decode cX11_init 1 = .ok (.invokespecial 3, 3) := by decide +kernel
theorem dX11_init_4 : decode cX11_init 4 = .ok (.aload_n 0, 1) := by decide +kernel
