/-! 25: decode rows -/
theorem dX11_init_5 : decode cX11_init 5 = .ok (.new 9, 3) := by decide +kernel
theorem dX11_init_8 : decode cX11_init 8 = .ok (.dup, 1) := by decide +kernel
theorem dX11_init_9 : decode cX11_init 9 = .ok (.invokespecial 11, 3) := by decide +kernel
theorem dX11_init_12 : decode cX11_init 12 = .ok (.putfield 12, 3) := by decide +kernel
theorem dX11_init_15 : decode cX11_init 15 = .ok (.aload_n 0, 1) := by decide +kernel
theorem dX11_init_16 : decode cX11_init 16 = .ok (.aload_n 0, 1) := by decide +kernel
theorem dX11_init_17 : decode cX11_init 17 = .ok (.getfield 12, 3) := by decide +kernel
theorem dX11_init_20 : decode cX11_init 20 = .ok (.getfield 16, 3) := by decide +kernel
theorem dX11_init_23 : decode cX11_init 23 = .ok (.putfield 20, 3) := by decide +kernel
theorem dX11_init_26 : decode cX11_init 26 = .ok (.aload_n 0, 1) := by decide +kernel
theorem dX11_init_27 : decode cX11_init 27 = .ok (.aload_n 0, 1) := by decide +kernel
theorem dX11_init_28 : decode cX11_init 28 = .ok (.getfield 12, 3) := by decide +kernel
theorem dX11_init_31 : decode cX11_init 31 = .ok (.getfield 21, 3) := by decide +kernel
theorem dX11_init_34 : decode cX11_init 34 = .ok (.putfield 25, 3) := by decide +kernel
theorem dX11_init_37 : decode cX11_init 37 = .ok (.aload_n 0, 1) := by decide +kernel
theorem dX11_init_38 : decode cX11_init 38 = .ok (.aload_n 0, 1) := by decide +kernel
theorem dX11_init_39 : decode cX11_init 39 = .ok (.getfield 12, 3) := by decide +kernel
theorem dX11_init_42 : decode cX11_init 42 = .ok (.getfield 26, 3) := by decide +kernel
theorem dX11_init_45 : decode cX11_init 45 = .ok (.putfield 30, 3) := by decide +kernel
theorem dX11_init_48 : decode cX11_init 48 = .ok (.aload_n 0, 1) := by decide +kernel
theorem dX11_init_49 : decode cX11_init 49 = .ok (.new 31, 3) := by decide +kernel
theorem dX11_init_52 : decode cX11_init 52 = .ok (.dup, 1) := by decide +kernel
theorem dX11_init_53 : decode cX11_init 53 = .ok (.invokespecial 33, 3) := by decide +kernel
theorem dX11_init_56 : decode cX11_init 56 = .ok (.putfield 34, 3) := by decide +kernel
theorem dX11_init_59 : decode cX11_init 59 = .ok (.aload_n 0, 1) := by decide +kernel
theorem dX11_init_60 : decode cX11_init 60 = .ok (.new 38, 3) := by decide +kernel
theorem dX11_init_63 : decode cX11_init 63 = .ok (.dup, 1) := by decide +kernel
theorem dX11_init_64 : decode cX11_init 64 = .ok (.invokespecial 40, 3) := by decide +kernel
theorem dX11_init_67 : decode cX11_init 67 = .ok (.putfield 41, 3) := by decide +kernel
theorem dX11_init_70 : decode cX11_init 70 = .ok (.return_, 1) := by decide +kernel
theorem dX11_rank_0 : decode cX11_rank 0 = .ok (.iload_n 1, 1) := by decide +kernel
theorem dX11_rank_1 : decode cX11_rank 1 = .ok (.iconst 0, 1) := by decide +kernel
theorem dX11_rank_2 : decode cX11_rank 2 = .ok (.bipush 127, 2) := by decide +kernel
theorem dX11_rank_4 : decode cX11_rank 4 = .ok (.invokestatic 45, 3) := by decide +kernel
theorem dX11_rank_7 : decode cX11_rank 7 = .ok (.iload_n 2, 1) := by decide +kernel
theorem dX11_rank_8 : decode cX11_rank 8 = .ok (.iload_n 1, 1) := by decide +kernel
theorem dX11_rank_9 : decode cX11_rank 9 = .ok (.bipush 127, 2) := by decide +kernel
theorem dX11_rank_11 : decode cX11_rank 11 = .ok (.invokestatic 45, 3) := by decide +kernel
theorem dX11_rank_14 : decode cX11_rank 14 = .ok (.iload_n 3, 1) := by decide +kernel
theorem dX11_rank_15 : decode cX11_rank 15 = .ok (.iconst 1, 1) := by decide +kernel
theorem dX11_rank_16 : decode cX11_rank 16 = .ok (.bipush 9, 2) := by decide +kernel
theorem dX11_rank_18 : decode cX11_rank 18 = .ok (.invokestatic 45, 3) := by decide +kernel
theorem dX11_rank_21 : decode cX11_rank 21 = .ok (.iload 4, 2) := by decide +kernel
theorem dX11_rank_23 : decode cX11_rank 23 = .ok (.iconst 0, 1) := by decide +kernel
theorem dX11_rank_24 : decode cX11_rank 24 = .ok (.iconst 2, 1) := by decide +kernel
theorem dX11_rank_25 : decode cX11_rank 25 = .ok (.invokestatic 45, 3) := by decide +kernel
theorem dX11_rank_28 : decode cX11_rank 28 = .ok (.iload 5, 2) := by decide +kernel
theorem dX11_rank_30 : decode cX11_rank 30 = .ok (.iconst 0, 1) := by decide +kernel
theorem dX11_rank_31 : decode cX11_rank 31 = .ok (.iconst 5, 1) := by decide +kernel
theorem dX11_rank_32 : decode cX11_rank 32 = .ok (.invokestatic 45, 3) := by decide +kernel
theorem dX11_rank_35 : decode cX11_rank 35 = .ok (.iload 6, 2) := by decide +kernel
theorem dX11_rank_37 : decode cX11_rank 37 = .ok (.iconst 0, 1) := by decide +kernel
theorem dX11_rank_38 : decode cX11_rank 38 = .ok (.iconst 5, 1) := by decide +kernel
theorem dX11_rank_39 : decode cX11_rank 39 = .ok (.invokestatic 45, 3) := by decide +kernel
theorem dX11_rank_42 : decode cX11_rank 42 = .ok (.iload 7, 2) := by decide +kernel
theorem dX11_rank_44 : decode cX11_rank 44 = .ok (.iconst 1, 1) := by decide +kernel
theorem dX11_rank_45 : decode cX11_rank 45 = .ok (.bipush 99, 2) := by decide +kernel
theorem dX11_rank_47 : decode cX11_rank 47 = .ok (.invokestatic 45, 3) := by decide +kernel
theorem dX11_rank_50 : decode cX11_rank 50 = .ok (.aload_n 0, 1) := by decide +kernel
theorem dX11_rank_51 : decode cX11_rank 51 = .ok (.getfield 12, 3) := by decide +kernel
theorem dX11_rank_54 : decode cX11_rank 54 = .ok (.getfield 49, 3) := by decide +kernel
theorem dX11_rank_57 : decode cX11_rank 57 = .ok (.invokevirtual 53, 3) := by decide +kernel
theorem dX11_rank_60 : decode cX11_rank 60 = .ok (.bipush 10, 2) := by decide +kernel
theorem dX11_rank_62 : decode cX11_rank 62 = .ok (.if_icmp .lt 13, 3) := by decide +kernel
theorem dX11_rank_65 : decode cX11_rank 65 = .ok (.new 59, 3) := by decide +kernel
theorem dX11_rank_68 : decode cX11_rank 68 = .ok (.dup, 1) := by decide +kernel
theorem dX11_rank_69 : decode cX11_rank 69 = .ok (.ldc 61, 2) := by decide +kernel
theorem dX11_rank_71 : decode cX11_rank 71 = .ok (.invokespecial 63, 3) := by decide +kernel
theorem dX11_rank_74 : decode cX11_rank 74 = .ok (.athrow, 1) := by decide +kernel
theorem dX11_rank_75 : decode cX11_rank 75 = .ok (.new 66, 3) := by decide +kernel
theorem dX11_rank_78 : decode cX11_rank 78 = .ok (.dup, 1) := by decide +kernel
theorem dX11_rank_79 : decode cX11_rank 79 = .ok (.iload_n 1, 1) := by decide +kernel
theorem dX11_rank_80 : decode cX11_rank 80 = .ok (.iload_n 2, 1) := by decide +kernel
theorem dX11_rank_81 : decode cX11_rank 81 = .ok (.iload 4, 2) := by decide +kernel
theorem dX11_rank_83 : decode cX11_rank 83 = .ok (.invokespecial 68, 3) := by decide +kernel
theorem dX11_rank_86 : decode cX11_rank 86 = .ok (.astore 8, 2) := by decide +kernel
theorem dX11_rank_88 : decode cX11_rank 88 = .ok (.aload 8, 2) := by decide +kernel
theorem dX11_rank_90 : decode cX11_rank 90 = .ok (.iload_n 3, 1) := by decide +kernel
theorem dX11_rank_91 : decode cX11_rank 91 = .ok (.putfield 70, 3) := by decide +kernel
theorem dX11_rank_94 : decode cX11_rank 94 = .ok (.aload 8, 2) := by decide +kernel
theorem dX11_rank_96 : decode cX11_rank 96 = .ok (.iload 5, 2) := by decide +kernel
theorem dX11_rank_98 : decode cX11_rank 98 = .ok (.putfield 74, 3) := by decide +kernel
theorem dX11_rank_101 : decode cX11_rank 101 = .ok (.aload 8, 2) := by decide +kernel
theorem dX11_rank_103 : decode cX11_rank 103 = .ok (.iload 6, 2) := by decide +kernel
theorem dX11_rank_105 : decode cX11_rank 105 = .ok (.putfield 77, 3) := by decide +kernel
theorem dX11_rank_108 : decode cX11_rank 108 = .ok (.aload 8, 2) := by decide +kernel
theorem dX11_rank_110 : decode cX11_rank 110 = .ok (.iload 7, 2) := by decide +kernel
theorem dX11_rank_112 : decode cX11_rank 112 = .ok (.putfield 80, 3) := by decide +kernel
theorem dX11_rank_115 : decode cX11_rank 115 = .ok (.aload_n 0, 1) := by decide +kernel
theorem dX11_rank_116 : decode cX11_rank 116 = .ok (.getfield 12, 3) := by decide +kernel
theorem dX11_rank_119 : decode cX11_rank 119 = .ok (.getfield 49, 3) := by decide +kernel
theorem dX11_rank_122 : decode cX11_rank 122 = .ok (.aload 8, 2) := by decide +kernel
theorem dX11_rank_124 : decode cX11_rank 124 = .ok (.invokevirtual 83, 3) := by decide +kernel
theorem dX11_rank_127 : decode cX11_rank 127 = .ok (.pop, 1) := by decide +kernel
theorem dX11_rank_128 : decode cX11_rank 128 = .ok (.aload_n 0, 1) := by decide +kernel
theorem dX11_rank_129 : decode cX11_rank 129 = .ok (.getfield 12, 3) := by decide +kernel
theorem dX11_rank_132 : decode cX11_rank 132 = .ok (.invokevirtual 87, 3) := by decide +kernel
theorem dX11_rank_135 : decode cX11_rank 135 = .ok (.aload_n 0, 1) := by decide +kernel
theorem dX11_rank_136 : decode cX11_rank 136 = .ok (.getfield 12, 3) := by decide +kernel
theorem dX11_rank_139 : decode cX11_rank 139 = .ok (.getfield 49, 3) := by decide +kernel
theorem dX11_rank_142 : decode cX11_rank 142 = .ok (.invokevirtual 53, 3) := by decide +kernel
theorem dX11_rank_145 : decode cX11_rank 145 = .ok (.iconst 1, 1) := by decide +kernel
theorem dX11_rank_146 : decode cX11_rank 146 = .ok (.isub, 1) := by decide +kernel
theorem dX11_rank_147 : decode cX11_rank 147 = .ok (.ireturn, 1) := by decide +kernel
theorem dX11_stop_0 : decode cX11_stop 0 = .ok (.iload_n 1, 1) := by decide +kernel
theorem dX11_stop_1 : decode cX11_stop 1 = .ok (.invokestatic 90, 3) := by decide +kernel
theorem dX11_stop_4 : decode cX11_stop 4 = .ok (.aload_n 0, 1) := by decide +kernel
theorem dX11_stop_5 : decode cX11_stop 5 = .ok (.invokevirtual 94, 3) := by decide +kernel
theorem dX11_stop_8 : decode cX11_stop 8 = .ok (.aload_n 0, 1) := by decide +kernel
theorem dX11_stop_9 : decode cX11_stop 9 = .ok (.new 97, 3) := by decide +kernel
theorem dX11_stop_12 : decode cX11_stop 12 = .ok (.dup, 1) := by decide +kernel
theorem dX11_stop_13 : decode cX11_stop 13 = .ok (.bipush 115, 2) := by decide +kernel
theorem dX11_stop_15 : decode cX11_stop 15 = .ok (.iload_n 1, 1) := by decide +kernel
theorem dX11_stop_16 : decode cX11_stop 16 = .ok (.new 99, 3) := by decide +kernel
theorem dX11_stop_19 : decode cX11_stop 19 = .ok (.dup, 1) := by decide +kernel
theorem dX11_stop_20 : decode cX11_stop 20 = .ok (.invokespecial 101, 3) := by decide +kernel
theorem dX11_stop_23 : decode cX11_stop 23 = .ok (.aconst_null, 1) := by decide +kernel
theorem dX11_stop_24 : decode cX11_stop 24 = .ok (.invokespecial 102, 3) := by decide +kernel
theorem dX11_stop_27 : decode cX11_stop 27 = .ok (.invokevirtual 105, 3) := by decide +kernel
theorem dX11_stop_30 : decode cX11_stop 30 = .ok (.ireturn, 1) := by decide +kernel
theorem dX11_row_0 : decode cX11_row 0 = .ok (.aload_n 0, 1) := by decide +kernel
theorem dX11_row_1 : decode cX11_row 1 = .ok (.iload_n 1, 1) := by decide +kernel
theorem dX11_row_2 : decode cX11_row 2 = .ok (.invokevirtual 109, 3) := by decide +kernel
theorem dX11_row_5 : decode cX11_row 5 = .ok (.astore 6, 2) := by decide +kernel
theorem dX11_row_7 : decode cX11_row 7 = .ok (.aload_n 0, 1) := by decide +kernel
theorem dX11_row_8 : decode cX11_row 8 = .ok (.iload_n 2, 1) := by decide +kernel
theorem dX11_row_9 : decode cX11_row 9 = .ok (.invokevirtual 113, 3) := by decide +kernel
theorem dX11_row_12 : decode cX11_row 12 = .ok (.pop, 1) := by decide +kernel
theorem dX11_row_13 : decode cX11_row 13 = .ok (.iload_n 3, 1) := by decide +kernel
theorem dX11_row_14 : decode cX11_row 14 = .ok (.bipush (-36), 2) := by decide +kernel
theorem dX11_row_16 : decode cX11_row 16 = .ok (.bipush 60, 2) := by decide +kernel
theorem dX11_row_18 : decode cX11_row 18 = .ok (.invokestatic 45, 3) := by decide +kernel
theorem dX11_row_21 : decode cX11_row 21 = .ok (.iload 4, 2) := by decide +kernel
theorem dX11_row_23 : decode cX11_row 23 = .ok (.iconst 0, 1) := by decide +kernel
theorem dX11_row_24 : decode cX11_row 24 = .ok (.bipush 60, 2) := by decide +kernel
theorem dX11_row_26 : decode cX11_row 26 = .ok (.invokestatic 45, 3) := by decide +kernel
theorem dX11_row_29 : decode cX11_row 29 = .ok (.iload 5, 2) := by decide +kernel
theorem dX11_row_31 : decode cX11_row 31 = .ok (.iload 4, 2) := by decide +kernel
theorem dX11_row_33 : decode cX11_row 33 = .ok (.bipush 60, 2) := by decide +kernel
theorem dX11_row_35 : decode cX11_row 35 = .ok (.invokestatic 45, 3) := by decide +kernel
theorem dX11_row_38 : decode cX11_row 38 = .ok (.aload 6, 2) := by decide +kernel
theorem dX11_row_40 : decode cX11_row 40 = .ok (.invokestatic 117, 3) := by decide +kernel
theorem dX11_row_43 : decode cX11_row 43 = .ok (.astore 7, 2) := by decide +kernel
theorem dX11_row_45 : decode cX11_row 45 = .ok (.aload 7, 2) := by decide +kernel
theorem dX11_row_47 : decode cX11_row 47 = .ok (.iload_n 2, 1) := by decide +kernel
theorem dX11_row_48 : decode cX11_row 48 = .ok (.iload_n 3, 1) := by decide +kernel
theorem dX11_row_49 : decode cX11_row 49 = .ok (.iload 4, 2) := by decide +kernel
theorem dX11_row_51 : decode cX11_row 51 = .ok (.iload 5, 2) := by decide +kernel
theorem dX11_row_53 : decode cX11_row 53 = .ok (.invokevirtual 121, 3) := by decide +kernel
theorem dX11_row_56 : decode cX11_row 56 = .ok (.ifCond .ne 13, 3) := by decide +kernel
theorem dX11_row_59 : decode cX11_row 59 = .ok (.new 59, 3) := by decide +kernel
theorem dX11_row_62 : decode cX11_row 62 = .ok (.dup, 1) := by decide +kernel
theorem dX11_row_63 : decode cX11_row 63 = .ok (.ldc 125, 2) := by decide +kernel
theorem dX11_row_65 : decode cX11_row 65 = .ok (.invokespecial 63, 3) := by decide +kernel
theorem dX11_row_68 : decode cX11_row 68 = .ok (.athrow, 1) := by decide +kernel
theorem dX11_row_69 : decode cX11_row 69 = .ok (.aload_n 0, 1) := by decide +kernel
theorem dX11_row_70 : decode cX11_row 70 = .ok (.getfield 12, 3) := by decide +kernel
theorem dX11_row_73 : decode cX11_row 73 = .ok (.invokevirtual 87, 3) := by decide +kernel
theorem dX11_row_76 : decode cX11_row 76 = .ok (.aload 7, 2) := by decide +kernel
theorem dX11_row_78 : decode cX11_row 78 = .ok (.getfield 127, 3) := by decide +kernel
theorem dX11_row_81 : decode cX11_row 81 = .ok (.ireturn, 1) := by decide +kernel
theorem dX11_cross_0 : decode cX11_cross 0 = .ok (.aload_n 0, 1) := by decide +kernel
theorem dX11_cross_1 : decode cX11_cross 1 = .ok (.iload_n 1, 1) := by decide +kernel
theorem dX11_cross_2 : decode cX11_cross 2 = .ok (.invokevirtual 109, 3) := by decide +kernel
theorem dX11_cross_5 : decode cX11_cross 5 = .ok (.astore 4, 2) := by decide +kernel
theorem dX11_cross_7 : decode cX11_cross 7 = .ok (.iload_n 2, 1) := by decide +kernel
theorem dX11_cross_8 : decode cX11_cross 8 = .ok (.iconst 0, 1) := by decide +kernel
theorem dX11_cross_9 : decode cX11_cross 9 = .ok (.bipush 60, 2) := by decide +kernel
theorem dX11_cross_11 : decode cX11_cross 11 = .ok (.invokestatic 45, 3) := by decide +kernel
theorem dX11_cross_14 : decode cX11_cross 14 = .ok (.iload_n 3, 1) := by decide +kernel
theorem dX11_cross_15 : decode cX11_cross 15 = .ok (.iconst 0, 1) := by decide +kernel
theorem dX11_cross_16 : decode cX11_cross 16 = .ok (.bipush 60, 2) := by decide +kernel
theorem dX11_cross_18 : decode cX11_cross 18 = .ok (.invokestatic 45, 3) := by decide +kernel
theorem dX11_cross_21 : decode cX11_cross 21 = .ok (.iload_n 2, 1) := by decide +kernel
theorem dX11_cross_22 : decode cX11_cross 22 = .ok (.iload_n 3, 1) := by decide +kernel
theorem dX11_cross_23 : decode cX11_cross 23 = .ok (.if_icmp .ne 13, 3) := by decide +kernel
theorem dX11_cross_26 : decode cX11_cross 26 = .ok (.new 130, 3) := by decide +kernel
theorem dX11_cross_29 : decode cX11_cross 29 = .ok (.dup, 1) := by decide +kernel
theorem dX11_cross_30 : decode cX11_cross 30 = .ok (.ldc 132, 2) := by decide +kernel
theorem dX11_cross_32 : decode cX11_cross 32 = .ok (.invokespecial 134, 3) := by decide +kernel
theorem dX11_cross_35 : decode cX11_cross 35 = .ok (.athrow, 1) := by decide +kernel
theorem dX11_cross_36 : decode cX11_cross 36 = .ok (.aload 4, 2) := by decide +kernel
theorem dX11_cross_38 : decode cX11_cross 38 = .ok (.invokestatic 117, 3) := by decide +kernel
theorem dX11_cross_41 : decode cX11_cross 41 = .ok (.astore 5, 2) := by decide +kernel
theorem dX11_cross_43 : decode cX11_cross 43 = .ok (.aload 5, 2) := by decide +kernel
theorem dX11_cross_45 : decode cX11_cross 45 = .ok (.iload_n 2, 1) := by decide +kernel
theorem dX11_cross_46 : decode cX11_cross 46 = .ok (.iload_n 3, 1) := by decide +kernel
theorem dX11_cross_47 : decode cX11_cross 47 = .ok (.invokevirtual 135, 3) := by decide +kernel
theorem dX11_cross_50 : decode cX11_cross 50 = .ok (.aload_n 0, 1) := by decide +kernel
theorem dX11_cross_51 : decode cX11_cross 51 = .ok (.getfield 12, 3) := by decide +kernel
theorem dX11_cross_54 : decode cX11_cross 54 = .ok (.invokevirtual 87, 3) := by decide +kernel
theorem dX11_cross_57 : decode cX11_cross 57 = .ok (.aload 5, 2) := by decide +kernel
theorem dX11_cross_59 : decode cX11_cross 59 = .ok (.invokevirtual 139, 3) := by decide +kernel
theorem dX11_cross_62 : decode cX11_cross 62 = .ok (.ireturn, 1) := by decide +kernel
theorem dX11_coupler_0 : decode cX11_coupler 0 = .ok (.iload_n 1, 1) := by decide +kernel
theorem dX11_coupler_1 : decode cX11_coupler 1 = .ok (.invokestatic 90, 3) := by decide +kernel
theorem dX11_coupler_4 : decode cX11_coupler 4 = .ok (.iload_n 2, 1) := by decide +kernel
theorem dX11_coupler_5 : decode cX11_coupler 5 = .ok (.invokestatic 90, 3) := by decide +kernel
theorem dX11_coupler_8 : decode cX11_coupler 8 = .ok (.iload_n 3, 1) := by decide +kernel
theorem dX11_coupler_9 : decode cX11_coupler 9 = .ok (.bipush (-12), 2) := by decide +kernel
theorem dX11_coupler_11 : decode cX11_coupler 11 = .ok (.if_icmp .eq 13, 3) := by decide +kernel
theorem dX11_coupler_14 : decode cX11_coupler 14 = .ok (.iload_n 3, 1) := by decide +kernel
theorem dX11_coupler_15 : decode cX11_coupler 15 = .ok (.ifCond .eq 9, 3) := by decide +kernel
theorem dX11_coupler_18 : decode cX11_coupler 18 = .ok (.iload_n 3, 1) := by decide +kernel
theorem dX11_coupler_19 : decode cX11_coupler 19 = .ok (.bipush 12, 2) := by decide +kernel
theorem dX11_coupler_21 : decode cX11_coupler 21 = .ok (.if_icmp .ne 7, 3) := by decide +kernel
theorem dX11_coupler_24 : decode cX11_coupler 24 = .ok (.iconst 1, 1) := by decide +kernel
theorem dX11_coupler_25 : decode cX11_coupler 25 = .ok (.goto 4, 3) := by decide +kernel
theorem dX11_coupler_28 : decode cX11_coupler 28 = .ok (.iconst 0, 1) := by decide +kernel
theorem dX11_coupler_29 : decode cX11_coupler 29 = .ok (.istore 5, 2) := by decide +kernel
theorem dX11_coupler_31 : decode cX11_coupler 31 = .ok (.iload 4, 2) := by decide +kernel
theorem dX11_coupler_33 : decode cX11_coupler 33 = .ok (.bipush 97, 2) := by decide +kernel
theorem dX11_coupler_35 : decode cX11_coupler 35 = .ok (.if_icmp .eq 24, 3) := by decide +kernel
theorem dX11_coupler_38 : decode cX11_coupler 38 = .ok (.iload 4, 2) := by decide +kernel
theorem dX11_coupler_40 : decode cX11_coupler 40 = .ok (.bipush 109, 2) := by decide +kernel
theorem dX11_coupler_42 : decode cX11_coupler 42 = .ok (.if_icmp .eq 17, 3) := by decide +kernel
theorem dX11_coupler_45 : decode cX11_coupler 45 = .ok (.iload 4, 2) := by decide +kernel
theorem dX11_coupler_47 : decode cX11_coupler 47 = .ok (.bipush 98, 2) := by decide +kernel
theorem dX11_coupler_49 : decode cX11_coupler 49 = .ok (.if_icmp .eq 10, 3) := by decide +kernel
theorem dX11_coupler_52 : decode cX11_coupler 52 = .ok (.iload 4, 2) := by decide +kernel
theorem dX11_coupler_54 : decode cX11_coupler 54 = .ok (.bipush 112, 2) := by decide +kernel
theorem dX11_coupler_56 : decode cX11_coupler 56 = .ok (.if_icmp .ne 7, 3) := by decide +kernel
theorem dX11_coupler_59 : decode cX11_coupler 59 = .ok (.iconst 1, 1) := by decide +kernel
theorem dX11_coupler_60 : decode cX11_coupler 60 = .ok (.goto 4, 3) := by decide +kernel
theorem dX11_coupler_63 : decode cX11_coupler 63 = .ok (.iconst 0, 1) := by decide +kernel
theorem dX11_coupler_64 : decode cX11_coupler 64 = .ok (.istore 6, 2) := by decide +kernel
theorem dX11_coupler_66 : decode cX11_coupler 66 = .ok (.iload 5, 2) := by decide +kernel
theorem dX11_coupler_68 : decode cX11_coupler 68 = .ok (.ifCond .eq 17, 3) := by decide +kernel
theorem dX11_coupler_71 : decode cX11_coupler 71 = .ok (.iload 6, 2) := by decide +kernel
theorem dX11_coupler_73 : decode cX11_coupler 73 = .ok (.ifCond .eq 12, 3) := by decide +kernel
theorem dX11_coupler_76 : decode cX11_coupler 76 = .ok (.iload_n 1, 1) := by decide +kernel
theorem dX11_coupler_77 : decode cX11_coupler 77 = .ok (.iload_n 2, 1) := by decide +kernel
theorem dX11_coupler_78 : decode cX11_coupler 78 = .ok (.if_icmp .ne 17, 3) := by decide +kernel
theorem dX11_coupler_81 : decode cX11_coupler 81 = .ok (.iload_n 3, 1) := by decide +kernel
theorem dX11_coupler_82 : decode cX11_coupler 82 = .ok (.ifCond .ne 13, 3) := by decide +kernel
theorem dX11_coupler_85 : decode cX11_coupler 85 = .ok (.new 130, 3) := by decide +kernel
theorem dX11_coupler_88 : decode cX11_coupler 88 = .ok (.dup, 1) := by decide +kernel
theorem dX11_coupler_89 : decode cX11_coupler 89 = .ok (.ldc 142, 2) := by decide +kernel
theorem dX11_coupler_91 : decode cX11_coupler 91 = .ok (.invokespecial 134, 3) := by decide +kernel
theorem dX11_coupler_94 : decode cX11_coupler 94 = .ok (.athrow, 1) := by decide +kernel
theorem dX11_coupler_95 : decode cX11_coupler 95 = .ok (.aload_n 0, 1) := by decide +kernel
theorem dX11_coupler_96 : decode cX11_coupler 96 = .ok (.invokevirtual 94, 3) := by decide +kernel
theorem dX11_coupler_99 : decode cX11_coupler 99 = .ok (.aload_n 0, 1) := by decide +kernel
theorem dX11_coupler_100 : decode cX11_coupler 100 = .ok (.new 97, 3) := by decide +kernel
theorem dX11_coupler_103 : decode cX11_coupler 103 = .ok (.dup, 1) := by decide +kernel
theorem dX11_coupler_104 : decode cX11_coupler 104 = .ok (.bipush 99, 2) := by decide +kernel
theorem dX11_coupler_106 : decode cX11_coupler 106 = .ok (.iload_n 1, 1) := by decide +kernel
theorem dX11_coupler_107 : decode cX11_coupler 107 = .ok (.aconst_null, 1) := by decide +kernel
theorem dX11_coupler_108 : decode cX11_coupler 108 = .ok (.new 144, 3) := by decide +kernel
theorem dX11_coupler_111 : decode cX11_coupler 111 = .ok (.dup, 1) := by decide +kernel
theorem dX11_coupler_112 : decode cX11_coupler 112 = .ok (.iload_n 1, 1) := by decide +kernel
theorem dX11_coupler_113 : decode cX11_coupler 113 = .ok (.iload_n 2, 1) := by decide +kernel
theorem dX11_coupler_114 : decode cX11_coupler 114 = .ok (.iload_n 3, 1) := by decide +kernel
theorem dX11_coupler_115 : decode cX11_coupler 115 = .ok (.iload 4, 2) := by decide +kernel
theorem dX11_coupler_117 : decode cX11_coupler 117 = .ok (.invokespecial 146, 3) := by decide +kernel
theorem dX11_coupler_120 : decode cX11_coupler 120 = .ok (.invokespecial 102, 3) := by decide +kernel
theorem dX11_coupler_123 : decode cX11_coupler 123 = .ok (.invokevirtual 105, 3) := by decide +kernel
theorem dX11_coupler_126 : decode cX11_coupler 126 = .ok (.ireturn, 1) := by decide +kernel
theorem dX11_tremulant_0 : decode cX11_tremulant 0 = .ok (.iload_n 1, 1) := by decide +kernel
theorem dX11_tremulant_1 : decode cX11_tremulant 1 = .ok (.invokestatic 90, 3) := by decide +kernel
theorem dX11_tremulant_4 : decode cX11_tremulant 4 = .ok (.aload_n 0, 1) := by decide +kernel
theorem dX11_tremulant_5 : decode cX11_tremulant 5 = .ok (.invokevirtual 94, 3) := by decide +kernel
theorem dX11_tremulant_8 : decode cX11_tremulant 8 = .ok (.aload_n 0, 1) := by decide +kernel
theorem dX11_tremulant_9 : decode cX11_tremulant 9 = .ok (.new 97, 3) := by decide +kernel
theorem dX11_tremulant_12 : decode cX11_tremulant 12 = .ok (.dup, 1) := by decide +kernel
theorem dX11_tremulant_13 : decode cX11_tremulant 13 = .ok (.bipush 116, 2) := by decide +kernel
theorem dX11_tremulant_15 : decode cX11_tremulant 15 = .ok (.iload_n 1, 1) := by decide +kernel
theorem dX11_tremulant_16 : decode cX11_tremulant 16 = .ok (.aconst_null, 1) := by decide +kernel
theorem dX11_tremulant_17 : decode cX11_tremulant 17 = .ok (.aconst_null, 1) := by decide +kernel
theorem dX11_tremulant_18 : decode cX11_tremulant 18 = .ok (.invokespecial 102, 3) := by decide +kernel
theorem dX11_tremulant_21 : decode cX11_tremulant 21 = .ok (.invokevirtual 105, 3) := by decide +kernel
theorem dX11_tremulant_24 : decode cX11_tremulant 24 = .ok (.ireturn, 1) := by decide +kernel
theorem dX11_draw_0 : decode cX11_draw 0 = .ok (.aload_n 0, 1) := by decide +kernel
theorem dX11_draw_1 : decode cX11_draw 1 = .ok (.iload_n 1, 1) := by decide +kernel
theorem dX11_draw_2 : decode cX11_draw 2 = .ok (.invokevirtual 109, 3) := by decide +kernel
theorem dX11_draw_5 : decode cX11_draw 5 = .ok (.astore_n 3, 1) := by decide +kernel
theorem dX11_draw_6 : decode cX11_draw 6 = .ok (.aload_n 3, 1) := by decide +kernel
theorem dX11_draw_7 : decode cX11_draw 7 = .ok (.getfield 149, 3) := by decide +kernel
theorem dX11_draw_10 : decode cX11_draw 10 = .ok (.istore 4, 2) := by decide +kernel
theorem dX11_draw_12 : decode cX11_draw 12 = .ok (.aload_n 3, 1) := by decide +kernel
theorem dX11_draw_13 : decode cX11_draw 13 = .ok (.iload_n 2, 1) := by decide +kernel
theorem dX11_draw_14 : decode cX11_draw 14 = .ok (.putfield 149, 3) := by decide +kernel
theorem dX11_draw_17 : decode cX11_draw 17 = .ok (.aload_n 0, 1) := by decide +kernel
theorem dX11_draw_18 : decode cX11_draw 18 = .ok (.getfield 12, 3) := by decide +kernel
theorem dX11_draw_21 : decode cX11_draw 21 = .ok (.invokevirtual 87, 3) := by decide +kernel
theorem dX11_draw_24 : decode cX11_draw 24 = .ok (.iload 4, 2) := by decide +kernel
theorem dX11_draw_26 : decode cX11_draw 26 = .ok (.ireturn, 1) := by decide +kernel
theorem dX11_isDrawn_0 : decode cX11_isDrawn 0 = .ok (.aload_n 0, 1) := by decide +kernel
theorem dX11_isDrawn_1 : decode cX11_isDrawn 1 = .ok (.iload_n 1, 1) := by decide +kernel
theorem dX11_isDrawn_2 : decode cX11_isDrawn 2 = .ok (.invokevirtual 109, 3) := by decide +kernel
theorem dX11_isDrawn_5 : decode cX11_isDrawn 5 = .ok (.getfield 149, 3) := by decide +kernel
theorem dX11_isDrawn_8 : decode cX11_isDrawn 8 = .ok (.ireturn, 1) := by decide +kernel
theorem dX11_isOn_0 : decode cX11_isOn 0 = .ok (.aload_n 0, 1) := by decide +kernel
theorem dX11_isOn_1 : decode cX11_isOn 1 = .ok (.iload_n 1, 1) := by decide +kernel
theorem dX11_isOn_2 : decode cX11_isOn 2 = .ok (.invokevirtual 109, 3) := by decide +kernel
theorem dX11_isOn_5 : decode cX11_isOn 5 = .ok (.astore_n 2, 1) := by decide +kernel
theorem dX11_isOn_6 : decode cX11_isOn 6 = .ok (.aload_n 2, 1) := by decide +kernel
theorem dX11_isOn_7 : decode cX11_isOn 7 = .ok (.invokestatic 117, 3) := by decide +kernel
theorem dX11_isOn_10 : decode cX11_isOn 10 = .ok (.pop, 1) := by decide +kernel
theorem dX11_isOn_11 : decode cX11_isOn 11 = .ok (.aload_n 0, 1) := by decide +kernel
theorem dX11_isOn_12 : decode cX11_isOn 12 = .ok (.getfield 25, 3) := by decide +kernel
theorem dX11_isOn_15 : decode cX11_isOn 15 = .ok (.aload_n 2, 1) := by decide +kernel
theorem dX11_isOn_16 : decode cX11_isOn 16 = .ok (.invokevirtual 153, 3) := by decide +kernel
theorem dX11_isOn_19 : decode cX11_isOn 19 = .ok (.ireturn, 1) := by decide +kernel
theorem dX11_lock_0 : decode cX11_lock 0 = .ok (.aload_n 0, 1) := by decide +kernel
theorem dX11_lock_1 : decode cX11_lock 1 = .ok (.iload_n 1, 1) := by decide +kernel
theorem dX11_lock_2 : decode cX11_lock 2 = .ok (.invokevirtual 109, 3) := by decide +kernel
theorem dX11_lock_5 : decode cX11_lock 5 = .ok (.astore_n 3, 1) := by decide +kernel
theorem dX11_lock_6 : decode cX11_lock 6 = .ok (.aload_n 3, 1) := by decide +kernel
theorem dX11_lock_7 : decode cX11_lock 7 = .ok (.getfield 159, 3) := by decide +kernel
theorem dX11_lock_10 : decode cX11_lock 10 = .ok (.istore 4, 2) := by decide +kernel
theorem dX11_lock_12 : decode cX11_lock 12 = .ok (.aload_n 3, 1) := by decide +kernel
theorem dX11_lock_13 : decode cX11_lock 13 = .ok (.iload_n 2, 1) := by decide +kernel
theorem dX11_lock_14 : decode cX11_lock 14 = .ok (.putfield 159, 3) := by decide +kernel
theorem dX11_lock_17 : decode cX11_lock 17 = .ok (.iload 4, 2) := by decide +kernel
theorem dX11_lock_19 : decode cX11_lock 19 = .ok (.ireturn, 1) := by decide +kernel
theorem dX11_stage_0 : decode cX11_stage 0 = .ok (.aload_n 0, 1) := by decide +kernel
theorem dX11_stage_1 : decode cX11_stage 1 = .ok (.iload_n 1, 1) := by decide +kernel
theorem dX11_stage_2 : decode cX11_stage 2 = .ok (.invokevirtual 109, 3) := by decide +kernel
theorem dX11_stage_5 : decode cX11_stage 5 = .ok (.astore_n 3, 1) := by decide +kernel
theorem dX11_stage_6 : decode cX11_stage 6 = .ok (.iload_n 2, 1) := by decide +kernel
theorem dX11_stage_7 : decode cX11_stage 7 = .ok (.iconst 0, 1) := by decide +kernel
theorem dX11_stage_8 : decode cX11_stage 8 = .ok (.bipush 9, 2) := by decide +kernel
theorem dX11_stage_10 : decode cX11_stage 10 = .ok (.invokestatic 45, 3) := by decide +kernel
theorem dX11_stage_13 : decode cX11_stage 13 = .ok (.aload_n 3, 1) := by decide +kernel
theorem dX11_stage_14 : decode cX11_stage 14 = .ok (.invokestatic 117, 3) := by decide +kernel
theorem dX11_stage_17 : decode cX11_stage 17 = .ok (.astore 4, 2) := by decide +kernel
theorem dX11_stage_19 : decode cX11_stage 19 = .ok (.aload 4, 2) := by decide +kernel
theorem dX11_stage_21 : decode cX11_stage 21 = .ok (.getfield 162, 3) := by decide +kernel
theorem dX11_stage_24 : decode cX11_stage 24 = .ok (.istore 5, 2) := by decide +kernel
theorem dX11_stage_26 : decode cX11_stage 26 = .ok (.aload 4, 2) := by decide +kernel
theorem dX11_stage_28 : decode cX11_stage 28 = .ok (.iload_n 2, 1) := by decide +kernel
theorem dX11_stage_29 : decode cX11_stage 29 = .ok (.putfield 162, 3) := by decide +kernel
theorem dX11_stage_32 : decode cX11_stage 32 = .ok (.aload_n 0, 1) := by decide +kernel
theorem dX11_stage_33 : decode cX11_stage 33 = .ok (.getfield 12, 3) := by decide +kernel
theorem dX11_stage_36 : decode cX11_stage 36 = .ok (.invokevirtual 87, 3) := by decide +kernel
theorem dX11_stage_39 : decode cX11_stage 39 = .ok (.iload 5, 2) := by decide +kernel
theorem dX11_stage_41 : decode cX11_stage 41 = .ok (.ireturn, 1) := by decide +kernel
theorem dX11_crescendo_0 : decode cX11_crescendo 0 = .ok (.iload_n 1, 1) := by decide +kernel
theorem dX11_crescendo_1 : decode cX11_crescendo 1 = .ok (.iconst 0, 1) := by decide +kernel
theorem dX11_crescendo_2 : decode cX11_crescendo 2 = .ok (.bipush 9, 2) := by decide +kernel
theorem dX11_crescendo_4 : decode cX11_crescendo 4 = .ok (.invokestatic 45, 3) := by decide +kernel
theorem dX11_crescendo_7 : decode cX11_crescendo 7 = .ok (.aload_n 0, 1) := by decide +kernel
theorem dX11_crescendo_8 : decode cX11_crescendo 8 = .ok (.getfield 25, 3) := by decide +kernel
theorem dX11_crescendo_11 : decode cX11_crescendo 11 = .ok (.getfield 165, 3) := by decide +kernel
theorem dX11_crescendo_14 : decode cX11_crescendo 14 = .ok (.istore_n 2, 1) := by decide +kernel
theorem dX11_crescendo_15 : decode cX11_crescendo 15 = .ok (.aload_n 0, 1) := by decide +kernel
theorem dX11_crescendo_16 : decode cX11_crescendo 16 = .ok (.getfield 25, 3) := by decide +kernel
theorem dX11_crescendo_19 : decode cX11_crescendo 19 = .ok (.iload_n 1, 1) := by decide +kernel
theorem dX11_crescendo_20 : decode cX11_crescendo 20 = .ok (.putfield 165, 3) := by decide +kernel
theorem dX11_crescendo_23 : decode cX11_crescendo 23 = .ok (.aload_n 0, 1) := by decide +kernel
theorem dX11_crescendo_24 : decode cX11_crescendo 24 = .ok (.getfield 12, 3) := by decide +kernel
theorem dX11_crescendo_27 : decode cX11_crescendo 27 = .ok (.invokevirtual 87, 3) := by decide +kernel
theorem dX11_crescendo_30 : decode cX11_crescendo 30 = .ok (.iload_n 2, 1) := by decide +kernel
theorem dX11_crescendo_31 : decode cX11_crescendo 31 = .ok (.ireturn, 1) := by decide +kernel
theorem dX11_tutti_0 : decode cX11_tutti 0 = .ok (.aload_n 0, 1) := by decide +kernel
theorem dX11_tutti_1 : decode cX11_tutti 1 = .ok (.getfield 25, 3) := by decide +kernel
theorem dX11_tutti_4 : decode cX11_tutti 4 = .ok (.getfield 168, 3) := by decide +kernel
theorem dX11_tutti_7 : decode cX11_tutti 7 = .ok (.istore_n 2, 1) := by decide +kernel
theorem dX11_tutti_8 : decode cX11_tutti 8 = .ok (.aload_n 0, 1) := by decide +kernel
theorem dX11_tutti_9 : decode cX11_tutti 9 = .ok (.getfield 25, 3) := by decide +kernel
theorem dX11_tutti_12 : decode cX11_tutti 12 = .ok (.iload_n 1, 1) := by decide +kernel
theorem dX11_tutti_13 : decode cX11_tutti 13 = .ok (.putfield 168, 3) := by decide +kernel
theorem dX11_tutti_16 : decode cX11_tutti 16 = .ok (.aload_n 0, 1) := by decide +kernel
theorem dX11_tutti_17 : decode cX11_tutti 17 = .ok (.getfield 12, 3) := by decide +kernel
theorem dX11_tutti_20 : decode cX11_tutti 20 = .ok (.invokevirtual 87, 3) := by decide +kernel
theorem dX11_tutti_23 : decode cX11_tutti 23 = .ok (.iload_n 2, 1) := by decide +kernel
theorem dX11_tutti_24 : decode cX11_tutti 24 = .ok (.ireturn, 1) := by decide +kernel
theorem dX11_key_0 : decode cX11_key 0 = .ok (.iload_n 1, 1) := by decide +kernel
theorem dX11_key_1 : decode cX11_key 1 = .ok (.iload_n 2, 1) := by decide +kernel
theorem dX11_key_2 : decode cX11_key 2 = .ok (.invokestatic 171, 3) := by decide +kernel
theorem dX11_key_5 : decode cX11_key 5 = .ok (.aload_n 0, 1) := by decide +kernel
theorem dX11_key_6 : decode cX11_key 6 = .ok (.getfield 20, 3) := by decide +kernel
theorem dX11_key_9 : decode cX11_key 9 = .ok (.iload_n 1, 1) := by decide +kernel
theorem dX11_key_10 : decode cX11_key 10 = .ok (.iload_n 2, 1) := by decide +kernel
theorem dX11_key_11 : decode cX11_key 11 = .ok (.invokevirtual 174, 3) := by decide +kernel
theorem dX11_key_14 : decode cX11_key 14 = .ok (.istore 4, 2) := by decide +kernel
theorem dX11_key_16 : decode cX11_key 16 = .ok (.aload_n 0, 1) := by decide +kernel
theorem dX11_key_17 : decode cX11_key 17 = .ok (.getfield 12, 3) := by decide +kernel
theorem dX11_key_20 : decode cX11_key 20 = .ok (.iload_n 1, 1) := by decide +kernel
theorem dX11_key_21 : decode cX11_key 21 = .ok (.iload_n 2, 1) := by decide +kernel
theorem dX11_key_22 : decode cX11_key 22 = .ok (.iload_n 3, 1) := by decide +kernel
theorem dX11_key_23 : decode cX11_key 23 = .ok (.invokevirtual 180, 3) := by decide +kernel
theorem dX11_key_26 : decode cX11_key 26 = .ok (.aload_n 0, 1) := by decide +kernel
theorem dX11_key_27 : decode cX11_key 27 = .ok (.getfield 12, 3) := by decide +kernel
theorem dX11_key_30 : decode cX11_key 30 = .ok (.invokevirtual 87, 3) := by decide +kernel
theorem dX11_key_33 : decode cX11_key 33 = .ok (.iload 4, 2) := by decide +kernel
theorem dX11_key_35 : decode cX11_key 35 = .ok (.ireturn, 1) := by decide +kernel
theorem dX11_isDown_0 : decode cX11_isDown 0 = .ok (.iload_n 1, 1) := by decide +kernel
theorem dX11_isDown_1 : decode cX11_isDown 1 = .ok (.iload_n 2, 1) := by decide +kernel
theorem dX11_isDown_2 : decode cX11_isDown 2 = .ok (.invokestatic 171, 3) := by decide +kernel
theorem dX11_isDown_5 : decode cX11_isDown 5 = .ok (.aload_n 0, 1) := by decide +kernel
theorem dX11_isDown_6 : decode cX11_isDown 6 = .ok (.getfield 20, 3) := by decide +kernel
theorem dX11_isDown_9 : decode cX11_isDown 9 = .ok (.iload_n 1, 1) := by decide +kernel
theorem dX11_isDown_10 : decode cX11_isDown 10 = .ok (.iload_n 2, 1) := by decide +kernel
theorem dX11_isDown_11 : decode cX11_isDown 11 = .ok (.invokevirtual 174, 3) := by decide +kernel
theorem dX11_isDown_14 : decode cX11_isDown 14 = .ok (.ireturn, 1) := by decide +kernel
theorem dX11_lift_0 : decode cX11_lift 0 = .ok (.aload_n 0, 1) := by decide +kernel
theorem dX11_lift_1 : decode cX11_lift 1 = .ok (.getfield 12, 3) := by decide +kernel
theorem dX11_lift_4 : decode cX11_lift 4 = .ok (.invokevirtual 184, 3) := by decide +kernel
theorem dX11_lift_7 : decode cX11_lift 7 = .ok (.ireturn, 1) := by decide +kernel
theorem dX11_pass_0 : decode cX11_pass 0 = .ok (.iload_n 1, 1) := by decide +kernel
theorem dX11_pass_1 : decode cX11_pass 1 = .ok (.iconst 1, 1) := by decide +kernel
theorem dX11_pass_2 : decode cX11_pass 2 = .ok (.bipush 40, 2) := by decide +kernel
theorem dX11_pass_4 : decode cX11_pass 4 = .ok (.invokestatic 45, 3) := by decide +kernel
theorem dX11_pass_7 : decode cX11_pass 7 = .ok (.aload_n 0, 1) := by decide +kernel
theorem dX11_pass_8 : decode cX11_pass 8 = .ok (.getfield 12, 3) := by decide +kernel
theorem dX11_pass_11 : decode cX11_pass 11 = .ok (.iload_n 1, 1) := by decide +kernel
theorem dX11_pass_12 : decode cX11_pass 12 = .ok (.invokevirtual 187, 3) := by decide +kernel
theorem dX11_pass_15 : decode cX11_pass 15 = .ok (.aload_n 0, 1) := by decide +kernel
theorem dX11_pass_16 : decode cX11_pass 16 = .ok (.getfield 12, 3) := by decide +kernel
theorem dX11_pass_19 : decode cX11_pass 19 = .ok (.getfield 190, 3) := by decide +kernel
theorem dX11_pass_22 : decode cX11_pass 22 = .ok (.ireturn, 1) := by decide +kernel
theorem dX11_reasons_0 : decode cX11_reasons 0 = .ok (.aload_n 0, 1) := by decide +kernel
theorem dX11_reasons_1 : decode cX11_reasons 1 = .ok (.iload_n 1, 1) := by decide +kernel
theorem dX11_reasons_2 : decode cX11_reasons 2 = .ok (.iload_n 2, 1) := by decide +kernel
theorem dX11_reasons_3 : decode cX11_reasons 3 = .ok (.invokevirtual 193, 3) := by decide +kernel
theorem dX11_reasons_6 : decode cX11_reasons 6 = .ok (.invokevirtual 197, 3) := by decide +kernel
theorem dX11_reasons_9 : decode cX11_reasons 9 = .ok (.ireturn, 1) := by decide +kernel
theorem dX11_reasonsAnew_0 : decode cX11_reasonsAnew 0 = .ok (.aload_n 0, 1) := by decide +kernel
theorem dX11_reasonsAnew_1 : decode cX11_reasonsAnew 1 = .ok (.iload_n 1, 1) := by decide +kernel
theorem dX11_reasonsAnew_2 : decode cX11_reasonsAnew 2 = .ok (.iload_n 2, 1) := by decide +kernel
theorem dX11_reasonsAnew_3 : decode cX11_reasonsAnew 3 = .ok (.invokevirtual 193, 3) := by decide +kernel
theorem dX11_reasonsAnew_6 : decode cX11_reasonsAnew 6 = .ok (.pop, 1) := by decide +kernel
theorem dX11_reasonsAnew_7 : decode cX11_reasonsAnew 7 = .ok (.aload_n 0, 1) := by decide +kernel
theorem dX11_reasonsAnew_8 : decode cX11_reasonsAnew 8 = .ok (.getfield 12, 3) := by decide +kernel
theorem dX11_reasonsAnew_11 : decode cX11_reasonsAnew 11 = .ok (.iload_n 1, 1) := by decide +kernel
theorem dX11_reasonsAnew_12 : decode cX11_reasonsAnew 12 = .ok (.iload_n 2, 1) := by decide +kernel
theorem dX11_reasonsAnew_13 : decode cX11_reasonsAnew 13 = .ok (.invokevirtual 202, 3) := by decide +kernel
theorem dX11_reasonsAnew_16 : decode cX11_reasonsAnew 16 = .ok (.ireturn, 1) := by decide +kernel
theorem dX11_isOpen_0 : decode cX11_isOpen 0 = .ok (.aload_n 0, 1) := by decide +kernel
theorem dX11_isOpen_1 : decode cX11_isOpen 1 = .ok (.iload_n 1, 1) := by decide +kernel
theorem dX11_isOpen_2 : decode cX11_isOpen 2 = .ok (.iload_n 2, 1) := by decide +kernel
theorem dX11_isOpen_3 : decode cX11_isOpen 3 = .ok (.invokevirtual 193, 3) := by decide +kernel
theorem dX11_isOpen_6 : decode cX11_isOpen 6 = .ok (.getfield 206, 3) := by decide +kernel
theorem dX11_isOpen_9 : decode cX11_isOpen 9 = .ok (.ireturn, 1) := by decide +kernel
theorem dX11_speaks_0 : decode cX11_speaks 0 = .ok (.aload_n 0, 1) := by decide +kernel
theorem dX11_speaks_1 : decode cX11_speaks 1 = .ok (.iload_n 1, 1) := by decide +kernel
theorem dX11_speaks_2 : decode cX11_speaks 2 = .ok (.iload_n 2, 1) := by decide +kernel
theorem dX11_speaks_3 : decode cX11_speaks 3 = .ok (.invokevirtual 193, 3) := by decide +kernel
theorem dX11_speaks_6 : decode cX11_speaks 6 = .ok (.getfield 209, 3) := by decide +kernel
theorem dX11_speaks_9 : decode cX11_speaks 9 = .ok (.ireturn, 1) := by decide +kernel
theorem dX11_speaking_0 : decode cX11_speaking 0 = .ok (.aload_n 0, 1) := by decide +kernel
theorem dX11_speaking_1 : decode cX11_speaking 1 = .ok (.getfield 12, 3) := by decide +kernel
theorem dX11_speaking_4 : decode cX11_speaking 4 = .ok (.getfield 212, 3) := by decide +kernel
theorem dX11_speaking_7 : decode cX11_speaking 7 = .ok (.ireturn, 1) := by decide +kernel
theorem dX11_begun_0 : decode cX11_begun 0 = .ok (.aload_n 0, 1) := by decide +kernel
theorem dX11_begun_1 : decode cX11_begun 1 = .ok (.iload_n 1, 1) := by decide +kernel
theorem dX11_begun_2 : decode cX11_begun 2 = .ok (.iload_n 2, 1) := by decide +kernel
theorem dX11_begun_3 : decode cX11_begun 3 = .ok (.invokevirtual 193, 3) := by decide +kernel
theorem dX11_begun_6 : decode cX11_begun 6 = .ok (.getfield 215, 3) := by decide +kernel
theorem dX11_begun_9 : decode cX11_begun 9 = .ok (.ireturn, 1) := by decide +kernel
theorem dX11_ended_0 : decode cX11_ended 0 = .ok (.aload_n 0, 1) := by decide +kernel
theorem dX11_ended_1 : decode cX11_ended 1 = .ok (.getfield 12, 3) := by decide +kernel
theorem dX11_ended_4 : decode cX11_ended 4 = .ok (.getfield 218, 3) := by decide +kernel
theorem dX11_ended_7 : decode cX11_ended 7 = .ok (.lreturn, 1) := by decide +kernel
theorem dX11_supply_0 : decode cX11_supply 0 = .ok (.iload_n 1, 1) := by decide +kernel
theorem dX11_supply_1 : decode cX11_supply 1 = .ok (.invokestatic 90, 3) := by decide +kernel
theorem dX11_supply_4 : decode cX11_supply 4 = .ok (.iload_n 2, 1) := by decide +kernel
theorem dX11_supply_5 : decode cX11_supply 5 = .ok (.iconst 0, 1) := by decide +kernel
theorem dX11_supply_6 : decode cX11_supply 6 = .ok (.sipush 999, 3) := by decide +kernel
theorem dX11_supply_9 : decode cX11_supply 9 = .ok (.invokestatic 45, 3) := by decide +kernel
theorem dX11_supply_12 : decode cX11_supply 12 = .ok (.aload_n 0, 1) := by decide +kernel
theorem dX11_supply_13 : decode cX11_supply 13 = .ok (.getfield 12, 3) := by decide +kernel
theorem dX11_supply_16 : decode cX11_supply 16 = .ok (.getfield 222, 3) := by decide +kernel
theorem dX11_supply_19 : decode cX11_supply 19 = .ok (.iload_n 1, 1) := by decide +kernel
theorem dX11_supply_20 : decode cX11_supply 20 = .ok (.iaload, 1) := by decide +kernel
theorem dX11_supply_21 : decode cX11_supply 21 = .ok (.istore_n 3, 1) := by decide +kernel
theorem dX11_supply_22 : decode cX11_supply 22 = .ok (.aload_n 0, 1) := by decide +kernel
theorem dX11_supply_23 : decode cX11_supply 23 = .ok (.getfield 12, 3) := by decide +kernel
theorem dX11_supply_26 : decode cX11_supply 26 = .ok (.getfield 222, 3) := by decide +kernel
theorem dX11_supply_29 : decode cX11_supply 29 = .ok (.iload_n 1, 1) := by decide +kernel
theorem dX11_supply_30 : decode cX11_supply 30 = .ok (.iload_n 2, 1) := by decide +kernel
theorem dX11_supply_31 : decode cX11_supply 31 = .ok (.iastore, 1) := by decide +kernel
theorem dX11_supply_32 : decode cX11_supply 32 = .ok (.aload_n 0, 1) := by decide +kernel
theorem dX11_supply_33 : decode cX11_supply 33 = .ok (.getfield 12, 3) := by decide +kernel
theorem dX11_supply_36 : decode cX11_supply 36 = .ok (.invokevirtual 87, 3) := by decide +kernel
theorem dX11_supply_39 : decode cX11_supply 39 = .ok (.iload_n 3, 1) := by decide +kernel
theorem dX11_supply_40 : decode cX11_supply 40 = .ok (.ireturn, 1) := by decide +kernel
theorem dX11_wind_0 : decode cX11_wind 0 = .ok (.iload_n 1, 1) := by decide +kernel
theorem dX11_wind_1 : decode cX11_wind 1 = .ok (.invokestatic 90, 3) := by decide +kernel
theorem dX11_wind_4 : decode cX11_wind 4 = .ok (.aload_n 0, 1) := by decide +kernel
theorem dX11_wind_5 : decode cX11_wind 5 = .ok (.getfield 12, 3) := by decide +kernel
theorem dX11_wind_8 : decode cX11_wind 8 = .ok (.getfield 226, 3) := by decide +kernel
theorem dX11_wind_11 : decode cX11_wind 11 = .ok (.iload_n 1, 1) := by decide +kernel
theorem dX11_wind_12 : decode cX11_wind 12 = .ok (.iaload, 1) := by decide +kernel
theorem dX11_wind_13 : decode cX11_wind 13 = .ok (.ireturn, 1) := by decide +kernel
theorem dX11_box_0 : decode cX11_box 0 = .ok (.iload_n 1, 1) := by decide +kernel
theorem dX11_box_1 : decode cX11_box 1 = .ok (.iconst 1, 1) := by decide +kernel
theorem dX11_box_2 : decode cX11_box 2 = .ok (.iconst 2, 1) := by decide +kernel
theorem dX11_box_3 : decode cX11_box 3 = .ok (.invokestatic 45, 3) := by decide +kernel
theorem dX11_box_6 : decode cX11_box 6 = .ok (.iload_n 2, 1) := by decide +kernel
theorem dX11_box_7 : decode cX11_box 7 = .ok (.iconst 0, 1) := by decide +kernel
theorem dX11_box_8 : decode cX11_box 8 = .ok (.bipush 10, 2) := by decide +kernel
theorem dX11_box_10 : decode cX11_box 10 = .ok (.invokestatic 45, 3) := by decide +kernel
theorem dX11_box_13 : decode cX11_box 13 = .ok (.aload_n 0, 1) := by decide +kernel
theorem dX11_box_14 : decode cX11_box 14 = .ok (.getfield 12, 3) := by decide +kernel
theorem dX11_box_17 : decode cX11_box 17 = .ok (.getfield 229, 3) := by decide +kernel
theorem dX11_box_20 : decode cX11_box 20 = .ok (.iload_n 1, 1) := by decide +kernel
theorem dX11_box_21 : decode cX11_box 21 = .ok (.iaload, 1) := by decide +kernel
theorem dX11_box_22 : decode cX11_box 22 = .ok (.istore_n 3, 1) := by decide +kernel
theorem dX11_box_23 : decode cX11_box 23 = .ok (.aload_n 0, 1) := by decide +kernel
theorem dX11_box_24 : decode cX11_box 24 = .ok (.getfield 12, 3) := by decide +kernel
theorem dX11_box_27 : decode cX11_box 27 = .ok (.getfield 229, 3) := by decide +kernel
theorem dX11_box_30 : decode cX11_box 30 = .ok (.iload_n 1, 1) := by decide +kernel
theorem dX11_box_31 : decode cX11_box 31 = .ok (.iload_n 2, 1) := by decide +kernel
theorem dX11_box_32 : decode cX11_box 32 = .ok (.iastore, 1) := by decide +kernel
theorem dX11_box_33 : decode cX11_box 33 = .ok (.iload_n 3, 1) := by decide +kernel
theorem dX11_box_34 : decode cX11_box 34 = .ok (.ireturn, 1) := by decide +kernel
theorem dX11_loudness_0 : decode cX11_loudness 0 = .ok (.aload_n 0, 1) := by decide +kernel
theorem dX11_loudness_1 : decode cX11_loudness 1 = .ok (.getfield 12, 3) := by decide +kernel
theorem dX11_loudness_4 : decode cX11_loudness 4 = .ok (.invokevirtual 232, 3) := by decide +kernel
theorem dX11_loudness_7 : decode cX11_loudness 7 = .ok (.ireturn, 1) := by decide +kernel
theorem dX11_tune_0 : decode cX11_tune 0 = .ok (.aload_n 0, 1) := by decide +kernel
theorem dX11_tune_1 : decode cX11_tune 1 = .ok (.iload_n 1, 1) := by decide +kernel
theorem dX11_tune_2 : decode cX11_tune 2 = .ok (.iload_n 2, 1) := by decide +kernel
theorem dX11_tune_3 : decode cX11_tune 3 = .ok (.invokevirtual 193, 3) := by decide +kernel
theorem dX11_tune_6 : decode cX11_tune 6 = .ok (.astore 4, 2) := by decide +kernel
theorem dX11_tune_8 : decode cX11_tune 8 = .ok (.iload_n 3, 1) := by decide +kernel
theorem dX11_tune_9 : decode cX11_tune 9 = .ok (.bipush (-50), 2) := by decide +kernel
theorem dX11_tune_11 : decode cX11_tune 11 = .ok (.bipush 50, 2) := by decide +kernel
theorem dX11_tune_13 : decode cX11_tune 13 = .ok (.invokestatic 45, 3) := by decide +kernel
theorem dX11_tune_16 : decode cX11_tune 16 = .ok (.aload 4, 2) := by decide +kernel
theorem dX11_tune_18 : decode cX11_tune 18 = .ok (.getfield 238, 3) := by decide +kernel
theorem dX11_tune_21 : decode cX11_tune 21 = .ok (.istore 5, 2) := by decide +kernel
theorem dX11_tune_23 : decode cX11_tune 23 = .ok (.aload 4, 2) := by decide +kernel
theorem dX11_tune_25 : decode cX11_tune 25 = .ok (.iload_n 3, 1) := by decide +kernel
theorem dX11_tune_26 : decode cX11_tune 26 = .ok (.putfield 238, 3) := by decide +kernel
theorem dX11_tune_29 : decode cX11_tune 29 = .ok (.iload 5, 2) := by decide +kernel
theorem dX11_tune_31 : decode cX11_tune 31 = .ok (.ireturn, 1) := by decide +kernel
theorem dX11_tuneTo_0 : decode cX11_tuneTo 0 = .ok (.aload_n 0, 1) := by decide +kernel
theorem dX11_tuneTo_1 : decode cX11_tuneTo 1 = .ok (.iload_n 1, 1) := by decide +kernel
theorem dX11_tuneTo_2 : decode cX11_tuneTo 2 = .ok (.iload_n 2, 1) := by decide +kernel
theorem dX11_tuneTo_3 : decode cX11_tuneTo 3 = .ok (.invokevirtual 193, 3) := by decide +kernel
theorem dX11_tuneTo_6 : decode cX11_tuneTo 6 = .ok (.astore 5, 2) := by decide +kernel
theorem dX11_tuneTo_8 : decode cX11_tuneTo 8 = .ok (.aload_n 0, 1) := by decide +kernel
theorem dX11_tuneTo_9 : decode cX11_tuneTo 9 = .ok (.iload_n 3, 1) := by decide +kernel
theorem dX11_tuneTo_10 : decode cX11_tuneTo 10 = .ok (.iload 4, 2) := by decide +kernel
theorem dX11_tuneTo_12 : decode cX11_tuneTo 12 = .ok (.invokevirtual 193, 3) := by decide +kernel
theorem dX11_tuneTo_15 : decode cX11_tuneTo 15 = .ok (.pop, 1) := by decide +kernel
theorem dX11_tuneTo_16 : decode cX11_tuneTo 16 = .ok (.aload 5, 2) := by decide +kernel
theorem dX11_tuneTo_18 : decode cX11_tuneTo 18 = .ok (.getfield 238, 3) := by decide +kernel
theorem dX11_tuneTo_21 : decode cX11_tuneTo 21 = .ok (.aload_n 0, 1) := by decide +kernel
theorem dX11_tuneTo_22 : decode cX11_tuneTo 22 = .ok (.getfield 12, 3) := by decide +kernel
theorem dX11_tuneTo_25 : decode cX11_tuneTo 25 = .ok (.iload_n 3, 1) := by decide +kernel
theorem dX11_tuneTo_26 : decode cX11_tuneTo 26 = .ok (.iload 4, 2) := by decide +kernel
theorem dX11_tuneTo_28 : decode cX11_tuneTo 28 = .ok (.invokevirtual 241, 3) := by decide +kernel
theorem dX11_tuneTo_31 : decode cX11_tuneTo 31 = .ok (.iadd, 1) := by decide +kernel
theorem dX11_tuneTo_32 : decode cX11_tuneTo 32 = .ok (.aload_n 0, 1) := by decide +kernel
theorem dX11_tuneTo_33 : decode cX11_tuneTo 33 = .ok (.getfield 12, 3) := by decide +kernel
theorem dX11_tuneTo_36 : decode cX11_tuneTo 36 = .ok (.iload_n 1, 1) := by decide +kernel
theorem dX11_tuneTo_37 : decode cX11_tuneTo 37 = .ok (.iload_n 2, 1) := by decide +kernel
theorem dX11_tuneTo_38 : decode cX11_tuneTo 38 = .ok (.invokevirtual 241, 3) := by decide +kernel
theorem dX11_tuneTo_41 : decode cX11_tuneTo 41 = .ok (.isub, 1) := by decide +kernel
theorem dX11_tuneTo_42 : decode cX11_tuneTo 42 = .ok (.istore 6, 2) := by decide +kernel
theorem dX11_tuneTo_44 : decode cX11_tuneTo 44 = .ok (.aload 5, 2) := by decide +kernel
theorem dX11_tuneTo_46 : decode cX11_tuneTo 46 = .ok (.bipush (-50), 2) := by decide +kernel
theorem dX11_tuneTo_48 : decode cX11_tuneTo 48 = .ok (.bipush 50, 2) := by decide +kernel
theorem dX11_tuneTo_50 : decode cX11_tuneTo 50 = .ok (.iload 6, 2) := by decide +kernel
theorem dX11_tuneTo_52 : decode cX11_tuneTo 52 = .ok (.invokestatic 244, 3) := by decide +kernel
theorem dX11_tuneTo_55 : decode cX11_tuneTo 55 = .ok (.invokestatic 249, 3) := by decide +kernel
theorem dX11_tuneTo_58 : decode cX11_tuneTo 58 = .ok (.putfield 238, 3) := by decide +kernel
theorem dX11_tuneTo_61 : decode cX11_tuneTo 61 = .ok (.aload_n 0, 1) := by decide +kernel
theorem dX11_tuneTo_62 : decode cX11_tuneTo 62 = .ok (.getfield 12, 3) := by decide +kernel
theorem dX11_tuneTo_65 : decode cX11_tuneTo 65 = .ok (.iload_n 1, 1) := by decide +kernel
theorem dX11_tuneTo_66 : decode cX11_tuneTo 66 = .ok (.iload_n 2, 1) := by decide +kernel
theorem dX11_tuneTo_67 : decode cX11_tuneTo 67 = .ok (.invokevirtual 241, 3) := by decide +kernel
theorem dX11_tuneTo_70 : decode cX11_tuneTo 70 = .ok (.aload_n 0, 1) := by decide +kernel
theorem dX11_tuneTo_71 : decode cX11_tuneTo 71 = .ok (.getfield 12, 3) := by decide +kernel
theorem dX11_tuneTo_74 : decode cX11_tuneTo 74 = .ok (.iload_n 3, 1) := by decide +kernel
theorem dX11_tuneTo_75 : decode cX11_tuneTo 75 = .ok (.iload 4, 2) := by decide +kernel
theorem dX11_tuneTo_77 : decode cX11_tuneTo 77 = .ok (.invokevirtual 241, 3) := by decide +kernel
theorem dX11_tuneTo_80 : decode cX11_tuneTo 80 = .ok (.isub, 1) := by decide +kernel
theorem dX11_tuneTo_81 : decode cX11_tuneTo 81 = .ok (.ireturn, 1) := by decide +kernel
theorem dX11_pitch_0 : decode cX11_pitch 0 = .ok (.aload_n 0, 1) := by decide +kernel
theorem dX11_pitch_1 : decode cX11_pitch 1 = .ok (.iload_n 1, 1) := by decide +kernel
theorem dX11_pitch_2 : decode cX11_pitch 2 = .ok (.iload_n 2, 1) := by decide +kernel
theorem dX11_pitch_3 : decode cX11_pitch 3 = .ok (.invokevirtual 193, 3) := by decide +kernel
theorem dX11_pitch_6 : decode cX11_pitch 6 = .ok (.pop, 1) := by decide +kernel
theorem dX11_pitch_7 : decode cX11_pitch 7 = .ok (.aload_n 0, 1) := by decide +kernel
theorem dX11_pitch_8 : decode cX11_pitch 8 = .ok (.getfield 12, 3) := by decide +kernel
theorem dX11_pitch_11 : decode cX11_pitch 11 = .ok (.iload_n 1, 1) := by decide +kernel
theorem dX11_pitch_12 : decode cX11_pitch 12 = .ok (.iload_n 2, 1) := by decide +kernel
theorem dX11_pitch_13 : decode cX11_pitch 13 = .ok (.invokevirtual 241, 3) := by decide +kernel
theorem dX11_pitch_16 : decode cX11_pitch 16 = .ok (.ireturn, 1) := by decide +kernel
theorem dX11_fault_0 : decode cX11_fault 0 = .ok (.aload_n 0, 1) := by decide +kernel
theorem dX11_fault_1 : decode cX11_fault 1 = .ok (.iload_n 1, 1) := by decide +kernel
theorem dX11_fault_2 : decode cX11_fault 2 = .ok (.iload_n 2, 1) := by decide +kernel
theorem dX11_fault_3 : decode cX11_fault 3 = .ok (.invokevirtual 193, 3) := by decide +kernel
theorem dX11_fault_6 : decode cX11_fault 6 = .ok (.astore 4, 2) := by decide +kernel
theorem dX11_fault_8 : decode cX11_fault 8 = .ok (.iload_n 3, 1) := by decide +kernel
theorem dX11_fault_9 : decode cX11_fault 9 = .ok (.bipush 99, 2) := by decide +kernel
theorem dX11_fault_11 : decode cX11_fault 11 = .ok (.if_icmp .eq 26, 3) := by decide +kernel
theorem dX11_fault_14 : decode cX11_fault 14 = .ok (.iload_n 3, 1) := by decide +kernel
theorem dX11_fault_15 : decode cX11_fault 15 = .ok (.bipush 100, 2) := by decide +kernel
theorem dX11_fault_17 : decode cX11_fault 17 = .ok (.if_icmp .eq 20, 3) := by decide +kernel
theorem dX11_fault_20 : decode cX11_fault 20 = .ok (.iload_n 3, 1) := by decide +kernel
theorem dX11_fault_21 : decode cX11_fault 21 = .ok (.bipush 45, 2) := by decide +kernel
theorem dX11_fault_23 : decode cX11_fault 23 = .ok (.if_icmp .eq 14, 3) := by decide +kernel
theorem dX11_fault_26 : decode cX11_fault 26 = .ok (.new 130, 3) := by decide +kernel
theorem dX11_fault_29 : decode cX11_fault 29 = .ok (.dup, 1) := by decide +kernel
theorem dX11_fault_30 : decode cX11_fault 30 = .ok (.ldc_w 258, 3) := by decide +kernel
theorem dX11_fault_33 : decode cX11_fault 33 = .ok (.invokespecial 134, 3) := by decide +kernel
theorem dX11_fault_36 : decode cX11_fault 36 = .ok (.athrow, 1) := by decide +kernel
theorem dX11_fault_37 : decode cX11_fault 37 = .ok (.aload 4, 2) := by decide +kernel
theorem dX11_fault_39 : decode cX11_fault 39 = .ok (.getfield 260, 3) := by decide +kernel
theorem dX11_fault_42 : decode cX11_fault 42 = .ok (.istore 5, 2) := by decide +kernel
theorem dX11_fault_44 : decode cX11_fault 44 = .ok (.aload 4, 2) := by decide +kernel
theorem dX11_fault_46 : decode cX11_fault 46 = .ok (.iload_n 3, 1) := by decide +kernel
theorem dX11_fault_47 : decode cX11_fault 47 = .ok (.putfield 260, 3) := by decide +kernel
theorem dX11_fault_50 : decode cX11_fault 50 = .ok (.aload_n 0, 1) := by decide +kernel
theorem dX11_fault_51 : decode cX11_fault 51 = .ok (.getfield 12, 3) := by decide +kernel
theorem dX11_fault_54 : decode cX11_fault 54 = .ok (.invokevirtual 87, 3) := by decide +kernel
theorem dX11_fault_57 : decode cX11_fault 57 = .ok (.iload 5, 2) := by decide +kernel
theorem dX11_fault_59 : decode cX11_fault 59 = .ok (.ireturn, 1) := by decide +kernel
theorem dX11_hunt_0 : decode cX11_hunt 0 = .ok (.aload_n 0, 1) := by decide +kernel
theorem dX11_hunt_1 : decode cX11_hunt 1 = .ok (.iload_n 1, 1) := by decide +kernel
theorem dX11_hunt_2 : decode cX11_hunt 2 = .ok (.invokevirtual 113, 3) := by decide +kernel
theorem dX11_hunt_5 : decode cX11_hunt 5 = .ok (.invokevirtual 264, 3) := by decide +kernel
theorem dX11_hunt_8 : decode cX11_hunt 8 = .ok (.ireturn, 1) := by decide +kernel
theorem dX11_scope_0 : decode cX11_scope 0 = .ok (.aload_n 0, 1) := by decide +kernel
theorem dX11_scope_1 : decode cX11_scope 1 = .ok (.iload_n 1, 1) := by decide +kernel
theorem dX11_scope_2 : decode cX11_scope 2 = .ok (.invokevirtual 109, 3) := by decide +kernel
theorem dX11_scope_5 : decode cX11_scope 5 = .ok (.astore_n 3, 1) := by decide +kernel
theorem dX11_scope_6 : decode cX11_scope 6 = .ok (.aload_n 3, 1) := by decide +kernel
theorem dX11_scope_7 : decode cX11_scope 7 = .ok (.getfield 285, 3) := by decide +kernel
theorem dX11_scope_10 : decode cX11_scope 10 = .ok (.istore 4, 2) := by decide +kernel
theorem dX11_scope_12 : decode cX11_scope 12 = .ok (.aload_n 3, 1) := by decide +kernel
theorem dX11_scope_13 : decode cX11_scope 13 = .ok (.iload_n 2, 1) := by decide +kernel
theorem dX11_scope_14 : decode cX11_scope 14 = .ok (.putfield 285, 3) := by decide +kernel
theorem dX11_scope_17 : decode cX11_scope 17 = .ok (.iload 4, 2) := by decide +kernel
theorem dX11_scope_19 : decode cX11_scope 19 = .ok (.ireturn, 1) := by decide +kernel
theorem dX11_set_0 : decode cX11_set 0 = .ok (.iload_n 1, 1) := by decide +kernel
theorem dX11_set_1 : decode cX11_set 1 = .ok (.iload_n 2, 1) := by decide +kernel
theorem dX11_set_2 : decode cX11_set 2 = .ok (.invokestatic 288, 3) := by decide +kernel
theorem dX11_set_5 : decode cX11_set 5 = .ok (.istore_n 3, 1) := by decide +kernel
theorem dX11_set_6 : decode cX11_set 6 = .ok (.aload_n 0, 1) := by decide +kernel
theorem dX11_set_7 : decode cX11_set 7 = .ok (.invokevirtual 271, 3) := by decide +kernel
theorem dX11_set_10 : decode cX11_set 10 = .ok (.iload_n 1, 1) := by decide +kernel
theorem dX11_set_11 : decode cX11_set 11 = .ok (.ifCond .ge 13, 3) := by decide +kernel
theorem dX11_set_14 : decode cX11_set 14 = .ok (.aload_n 0, 1) := by decide +kernel
theorem dX11_set_15 : decode cX11_set 15 = .ok (.getfield 25, 3) := by decide +kernel
theorem dX11_set_18 : decode cX11_set 18 = .ok (.invokevirtual 291, 3) := by decide +kernel
theorem dX11_set_21 : decode cX11_set 21 = .ok (.goto 11, 3) := by decide +kernel
theorem dX11_set_24 : decode cX11_set 24 = .ok (.aload_n 0, 1) := by decide +kernel
theorem dX11_set_25 : decode cX11_set 25 = .ok (.getfield 25, 3) := by decide +kernel
theorem dX11_set_28 : decode cX11_set 28 = .ok (.iload_n 1, 1) := by decide +kernel
theorem dX11_set_29 : decode cX11_set 29 = .ok (.invokevirtual 295, 3) := by decide +kernel
theorem dX11_set_32 : decode cX11_set 32 = .ok (.lstore 4, 2) := by decide +kernel
theorem dX11_set_34 : decode cX11_set 34 = .ok (.aload_n 0, 1) := by decide +kernel
theorem dX11_set_35 : decode cX11_set 35 = .ok (.getfield 25, 3) := by decide +kernel
theorem dX11_set_38 : decode cX11_set 38 = .ok (.lload 4, 2) := by decide +kernel
theorem dX11_set_40 : decode cX11_set 40 = .ok (.invokevirtual 299, 3) := by decide +kernel
theorem dX11_set_43 : decode cX11_set 43 = .ok (.lstore 6, 2) := by decide +kernel
theorem dX11_set_45 : decode cX11_set 45 = .ok (.aload_n 0, 1) := by decide +kernel
theorem dX11_set_46 : decode cX11_set 46 = .ok (.getfield 34, 3) := by decide +kernel
theorem dX11_set_49 : decode cX11_set 49 = .ok (.iload_n 3, 1) := by decide +kernel
theorem dX11_set_50 : decode cX11_set 50 = .ok (.lload 4, 2) := by decide +kernel
theorem dX11_set_52 : decode cX11_set 52 = .ok (.lload 6, 2) := by decide +kernel
theorem dX11_set_54 : decode cX11_set 54 = .ok (.invokevirtual 303, 3) := by decide +kernel
theorem dX11_set_57 : decode cX11_set 57 = .ok (.lload 6, 2) := by decide +kernel
theorem dX11_set_59 : decode cX11_set 59 = .ok (.invokestatic 307, 3) := by decide +kernel
theorem dX11_set_62 : decode cX11_set 62 = .ok (.ireturn, 1) := by decide +kernel
theorem dX11_push_0 : decode cX11_push 0 = .ok (.iload_n 1, 1) := by decide +kernel
theorem dX11_push_1 : decode cX11_push 1 = .ok (.iload_n 2, 1) := by decide +kernel
theorem dX11_push_2 : decode cX11_push 2 = .ok (.invokestatic 288, 3) := by decide +kernel
theorem dX11_push_5 : decode cX11_push 5 = .ok (.istore_n 3, 1) := by decide +kernel
theorem dX11_push_6 : decode cX11_push 6 = .ok (.aload_n 0, 1) := by decide +kernel
theorem dX11_push_7 : decode cX11_push 7 = .ok (.getfield 34, 3) := by decide +kernel
theorem dX11_push_10 : decode cX11_push 10 = .ok (.iload_n 3, 1) := by decide +kernel
theorem dX11_push_11 : decode cX11_push 11 = .ok (.invokevirtual 313, 3) := by decide +kernel
theorem dX11_push_14 : decode cX11_push 14 = .ok (.ifCond .ne 14, 3) := by decide +kernel
theorem dX11_push_17 : decode cX11_push 17 = .ok (.new 317, 3) := by decide +kernel
theorem dX11_push_20 : decode cX11_push 20 = .ok (.dup, 1) := by decide +kernel
theorem dX11_push_21 : decode cX11_push 21 = .ok (.ldc_w 319, 3) := by decide +kernel
theorem dX11_push_24 : decode cX11_push 24 = .ok (.invokespecial 321, 3) := by decide +kernel
theorem dX11_push_27 : decode cX11_push 27 = .ok (.athrow, 1) := by decide +kernel
theorem dX11_push_28 : decode cX11_push 28 = .ok (.aload_n 0, 1) := by decide +kernel
theorem dX11_push_29 : decode cX11_push 29 = .ok (.aload_n 0, 1) := by decide +kernel
theorem dX11_push_30 : decode cX11_push 30 = .ok (.getfield 34, 3) := by decide +kernel
theorem dX11_push_33 : decode cX11_push 33 = .ok (.iload_n 3, 1) := by decide +kernel
theorem dX11_push_34 : decode cX11_push 34 = .ok (.invokevirtual 322, 3) := by decide +kernel
theorem dX11_push_37 : decode cX11_push 37 = .ok (.aload_n 0, 1) := by decide +kernel
theorem dX11_push_38 : decode cX11_push 38 = .ok (.getfield 34, 3) := by decide +kernel
theorem dX11_push_41 : decode cX11_push 41 = .ok (.iload_n 3, 1) := by decide +kernel
theorem dX11_push_42 : decode cX11_push 42 = .ok (.invokevirtual 325, 3) := by decide +kernel
theorem dX11_push_45 : decode cX11_push 45 = .ok (.invokevirtual 328, 3) := by decide +kernel
theorem dX11_push_48 : decode cX11_push 48 = .ok (.ireturn, 1) := by decide +kernel
theorem dX11_setReversible_0 : decode cX11_setReversible 0 = .ok (.iload_n 1, 1) := by decide +kernel
theorem dX11_setReversible_1 : decode cX11_setReversible 1 = .ok (.invokestatic 332, 3) := by decide +kernel
theorem dX11_setReversible_4 : decode cX11_setReversible 4 = .ok (.aload_n 0, 1) := by decide +kernel
theorem dX11_setReversible_5 : decode cX11_setReversible 5 = .ok (.iload_n 2, 1) := by decide +kernel
theorem dX11_setReversible_6 : decode cX11_setReversible 6 = .ok (.invokevirtual 109, 3) := by decide +kernel
theorem dX11_setReversible_9 : decode cX11_setReversible 9 = .ok (.pop, 1) := by decide +kernel
theorem dX11_setReversible_10 : decode cX11_setReversible 10 = .ok (.aload_n 0, 1) := by decide +kernel
theorem dX11_setReversible_11 : decode cX11_setReversible 11 = .ok (.invokevirtual 271, 3) := by decide +kernel
theorem dX11_setReversible_14 : decode cX11_setReversible 14 = .ok (.aload_n 0, 1) := by decide +kernel
theorem dX11_setReversible_15 : decode cX11_setReversible 15 = .ok (.getfield 34, 3) := by decide +kernel
theorem dX11_setReversible_18 : decode cX11_setReversible 18 = .ok (.iload_n 1, 1) := by decide +kernel
theorem dX11_setReversible_19 : decode cX11_setReversible 19 = .ok (.invokevirtual 335, 3) := by decide +kernel
theorem dX11_setReversible_22 : decode cX11_setReversible 22 = .ok (.istore_n 3, 1) := by decide +kernel
theorem dX11_setReversible_23 : decode cX11_setReversible 23 = .ok (.aload_n 0, 1) := by decide +kernel
theorem dX11_setReversible_24 : decode cX11_setReversible 24 = .ok (.getfield 34, 3) := by decide +kernel
theorem dX11_setReversible_27 : decode cX11_setReversible 27 = .ok (.iload_n 1, 1) := by decide +kernel
theorem dX11_setReversible_28 : decode cX11_setReversible 28 = .ok (.iload_n 2, 1) := by decide +kernel
theorem dX11_setReversible_29 : decode cX11_setReversible 29 = .ok (.invokevirtual 338, 3) := by decide +kernel
theorem dX11_setReversible_32 : decode cX11_setReversible 32 = .ok (.iload_n 3, 1) := by decide +kernel
theorem dX11_setReversible_33 : decode cX11_setReversible 33 = .ok (.ireturn, 1) := by decide +kernel
theorem dX11_pushReversible_0 : decode cX11_pushReversible 0 = .ok (.iload_n 1, 1) := by decide +kernel
theorem dX11_pushReversible_1 : decode cX11_pushReversible 1 = .ok (.invokestatic 332, 3) := by decide +kernel
theorem dX11_pushReversible_4 : decode cX11_pushReversible 4 = .ok (.aload_n 0, 1) := by decide +kernel
theorem dX11_pushReversible_5 : decode cX11_pushReversible 5 = .ok (.getfield 34, 3) := by decide +kernel
theorem dX11_pushReversible_8 : decode cX11_pushReversible 8 = .ok (.iload_n 1, 1) := by decide +kernel
theorem dX11_pushReversible_9 : decode cX11_pushReversible 9 = .ok (.invokevirtual 335, 3) := by decide +kernel
theorem dX11_pushReversible_12 : decode cX11_pushReversible 12 = .ok (.istore_n 2, 1) := by decide +kernel
theorem dX11_pushReversible_13 : decode cX11_pushReversible 13 = .ok (.aload_n 0, 1) := by decide +kernel
theorem dX11_pushReversible_14 : decode cX11_pushReversible 14 = .ok (.getfield 25, 3) := by decide +kernel
theorem dX11_pushReversible_17 : decode cX11_pushReversible 17 = .ok (.iload_n 2, 1) := by decide +kernel
theorem dX11_pushReversible_18 : decode cX11_pushReversible 18 = .ok (.invokevirtual 341, 3) := by decide +kernel
theorem dX11_pushReversible_21 : decode cX11_pushReversible 21 = .ok (.astore_n 3, 1) := by decide +kernel
theorem dX11_pushReversible_22 : decode cX11_pushReversible 22 = .ok (.aload_n 3, 1) := by decide +kernel
theorem dX11_pushReversible_23 : decode cX11_pushReversible 23 = .ok (.ifnonnull 14, 3) := by decide +kernel
theorem dX11_pushReversible_26 : decode cX11_pushReversible 26 = .ok (.new 317, 3) := by decide +kernel
theorem dX11_pushReversible_29 : decode cX11_pushReversible 29 = .ok (.dup, 1) := by decide +kernel
theorem dX11_pushReversible_30 : decode cX11_pushReversible 30 = .ok (.ldc_w 344, 3) := by decide +kernel
theorem dX11_pushReversible_33 : decode cX11_pushReversible 33 = .ok (.invokespecial 321, 3) := by decide +kernel
theorem dX11_pushReversible_36 : decode cX11_pushReversible 36 = .ok (.athrow, 1) := by decide +kernel
theorem dX11_pushReversible_37 : decode cX11_pushReversible 37 = .ok (.aload_n 0, 1) := by decide +kernel
theorem dX11_pushReversible_38 : decode cX11_pushReversible 38 = .ok (.lconst 1, 1) := by decide +kernel
theorem dX11_pushReversible_39 : decode cX11_pushReversible 39 = .ok (.iload_n 2, 1) := by decide +kernel
theorem dX11_pushReversible_40 : decode cX11_pushReversible 40 = .ok (.lshl, 1) := by decide +kernel
theorem dX11_pushReversible_41 : decode cX11_pushReversible 41 = .ok (.aload_n 3, 1) := by decide +kernel
theorem dX11_pushReversible_42 : decode cX11_pushReversible 42 = .ok (.getfield 149, 3) := by decide +kernel
theorem dX11_pushReversible_45 : decode cX11_pushReversible 45 = .ok (.ifCond .eq 7, 3) := by decide +kernel
theorem dX11_pushReversible_48 : decode cX11_pushReversible 48 = .ok (.lconst 0, 1) := by decide +kernel
theorem dX11_pushReversible_49 : decode cX11_pushReversible 49 = .ok (.goto 6, 3) := by decide +kernel
theorem dX11_pushReversible_52 : decode cX11_pushReversible 52 = .ok (.lconst 1, 1) := by decide +kernel
theorem dX11_pushReversible_53 : decode cX11_pushReversible 53 = .ok (.iload_n 2, 1) := by decide +kernel
theorem dX11_pushReversible_54 : decode cX11_pushReversible 54 = .ok (.lshl, 1) := by decide +kernel
theorem dX11_pushReversible_55 : decode cX11_pushReversible 55 = .ok (.invokevirtual 328, 3) := by decide +kernel
theorem dX11_pushReversible_58 : decode cX11_pushReversible 58 = .ok (.ifCond .le 7, 3) := by decide +kernel
theorem dX11_pushReversible_61 : decode cX11_pushReversible 61 = .ok (.iconst 1, 1) := by decide +kernel
theorem dX11_pushReversible_62 : decode cX11_pushReversible 62 = .ok (.goto 4, 3) := by decide +kernel
theorem dX11_pushReversible_65 : decode cX11_pushReversible 65 = .ok (.iconst 0, 1) := by decide +kernel
theorem dX11_pushReversible_66 : decode cX11_pushReversible 66 = .ok (.ireturn, 1) := by decide +kernel
theorem dX11_step_0 : decode cX11_step 0 = .ok (.iconst (-1), 1) := by decide +kernel
theorem dX11_step_1 : decode cX11_step 1 = .ok (.aload_n 0, 1) := by decide +kernel
theorem dX11_step_2 : decode cX11_step 2 = .ok (.getfield 34, 3) := by decide +kernel
theorem dX11_step_5 : decode cX11_step 5 = .ok (.getfield 346, 3) := by decide +kernel
theorem dX11_step_8 : decode cX11_step 8 = .ok (.invokestatic 349, 3) := by decide +kernel
theorem dX11_step_11 : decode cX11_step 11 = .ok (.istore_n 1, 1) := by decide +kernel
theorem dX11_step_12 : decode cX11_step 12 = .ok (.aload_n 0, 1) := by decide +kernel
theorem dX11_step_13 : decode cX11_step 13 = .ok (.getfield 34, 3) := by decide +kernel
theorem dX11_step_16 : decode cX11_step 16 = .ok (.iload_n 1, 1) := by decide +kernel
theorem dX11_step_17 : decode cX11_step 17 = .ok (.invokevirtual 313, 3) := by decide +kernel
theorem dX11_step_20 : decode cX11_step 20 = .ok (.ifCond .eq 24, 3) := by decide +kernel
theorem dX11_step_23 : decode cX11_step 23 = .ok (.aload_n 0, 1) := by decide +kernel
theorem dX11_step_24 : decode cX11_step 24 = .ok (.aload_n 0, 1) := by decide +kernel
theorem dX11_step_25 : decode cX11_step 25 = .ok (.getfield 34, 3) := by decide +kernel
theorem dX11_step_28 : decode cX11_step 28 = .ok (.iload_n 1, 1) := by decide +kernel
theorem dX11_step_29 : decode cX11_step 29 = .ok (.invokevirtual 322, 3) := by decide +kernel
theorem dX11_step_32 : decode cX11_step 32 = .ok (.aload_n 0, 1) := by decide +kernel
theorem dX11_step_33 : decode cX11_step 33 = .ok (.getfield 34, 3) := by decide +kernel
theorem dX11_step_36 : decode cX11_step 36 = .ok (.iload_n 1, 1) := by decide +kernel
theorem dX11_step_37 : decode cX11_step 37 = .ok (.invokevirtual 325, 3) := by decide +kernel
theorem dX11_step_40 : decode cX11_step 40 = .ok (.invokevirtual 328, 3) := by decide +kernel
theorem dX11_step_43 : decode cX11_step 43 = .ok (.pop, 1) := by decide +kernel
theorem dX11_step_44 : decode cX11_step 44 = .ok (.aload_n 0, 1) := by decide +kernel
theorem dX11_step_45 : decode cX11_step 45 = .ok (.getfield 34, 3) := by decide +kernel
theorem dX11_step_48 : decode cX11_step 48 = .ok (.aload_n 0, 1) := by decide +kernel
theorem dX11_step_49 : decode cX11_step 49 = .ok (.getfield 34, 3) := by decide +kernel
theorem dX11_step_52 : decode cX11_step 52 = .ok (.getfield 346, 3) := by decide +kernel
theorem dX11_step_55 : decode cX11_step 55 = .ok (.iconst 1, 1) := by decide +kernel
theorem dX11_step_56 : decode cX11_step 56 = .ok (.iadd, 1) := by decide +kernel
theorem dX11_step_57 : decode cX11_step 57 = .ok (.bipush 8, 2) := by decide +kernel
theorem dX11_step_59 : decode cX11_step 59 = .ok (.irem, 1) := by decide +kernel
theorem dX11_step_60 : decode cX11_step 60 = .ok (.putfield 346, 3) := by decide +kernel
theorem dX11_step_63 : decode cX11_step 63 = .ok (.aload_n 0, 1) := by decide +kernel
theorem dX11_step_64 : decode cX11_step 64 = .ok (.getfield 34, 3) := by decide +kernel
theorem dX11_step_67 : decode cX11_step 67 = .ok (.getfield 346, 3) := by decide +kernel
theorem dX11_step_70 : decode cX11_step 70 = .ok (.ireturn, 1) := by decide +kernel
theorem dX11_frame_0 : decode cX11_frame 0 = .ok (.iload_n 1, 1) := by decide +kernel
theorem dX11_frame_1 : decode cX11_frame 1 = .ok (.ifCond .lt 14, 3) := by decide +kernel
theorem dX11_frame_4 : decode cX11_frame 4 = .ok (.iload_n 1, 1) := by decide +kernel
theorem dX11_frame_5 : decode cX11_frame 5 = .ok (.aload_n 0, 1) := by decide +kernel
theorem dX11_frame_6 : decode cX11_frame 6 = .ok (.getfield 34, 3) := by decide +kernel
theorem dX11_frame_9 : decode cX11_frame 9 = .ok (.invokevirtual 352, 3) := by decide +kernel
theorem dX11_frame_12 : decode cX11_frame 12 = .ok (.if_icmp .le 14, 3) := by decide +kernel
theorem dX11_frame_15 : decode cX11_frame 15 = .ok (.new 355, 3) := by decide +kernel
theorem dX11_frame_18 : decode cX11_frame 18 = .ok (.dup, 1) := by decide +kernel
theorem dX11_frame_19 : decode cX11_frame 19 = .ok (.ldc_w 357, 3) := by decide +kernel
theorem dX11_frame_22 : decode cX11_frame 22 = .ok (.invokespecial 359, 3) := by decide +kernel
theorem dX11_frame_25 : decode cX11_frame 25 = .ok (.athrow, 1) := by decide +kernel
theorem dX11_frame_26 : decode cX11_frame 26 = .ok (.aload_n 0, 1) := by decide +kernel
theorem dX11_frame_27 : decode cX11_frame 27 = .ok (.getfield 34, 3) := by decide +kernel
theorem dX11_frame_30 : decode cX11_frame 30 = .ok (.invokevirtual 352, 3) := by decide +kernel
theorem dX11_frame_33 : decode cX11_frame 33 = .ok (.bipush 20, 2) := by decide +kernel
theorem dX11_frame_35 : decode cX11_frame 35 = .ok (.if_icmp .lt 14, 3) := by decide +kernel
theorem dX11_frame_38 : decode cX11_frame 38 = .ok (.new 59, 3) := by decide +kernel
theorem dX11_frame_41 : decode cX11_frame 41 = .ok (.dup, 1) := by decide +kernel
theorem dX11_frame_42 : decode cX11_frame 42 = .ok (.ldc_w 360, 3) := by decide +kernel
theorem dX11_frame_45 : decode cX11_frame 45 = .ok (.invokespecial 63, 3) := by decide +kernel
theorem dX11_frame_48 : decode cX11_frame 48 = .ok (.athrow, 1) := by decide +kernel
theorem dX11_frame_49 : decode cX11_frame 49 = .ok (.aload_n 0, 1) := by decide +kernel
theorem dX11_frame_50 : decode cX11_frame 50 = .ok (.getfield 25, 3) := by decide +kernel
theorem dX11_frame_53 : decode cX11_frame 53 = .ok (.invokevirtual 362, 3) := by decide +kernel
theorem dX11_frame_56 : decode cX11_frame 56 = .ok (.lstore_n 2, 1) := by decide +kernel
theorem dX11_frame_57 : decode cX11_frame 57 = .ok (.aload_n 0, 1) := by decide +kernel
theorem dX11_frame_58 : decode cX11_frame 58 = .ok (.getfield 34, 3) := by decide +kernel
theorem dX11_frame_61 : decode cX11_frame 61 = .ok (.iload_n 1, 1) := by decide +kernel
theorem dX11_frame_62 : decode cX11_frame 62 = .ok (.lload_n 2, 1) := by decide +kernel
theorem dX11_frame_63 : decode cX11_frame 63 = .ok (.aload_n 0, 1) := by decide +kernel
theorem dX11_frame_64 : decode cX11_frame 64 = .ok (.getfield 25, 3) := by decide +kernel
theorem dX11_frame_67 : decode cX11_frame 67 = .ok (.lload_n 2, 1) := by decide +kernel
theorem dX11_frame_68 : decode cX11_frame 68 = .ok (.invokevirtual 299, 3) := by decide +kernel
theorem dX11_frame_71 : decode cX11_frame 71 = .ok (.invokevirtual 365, 3) := by decide +kernel
theorem dX11_frame_74 : decode cX11_frame 74 = .ok (.aload_n 0, 1) := by decide +kernel
theorem dX11_frame_75 : decode cX11_frame 75 = .ok (.getfield 34, 3) := by decide +kernel
theorem dX11_frame_78 : decode cX11_frame 78 = .ok (.invokevirtual 352, 3) := by decide +kernel
theorem dX11_frame_81 : decode cX11_frame 81 = .ok (.ireturn, 1) := by decide +kernel
theorem dX11_turnTo_0 : decode cX11_turnTo 0 = .ok (.aload_n 0, 1) := by decide +kernel
theorem dX11_turnTo_1 : decode cX11_turnTo 1 = .ok (.iload_n 1, 1) := by decide +kernel
theorem dX11_turnTo_2 : decode cX11_turnTo 2 = .ok (.invokevirtual 368, 3) := by decide +kernel
theorem dX11_turnTo_5 : decode cX11_turnTo 5 = .ok (.aload_n 0, 1) := by decide +kernel
theorem dX11_turnTo_6 : decode cX11_turnTo 6 = .ok (.aload_n 0, 1) := by decide +kernel
theorem dX11_turnTo_7 : decode cX11_turnTo 7 = .ok (.getfield 34, 3) := by decide +kernel
theorem dX11_turnTo_10 : decode cX11_turnTo 10 = .ok (.iload_n 1, 1) := by decide +kernel
theorem dX11_turnTo_11 : decode cX11_turnTo 11 = .ok (.invokevirtual 374, 3) := by decide +kernel
theorem dX11_turnTo_14 : decode cX11_turnTo 14 = .ok (.aload_n 0, 1) := by decide +kernel
theorem dX11_turnTo_15 : decode cX11_turnTo 15 = .ok (.getfield 34, 3) := by decide +kernel
theorem dX11_turnTo_18 : decode cX11_turnTo 18 = .ok (.iload_n 1, 1) := by decide +kernel
theorem dX11_turnTo_19 : decode cX11_turnTo 19 = .ok (.invokevirtual 377, 3) := by decide +kernel
theorem dX11_turnTo_22 : decode cX11_turnTo 22 = .ok (.invokevirtual 328, 3) := by decide +kernel
theorem dX11_turnTo_25 : decode cX11_turnTo 25 = .ok (.ireturn, 1) := by decide +kernel
theorem dX11_wire_0 : decode cX11_wire 0 = .ok (.iload_n 1, 1) := by decide +kernel
theorem dX11_wire_1 : decode cX11_wire 1 = .ok (.invokestatic 380, 3) := by decide +kernel
theorem dX11_wire_4 : decode cX11_wire 4 = .ok (.iload_n 2, 1) := by decide +kernel
theorem dX11_wire_5 : decode cX11_wire 5 = .ok (.bipush 38, 2) := by decide +kernel
theorem dX11_wire_7 : decode cX11_wire 7 = .ok (.if_icmp .eq 21, 3) := by decide +kernel
theorem dX11_wire_10 : decode cX11_wire 10 = .ok (.iload_n 2, 1) := by decide +kernel
theorem dX11_wire_11 : decode cX11_wire 11 = .ok (.bipush 124, 2) := by decide +kernel
theorem dX11_wire_13 : decode cX11_wire 13 = .ok (.if_icmp .eq 15, 3) := by decide +kernel
theorem dX11_wire_16 : decode cX11_wire 16 = .ok (.iload_n 2, 1) := by decide +kernel
theorem dX11_wire_17 : decode cX11_wire 17 = .ok (.bipush 94, 2) := by decide +kernel
theorem dX11_wire_19 : decode cX11_wire 19 = .ok (.if_icmp .eq 9, 3) := by decide +kernel
theorem dX11_wire_22 : decode cX11_wire 22 = .ok (.iload_n 2, 1) := by decide +kernel
theorem dX11_wire_23 : decode cX11_wire 23 = .ok (.bipush 33, 2) := by decide +kernel
theorem dX11_wire_25 : decode cX11_wire 25 = .ok (.if_icmp .ne 7, 3) := by decide +kernel
theorem dX11_wire_28 : decode cX11_wire 28 = .ok (.iconst 1, 1) := by decide +kernel
theorem dX11_wire_29 : decode cX11_wire 29 = .ok (.goto 4, 3) := by decide +kernel
theorem dX11_wire_32 : decode cX11_wire 32 = .ok (.iconst 0, 1) := by decide +kernel
theorem dX11_wire_33 : decode cX11_wire 33 = .ok (.istore 5, 2) := by decide +kernel
theorem dX11_wire_35 : decode cX11_wire 35 = .ok (.iload 5, 2) := by decide +kernel
theorem dX11_wire_37 : decode cX11_wire 37 = .ok (.ifCond .eq 11, 3) := by decide +kernel
theorem dX11_wire_40 : decode cX11_wire 40 = .ok (.iload_n 3, 1) := by decide +kernel
theorem dX11_wire_41 : decode cX11_wire 41 = .ok (.iload_n 1, 1) := by decide +kernel
theorem dX11_wire_42 : decode cX11_wire 42 = .ok (.invokestatic 383, 3) := by decide +kernel
theorem dX11_wire_45 : decode cX11_wire 45 = .ok (.ifCond .ne 14, 3) := by decide +kernel
theorem dX11_wire_48 : decode cX11_wire 48 = .ok (.new 130, 3) := by decide +kernel
theorem dX11_wire_51 : decode cX11_wire 51 = .ok (.dup, 1) := by decide +kernel
theorem dX11_wire_52 : decode cX11_wire 52 = .ok (.ldc_w 386, 3) := by decide +kernel
theorem dX11_wire_55 : decode cX11_wire 55 = .ok (.invokespecial 134, 3) := by decide +kernel
theorem dX11_wire_58 : decode cX11_wire 58 = .ok (.athrow, 1) := by decide +kernel
theorem dX11_wire_59 : decode cX11_wire 59 = .ok (.iload_n 2, 1) := by decide +kernel
theorem dX11_wire_60 : decode cX11_wire 60 = .ok (.bipush 33, 2) := by decide +kernel
theorem dX11_wire_62 : decode cX11_wire 62 = .ok (.if_icmp .eq 23, 3) := by decide +kernel
theorem dX11_wire_65 : decode cX11_wire 65 = .ok (.iload 4, 2) := by decide +kernel
theorem dX11_wire_67 : decode cX11_wire 67 = .ok (.iload_n 1, 1) := by decide +kernel
theorem dX11_wire_68 : decode cX11_wire 68 = .ok (.invokestatic 383, 3) := by decide +kernel
theorem dX11_wire_71 : decode cX11_wire 71 = .ok (.ifCond .ne 14, 3) := by decide +kernel
theorem dX11_wire_74 : decode cX11_wire 74 = .ok (.new 130, 3) := by decide +kernel
theorem dX11_wire_77 : decode cX11_wire 77 = .ok (.dup, 1) := by decide +kernel
theorem dX11_wire_78 : decode cX11_wire 78 = .ok (.ldc_w 388, 3) := by decide +kernel
theorem dX11_wire_81 : decode cX11_wire 81 = .ok (.invokespecial 134, 3) := by decide +kernel
theorem dX11_wire_84 : decode cX11_wire 84 = .ok (.athrow, 1) := by decide +kernel
theorem dX11_wire_85 : decode cX11_wire 85 = .ok (.aload_n 0, 1) := by decide +kernel
theorem dX11_wire_86 : decode cX11_wire 86 = .ok (.getfield 25, 3) := by decide +kernel
theorem dX11_wire_89 : decode cX11_wire 89 = .ok (.iload_n 1, 1) := by decide +kernel
theorem dX11_wire_90 : decode cX11_wire 90 = .ok (.iload_n 2, 1) := by decide +kernel
theorem dX11_wire_91 : decode cX11_wire 91 = .ok (.iload_n 3, 1) := by decide +kernel
theorem dX11_wire_92 : decode cX11_wire 92 = .ok (.iload 4, 2) := by decide +kernel
theorem dX11_wire_94 : decode cX11_wire 94 = .ok (.invokevirtual 390, 3) := by decide +kernel
theorem dX11_wire_97 : decode cX11_wire 97 = .ok (.aload_n 0, 1) := by decide +kernel
theorem dX11_wire_98 : decode cX11_wire 98 = .ok (.getfield 12, 3) := by decide +kernel
theorem dX11_wire_101 : decode cX11_wire 101 = .ok (.invokevirtual 87, 3) := by decide +kernel
theorem dX11_wire_104 : decode cX11_wire 104 = .ok (.aload_n 0, 1) := by decide +kernel
theorem dX11_wire_105 : decode cX11_wire 105 = .ok (.getfield 25, 3) := by decide +kernel
theorem dX11_wire_108 : decode cX11_wire 108 = .ok (.iload_n 1, 1) := by decide +kernel
theorem dX11_wire_109 : decode cX11_wire 109 = .ok (.invokevirtual 394, 3) := by decide +kernel
theorem dX11_wire_112 : decode cX11_wire 112 = .ok (.ireturn, 1) := by decide +kernel
theorem dX11_isOnRelay_0 : decode cX11_isOnRelay 0 = .ok (.iload_n 1, 1) := by decide +kernel
theorem dX11_isOnRelay_1 : decode cX11_isOnRelay 1 = .ok (.invokestatic 380, 3) := by decide +kernel
theorem dX11_isOnRelay_4 : decode cX11_isOnRelay 4 = .ok (.aload_n 0, 1) := by decide +kernel
theorem dX11_isOnRelay_5 : decode cX11_isOnRelay 5 = .ok (.getfield 25, 3) := by decide +kernel
theorem dX11_isOnRelay_8 : decode cX11_isOnRelay 8 = .ok (.iload_n 1, 1) := by decide +kernel
theorem dX11_isOnRelay_9 : decode cX11_isOnRelay 9 = .ok (.invokevirtual 394, 3) := by decide +kernel
theorem dX11_isOnRelay_12 : decode cX11_isOnRelay 12 = .ok (.ireturn, 1) := by decide +kernel
theorem dX11_drive_0 : decode cX11_drive 0 = .ok (.aload_n 0, 1) := by decide +kernel
theorem dX11_drive_1 : decode cX11_drive 1 = .ok (.iload_n 1, 1) := by decide +kernel
theorem dX11_drive_2 : decode cX11_drive 2 = .ok (.invokevirtual 109, 3) := by decide +kernel
theorem dX11_drive_5 : decode cX11_drive 5 = .ok (.astore_n 3, 1) := by decide +kernel
theorem dX11_drive_6 : decode cX11_drive 6 = .ok (.iload_n 2, 1) := by decide +kernel
theorem dX11_drive_7 : decode cX11_drive 7 = .ok (.iconst (-1), 1) := by decide +kernel
theorem dX11_drive_8 : decode cX11_drive 8 = .ok (.if_icmp .eq 7, 3) := by decide +kernel
theorem dX11_drive_11 : decode cX11_drive 11 = .ok (.iload_n 2, 1) := by decide +kernel
theorem dX11_drive_12 : decode cX11_drive 12 = .ok (.invokestatic 380, 3) := by decide +kernel
theorem dX11_drive_15 : decode cX11_drive 15 = .ok (.aload_n 3, 1) := by decide +kernel
theorem dX11_drive_16 : decode cX11_drive 16 = .ok (.getfield 397, 3) := by decide +kernel
theorem dX11_drive_19 : decode cX11_drive 19 = .ok (.istore 4, 2) := by decide +kernel
theorem dX11_drive_21 : decode cX11_drive 21 = .ok (.aload_n 3, 1) := by decide +kernel
theorem dX11_drive_22 : decode cX11_drive 22 = .ok (.iload_n 2, 1) := by decide +kernel
theorem dX11_drive_23 : decode cX11_drive 23 = .ok (.putfield 397, 3) := by decide +kernel
theorem dX11_drive_26 : decode cX11_drive 26 = .ok (.aload_n 0, 1) := by decide +kernel
theorem dX11_drive_27 : decode cX11_drive 27 = .ok (.getfield 12, 3) := by decide +kernel
theorem dX11_drive_30 : decode cX11_drive 30 = .ok (.invokevirtual 87, 3) := by decide +kernel
theorem dX11_drive_33 : decode cX11_drive 33 = .ok (.iload 4, 2) := by decide +kernel
theorem dX11_drive_35 : decode cX11_drive 35 = .ok (.ireturn, 1) := by decide +kernel
theorem dX11_record_0 : decode cX11_record 0 = .ok (.iload_n 1, 1) := by decide +kernel
theorem dX11_record_1 : decode cX11_record 1 = .ok (.bipush 107, 2) := by decide +kernel
theorem dX11_record_3 : decode cX11_record 3 = .ok (.if_icmp .eq 26, 3) := by decide +kernel
theorem dX11_record_6 : decode cX11_record 6 = .ok (.iload_n 1, 1) := by decide +kernel
theorem dX11_record_7 : decode cX11_record 7 = .ok (.bipush 114, 2) := by decide +kernel
theorem dX11_record_9 : decode cX11_record 9 = .ok (.if_icmp .eq 20, 3) := by decide +kernel
theorem dX11_record_12 : decode cX11_record 12 = .ok (.iload_n 1, 1) := by decide +kernel
theorem dX11_record_13 : decode cX11_record 13 = .ok (.bipush 45, 2) := by decide +kernel
theorem dX11_record_15 : decode cX11_record 15 = .ok (.if_icmp .eq 14, 3) := by decide +kernel
theorem dX11_record_18 : decode cX11_record 18 = .ok (.new 130, 3) := by decide +kernel
theorem dX11_record_21 : decode cX11_record 21 = .ok (.dup, 1) := by decide +kernel
theorem dX11_record_22 : decode cX11_record 22 = .ok (.ldc_w 400, 3) := by decide +kernel
theorem dX11_record_25 : decode cX11_record 25 = .ok (.invokespecial 134, 3) := by decide +kernel
theorem dX11_record_28 : decode cX11_record 28 = .ok (.athrow, 1) := by decide +kernel
theorem dX11_record_29 : decode cX11_record 29 = .ok (.aload_n 0, 1) := by decide +kernel
theorem dX11_record_30 : decode cX11_record 30 = .ok (.getfield 30, 3) := by decide +kernel
theorem dX11_record_33 : decode cX11_record 33 = .ok (.getfield 402, 3) := by decide +kernel
theorem dX11_record_36 : decode cX11_record 36 = .ok (.istore_n 2, 1) := by decide +kernel
theorem dX11_record_37 : decode cX11_record 37 = .ok (.iload_n 1, 1) := by decide +kernel
theorem dX11_record_38 : decode cX11_record 38 = .ok (.bipush 45, 2) := by decide +kernel
theorem dX11_record_40 : decode cX11_record 40 = .ok (.if_icmp .ne 15, 3) := by decide +kernel
theorem dX11_record_43 : decode cX11_record 43 = .ok (.aload_n 0, 1) := by decide +kernel
theorem dX11_record_44 : decode cX11_record 44 = .ok (.getfield 30, 3) := by decide +kernel
theorem dX11_record_47 : decode cX11_record 47 = .ok (.bipush 45, 2) := by decide +kernel
theorem dX11_record_49 : decode cX11_record 49 = .ok (.putfield 402, 3) := by decide +kernel
theorem dX11_record_52 : decode cX11_record 52 = .ok (.goto 18, 3) := by decide +kernel
theorem dX11_record_55 : decode cX11_record 55 = .ok (.aload_n 0, 1) := by decide +kernel
theorem dX11_record_56 : decode cX11_record 56 = .ok (.getfield 30, 3) := by decide +kernel
theorem dX11_record_59 : decode cX11_record 59 = .ok (.iload_n 1, 1) := by decide +kernel
theorem dX11_record_60 : decode cX11_record 60 = .ok (.aload_n 0, 1) := by decide +kernel
theorem dX11_record_61 : decode cX11_record 61 = .ok (.getfield 12, 3) := by decide +kernel
theorem dX11_record_64 : decode cX11_record 64 = .ok (.getfield 190, 3) := by decide +kernel
theorem dX11_record_67 : decode cX11_record 67 = .ok (.invokevirtual 407, 3) := by decide +kernel
theorem dX11_record_70 : decode cX11_record 70 = .ok (.iload_n 2, 1) := by decide +kernel
theorem dX11_record_71 : decode cX11_record 71 = .ok (.ireturn, 1) := by decide +kernel
theorem dX11_recorded_0 : decode cX11_recorded 0 = .ok (.aload_n 0, 1) := by decide +kernel
theorem dX11_recorded_1 : decode cX11_recorded 1 = .ok (.getfield 30, 3) := by decide +kernel
theorem dX11_recorded_4 : decode cX11_recorded 4 = .ok (.getfield 411, 3) := by decide +kernel
theorem dX11_recorded_7 : decode cX11_recorded 7 = .ok (.ireturn, 1) := by decide +kernel
theorem dX11_playBack_0 : decode cX11_playBack 0 = .ok (.aload_n 0, 1) := by decide +kernel
theorem dX11_playBack_1 : decode cX11_playBack 1 = .ok (.getfield 30, 3) := by decide +kernel
theorem dX11_playBack_4 : decode cX11_playBack 4 = .ok (.getfield 411, 3) := by decide +kernel
theorem dX11_playBack_7 : decode cX11_playBack 7 = .ok (.ifCond .ne 14, 3) := by decide +kernel
theorem dX11_playBack_10 : decode cX11_playBack 10 = .ok (.new 317, 3) := by decide +kernel
theorem dX11_playBack_13 : decode cX11_playBack 13 = .ok (.dup, 1) := by decide +kernel
theorem dX11_playBack_14 : decode cX11_playBack 14 = .ok (.ldc_w 413, 3) := by decide +kernel
theorem dX11_playBack_17 : decode cX11_playBack 17 = .ok (.invokespecial 321, 3) := by decide +kernel
theorem dX11_playBack_20 : decode cX11_playBack 20 = .ok (.athrow, 1) := by decide +kernel
theorem dX11_playBack_21 : decode cX11_playBack 21 = .ok (.aload_n 0, 1) := by decide +kernel
theorem dX11_playBack_22 : decode cX11_playBack 22 = .ok (.getfield 12, 3) := by decide +kernel
theorem dX11_playBack_25 : decode cX11_playBack 25 = .ok (.getfield 415, 3) := by decide +kernel
theorem dX11_playBack_28 : decode cX11_playBack 28 = .ok (.istore_n 1, 1) := by decide +kernel
theorem dX11_playBack_29 : decode cX11_playBack 29 = .ok (.aload_n 0, 1) := by decide +kernel
theorem dX11_playBack_30 : decode cX11_playBack 30 = .ok (.getfield 30, 3) := by decide +kernel
theorem dX11_playBack_33 : decode cX11_playBack 33 = .ok (.getfield 418, 3) := by decide +kernel
theorem dX11_playBack_36 : decode cX11_playBack 36 = .ok (.bipush 107, 2) := by decide +kernel
theorem dX11_playBack_38 : decode cX11_playBack 38 = .ok (.if_icmp .ne 7, 3) := by decide +kernel
theorem dX11_playBack_41 : decode cX11_playBack 41 = .ok (.iconst 1, 1) := by decide +kernel
theorem dX11_playBack_42 : decode cX11_playBack 42 = .ok (.goto 4, 3) := by decide +kernel
theorem dX11_playBack_45 : decode cX11_playBack 45 = .ok (.iconst 0, 1) := by decide +kernel
theorem dX11_playBack_46 : decode cX11_playBack 46 = .ok (.istore_n 2, 1) := by decide +kernel
theorem dX11_playBack_47 : decode cX11_playBack 47 = .ok (.aload_n 0, 1) := by decide +kernel
theorem dX11_playBack_48 : decode cX11_playBack 48 = .ok (.getfield 30, 3) := by decide +kernel
theorem dX11_playBack_51 : decode cX11_playBack 51 = .ok (.bipush 45, 2) := by decide +kernel
theorem dX11_playBack_53 : decode cX11_playBack 53 = .ok (.putfield 402, 3) := by decide +kernel
theorem dX11_playBack_56 : decode cX11_playBack 56 = .ok (.iload_n 2, 1) := by decide +kernel
theorem dX11_playBack_57 : decode cX11_playBack 57 = .ok (.ifCond .eq 11, 3) := by decide +kernel
theorem dX11_playBack_60 : decode cX11_playBack 60 = .ok (.aload_n 0, 1) := by decide +kernel
theorem dX11_playBack_61 : decode cX11_playBack 61 = .ok (.getfield 12, 3) := by decide +kernel
theorem dX11_playBack_64 : decode cX11_playBack 64 = .ok (.invokevirtual 184, 3) := by decide +kernel
theorem dX11_playBack_67 : decode cX11_playBack 67 = .ok (.pop, 1) := by decide +kernel
theorem dX11_playBack_68 : decode cX11_playBack 68 = .ok (.iconst 0, 1) := by decide +kernel
theorem dX11_playBack_69 : decode cX11_playBack 69 = .ok (.istore_n 3, 1) := by decide +kernel
theorem dX11_playBack_70 : decode cX11_playBack 70 = .ok (.iload_n 3, 1) := by decide +kernel
theorem dX11_playBack_71 : decode cX11_playBack 71 = .ok (.aload_n 0, 1) := by decide +kernel
theorem dX11_playBack_72 : decode cX11_playBack 72 = .ok (.getfield 30, 3) := by decide +kernel
theorem dX11_playBack_75 : decode cX11_playBack 75 = .ok (.getfield 411, 3) := by decide +kernel
theorem dX11_playBack_78 : decode cX11_playBack 78 = .ok (.if_icmp .ge 100, 3) := by decide +kernel
theorem dX11_playBack_81 : decode cX11_playBack 81 = .ok (.aload_n 0, 1) := by decide +kernel
theorem dX11_playBack_82 : decode cX11_playBack 82 = .ok (.getfield 12, 3) := by decide +kernel
theorem dX11_playBack_85 : decode cX11_playBack 85 = .ok (.aload_n 0, 1) := by decide +kernel
theorem dX11_playBack_86 : decode cX11_playBack 86 = .ok (.getfield 30, 3) := by decide +kernel
theorem dX11_playBack_89 : decode cX11_playBack 89 = .ok (.iload_n 3, 1) := by decide +kernel
theorem dX11_playBack_90 : decode cX11_playBack 90 = .ok (.invokevirtual 421, 3) := by decide +kernel
theorem dX11_playBack_93 : decode cX11_playBack 93 = .ok (.invokevirtual 187, 3) := by decide +kernel
theorem dX11_playBack_96 : decode cX11_playBack 96 = .ok (.iload_n 2, 1) := by decide +kernel
theorem dX11_playBack_97 : decode cX11_playBack 97 = .ok (.ifCond .eq 37, 3) := by decide +kernel
theorem dX11_playBack_100 : decode cX11_playBack 100 = .ok (.aload_n 0, 1) := by decide +kernel
theorem dX11_playBack_101 : decode cX11_playBack 101 = .ok (.getfield 12, 3) := by decide +kernel
theorem dX11_playBack_104 : decode cX11_playBack 104 = .ok (.aload_n 0, 1) := by decide +kernel
theorem dX11_playBack_105 : decode cX11_playBack 105 = .ok (.getfield 30, 3) := by decide +kernel
theorem dX11_playBack_108 : decode cX11_playBack 108 = .ok (.iload_n 3, 1) := by decide +kernel
theorem dX11_playBack_109 : decode cX11_playBack 109 = .ok (.invokevirtual 424, 3) := by decide +kernel
theorem dX11_playBack_112 : decode cX11_playBack 112 = .ok (.aload_n 0, 1) := by decide +kernel
theorem dX11_playBack_113 : decode cX11_playBack 113 = .ok (.getfield 30, 3) := by decide +kernel
theorem dX11_playBack_116 : decode cX11_playBack 116 = .ok (.iload_n 3, 1) := by decide +kernel
theorem dX11_playBack_117 : decode cX11_playBack 117 = .ok (.invokevirtual 427, 3) := by decide +kernel
theorem dX11_playBack_120 : decode cX11_playBack 120 = .ok (.aload_n 0, 1) := by decide +kernel
theorem dX11_playBack_121 : decode cX11_playBack 121 = .ok (.getfield 30, 3) := by decide +kernel
theorem dX11_playBack_124 : decode cX11_playBack 124 = .ok (.iload_n 3, 1) := by decide +kernel
theorem dX11_playBack_125 : decode cX11_playBack 125 = .ok (.invokevirtual 430, 3) := by decide +kernel
theorem dX11_playBack_128 : decode cX11_playBack 128 = .ok (.invokevirtual 180, 3) := by decide +kernel
theorem dX11_playBack_131 : decode cX11_playBack 131 = .ok (.goto 34, 3) := by decide +kernel
theorem dX11_playBack_134 : decode cX11_playBack 134 = .ok (.aload_n 0, 1) := by decide +kernel
theorem dX11_playBack_135 : decode cX11_playBack 135 = .ok (.getfield 12, 3) := by decide +kernel
theorem dX11_playBack_138 : decode cX11_playBack 138 = .ok (.aload_n 0, 1) := by decide +kernel
theorem dX11_playBack_139 : decode cX11_playBack 139 = .ok (.getfield 30, 3) := by decide +kernel
theorem dX11_playBack_142 : decode cX11_playBack 142 = .ok (.iload_n 3, 1) := by decide +kernel
theorem dX11_playBack_143 : decode cX11_playBack 143 = .ok (.invokevirtual 424, 3) := by decide +kernel
theorem dX11_playBack_146 : decode cX11_playBack 146 = .ok (.aload_n 0, 1) := by decide +kernel
theorem dX11_playBack_147 : decode cX11_playBack 147 = .ok (.getfield 30, 3) := by decide +kernel
theorem dX11_playBack_150 : decode cX11_playBack 150 = .ok (.iload_n 3, 1) := by decide +kernel
theorem dX11_playBack_151 : decode cX11_playBack 151 = .ok (.invokevirtual 427, 3) := by decide +kernel
theorem dX11_playBack_154 : decode cX11_playBack 154 = .ok (.aload_n 0, 1) := by decide +kernel
theorem dX11_playBack_155 : decode cX11_playBack 155 = .ok (.getfield 30, 3) := by decide +kernel
theorem dX11_playBack_158 : decode cX11_playBack 158 = .ok (.iload_n 3, 1) := by decide +kernel
theorem dX11_playBack_159 : decode cX11_playBack 159 = .ok (.invokevirtual 430, 3) := by decide +kernel
theorem dX11_playBack_162 : decode cX11_playBack 162 = .ok (.invokevirtual 433, 3) := by decide +kernel
theorem dX11_playBack_165 : decode cX11_playBack 165 = .ok (.aload_n 0, 1) := by decide +kernel
theorem dX11_playBack_166 : decode cX11_playBack 166 = .ok (.getfield 12, 3) := by decide +kernel
theorem dX11_playBack_169 : decode cX11_playBack 169 = .ok (.invokevirtual 87, 3) := by decide +kernel
theorem dX11_playBack_172 : decode cX11_playBack 172 = .ok (.iinc 3 1, 3) := by decide +kernel
theorem dX11_playBack_175 : decode cX11_playBack 175 = .ok (.goto (-105), 3) := by decide +kernel
theorem dX11_playBack_178 : decode cX11_playBack 178 = .ok (.aload_n 0, 1) := by decide +kernel
theorem dX11_playBack_179 : decode cX11_playBack 179 = .ok (.getfield 12, 3) := by decide +kernel
theorem dX11_playBack_182 : decode cX11_playBack 182 = .ok (.invokevirtual 436, 3) := by decide +kernel
theorem dX11_playBack_185 : decode cX11_playBack 185 = .ok (.aload_n 0, 1) := by decide +kernel
theorem dX11_playBack_186 : decode cX11_playBack 186 = .ok (.getfield 12, 3) := by decide +kernel
theorem dX11_playBack_189 : decode cX11_playBack 189 = .ok (.getfield 415, 3) := by decide +kernel
theorem dX11_playBack_192 : decode cX11_playBack 192 = .ok (.iload_n 1, 1) := by decide +kernel
theorem dX11_playBack_193 : decode cX11_playBack 193 = .ok (.isub, 1) := by decide +kernel
theorem dX11_playBack_194 : decode cX11_playBack 194 = .ok (.ireturn, 1) := by decide +kernel
theorem dX11_realise_0 : decode cX11_realise 0 = .ok (.iconst 0, 1) := by decide +kernel
theorem dX11_realise_1 : decode cX11_realise 1 = .ok (.iload_n 1, 1) := by decide +kernel
theorem dX11_realise_2 : decode cX11_realise 2 = .ok (.invokestatic 171, 3) := by decide +kernel
theorem dX11_realise_5 : decode cX11_realise 5 = .ok (.iload_n 2, 1) := by decide +kernel
theorem dX11_realise_6 : decode cX11_realise 6 = .ok (.invokestatic 446, 3) := by decide +kernel
theorem dX11_realise_9 : decode cX11_realise 9 = .ok (.astore_n 3, 1) := by decide +kernel
theorem dX11_realise_10 : decode cX11_realise 10 = .ok (.aload_n 3, 1) := by decide +kernel
theorem dX11_realise_11 : decode cX11_realise 11 = .ok (.arraylength, 1) := by decide +kernel
theorem dX11_realise_12 : decode cX11_realise 12 = .ok (.ifCond .ne 14, 3) := by decide +kernel
theorem dX11_realise_15 : decode cX11_realise 15 = .ok (.new 130, 3) := by decide +kernel
theorem dX11_realise_18 : decode cX11_realise 18 = .ok (.dup, 1) := by decide +kernel
theorem dX11_realise_19 : decode cX11_realise 19 = .ok (.ldc_w 450, 3) := by decide +kernel
theorem dX11_realise_22 : decode cX11_realise 22 = .ok (.invokespecial 134, 3) := by decide +kernel
theorem dX11_realise_25 : decode cX11_realise 25 = .ok (.athrow, 1) := by decide +kernel
theorem dX11_realise_26 : decode cX11_realise 26 = .ok (.aload_n 0, 1) := by decide +kernel
theorem dX11_realise_27 : decode cX11_realise 27 = .ok (.getfield 41, 3) := by decide +kernel
theorem dX11_realise_30 : decode cX11_realise 30 = .ok (.iload_n 1, 1) := by decide +kernel
theorem dX11_realise_31 : decode cX11_realise 31 = .ok (.invokevirtual 452, 3) := by decide +kernel
theorem dX11_realise_34 : decode cX11_realise 34 = .ok (.ifCond .ge 14, 3) := by decide +kernel
theorem dX11_realise_37 : decode cX11_realise 37 = .ok (.new 455, 3) := by decide +kernel
theorem dX11_realise_40 : decode cX11_realise 40 = .ok (.dup, 1) := by decide +kernel
theorem dX11_realise_41 : decode cX11_realise 41 = .ok (.ldc_w 457, 3) := by decide +kernel
theorem dX11_realise_44 : decode cX11_realise 44 = .ok (.invokespecial 459, 3) := by decide +kernel
theorem dX11_realise_47 : decode cX11_realise 47 = .ok (.athrow, 1) := by decide +kernel
theorem dX11_realise_48 : decode cX11_realise 48 = .ok (.aload_n 0, 1) := by decide +kernel
theorem dX11_realise_49 : decode cX11_realise 49 = .ok (.getfield 41, 3) := by decide +kernel
theorem dX11_realise_52 : decode cX11_realise 52 = .ok (.iload_n 1, 1) := by decide +kernel
theorem dX11_realise_53 : decode cX11_realise 53 = .ok (.aload_n 3, 1) := by decide +kernel
theorem dX11_realise_54 : decode cX11_realise 54 = .ok (.invokevirtual 460, 3) := by decide +kernel
theorem dX11_realise_57 : decode cX11_realise 57 = .ok (.istore 4, 2) := by decide +kernel
theorem dX11_realise_59 : decode cX11_realise 59 = .ok (.aload_n 0, 1) := by decide +kernel
theorem dX11_realise_60 : decode cX11_realise 60 = .ok (.getfield 12, 3) := by decide +kernel
theorem dX11_realise_63 : decode cX11_realise 63 = .ok (.aload_n 0, 1) := by decide +kernel
theorem dX11_realise_64 : decode cX11_realise 64 = .ok (.getfield 41, 3) := by decide +kernel
theorem dX11_realise_67 : decode cX11_realise 67 = .ok (.invokevirtual 464, 3) := by decide +kernel
theorem dX11_realise_70 : decode cX11_realise 70 = .ok (.iload 4, 2) := by decide +kernel
theorem dX11_realise_72 : decode cX11_realise 72 = .ok (.ireturn, 1) := by decide +kernel
theorem dX11_speakingShare_0 : decode cX11_speakingShare 0 = .ok (.aload_n 0, 1) := by decide +kernel
theorem dX11_speakingShare_1 : decode cX11_speakingShare 1 = .ok (.getfield 12, 3) := by decide +kernel
theorem dX11_speakingShare_4 : decode cX11_speakingShare 4 = .ok (.invokevirtual 468, 3) := by decide +kernel
theorem dX11_speakingShare_7 : decode cX11_speakingShare 7 = .ok (.istore_n 1, 1) := by decide +kernel
theorem dX11_speakingShare_8 : decode cX11_speakingShare 8 = .ok (.iload_n 1, 1) := by decide +kernel
theorem dX11_speakingShare_9 : decode cX11_speakingShare 9 = .ok (.ifCond .ne 14, 3) := by decide +kernel
theorem dX11_speakingShare_12 : decode cX11_speakingShare 12 = .ok (.new 471, 3) := by decide +kernel
theorem dX11_speakingShare_15 : decode cX11_speakingShare 15 = .ok (.dup, 1) := by decide +kernel
theorem dX11_speakingShare_16 : decode cX11_speakingShare 16 = .ok (.ldc_w 473, 3) := by decide +kernel
theorem dX11_speakingShare_19 : decode cX11_speakingShare 19 = .ok (.invokespecial 475, 3) := by decide +kernel
theorem dX11_speakingShare_22 : decode cX11_speakingShare 22 = .ok (.athrow, 1) := by decide +kernel
theorem dX11_speakingShare_23 : decode cX11_speakingShare 23 = .ok (.aload_n 0, 1) := by decide +kernel
theorem dX11_speakingShare_24 : decode cX11_speakingShare 24 = .ok (.getfield 12, 3) := by decide +kernel
theorem dX11_speakingShare_27 : decode cX11_speakingShare 27 = .ok (.getfield 212, 3) := by decide +kernel
theorem dX11_speakingShare_30 : decode cX11_speakingShare 30 = .ok (.i2f, 1) := by decide +kernel
theorem dX11_speakingShare_31 : decode cX11_speakingShare 31 = .ok (.iload_n 1, 1) := by decide +kernel
theorem dX11_speakingShare_32 : decode cX11_speakingShare 32 = .ok (.i2f, 1) := by decide +kernel
theorem dX11_speakingShare_33 : decode cX11_speakingShare 33 = .ok (.fdiv, 1) := by decide +kernel
theorem dX11_speakingShare_34 : decode cX11_speakingShare 34 = .ok (.freturn, 1) := by decide +kernel
theorem dX11_meanPitch_0 : decode cX11_meanPitch 0 = .ok (.aload_n 0, 1) := by decide +kernel
theorem dX11_meanPitch_1 : decode cX11_meanPitch 1 = .ok (.getfield 12, 3) := by decide +kernel
theorem dX11_meanPitch_4 : decode cX11_meanPitch 4 = .ok (.getfield 212, 3) := by decide +kernel
theorem dX11_meanPitch_7 : decode cX11_meanPitch 7 = .ok (.istore_n 1, 1) := by decide +kernel
theorem dX11_meanPitch_8 : decode cX11_meanPitch 8 = .ok (.iload_n 1, 1) := by decide +kernel
theorem dX11_meanPitch_9 : decode cX11_meanPitch 9 = .ok (.ifCond .ne 14, 3) := by decide +kernel
theorem dX11_meanPitch_12 : decode cX11_meanPitch 12 = .ok (.new 471, 3) := by decide +kernel
theorem dX11_meanPitch_15 : decode cX11_meanPitch 15 = .ok (.dup, 1) := by decide +kernel
theorem dX11_meanPitch_16 : decode cX11_meanPitch 16 = .ok (.ldc_w 476, 3) := by decide +kernel
theorem dX11_meanPitch_19 : decode cX11_meanPitch 19 = .ok (.invokespecial 475, 3) := by decide +kernel
theorem dX11_meanPitch_22 : decode cX11_meanPitch 22 = .ok (.athrow, 1) := by decide +kernel
theorem dX11_meanPitch_23 : decode cX11_meanPitch 23 = .ok (.aload_n 0, 1) := by decide +kernel
theorem dX11_meanPitch_24 : decode cX11_meanPitch 24 = .ok (.getfield 12, 3) := by decide +kernel
theorem dX11_meanPitch_27 : decode cX11_meanPitch 27 = .ok (.invokevirtual 478, 3) := by decide +kernel
theorem dX11_meanPitch_30 : decode cX11_meanPitch 30 = .ok (.i2d, 1) := by decide +kernel
theorem dX11_meanPitch_31 : decode cX11_meanPitch 31 = .ok (.iload_n 1, 1) := by decide +kernel
theorem dX11_meanPitch_32 : decode cX11_meanPitch 32 = .ok (.i2d, 1) := by decide +kernel
theorem dX11_meanPitch_33 : decode cX11_meanPitch 33 = .ok (.ddiv, 1) := by decide +kernel
theorem dX11_meanPitch_34 : decode cX11_meanPitch 34 = .ok (.dreturn, 1) := by decide +kernel
theorem dX11_isTrue_0 : decode cX11_isTrue 0 = .ok (.aload_n 0, 1) := by decide +kernel
theorem dX11_isTrue_1 : decode cX11_isTrue 1 = .ok (.getfield 12, 3) := by decide +kernel
theorem dX11_isTrue_4 : decode cX11_isTrue 4 = .ok (.invokevirtual 481, 3) := by decide +kernel
theorem dX11_isTrue_7 : decode cX11_isTrue 7 = .ok (.ireturn, 1) := by decide +kernel
theorem dX11_isDivision_0 : decode cX11_isDivision 0 = .ok (.iload_n 0, 1) := by decide +kernel
theorem dX11_isDivision_1 : decode cX11_isDivision 1 = .ok (.ifCond .lt 12, 3) := by decide +kernel
theorem dX11_isDivision_4 : decode cX11_isDivision 4 = .ok (.iload_n 0, 1) := by decide +kernel
theorem dX11_isDivision_5 : decode cX11_isDivision 5 = .ok (.iconst 3, 1) := by decide +kernel
theorem dX11_isDivision_6 : decode cX11_isDivision 6 = .ok (.if_icmp .ge 7, 3) := by decide +kernel
theorem dX11_isDivision_9 : decode cX11_isDivision 9 = .ok (.iconst 1, 1) := by decide +kernel
theorem dX11_isDivision_10 : decode cX11_isDivision 10 = .ok (.goto 4, 3) := by decide +kernel
theorem dX11_isDivision_13 : decode cX11_isDivision 13 = .ok (.iconst 0, 1) := by decide +kernel
theorem dX11_isDivision_14 : decode cX11_isDivision 14 = .ok (.ireturn, 1) := by decide +kernel
theorem dX11_needDivision_0 : decode cX11_needDivision 0 = .ok (.iload_n 0, 1) := by decide +kernel
theorem dX11_needDivision_1 : decode cX11_needDivision 1 = .ok (.invokestatic 484, 3) := by decide +kernel
theorem dX11_needDivision_4 : decode cX11_needDivision 4 = .ok (.ifCond .ne 14, 3) := by decide +kernel
theorem dX11_needDivision_7 : decode cX11_needDivision 7 = .ok (.new 355, 3) := by decide +kernel
theorem dX11_needDivision_10 : decode cX11_needDivision 10 = .ok (.dup, 1) := by decide +kernel
theorem dX11_needDivision_11 : decode cX11_needDivision 11 = .ok (.ldc_w 487, 3) := by decide +kernel
theorem dX11_needDivision_14 : decode cX11_needDivision 14 = .ok (.invokespecial 359, 3) := by decide +kernel
theorem dX11_needDivision_17 : decode cX11_needDivision 17 = .ok (.athrow, 1) := by decide +kernel
theorem dX11_needDivision_18 : decode cX11_needDivision 18 = .ok (.return_, 1) := by decide +kernel
theorem dX11_needKey_0 : decode cX11_needKey 0 = .ok (.iload_n 0, 1) := by decide +kernel
theorem dX11_needKey_1 : decode cX11_needKey 1 = .ok (.iload_n 1, 1) := by decide +kernel
theorem dX11_needKey_2 : decode cX11_needKey 2 = .ok (.invokestatic 489, 3) := by decide +kernel
theorem dX11_needKey_5 : decode cX11_needKey 5 = .ok (.ifCond .ge 14, 3) := by decide +kernel
theorem dX11_needKey_8 : decode cX11_needKey 8 = .ok (.new 355, 3) := by decide +kernel
theorem dX11_needKey_11 : decode cX11_needKey 11 = .ok (.dup, 1) := by decide +kernel
theorem dX11_needKey_12 : decode cX11_needKey 12 = .ok (.ldc_w 492, 3) := by decide +kernel
theorem dX11_needKey_15 : decode cX11_needKey 15 = .ok (.invokespecial 359, 3) := by decide +kernel
theorem dX11_needKey_18 : decode cX11_needKey 18 = .ok (.athrow, 1) := by decide +kernel
theorem dX11_needKey_19 : decode cX11_needKey 19 = .ok (.return_, 1) := by decide +kernel
theorem dX11_needRange_0 : decode cX11_needRange 0 = .ok (.iload_n 0, 1) := by decide +kernel
theorem dX11_needRange_1 : decode cX11_needRange 1 = .ok (.iload_n 1, 1) := by decide +kernel
theorem dX11_needRange_2 : decode cX11_needRange 2 = .ok (.if_icmp .lt 8, 3) := by decide +kernel
theorem dX11_needRange_5 : decode cX11_needRange 5 = .ok (.iload_n 0, 1) := by decide +kernel
theorem dX11_needRange_6 : decode cX11_needRange 6 = .ok (.iload_n 2, 1) := by decide +kernel
theorem dX11_needRange_7 : decode cX11_needRange 7 = .ok (.if_icmp .le 14, 3) := by decide +kernel
theorem dX11_needRange_10 : decode cX11_needRange 10 = .ok (.new 130, 3) := by decide +kernel
theorem dX11_needRange_13 : decode cX11_needRange 13 = .ok (.dup, 1) := by decide +kernel
theorem dX11_needRange_14 : decode cX11_needRange 14 = .ok (.ldc_w 494, 3) := by decide +kernel
theorem dX11_needRange_17 : decode cX11_needRange 17 = .ok (.invokespecial 134, 3) := by decide +kernel
theorem dX11_needRange_20 : decode cX11_needRange 20 = .ok (.athrow, 1) := by decide +kernel
theorem dX11_needRange_21 : decode cX11_needRange 21 = .ok (.return_, 1) := by decide +kernel
theorem dX11_needRelay_0 : decode cX11_needRelay 0 = .ok (.iload_n 0, 1) := by decide +kernel
theorem dX11_needRelay_1 : decode cX11_needRelay 1 = .ok (.ifCond .lt 9, 3) := by decide +kernel
theorem dX11_needRelay_4 : decode cX11_needRelay 4 = .ok (.iload_n 0, 1) := by decide +kernel
theorem dX11_needRelay_5 : decode cX11_needRelay 5 = .ok (.bipush 16, 2) := by decide +kernel
theorem dX11_needRelay_7 : decode cX11_needRelay 7 = .ok (.if_icmp .lt 14, 3) := by decide +kernel
theorem dX11_needRelay_10 : decode cX11_needRelay 10 = .ok (.new 355, 3) := by decide +kernel
theorem dX11_needRelay_13 : decode cX11_needRelay 13 = .ok (.dup, 1) := by decide +kernel
theorem dX11_needRelay_14 : decode cX11_needRelay 14 = .ok (.ldc_w 496, 3) := by decide +kernel
theorem dX11_needRelay_17 : decode cX11_needRelay 17 = .ok (.invokespecial 359, 3) := by decide +kernel
theorem dX11_needRelay_20 : decode cX11_needRelay 20 = .ok (.athrow, 1) := by decide +kernel
theorem dX11_needRelay_21 : decode cX11_needRelay 21 = .ok (.return_, 1) := by decide +kernel
theorem dX11_needReversible_0 : decode cX11_needReversible 0 = .ok (.iload_n 0, 1) := by decide +kernel
theorem dX11_needReversible_1 : decode cX11_needReversible 1 = .ok (.ifCond .lt 8, 3) := by decide +kernel
theorem dX11_needReversible_4 : decode cX11_needReversible 4 = .ok (.iload_n 0, 1) := by decide +kernel
theorem dX11_needReversible_5 : decode cX11_needReversible 5 = .ok (.iconst 4, 1) := by decide +kernel
theorem dX11_needReversible_6 : decode cX11_needReversible 6 = .ok (.if_icmp .lt 14, 3) := by decide +kernel
theorem dX11_needReversible_9 : decode cX11_needReversible 9 = .ok (.new 355, 3) := by decide +kernel
theorem dX11_needReversible_12 : decode cX11_needReversible 12 = .ok (.dup, 1) := by decide +kernel
theorem dX11_needReversible_13 : decode cX11_needReversible 13 = .ok (.ldc_w 498, 3) := by decide +kernel
theorem dX11_needReversible_16 : decode cX11_needReversible 16 = .ok (.invokespecial 359, 3) := by decide +kernel
theorem dX11_needReversible_19 : decode cX11_needReversible 19 = .ok (.athrow, 1) := by decide +kernel
theorem dX11_needReversible_20 : decode cX11_needReversible 20 = .ok (.return_, 1) := by decide +kernel
theorem dX11_needPiston_0 : decode cX11_needPiston 0 = .ok (.iload_n 0, 1) := by decide +kernel
theorem dX11_needPiston_1 : decode cX11_needPiston 1 = .ok (.iload_n 1, 1) := by decide +kernel
theorem dX11_needPiston_2 : decode cX11_needPiston 2 = .ok (.invokestatic 349, 3) := by decide +kernel
theorem dX11_needPiston_5 : decode cX11_needPiston 5 = .ok (.istore_n 2, 1) := by decide +kernel
theorem dX11_needPiston_6 : decode cX11_needPiston 6 = .ok (.iload_n 2, 1) := by decide +kernel
theorem dX11_needPiston_7 : decode cX11_needPiston 7 = .ok (.ifCond .ge 14, 3) := by decide +kernel
theorem dX11_needPiston_10 : decode cX11_needPiston 10 = .ok (.new 355, 3) := by decide +kernel
theorem dX11_needPiston_13 : decode cX11_needPiston 13 = .ok (.dup, 1) := by decide +kernel
theorem dX11_needPiston_14 : decode cX11_needPiston 14 = .ok (.ldc_w 500, 3) := by decide +kernel
theorem dX11_needPiston_17 : decode cX11_needPiston 17 = .ok (.invokespecial 359, 3) := by decide +kernel
theorem dX11_needPiston_20 : decode cX11_needPiston 20 = .ok (.athrow, 1) := by decide +kernel
theorem dX11_needPiston_21 : decode cX11_needPiston 21 = .ok (.iload_n 2, 1) := by decide +kernel
theorem dX11_needPiston_22 : decode cX11_needPiston 22 = .ok (.ireturn, 1) := by decide +kernel
theorem dX11_needFrame_0 : decode cX11_needFrame 0 = .ok (.iload_n 1, 1) := by decide +kernel
theorem dX11_needFrame_1 : decode cX11_needFrame 1 = .ok (.ifCond .lt 14, 3) := by decide +kernel
theorem dX11_needFrame_4 : decode cX11_needFrame 4 = .ok (.iload_n 1, 1) := by decide +kernel
theorem dX11_needFrame_5 : decode cX11_needFrame 5 = .ok (.aload_n 0, 1) := by decide +kernel
theorem dX11_needFrame_6 : decode cX11_needFrame 6 = .ok (.getfield 34, 3) := by decide +kernel
theorem dX11_needFrame_9 : decode cX11_needFrame 9 = .ok (.invokevirtual 352, 3) := by decide +kernel
theorem dX11_needFrame_12 : decode cX11_needFrame 12 = .ok (.if_icmp .lt 14, 3) := by decide +kernel
theorem dX11_needFrame_15 : decode cX11_needFrame 15 = .ok (.new 355, 3) := by decide +kernel
theorem dX11_needFrame_18 : decode cX11_needFrame 18 = .ok (.dup, 1) := by decide +kernel
theorem dX11_needFrame_19 : decode cX11_needFrame 19 = .ok (.ldc_w 502, 3) := by decide +kernel
theorem dX11_needFrame_22 : decode cX11_needFrame 22 = .ok (.invokespecial 359, 3) := by decide +kernel
theorem dX11_needFrame_25 : decode cX11_needFrame 25 = .ok (.athrow, 1) := by decide +kernel
theorem dX11_needFrame_26 : decode cX11_needFrame 26 = .ok (.return_, 1) := by decide +kernel
theorem dX11_needOwnLevel_0 : decode cX11_needOwnLevel 0 = .ok (.aload_n 0, 1) := by decide +kernel
theorem dX11_needOwnLevel_1 : decode cX11_needOwnLevel 1 = .ok (.getfield 34, 3) := by decide +kernel
theorem dX11_needOwnLevel_4 : decode cX11_needOwnLevel 4 = .ok (.invokevirtual 504, 3) := by decide +kernel
theorem dX11_needOwnLevel_7 : decode cX11_needOwnLevel 7 = .ok (.ifCond .eq 14, 3) := by decide +kernel
theorem dX11_needOwnLevel_10 : decode cX11_needOwnLevel 10 = .ok (.new 455, 3) := by decide +kernel
theorem dX11_needOwnLevel_13 : decode cX11_needOwnLevel 13 = .ok (.dup, 1) := by decide +kernel
theorem dX11_needOwnLevel_14 : decode cX11_needOwnLevel 14 = .ok (.ldc_w 507, 3) := by decide +kernel
theorem dX11_needOwnLevel_17 : decode cX11_needOwnLevel 17 = .ok (.invokespecial 459, 3) := by decide +kernel
theorem dX11_needOwnLevel_20 : decode cX11_needOwnLevel 20 = .ok (.athrow, 1) := by decide +kernel
theorem dX11_needOwnLevel_21 : decode cX11_needOwnLevel 21 = .ok (.return_, 1) := by decide +kernel
theorem dX11_needRoomForKnob_0 : decode cX11_needRoomForKnob 0 = .ok (.aload_n 0, 1) := by decide +kernel
theorem dX11_needRoomForKnob_1 : decode cX11_needRoomForKnob 1 = .ok (.getfield 25, 3) := by decide +kernel
theorem dX11_needRoomForKnob_4 : decode cX11_needRoomForKnob 4 = .ok (.getfield 509, 3) := by decide +kernel
theorem dX11_needRoomForKnob_7 : decode cX11_needRoomForKnob 7 = .ok (.invokevirtual 53, 3) := by decide +kernel
theorem dX11_needRoomForKnob_10 : decode cX11_needRoomForKnob 10 = .ok (.bipush 40, 2) := by decide +kernel
theorem dX11_needRoomForKnob_12 : decode cX11_needRoomForKnob 12 = .ok (.if_icmp .lt 14, 3) := by decide +kernel
theorem dX11_needRoomForKnob_15 : decode cX11_needRoomForKnob 15 = .ok (.new 59, 3) := by decide +kernel
theorem dX11_needRoomForKnob_18 : decode cX11_needRoomForKnob 18 = .ok (.dup, 1) := by decide +kernel
theorem dX11_needRoomForKnob_19 : decode cX11_needRoomForKnob 19 = .ok (.ldc_w 512, 3) := by decide +kernel
theorem dX11_needRoomForKnob_22 : decode cX11_needRoomForKnob 22 = .ok (.invokespecial 63, 3) := by decide +kernel
theorem dX11_needRoomForKnob_25 : decode cX11_needRoomForKnob 25 = .ok (.athrow, 1) := by decide +kernel
theorem dX11_needRoomForKnob_26 : decode cX11_needRoomForKnob 26 = .ok (.return_, 1) := by decide +kernel
theorem dX11_needKnob_0 : decode cX11_needKnob 0 = .ok (.aload_n 0, 1) := by decide +kernel
theorem dX11_needKnob_1 : decode cX11_needKnob 1 = .ok (.getfield 25, 3) := by decide +kernel
theorem dX11_needKnob_4 : decode cX11_needKnob 4 = .ok (.iload_n 1, 1) := by decide +kernel
theorem dX11_needKnob_5 : decode cX11_needKnob 5 = .ok (.invokevirtual 341, 3) := by decide +kernel
theorem dX11_needKnob_8 : decode cX11_needKnob 8 = .ok (.astore_n 2, 1) := by decide +kernel
theorem dX11_needKnob_9 : decode cX11_needKnob 9 = .ok (.aload_n 2, 1) := by decide +kernel
theorem dX11_needKnob_10 : decode cX11_needKnob 10 = .ok (.ifnonnull 14, 3) := by decide +kernel
theorem dX11_needKnob_13 : decode cX11_needKnob 13 = .ok (.new 355, 3) := by decide +kernel
theorem dX11_needKnob_16 : decode cX11_needKnob 16 = .ok (.dup, 1) := by decide +kernel
theorem dX11_needKnob_17 : decode cX11_needKnob 17 = .ok (.ldc_w 514, 3) := by decide +kernel
theorem dX11_needKnob_20 : decode cX11_needKnob 20 = .ok (.invokespecial 359, 3) := by decide +kernel
theorem dX11_needKnob_23 : decode cX11_needKnob 23 = .ok (.athrow, 1) := by decide +kernel
theorem dX11_needKnob_24 : decode cX11_needKnob 24 = .ok (.aload_n 2, 1) := by decide +kernel
theorem dX11_needKnob_25 : decode cX11_needKnob 25 = .ok (.areturn, 1) := by decide +kernel
theorem dX11_needStop_0 : decode cX11_needStop 0 = .ok (.aload_n 0, 1) := by decide +kernel
theorem dX11_needStop_1 : decode cX11_needStop 1 = .ok (.getfield 516, 3) := by decide +kernel
theorem dX11_needStop_4 : decode cX11_needStop 4 = .ok (.ifnonnull 14, 3) := by decide +kernel
theorem dX11_needStop_7 : decode cX11_needStop 7 = .ok (.new 455, 3) := by decide +kernel
theorem dX11_needStop_10 : decode cX11_needStop 10 = .ok (.dup, 1) := by decide +kernel
theorem dX11_needStop_11 : decode cX11_needStop 11 = .ok (.ldc_w 520, 3) := by decide +kernel
theorem dX11_needStop_14 : decode cX11_needStop 14 = .ok (.invokespecial 459, 3) := by decide +kernel
theorem dX11_needStop_17 : decode cX11_needStop 17 = .ok (.athrow, 1) := by decide +kernel
theorem dX11_needStop_18 : decode cX11_needStop 18 = .ok (.aload_n 0, 1) := by decide +kernel
theorem dX11_needStop_19 : decode cX11_needStop 19 = .ok (.getfield 516, 3) := by decide +kernel
theorem dX11_needStop_22 : decode cX11_needStop 22 = .ok (.areturn, 1) := by decide +kernel
theorem dX11_needRank_0 : decode cX11_needRank 0 = .ok (.aload_n 0, 1) := by decide +kernel
theorem dX11_needRank_1 : decode cX11_needRank 1 = .ok (.getfield 12, 3) := by decide +kernel
theorem dX11_needRank_4 : decode cX11_needRank 4 = .ok (.iload_n 1, 1) := by decide +kernel
theorem dX11_needRank_5 : decode cX11_needRank 5 = .ok (.invokevirtual 522, 3) := by decide +kernel
theorem dX11_needRank_8 : decode cX11_needRank 8 = .ok (.astore_n 2, 1) := by decide +kernel
theorem dX11_needRank_9 : decode cX11_needRank 9 = .ok (.aload_n 2, 1) := by decide +kernel
theorem dX11_needRank_10 : decode cX11_needRank 10 = .ok (.ifnonnull 14, 3) := by decide +kernel
theorem dX11_needRank_13 : decode cX11_needRank 13 = .ok (.new 355, 3) := by decide +kernel
theorem dX11_needRank_16 : decode cX11_needRank 16 = .ok (.dup, 1) := by decide +kernel
theorem dX11_needRank_17 : decode cX11_needRank 17 = .ok (.ldc_w 525, 3) := by decide +kernel
theorem dX11_needRank_20 : decode cX11_needRank 20 = .ok (.invokespecial 359, 3) := by decide +kernel
theorem dX11_needRank_23 : decode cX11_needRank 23 = .ok (.athrow, 1) := by decide +kernel
theorem dX11_needRank_24 : decode cX11_needRank 24 = .ok (.aload_n 2, 1) := by decide +kernel
theorem dX11_needRank_25 : decode cX11_needRank 25 = .ok (.areturn, 1) := by decide +kernel
theorem dX11_needPipe_0 : decode cX11_needPipe 0 = .ok (.aload_n 0, 1) := by decide +kernel
theorem dX11_needPipe_1 : decode cX11_needPipe 1 = .ok (.getfield 12, 3) := by decide +kernel
theorem dX11_needPipe_4 : decode cX11_needPipe 4 = .ok (.iload_n 1, 1) := by decide +kernel
theorem dX11_needPipe_5 : decode cX11_needPipe 5 = .ok (.iload_n 2, 1) := by decide +kernel
theorem dX11_needPipe_6 : decode cX11_needPipe 6 = .ok (.invokevirtual 527, 3) := by decide +kernel
theorem dX11_needPipe_9 : decode cX11_needPipe 9 = .ok (.astore_n 3, 1) := by decide +kernel
theorem dX11_needPipe_10 : decode cX11_needPipe 10 = .ok (.aload_n 3, 1) := by decide +kernel
theorem dX11_needPipe_11 : decode cX11_needPipe 11 = .ok (.ifnonnull 14, 3) := by decide +kernel
theorem dX11_needPipe_14 : decode cX11_needPipe 14 = .ok (.new 355, 3) := by decide +kernel
theorem dX11_needPipe_17 : decode cX11_needPipe 17 = .ok (.dup, 1) := by decide +kernel
theorem dX11_needPipe_18 : decode cX11_needPipe 18 = .ok (.ldc_w 530, 3) := by decide +kernel
theorem dX11_needPipe_21 : decode cX11_needPipe 21 = .ok (.invokespecial 359, 3) := by decide +kernel
theorem dX11_needPipe_24 : decode cX11_needPipe 24 = .ok (.athrow, 1) := by decide +kernel
theorem dX11_needPipe_25 : decode cX11_needPipe 25 = .ok (.aload_n 3, 1) := by decide +kernel
theorem dX11_needPipe_26 : decode cX11_needPipe 26 = .ok (.areturn, 1) := by decide +kernel
theorem dX11_addKnob_0 : decode cX11_addKnob 0 = .ok (.aload_n 0, 1) := by decide +kernel
theorem dX11_addKnob_1 : decode cX11_addKnob 1 = .ok (.getfield 25, 3) := by decide +kernel
theorem dX11_addKnob_4 : decode cX11_addKnob 4 = .ok (.getfield 509, 3) := by decide +kernel
theorem dX11_addKnob_7 : decode cX11_addKnob 7 = .ok (.aload_n 1, 1) := by decide +kernel
theorem dX11_addKnob_8 : decode cX11_addKnob 8 = .ok (.invokevirtual 83, 3) := by decide +kernel
theorem dX11_addKnob_11 : decode cX11_addKnob 11 = .ok (.pop, 1) := by decide +kernel
theorem dX11_addKnob_12 : decode cX11_addKnob 12 = .ok (.aload_n 0, 1) := by decide +kernel
theorem dX11_addKnob_13 : decode cX11_addKnob 13 = .ok (.getfield 12, 3) := by decide +kernel
theorem dX11_addKnob_16 : decode cX11_addKnob 16 = .ok (.invokevirtual 87, 3) := by decide +kernel
theorem dX11_addKnob_19 : decode cX11_addKnob 19 = .ok (.aload_n 0, 1) := by decide +kernel
theorem dX11_addKnob_20 : decode cX11_addKnob 20 = .ok (.getfield 25, 3) := by decide +kernel
theorem dX11_addKnob_23 : decode cX11_addKnob 23 = .ok (.getfield 509, 3) := by decide +kernel
theorem dX11_addKnob_26 : decode cX11_addKnob 26 = .ok (.invokevirtual 53, 3) := by decide +kernel
theorem dX11_addKnob_29 : decode cX11_addKnob 29 = .ok (.iconst 1, 1) := by decide +kernel
theorem dX11_addKnob_30 : decode cX11_addKnob 30 = .ok (.isub, 1) := by decide +kernel
theorem dX11_addKnob_31 : decode cX11_addKnob 31 = .ok (.ireturn, 1) := by decide +kernel
theorem dX11_moveKnobs_0 : decode cX11_moveKnobs 0 = .ok (.aload_n 0, 1) := by decide +kernel
theorem dX11_moveKnobs_1 : decode cX11_moveKnobs 1 = .ok (.getfield 25, 3) := by decide +kernel
theorem dX11_moveKnobs_4 : decode cX11_moveKnobs 4 = .ok (.lload_n 1, 1) := by decide +kernel
theorem dX11_moveKnobs_5 : decode cX11_moveKnobs 5 = .ok (.lload_n 3, 1) := by decide +kernel
theorem dX11_moveKnobs_6 : decode cX11_moveKnobs 6 = .ok (.invokevirtual 532, 3) := by decide +kernel
theorem dX11_moveKnobs_9 : decode cX11_moveKnobs 9 = .ok (.istore 5, 2) := by decide +kernel
theorem dX11_moveKnobs_11 : decode cX11_moveKnobs 11 = .ok (.aload_n 0, 1) := by decide +kernel
theorem dX11_moveKnobs_12 : decode cX11_moveKnobs 12 = .ok (.getfield 12, 3) := by decide +kernel
theorem dX11_moveKnobs_15 : decode cX11_moveKnobs 15 = .ok (.invokevirtual 87, 3) := by decide +kernel
theorem dX11_moveKnobs_18 : decode cX11_moveKnobs 18 = .ok (.iload 5, 2) := by decide +kernel
theorem dX11_moveKnobs_20 : decode cX11_moveKnobs 20 = .ok (.ireturn, 1) := by decide +kernel
theorem dJ13_bitCount_95d88_0 : decode cJ13_bitCount_95d88 0 = .ok (.lload_n 0, 1) := by decide +kernel
theorem dJ13_bitCount_95d88_1 : decode cJ13_bitCount_95d88 1 = .ok (.lload_n 0, 1) := by decide +kernel
theorem dJ13_bitCount_95d88_2 : decode cJ13_bitCount_95d88 2 = .ok (.iconst 1, 1) := by decide +kernel
theorem dJ13_bitCount_95d88_3 : decode cJ13_bitCount_95d88 3 = .ok (.lushr, 1) := by decide +kernel
theorem dJ13_bitCount_95d88_4 : decode cJ13_bitCount_95d88 4 = .ok (.ldc2_w 314, 3) := by decide +kernel
theorem dJ13_bitCount_95d88_7 : decode cJ13_bitCount_95d88 7 = .ok (.land, 1) := by decide +kernel
theorem dJ13_bitCount_95d88_8 : decode cJ13_bitCount_95d88 8 = .ok (.lsub, 1) := by decide +kernel
theorem dJ13_bitCount_95d88_9 : decode cJ13_bitCount_95d88 9 = .ok (.lstore_n 0, 1) := by decide +kernel
theorem dJ13_bitCount_95d88_10 : decode cJ13_bitCount_95d88 10 = .ok (.lload_n 0, 1) := by decide +kernel
theorem dJ13_bitCount_95d88_11 : decode cJ13_bitCount_95d88 11 = .ok (.ldc2_w 316, 3) := by decide +kernel
theorem dJ13_bitCount_95d88_14 : decode cJ13_bitCount_95d88 14 = .ok (.land, 1) := by decide +kernel
theorem dJ13_bitCount_95d88_15 : decode cJ13_bitCount_95d88 15 = .ok (.lload_n 0, 1) := by decide +kernel
theorem dJ13_bitCount_95d88_16 : decode cJ13_bitCount_95d88 16 = .ok (.iconst 2, 1) := by decide +kernel
theorem dJ13_bitCount_95d88_17 : decode cJ13_bitCount_95d88 17 = .ok (.lushr, 1) := by decide +kernel
theorem dJ13_bitCount_95d88_18 : decode cJ13_bitCount_95d88 18 = .ok (.ldc2_w 316, 3) := by decide +kernel
theorem dJ13_bitCount_95d88_21 : decode cJ13_bitCount_95d88 21 = .ok (.land, 1) := by decide +kernel
theorem dJ13_bitCount_95d88_22 : decode cJ13_bitCount_95d88 22 = .ok (.ladd, 1) := by decide +kernel
theorem dJ13_bitCount_95d88_23 : decode cJ13_bitCount_95d88 23 = .ok (.lstore_n 0, 1) := by decide +kernel
theorem dJ13_bitCount_95d88_24 : decode cJ13_bitCount_95d88 24 = .ok (.lload_n 0, 1) := by decide +kernel
theorem dJ13_bitCount_95d88_25 : decode cJ13_bitCount_95d88 25 = .ok (.lload_n 0, 1) := by decide +kernel
theorem dJ13_bitCount_95d88_26 : decode cJ13_bitCount_95d88 26 = .ok (.iconst 4, 1) := by decide +kernel
theorem dJ13_bitCount_95d88_27 : decode cJ13_bitCount_95d88 27 = .ok (.lushr, 1) := by decide +kernel
theorem dJ13_bitCount_95d88_28 : decode cJ13_bitCount_95d88 28 = .ok (.ladd, 1) := by decide +kernel
theorem dJ13_bitCount_95d88_29 : decode cJ13_bitCount_95d88 29 = .ok (.ldc2_w 318, 3) := by decide +kernel
theorem dJ13_bitCount_95d88_32 : decode cJ13_bitCount_95d88 32 = .ok (.land, 1) := by decide +kernel
theorem dJ13_bitCount_95d88_33 : decode cJ13_bitCount_95d88 33 = .ok (.lstore_n 0, 1) := by decide +kernel
theorem dJ13_bitCount_95d88_34 : decode cJ13_bitCount_95d88 34 = .ok (.lload_n 0, 1) := by decide +kernel
theorem dJ13_bitCount_95d88_35 : decode cJ13_bitCount_95d88 35 = .ok (.lload_n 0, 1) := by decide +kernel
theorem dJ13_bitCount_95d88_36 : decode cJ13_bitCount_95d88 36 = .ok (.bipush 8, 2) := by decide +kernel
theorem dJ13_bitCount_95d88_38 : decode cJ13_bitCount_95d88 38 = .ok (.lushr, 1) := by decide +kernel
theorem dJ13_bitCount_95d88_39 : decode cJ13_bitCount_95d88 39 = .ok (.ladd, 1) := by decide +kernel
theorem dJ13_bitCount_95d88_40 : decode cJ13_bitCount_95d88 40 = .ok (.lstore_n 0, 1) := by decide +kernel
theorem dJ13_bitCount_95d88_41 : decode cJ13_bitCount_95d88 41 = .ok (.lload_n 0, 1) := by decide +kernel
theorem dJ13_bitCount_95d88_42 : decode cJ13_bitCount_95d88 42 = .ok (.lload_n 0, 1) := by decide +kernel
theorem dJ13_bitCount_95d88_43 : decode cJ13_bitCount_95d88 43 = .ok (.bipush 16, 2) := by decide +kernel
theorem dJ13_bitCount_95d88_45 : decode cJ13_bitCount_95d88 45 = .ok (.lushr, 1) := by decide +kernel
theorem dJ13_bitCount_95d88_46 : decode cJ13_bitCount_95d88 46 = .ok (.ladd, 1) := by decide +kernel
theorem dJ13_bitCount_95d88_47 : decode cJ13_bitCount_95d88 47 = .ok (.lstore_n 0, 1) := by decide +kernel
theorem dJ13_bitCount_95d88_48 : decode cJ13_bitCount_95d88 48 = .ok (.lload_n 0, 1) := by decide +kernel
theorem dJ13_bitCount_95d88_49 : decode cJ13_bitCount_95d88 49 = .ok (.lload_n 0, 1) := by decide +kernel
theorem dJ13_bitCount_95d88_50 : decode cJ13_bitCount_95d88 50 = .ok (.bipush 32, 2) := by decide +kernel
theorem dJ13_bitCount_95d88_52 : decode cJ13_bitCount_95d88 52 = .ok (.lushr, 1) := by decide +kernel
theorem dJ13_bitCount_95d88_53 : decode cJ13_bitCount_95d88 53 = .ok (.ladd, 1) := by decide +kernel
theorem dJ13_bitCount_95d88_54 : decode cJ13_bitCount_95d88 54 = .ok (.lstore_n 0, 1) := by decide +kernel
theorem dJ13_bitCount_95d88_55 : decode cJ13_bitCount_95d88 55 = .ok (.lload_n 0, 1) := by decide +kernel
theorem dJ13_bitCount_95d88_56 : decode cJ13_bitCount_95d88 56 = .ok (.l2i, 1) := by decide +kernel
theorem dJ13_bitCount_95d88_57 : decode cJ13_bitCount_95d88 57 = .ok (.bipush 127, 2) := by decide +kernel
theorem dJ13_bitCount_95d88_59 : decode cJ13_bitCount_95d88 59 = .ok (.iand, 1) := by decide +kernel
theorem dJ13_bitCount_95d88_60 : decode cJ13_bitCount_95d88 60 = .ok (.ireturn, 1) := by decide +kernel
theorem dJ9_abs_0f7a4_0 : decode cJ9_abs_0f7a4 0 = .ok (.iload_n 0, 1) := by decide +kernel
theorem dJ9_abs_0f7a4_1 : decode cJ9_abs_0f7a4 1 = .ok (.ifCond .ge 8, 3) := by decide +kernel
theorem dJ9_abs_0f7a4_4 : decode cJ9_abs_0f7a4 4 = .ok (.iload_n 0, 1) := by decide +kernel
theorem dJ9_abs_0f7a4_5 : decode cJ9_abs_0f7a4 5 = .ok (.ineg, 1) := by decide +kernel
theorem dJ9_abs_0f7a4_6 : decode cJ9_abs_0f7a4 6 = .ok (.goto 4, 3) := by decide +kernel
theorem dJ9_abs_0f7a4_9 : decode cJ9_abs_0f7a4 9 = .ok (.iload_n 0, 1) := by decide +kernel
theorem dJ9_abs_0f7a4_10 : decode cJ9_abs_0f7a4 10 = .ok (.ireturn, 1) := by decide +kernel
theorem dJ9_max_7cf53_0 : decode cJ9_max_7cf53 0 = .ok (.iload_n 0, 1) := by decide +kernel
theorem dJ9_max_7cf53_1 : decode cJ9_max_7cf53 1 = .ok (.iload_n 1, 1) := by decide +kernel
theorem dJ9_max_7cf53_2 : decode cJ9_max_7cf53 2 = .ok (.if_icmp .lt 7, 3) := by decide +kernel
theorem dJ9_max_7cf53_5 : decode cJ9_max_7cf53 5 = .ok (.iload_n 0, 1) := by decide +kernel
theorem dJ9_max_7cf53_6 : decode cJ9_max_7cf53 6 = .ok (.goto 4, 3) := by decide +kernel
theorem dJ9_max_7cf53_9 : decode cJ9_max_7cf53 9 = .ok (.iload_n 1, 1) := by decide +kernel
theorem dJ9_max_7cf53_10 : decode cJ9_max_7cf53 10 = .ok (.ireturn, 1) := by decide +kernel
theorem dJ9_min_7cf53_0 : decode cJ9_min_7cf53 0 = .ok (.iload_n 0, 1) := by decide +kernel
theorem dJ9_min_7cf53_1 : decode cJ9_min_7cf53 1 = .ok (.iload_n 1, 1) := by decide +kernel
theorem dJ9_min_7cf53_2 : decode cJ9_min_7cf53 2 = .ok (.if_icmp .gt 7, 3) := by decide +kernel
theorem dJ9_min_7cf53_5 : decode cJ9_min_7cf53 5 = .ok (.iload_n 0, 1) := by decide +kernel
theorem dJ9_min_7cf53_6 : decode cJ9_min_7cf53 6 = .ok (.goto 4, 3) := by decide +kernel
theorem dJ9_min_7cf53_9 : decode cJ9_min_7cf53 9 = .ok (.iload_n 1, 1) := by decide +kernel
theorem dJ9_min_7cf53_10 : decode cJ9_min_7cf53 10 = .ok (.ireturn, 1) := by decide +kernel
theorem dJ0_charAt_5068e_0 : decode cJ0_charAt_5068e 0 = .ok (.aload_n 0, 1) := by decide +kernel
theorem dJ0_charAt_5068e_1 : decode cJ0_charAt_5068e 1 = .ok (.invokevirtual 492, 3) := by decide +kernel
theorem dJ0_charAt_5068e_4 : decode cJ0_charAt_5068e 4 = .ok (.ifCond .eq 12, 3) := by decide +kernel
theorem dJ0_charAt_5068e_7 : decode cJ0_charAt_5068e 7 = .ok (.aload_n 0, 1) := by decide +kernel
theorem dJ0_charAt_5068e_8 : decode cJ0_charAt_5068e 8 = .ok (.getfield 9, 3) := by decide +kernel
theorem dJ0_charAt_5068e_11 : decode cJ0_charAt_5068e 11 = .ok (.iload_n 1, 1) := by decide +kernel
theorem dJ0_charAt_5068e_12 : decode cJ0_charAt_5068e 12 = .ok (.invokestatic 495, 3) := by decide +kernel
theorem dJ0_charAt_5068e_15 : decode cJ0_charAt_5068e 15 = .ok (.ireturn, 1) := by decide +kernel
theorem dJ0_charAt_5068e_16 : decode cJ0_charAt_5068e 16 = .ok (.aload_n 0, 1) := by decide +kernel
theorem dJ0_charAt_5068e_17 : decode cJ0_charAt_5068e 17 = .ok (.getfield 9, 3) := by decide +kernel
theorem dJ0_charAt_5068e_20 : decode cJ0_charAt_5068e 20 = .ok (.iload_n 1, 1) := by decide +kernel
theorem dJ0_charAt_5068e_21 : decode cJ0_charAt_5068e 21 = .ok (.invokestatic 498, 3) := by decide +kernel
theorem dJ0_charAt_5068e_24 : decode cJ0_charAt_5068e 24 = .ok (.ireturn, 1) := by decide +kernel
theorem dJ0_isLatin1_aae02_0 : decode cJ0_isLatin1_aae02 0 = .ok (.getstatic 38, 3) := by decide +kernel
theorem dJ0_isLatin1_aae02_3 : decode cJ0_isLatin1_aae02 3 = .ok (.ifCond .eq 14, 3) := by decide +kernel
theorem dJ0_isLatin1_aae02_6 : decode cJ0_isLatin1_aae02 6 = .ok (.aload_n 0, 1) := by decide +kernel
theorem dJ0_isLatin1_aae02_7 : decode cJ0_isLatin1_aae02 7 = .ok (.getfield 15, 3) := by decide +kernel
theorem dJ0_isLatin1_aae02_10 : decode cJ0_isLatin1_aae02 10 = .ok (.ifCond .ne 7, 3) := by decide +kernel
theorem dJ0_isLatin1_aae02_13 : decode cJ0_isLatin1_aae02 13 = .ok (.iconst 1, 1) := by decide +kernel
theorem dJ0_isLatin1_aae02_14 : decode cJ0_isLatin1_aae02 14 = .ok (.goto 4, 3) := by decide +kernel
theorem dJ0_isLatin1_aae02_17 : decode cJ0_isLatin1_aae02 17 = .ok (.iconst 0, 1) := by decide +kernel
theorem dJ0_isLatin1_aae02_18 : decode cJ0_isLatin1_aae02 18 = .ok (.ireturn, 1) := by decide +kernel
theorem dJ0_checkIndex_df160_0 : decode cJ0_checkIndex_df160 0 = .ok (.iload_n 0, 1) := by decide +kernel
theorem dJ0_checkIndex_df160_1 : decode cJ0_checkIndex_df160 1 = .ok (.iload_n 1, 1) := by decide +kernel
theorem dJ0_checkIndex_df160_2 : decode cJ0_checkIndex_df160 2 = .ok (.getstatic 1053, 3) := by decide +kernel
theorem dJ0_checkIndex_df160_5 : decode cJ0_checkIndex_df160 5 = .ok (.invokestatic 1059, 3) := by decide +kernel
theorem dJ0_checkIndex_df160_8 : decode cJ0_checkIndex_df160 8 = .ok (.pop, 1) := by decide +kernel
theorem dJ0_checkIndex_df160_9 : decode cJ0_checkIndex_df160 9 = .ok (.return_, 1) := by decide +kernel
theorem dJ1_charAt_3b067_0 : decode cJ1_charAt_3b067 0 = .ok (.iload_n 1, 1) := by decide +kernel
theorem dJ1_charAt_3b067_1 : decode cJ1_charAt_3b067 1 = .ok (.aload_n 0, 1) := by decide +kernel
theorem dJ1_charAt_3b067_2 : decode cJ1_charAt_3b067 2 = .ok (.arraylength, 1) := by decide +kernel
theorem dJ1_charAt_3b067_3 : decode cJ1_charAt_3b067 3 = .ok (.invokestatic 9, 3) := by decide +kernel
theorem dJ1_charAt_3b067_6 : decode cJ1_charAt_3b067 6 = .ok (.aload_n 0, 1) := by decide +kernel
theorem dJ1_charAt_3b067_7 : decode cJ1_charAt_3b067 7 = .ok (.iload_n 1, 1) := by decide +kernel
theorem dJ1_charAt_3b067_8 : decode cJ1_charAt_3b067 8 = .ok (.baload, 1) := by decide +kernel
theorem dJ1_charAt_3b067_9 : decode cJ1_charAt_3b067 9 = .ok (.sipush 255, 3) := by decide +kernel
theorem dJ1_charAt_3b067_12 : decode cJ1_charAt_3b067 12 = .ok (.iand, 1) := by decide +kernel
theorem dJ1_charAt_3b067_13 : decode cJ1_charAt_3b067 13 = .ok (.i2c, 1) := by decide +kernel
theorem dJ1_charAt_3b067_14 : decode cJ1_charAt_3b067 14 = .ok (.ireturn, 1) := by decide +kernel
theorem dJxa1e45_init_da8c8_0 : decode cJxa1e45_init_da8c8 0 = .ok (.aload_n 0, 1) := by decide +kernel
theorem dJxa1e45_init_da8c8_1 : decode cJxa1e45_init_da8c8 1 = .ok (.invokespecial 1, 3) := by decide +kernel
theorem dJxa1e45_init_da8c8_4 : decode cJxa1e45_init_da8c8 4 = .ok (.return_, 1) := by decide +kernel
theorem dJxc12de_init_da8c8_0 : decode cJxc12de_init_da8c8 0 = .ok (.aload_n 0, 1) := by decide +kernel
theorem dJxc12de_init_da8c8_1 : decode cJxc12de_init_da8c8 1 = .ok (.invokespecial 1, 3) := by decide +kernel
theorem dJxc12de_init_da8c8_4 : decode cJxc12de_init_da8c8 4 = .ok (.aload_n 0, 1) := by decide +kernel
theorem dJxc12de_init_da8c8_5 : decode cJxc12de_init_da8c8 5 = .ok (.iconst 0, 1) := by decide +kernel
theorem dJxc12de_init_da8c8_6 : decode cJxc12de_init_da8c8 6 = .ok (.putfield 7, 3) := by decide +kernel
theorem dJxc12de_init_da8c8_9 : decode cJxc12de_init_da8c8 9 = .ok (.return_, 1) := by decide +kernel
theorem dJx4a65c_init_da8c8_0 : decode cJx4a65c_init_da8c8 0 = .ok (.aload_n 0, 1) := by decide +kernel
theorem dJx4a65c_init_da8c8_1 : decode cJx4a65c_init_da8c8 1 = .ok (.invokespecial 1, 3) := by decide +kernel
theorem dJx4a65c_init_da8c8_4 : decode cJx4a65c_init_da8c8 4 = .ok (.aload_n 0, 1) := by decide +kernel
theorem dJx4a65c_init_da8c8_5 : decode cJx4a65c_init_da8c8 5 = .ok (.getstatic 39, 3) := by decide +kernel
theorem dJx4a65c_init_da8c8_8 : decode cJx4a65c_init_da8c8 8 = .ok (.putfield 9, 3) := by decide +kernel
theorem dJx4a65c_init_da8c8_11 : decode cJx4a65c_init_da8c8 11 = .ok (.return_, 1) := by decide +kernel
theorem dJx4a65c_grow_92f84_0 : decode cJx4a65c_grow_92f84 0 = .ok (.aload_n 0, 1) := by decide +kernel
theorem dJx4a65c_grow_92f84_1 : decode cJx4a65c_grow_92f84 1 = .ok (.getfield 9, 3) := by decide +kernel
theorem dJx4a65c_grow_92f84_4 : decode cJx4a65c_grow_92f84 4 = .ok (.arraylength, 1) := by decide +kernel
theorem dJx4a65c_grow_92f84_5 : decode cJx4a65c_grow_92f84 5 = .ok (.istore_n 2, 1) := by decide +kernel
theorem dJx4a65c_grow_92f84_6 : decode cJx4a65c_grow_92f84 6 = .ok (.iload_n 2, 1) := by decide +kernel
theorem dJx4a65c_grow_92f84_7 : decode cJx4a65c_grow_92f84 7 = .ok (.ifCond .gt 13, 3) := by decide +kernel
theorem dJx4a65c_grow_92f84_10 : decode cJx4a65c_grow_92f84 10 = .ok (.aload_n 0, 1) := by decide +kernel
theorem dJx4a65c_grow_92f84_11 : decode cJx4a65c_grow_92f84 11 = .ok (.getfield 9, 3) := by decide +kernel
theorem dJx4a65c_grow_92f84_14 : decode cJx4a65c_grow_92f84 14 = .ok (.getstatic 39, 3) := by decide +kernel
theorem dJx4a65c_grow_92f84_17 : decode cJx4a65c_grow_92f84 17 = .ok (.if_acmp .eq 28, 3) := by decide +kernel
theorem dJx4a65c_grow_92f84_20 : decode cJx4a65c_grow_92f84 20 = .ok (.iload_n 2, 1) := by decide +kernel
theorem dJx4a65c_grow_92f84_21 : decode cJx4a65c_grow_92f84 21 = .ok (.iload_n 1, 1) := by decide +kernel
theorem dJx4a65c_grow_92f84_22 : decode cJx4a65c_grow_92f84 22 = .ok (.iload_n 2, 1) := by decide +kernel
theorem dJx4a65c_grow_92f84_23 : decode cJx4a65c_grow_92f84 23 = .ok (.isub, 1) := by decide +kernel
theorem dJx4a65c_grow_92f84_24 : decode cJx4a65c_grow_92f84 24 = .ok (.iload_n 2, 1) := by decide +kernel
theorem dJx4a65c_grow_92f84_25 : decode cJx4a65c_grow_92f84 25 = .ok (.iconst 1, 1) := by decide +kernel
theorem dJx4a65c_grow_92f84_26 : decode cJx4a65c_grow_92f84 26 = .ok (.ishr, 1) := by decide +kernel
theorem dJx4a65c_grow_92f84_27 : decode cJx4a65c_grow_92f84 27 = .ok (.invokestatic 73, 3) := by decide +kernel
theorem dJx4a65c_grow_92f84_30 : decode cJx4a65c_grow_92f84 30 = .ok (.istore_n 3, 1) := by decide +kernel
theorem dJx4a65c_grow_92f84_31 : decode cJx4a65c_grow_92f84 31 = .ok (.aload_n 0, 1) := by decide +kernel
theorem dJx4a65c_grow_92f84_32 : decode cJx4a65c_grow_92f84 32 = .ok (.aload_n 0, 1) := by decide +kernel
theorem dJx4a65c_grow_92f84_33 : decode cJx4a65c_grow_92f84 33 = .ok (.getfield 9, 3) := by decide +kernel
theorem dJx4a65c_grow_92f84_36 : decode cJx4a65c_grow_92f84 36 = .ok (.iload_n 3, 1) := by decide +kernel
theorem dJx4a65c_grow_92f84_37 : decode cJx4a65c_grow_92f84 37 = .ok (.invokestatic 66, 3) := by decide +kernel
theorem dJx4a65c_grow_92f84_40 : decode cJx4a65c_grow_92f84 40 = .ok (.dup_x1, 1) := by decide +kernel
theorem dJx4a65c_grow_92f84_41 : decode cJx4a65c_grow_92f84 41 = .ok (.putfield 9, 3) := by decide +kernel
theorem dJx4a65c_grow_92f84_44 : decode cJx4a65c_grow_92f84 44 = .ok (.areturn, 1) := by decide +kernel
theorem dJx4a65c_grow_92f84_45 : decode cJx4a65c_grow_92f84 45 = .ok (.aload_n 0, 1) := by decide +kernel
theorem dJx4a65c_grow_92f84_46 : decode cJx4a65c_grow_92f84 46 = .ok (.bipush 10, 2) := by decide +kernel
theorem dJx4a65c_grow_92f84_48 : decode cJx4a65c_grow_92f84 48 = .ok (.iload_n 1, 1) := by decide +kernel
theorem dJx4a65c_grow_92f84_49 : decode cJx4a65c_grow_92f84 49 = .ok (.invokestatic 79, 3) := by decide +kernel
theorem dJx4a65c_grow_92f84_52 : decode cJx4a65c_grow_92f84 52 = .ok (.anewarray 7, 3) := by decide +kernel
theorem dJx4a65c_grow_92f84_55 : decode cJx4a65c_grow_92f84 55 = .ok (.dup_x1, 1) := by decide +kernel
theorem dJx4a65c_grow_92f84_56 : decode cJx4a65c_grow_92f84 56 = .ok (.putfield 9, 3) := by decide +kernel
theorem dJx4a65c_grow_92f84_59 : decode cJx4a65c_grow_92f84 59 = .ok (.areturn, 1) := by decide +kernel
theorem dJx4a65c_grow_d5877_0 : decode cJx4a65c_grow_d5877 0 = .ok (.aload_n 0, 1) := by decide +kernel
theorem dJx4a65c_grow_d5877_1 : decode cJx4a65c_grow_d5877 1 = .ok (.aload_n 0, 1) := by decide +kernel
theorem dJx4a65c_grow_d5877_2 : decode cJx4a65c_grow_d5877 2 = .ok (.getfield 48, 3) := by decide +kernel
theorem dJx4a65c_grow_d5877_5 : decode cJx4a65c_grow_d5877 5 = .ok (.iconst 1, 1) := by decide +kernel
theorem dJx4a65c_grow_d5877_6 : decode cJx4a65c_grow_d5877 6 = .ok (.iadd, 1) := by decide +kernel
theorem dJx4a65c_grow_d5877_7 : decode cJx4a65c_grow_d5877 7 = .ok (.invokevirtual 69, 3) := by decide +kernel
theorem dJx4a65c_grow_d5877_10 : decode cJx4a65c_grow_d5877 10 = .ok (.areturn, 1) := by decide +kernel
theorem dJx4a65c_size_8abf5_0 : decode cJx4a65c_size_8abf5 0 = .ok (.aload_n 0, 1) := by decide +kernel
theorem dJx4a65c_size_8abf5_1 : decode cJx4a65c_size_8abf5 1 = .ok (.getfield 48, 3) := by decide +kernel
theorem dJx4a65c_size_8abf5_4 : decode cJx4a65c_size_8abf5 4 = .ok (.ireturn, 1) := by decide +kernel
theorem dJx4a65c_elementData_915e3_0 : decode cJx4a65c_elementData_915e3 0 = .ok (.aload_n 0, 1) := by decide +kernel
theorem dJx4a65c_elementData_915e3_1 : decode cJx4a65c_elementData_915e3 1 = .ok (.getfield 9, 3) := by decide +kernel
theorem dJx4a65c_elementData_915e3_4 : decode cJx4a65c_elementData_915e3 4 = .ok (.iload_n 1, 1) := by decide +kernel
theorem dJx4a65c_elementData_915e3_5 : decode cJx4a65c_elementData_915e3 5 = .ok (.aaload, 1) := by decide +kernel
theorem dJx4a65c_elementData_915e3_6 : decode cJx4a65c_elementData_915e3 6 = .ok (.areturn, 1) := by decide +kernel
theorem dJx4a65c_get_915e3_0 : decode cJx4a65c_get_915e3 0 = .ok (.iload_n 1, 1) := by decide +kernel
theorem dJx4a65c_get_915e3_1 : decode cJx4a65c_get_915e3 1 = .ok (.aload_n 0, 1) := by decide +kernel
theorem dJx4a65c_get_915e3_2 : decode cJx4a65c_get_915e3 2 = .ok (.getfield 48, 3) := by decide +kernel
theorem dJx4a65c_get_915e3_5 : decode cJx4a65c_get_915e3 5 = .ok (.invokestatic 118, 3) := by decide +kernel
theorem dJx4a65c_get_915e3_8 : decode cJx4a65c_get_915e3 8 = .ok (.pop, 1) := by decide +kernel
theorem dJx4a65c_get_915e3_9 : decode cJx4a65c_get_915e3 9 = .ok (.aload_n 0, 1) := by decide +kernel
theorem dJx4a65c_get_915e3_10 : decode cJx4a65c_get_915e3 10 = .ok (.iload_n 1, 1) := by decide +kernel
theorem dJx4a65c_get_915e3_11 : decode cJx4a65c_get_915e3 11 = .ok (.invokevirtual 123, 3) := by decide +kernel
theorem dJx4a65c_get_915e3_14 : decode cJx4a65c_get_915e3 14 = .ok (.areturn, 1) := by decide +kernel
theorem dJx4a65c_add_72be8_0 : decode cJx4a65c_add_72be8 0 = .ok (.iload_n 3, 1) := by decide +kernel
theorem dJx4a65c_add_72be8_1 : decode cJx4a65c_add_72be8 1 = .ok (.aload_n 2, 1) := by decide +kernel
theorem dJx4a65c_add_72be8_2 : decode cJx4a65c_add_72be8 2 = .ok (.arraylength, 1) := by decide +kernel
theorem dJx4a65c_add_72be8_3 : decode cJx4a65c_add_72be8 3 = .ok (.if_icmp .ne 8, 3) := by decide +kernel
theorem dJx4a65c_add_72be8_6 : decode cJx4a65c_add_72be8 6 = .ok (.aload_n 0, 1) := by decide +kernel
theorem dJx4a65c_add_72be8_7 : decode cJx4a65c_add_72be8 7 = .ok (.invokevirtual 129, 3) := by decide +kernel
theorem dJx4a65c_add_72be8_10 : decode cJx4a65c_add_72be8 10 = .ok (.astore_n 2, 1) := by decide +kernel
theorem dJx4a65c_add_72be8_11 : decode cJx4a65c_add_72be8 11 = .ok (.aload_n 2, 1) := by decide +kernel
theorem dJx4a65c_add_72be8_12 : decode cJx4a65c_add_72be8 12 = .ok (.iload_n 3, 1) := by decide +kernel
theorem dJx4a65c_add_72be8_13 : decode cJx4a65c_add_72be8 13 = .ok (.aload_n 1, 1) := by decide +kernel
theorem dJx4a65c_add_72be8_14 : decode cJx4a65c_add_72be8 14 = .ok (.aastore, 1) := by decide +kernel
theorem dJx4a65c_add_72be8_15 : decode cJx4a65c_add_72be8 15 = .ok (.aload_n 0, 1) := by decide +kernel
theorem dJx4a65c_add_72be8_16 : decode cJx4a65c_add_72be8 16 = .ok (.iload_n 3, 1) := by decide +kernel
theorem dJx4a65c_add_72be8_17 : decode cJx4a65c_add_72be8 17 = .ok (.iconst 1, 1) := by decide +kernel
theorem dJx4a65c_add_72be8_18 : decode cJx4a65c_add_72be8 18 = .ok (.iadd, 1) := by decide +kernel
theorem dJx4a65c_add_72be8_19 : decode cJx4a65c_add_72be8 19 = .ok (.putfield 48, 3) := by decide +kernel
theorem dJx4a65c_add_72be8_22 : decode cJx4a65c_add_72be8 22 = .ok (.return_, 1) := by decide +kernel
theorem dJx4a65c_add_9ea2d_0 : decode cJx4a65c_add_9ea2d 0 = .ok (.aload_n 0, 1) := by decide +kernel
theorem dJx4a65c_add_9ea2d_1 : decode cJx4a65c_add_9ea2d 1 = .ok (.dup, 1) := by decide +kernel
theorem dJx4a65c_add_9ea2d_2 : decode cJx4a65c_add_9ea2d 2 = .ok (.getfield 63, 3) := by decide +kernel
theorem dJx4a65c_add_9ea2d_5 : decode cJx4a65c_add_9ea2d 5 = .ok (.iconst 1, 1) := by decide +kernel
theorem dJx4a65c_add_9ea2d_6 : decode cJx4a65c_add_9ea2d 6 = .ok (.iadd, 1) := by decide +kernel
theorem dJx4a65c_add_9ea2d_7 : decode cJx4a65c_add_9ea2d 7 = .ok (.putfield 63, 3) := by decide +kernel
theorem dJx4a65c_add_9ea2d_10 : decode cJx4a65c_add_9ea2d 10 = .ok (.aload_n 0, 1) := by decide +kernel
theorem dJx4a65c_add_9ea2d_11 : decode cJx4a65c_add_9ea2d 11 = .ok (.aload_n 1, 1) := by decide +kernel
theorem dJx4a65c_add_9ea2d_12 : decode cJx4a65c_add_9ea2d 12 = .ok (.aload_n 0, 1) := by decide +kernel
theorem dJx4a65c_add_9ea2d_13 : decode cJx4a65c_add_9ea2d 13 = .ok (.getfield 9, 3) := by decide +kernel
theorem dJx4a65c_add_9ea2d_16 : decode cJx4a65c_add_9ea2d 16 = .ok (.aload_n 0, 1) := by decide +kernel
theorem dJx4a65c_add_9ea2d_17 : decode cJx4a65c_add_9ea2d 17 = .ok (.getfield 48, 3) := by decide +kernel
theorem dJx4a65c_add_9ea2d_20 : decode cJx4a65c_add_9ea2d 20 = .ok (.invokevirtual 131, 3) := by decide +kernel
theorem dJx4a65c_add_9ea2d_23 : decode cJx4a65c_add_9ea2d 23 = .ok (.iconst 1, 1) := by decide +kernel
theorem dJx4a65c_add_9ea2d_24 : decode cJx4a65c_add_9ea2d 24 = .ok (.ireturn, 1) := by decide +kernel
theorem dJ7_fill_53178_0 : decode cJ7_fill_53178 0 = .ok (.iconst 0, 1) := by decide +kernel
theorem dJ7_fill_53178_1 : decode cJ7_fill_53178 1 = .ok (.istore_n 2, 1) := by decide +kernel
theorem dJ7_fill_53178_2 : decode cJ7_fill_53178 2 = .ok (.aload_n 0, 1) := by decide +kernel
theorem dJ7_fill_53178_3 : decode cJ7_fill_53178 3 = .ok (.arraylength, 1) := by decide +kernel
theorem dJ7_fill_53178_4 : decode cJ7_fill_53178 4 = .ok (.istore_n 3, 1) := by decide +kernel
theorem dJ7_fill_53178_5 : decode cJ7_fill_53178 5 = .ok (.iload_n 2, 1) := by decide +kernel
theorem dJ7_fill_53178_6 : decode cJ7_fill_53178 6 = .ok (.iload_n 3, 1) := by decide +kernel
theorem dJ7_fill_53178_7 : decode cJ7_fill_53178 7 = .ok (.if_icmp .ge 13, 3) := by decide +kernel
theorem dJ7_fill_53178_10 : decode cJ7_fill_53178 10 = .ok (.aload_n 0, 1) := by decide +kernel
theorem dJ7_fill_53178_11 : decode cJ7_fill_53178 11 = .ok (.iload_n 2, 1) := by decide +kernel
theorem dJ7_fill_53178_12 : decode cJ7_fill_53178 12 = .ok (.iload_n 1, 1) := by decide +kernel
theorem dJ7_fill_53178_13 : decode cJ7_fill_53178 13 = .ok (.iastore, 1) := by decide +kernel
theorem dJ7_fill_53178_14 : decode cJ7_fill_53178 14 = .ok (.iinc 2 1, 3) := by decide +kernel
theorem dJ7_fill_53178_17 : decode cJ7_fill_53178 17 = .ok (.goto (-12), 3) := by decide +kernel
theorem dJ7_fill_53178_20 : decode cJ7_fill_53178 20 = .ok (.return_, 1) := by decide +kernel
theorem dJ7_copyOf_1904c_0 : decode cJ7_copyOf_1904c 0 = .ok (.aload_n 0, 1) := by decide +kernel
theorem dJ7_copyOf_1904c_1 : decode cJ7_copyOf_1904c 1 = .ok (.iload_n 1, 1) := by decide +kernel
theorem dJ7_copyOf_1904c_2 : decode cJ7_copyOf_1904c 2 = .ok (.aload_n 0, 1) := by decide +kernel
theorem dJ7_copyOf_1904c_3 : decode cJ7_copyOf_1904c 3 = .ok (.invokevirtual 86, 3) := by decide +kernel
theorem dJ7_copyOf_1904c_6 : decode cJ7_copyOf_1904c 6 = .ok (.invokestatic 300, 3) := by decide +kernel
theorem dJ7_copyOf_1904c_9 : decode cJ7_copyOf_1904c 9 = .ok (.areturn, 1) := by decide +kernel
theorem dJ7_copyOf_6403c_0 : decode cJ7_copyOf_6403c 0 = .ok (.aload_n 2, 1) := by decide +kernel
theorem dJ7_copyOf_6403c_1 : decode cJ7_copyOf_6403c 1 = .ok (.ldc 110, 2) := by decide +kernel
theorem dJ7_copyOf_6403c_3 : decode cJ7_copyOf_6403c 3 = .ok (.if_acmp .ne 10, 3) := by decide +kernel
theorem dJ7_copyOf_6403c_6 : decode cJ7_copyOf_6403c 6 = .ok (.iload_n 1, 1) := by decide +kernel
theorem dJ7_copyOf_6403c_7 : decode cJ7_copyOf_6403c 7 = .ok (.anewarray 2, 3) := by decide +kernel
theorem dJ7_copyOf_6403c_10 : decode cJ7_copyOf_6403c 10 = .ok (.goto 14, 3) := by decide +kernel
theorem dJ7_copyOf_6403c_13 : decode cJ7_copyOf_6403c 13 = .ok (.aload_n 2, 1) := by decide +kernel
theorem dJ7_copyOf_6403c_14 : decode cJ7_copyOf_6403c 14 = .ok (.invokevirtual 90, 3) := by decide +kernel
theorem dJ7_copyOf_6403c_17 : decode cJ7_copyOf_6403c 17 = .ok (.iload_n 1, 1) := by decide +kernel
theorem dJ7_copyOf_6403c_18 : decode cJ7_copyOf_6403c 18 = .ok (.invokestatic 95, 3) := by decide +kernel
theorem dJ7_copyOf_6403c_21 : decode cJ7_copyOf_6403c 21 = .ok (.checkcast 110, 3) := by decide +kernel
theorem dJ7_copyOf_6403c_24 : decode cJ7_copyOf_6403c 24 = .ok (.astore_n 3, 1) := by decide +kernel
theorem dJ7_copyOf_6403c_25 : decode cJ7_copyOf_6403c 25 = .ok (.aload_n 0, 1) := by decide +kernel
theorem dJ7_copyOf_6403c_26 : decode cJ7_copyOf_6403c 26 = .ok (.iconst 0, 1) := by decide +kernel
theorem dJ7_copyOf_6403c_27 : decode cJ7_copyOf_6403c 27 = .ok (.aload_n 3, 1) := by decide +kernel
theorem dJ7_copyOf_6403c_28 : decode cJ7_copyOf_6403c 28 = .ok (.iconst 0, 1) := by decide +kernel
theorem dJ7_copyOf_6403c_29 : decode cJ7_copyOf_6403c 29 = .ok (.aload_n 0, 1) := by decide +kernel
theorem dJ7_copyOf_6403c_30 : decode cJ7_copyOf_6403c 30 = .ok (.arraylength, 1) := by decide +kernel
theorem dJ7_copyOf_6403c_31 : decode cJ7_copyOf_6403c 31 = .ok (.iload_n 1, 1) := by decide +kernel
theorem dJ7_copyOf_6403c_32 : decode cJ7_copyOf_6403c 32 = .ok (.invokestatic 304, 3) := by decide +kernel
theorem dJ7_copyOf_6403c_35 : decode cJ7_copyOf_6403c 35 = .ok (.invokestatic 150, 3) := by decide +kernel
theorem dJ7_copyOf_6403c_38 : decode cJ7_copyOf_6403c 38 = .ok (.aload_n 3, 1) := by decide +kernel
theorem dJ7_copyOf_6403c_39 : decode cJ7_copyOf_6403c 39 = .ok (.areturn, 1) := by decide +kernel
theorem dJ7_copyOf_59c91_0 : decode cJ7_copyOf_59c91 0 = .ok (.iload_n 1, 1) := by decide +kernel
theorem dJ7_copyOf_59c91_1 : decode cJ7_copyOf_59c91 1 = .ok (.aload_n 0, 1) := by decide +kernel
theorem dJ7_copyOf_59c91_2 : decode cJ7_copyOf_59c91 2 = .ok (.arraylength, 1) := by decide +kernel
theorem dJ7_copyOf_59c91_3 : decode cJ7_copyOf_59c91 3 = .ok (.if_icmp .ne 11, 3) := by decide +kernel
theorem dJ7_copyOf_59c91_6 : decode cJ7_copyOf_59c91 6 = .ok (.aload_n 0, 1) := by decide +kernel
theorem dJ7_copyOf_59c91_7 : decode cJ7_copyOf_59c91 7 = .ok (.invokevirtual 316, 3) := by decide +kernel
theorem dJ7_copyOf_59c91_10 : decode cJ7_copyOf_59c91 10 = .ok (.checkcast 317, 3) := by decide +kernel
theorem dJ7_copyOf_59c91_13 : decode cJ7_copyOf_59c91 13 = .ok (.areturn, 1) := by decide +kernel
theorem dJ7_copyOf_59c91_14 : decode cJ7_copyOf_59c91 14 = .ok (.iload_n 1, 1) := by decide +kernel
theorem dJ7_copyOf_59c91_15 : decode cJ7_copyOf_59c91 15 = .ok (.newarray .int, 2) := by decide +kernel
theorem dJ7_copyOf_59c91_17 : decode cJ7_copyOf_59c91 17 = .ok (.astore_n 2, 1) := by decide +kernel
theorem dJ7_copyOf_59c91_18 : decode cJ7_copyOf_59c91 18 = .ok (.aload_n 0, 1) := by decide +kernel
theorem dJ7_copyOf_59c91_19 : decode cJ7_copyOf_59c91 19 = .ok (.iconst 0, 1) := by decide +kernel
theorem dJ7_copyOf_59c91_20 : decode cJ7_copyOf_59c91 20 = .ok (.aload_n 2, 1) := by decide +kernel
theorem dJ7_copyOf_59c91_21 : decode cJ7_copyOf_59c91 21 = .ok (.iconst 0, 1) := by decide +kernel
theorem dJ7_copyOf_59c91_22 : decode cJ7_copyOf_59c91 22 = .ok (.aload_n 0, 1) := by decide +kernel
theorem dJ7_copyOf_59c91_23 : decode cJ7_copyOf_59c91 23 = .ok (.arraylength, 1) := by decide +kernel
theorem dJ7_copyOf_59c91_24 : decode cJ7_copyOf_59c91 24 = .ok (.iload_n 1, 1) := by decide +kernel
theorem dJ7_copyOf_59c91_25 : decode cJ7_copyOf_59c91 25 = .ok (.invokestatic 304, 3) := by decide +kernel
theorem dJ7_copyOf_59c91_28 : decode cJ7_copyOf_59c91 28 = .ok (.invokestatic 150, 3) := by decide +kernel
theorem dJ7_copyOf_59c91_31 : decode cJ7_copyOf_59c91 31 = .ok (.aload_n 2, 1) := by decide +kernel
theorem dJ7_copyOf_59c91_32 : decode cJ7_copyOf_59c91 32 = .ok (.areturn, 1) := by decide +kernel
theorem dJ15_checkIndex_7cf53_0 : decode cJ15_checkIndex_7cf53 0 = .ok (.iload_n 0, 1) := by decide +kernel
theorem dJ15_checkIndex_7cf53_1 : decode cJ15_checkIndex_7cf53 1 = .ok (.iload_n 1, 1) := by decide +kernel
theorem dJ15_checkIndex_7cf53_2 : decode cJ15_checkIndex_7cf53 2 = .ok (.aconst_null, 1) := by decide +kernel
theorem dJ15_checkIndex_7cf53_3 : decode cJ15_checkIndex_7cf53 3 = .ok (.invokestatic 105, 3) := by decide +kernel
theorem dJ15_checkIndex_7cf53_6 : decode cJ15_checkIndex_7cf53 6 = .ok (.ireturn, 1) := by decide +kernel
theorem dJ8_newLength_cabcc_0 : decode cJ8_newLength_cabcc 0 = .ok (.iload_n 0, 1) := by decide +kernel
theorem dJ8_newLength_cabcc_1 : decode cJ8_newLength_cabcc 1 = .ok (.iload_n 1, 1) := by decide +kernel
theorem dJ8_newLength_cabcc_2 : decode cJ8_newLength_cabcc 2 = .ok (.iload_n 2, 1) := by decide +kernel
theorem dJ8_newLength_cabcc_3 : decode cJ8_newLength_cabcc 3 = .ok (.invokestatic 194, 3) := by decide +kernel
theorem dJ8_newLength_cabcc_6 : decode cJ8_newLength_cabcc 6 = .ok (.iadd, 1) := by decide +kernel
theorem dJ8_newLength_cabcc_7 : decode cJ8_newLength_cabcc 7 = .ok (.istore_n 3, 1) := by decide +kernel
theorem dJ8_newLength_cabcc_8 : decode cJ8_newLength_cabcc 8 = .ok (.iconst 0, 1) := by decide +kernel
theorem dJ8_newLength_cabcc_9 : decode cJ8_newLength_cabcc 9 = .ok (.iload_n 3, 1) := by decide +kernel
theorem dJ8_newLength_cabcc_10 : decode cJ8_newLength_cabcc 10 = .ok (.if_icmp .ge 11, 3) := by decide +kernel
theorem dJ8_newLength_cabcc_13 : decode cJ8_newLength_cabcc 13 = .ok (.iload_n 3, 1) := by decide +kernel
theorem dJ8_newLength_cabcc_14 : decode cJ8_newLength_cabcc 14 = .ok (.ldc 200, 2) := by decide +kernel
theorem dJ8_newLength_cabcc_16 : decode cJ8_newLength_cabcc 16 = .ok (.if_icmp .gt 5, 3) := by decide +kernel
theorem dJ8_newLength_cabcc_19 : decode cJ8_newLength_cabcc 19 = .ok (.iload_n 3, 1) := by decide +kernel
theorem dJ8_newLength_cabcc_20 : decode cJ8_newLength_cabcc 20 = .ok (.ireturn, 1) := by decide +kernel
theorem dJ8_newLength_cabcc_21 : decode cJ8_newLength_cabcc 21 = .ok (.iload_n 0, 1) := by decide +kernel
theorem dJ8_newLength_cabcc_22 : decode cJ8_newLength_cabcc 22 = .ok (.iload_n 1, 1) := by decide +kernel
theorem dJ8_newLength_cabcc_23 : decode cJ8_newLength_cabcc 23 = .ok (.invokestatic 201, 3) := by decide +kernel
theorem dJ8_newLength_cabcc_26 : decode cJ8_newLength_cabcc 26 = .ok (.ireturn, 1) := by decide +kernel
theorem dJ8_hugeLength_7cf53_0 : decode cJ8_hugeLength_7cf53 0 = .ok (.iload_n 0, 1) := by decide +kernel
theorem dJ8_hugeLength_7cf53_1 : decode cJ8_hugeLength_7cf53 1 = .ok (.iload_n 1, 1) := by decide +kernel
theorem dJ8_hugeLength_7cf53_2 : decode cJ8_hugeLength_7cf53 2 = .ok (.iadd, 1) := by decide +kernel
theorem dJ8_hugeLength_7cf53_3 : decode cJ8_hugeLength_7cf53 3 = .ok (.istore_n 2, 1) := by decide +kernel
theorem dJ8_hugeLength_7cf53_4 : decode cJ8_hugeLength_7cf53 4 = .ok (.iload_n 2, 1) := by decide +kernel
theorem dJ8_hugeLength_7cf53_5 : decode cJ8_hugeLength_7cf53 5 = .ok (.ifCond .ge 44, 3) := by decide +kernel
theorem dJ8_hugeLength_7cf53_8 : decode cJ8_hugeLength_7cf53 8 = .ok (.new 204, 3) := by decide +kernel
theorem dJ8_hugeLength_7cf53_11 : decode cJ8_hugeLength_7cf53 11 = .ok (.dup, 1) := by decide +kernel
theorem dJ8_hugeLength_7cf53_12 : decode cJ8_hugeLength_7cf53 12 = .ok (.new 89, 3) := by decide +kernel
theorem dJ8_hugeLength_7cf53_15 : decode cJ8_hugeLength_7cf53 15 = .ok (.dup, 1) := by decide +kernel
theorem dJ8_hugeLength_7cf53_16 : decode cJ8_hugeLength_7cf53 16 = .ok (.invokespecial 91, 3) := by decide +kernel
theorem dJ8_hugeLength_7cf53_19 : decode cJ8_hugeLength_7cf53 19 = .ok (.ldc 206, 2) := by decide +kernel
theorem dJ8_hugeLength_7cf53_21 : decode cJ8_hugeLength_7cf53 21 = .ok (.invokevirtual 94, 3) := by decide +kernel
theorem dJ8_hugeLength_7cf53_24 : decode cJ8_hugeLength_7cf53 24 = .ok (.iload_n 0, 1) := by decide +kernel
theorem dJ8_hugeLength_7cf53_25 : decode cJ8_hugeLength_7cf53 25 = .ok (.invokevirtual 98, 3) := by decide +kernel
theorem dJ8_hugeLength_7cf53_28 : decode cJ8_hugeLength_7cf53 28 = .ok (.ldc 208, 2) := by decide +kernel
theorem dJ8_hugeLength_7cf53_30 : decode cJ8_hugeLength_7cf53 30 = .ok (.invokevirtual 94, 3) := by decide +kernel
theorem dJ8_hugeLength_7cf53_33 : decode cJ8_hugeLength_7cf53 33 = .ok (.iload_n 1, 1) := by decide +kernel
theorem dJ8_hugeLength_7cf53_34 : decode cJ8_hugeLength_7cf53 34 = .ok (.invokevirtual 98, 3) := by decide +kernel
theorem dJ8_hugeLength_7cf53_37 : decode cJ8_hugeLength_7cf53 37 = .ok (.ldc 210, 2) := by decide +kernel
theorem dJ8_hugeLength_7cf53_39 : decode cJ8_hugeLength_7cf53 39 = .ok (.invokevirtual 94, 3) := by decide +kernel
theorem dJ8_hugeLength_7cf53_42 : decode cJ8_hugeLength_7cf53 42 = .ok (.invokevirtual 101, 3) := by decide +kernel
theorem dJ8_hugeLength_7cf53_45 : decode cJ8_hugeLength_7cf53 45 = .ok (.invokespecial 212, 3) := by decide +kernel
theorem dJ8_hugeLength_7cf53_48 : decode cJ8_hugeLength_7cf53 48 = .ok (.athrow, 1) := by decide +kernel
theorem dJ8_hugeLength_7cf53_49 : decode cJ8_hugeLength_7cf53 49 = .ok (.iload_n 2, 1) := by decide +kernel
theorem dJ8_hugeLength_7cf53_50 : decode cJ8_hugeLength_7cf53 50 = .ok (.ldc 200, 2) := by decide +kernel
theorem dJ8_hugeLength_7cf53_52 : decode cJ8_hugeLength_7cf53 52 = .ok (.if_icmp .gt 6, 3) := by decide +kernel
theorem dJ8_hugeLength_7cf53_55 : decode cJ8_hugeLength_7cf53 55 = .ok (.ldc 200, 2) := by decide +kernel
theorem dJ8_hugeLength_7cf53_57 : decode cJ8_hugeLength_7cf53 57 = .ok (.ireturn, 1) := by decide +kernel
theorem dJ8_hugeLength_7cf53_58 : decode cJ8_hugeLength_7cf53 58 = .ok (.iload_n 2, 1) := by decide +kernel
theorem dJ8_hugeLength_7cf53_59 : decode cJ8_hugeLength_7cf53 59 = .ok (.ireturn, 1) := by decide +kernel
theorem dJ3_checkIndex_8e157_0 : decode cJ3_checkIndex_8e157 0 = .ok (.iload_n 0, 1) := by decide +kernel
theorem dJ3_checkIndex_8e157_1 : decode cJ3_checkIndex_8e157 1 = .ok (.ifCond .lt 8, 3) := by decide +kernel
theorem dJ3_checkIndex_8e157_4 : decode cJ3_checkIndex_8e157 4 = .ok (.iload_n 0, 1) := by decide +kernel
theorem dJ3_checkIndex_8e157_5 : decode cJ3_checkIndex_8e157 5 = .ok (.iload_n 1, 1) := by decide +kernel
theorem dJ3_checkIndex_8e157_6 : decode cJ3_checkIndex_8e157 6 = .ok (.if_icmp .lt 10, 3) := by decide +kernel
theorem dJ3_checkIndex_8e157_9 : decode cJ3_checkIndex_8e157 9 = .ok (.aload_n 2, 1) := by decide +kernel
theorem dJ3_checkIndex_8e157_10 : decode cJ3_checkIndex_8e157 10 = .ok (.iload_n 0, 1) := by decide +kernel
theorem dJ3_checkIndex_8e157_11 : decode cJ3_checkIndex_8e157 11 = .ok (.iload_n 1, 1) := by decide +kernel
theorem dJ3_checkIndex_8e157_12 : decode cJ3_checkIndex_8e157 12 = .ok (.invokestatic 95, 3) := by decide +kernel
theorem dJ3_checkIndex_8e157_15 : decode cJ3_checkIndex_8e157 15 = .ok (.athrow, 1) := by decide +kernel
theorem dJ3_checkIndex_8e157_16 : decode cJ3_checkIndex_8e157 16 = .ok (.iload_n 0, 1) := by decide +kernel
theorem dJ3_checkIndex_8e157_17 : decode cJ3_checkIndex_8e157 17 = .ok (.ireturn, 1) := by decide +kernel
