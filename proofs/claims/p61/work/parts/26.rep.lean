/-! 26: the typed picture of the heap (tables printed by wip/whole/gentypes.py) -/
abbrev T_HALL : Nat := 0
abbrev T_WORKS : Nat := 1
abbrev T_KEYS : Nat := 2
abbrev T_CONS : Nat := 3
abbrev T_TAPE : Nat := 4
abbrev T_MEM : Nat := 5
abbrev T_CONT : Nat := 6
abbrev T_MODEL : Nat := 7
abbrev T_LIST : Nat := 8
abbrev T_RANK : Nat := 9
abbrev T_PIPE : Nat := 10
abbrev T_KNOB : Nat := 11
abbrev T_COUP : Nat := 12
abbrev T_STOP : Nat := 13
abbrev T_MRANK : Nat := 14
abbrev T_MKNOB : Nat := 15
abbrev T_MKEPT : Nat := 16
abbrev T_MKEEP : Nat := 17
abbrev T_MFRAME : Nat := 18
abbrev T_LARR : Nat := 19
abbrev T_PARR : Nat := 20
abbrev T_ENTR : Nat := 21
abbrev T_OUT : Nat := 22
abbrev T_OUTD : Nat := 23
abbrev T_A_pressed : Nat := 24
abbrev T_A_pressedAt : Nat := 25
abbrev T_A_lowest : Nat := 26
abbrev T_A_highest : Nat := 27
abbrev T_A_operations : Nat := 28
abbrev T_A_sources : Nat := 29
abbrev T_A_others : Nat := 30
abbrev T_A_relaysOn : Nat := 31
abbrev T_A_supplies : Nat := 32
abbrev T_A_winds : Nat := 33
abbrev T_A_openings : Nat := 34
abbrev T_A_temperings : Nat := 35
abbrev T_A_uses : Nat := 36
abbrev T_A_ways : Nat := 37
abbrev T_A_isSet : Nat := 38
abbrev T_A_kept : Nat := 39
abbrev T_A_drawn : Nat := 40
abbrev T_A_reversibles : Nat := 41
abbrev T_A_owners : Nat := 42
abbrev T_A_frameCounts : Nat := 43
abbrev T_A_frameKept : Nat := 44
abbrev T_A_frameDrawn : Nat := 45
abbrev T_A_chord : Nat := 46
abbrev T_A_trial : Nat := 47
abbrev T_A_best : Nat := 48
abbrev T_M_isDown : Nat := 49
abbrev T_M_isHeld : Nat := 50
abbrev T_M_isWanted : Nat := 51
abbrev T_M_isCalled : Nat := 52
abbrev T_M_isOpen : Nat := 53
abbrev T_M_speaks : Nat := 54
abbrev T_M_wentDown : Nat := 55
abbrev T_M_counts : Nat := 56
abbrev T_M_since : Nat := 57
abbrev T_M_closedSince : Nat := 58
abbrev T_M_begun : Nat := 59
abbrev T_M_tuning : Nat := 60
abbrev T_M_rankOf : Nat := 61
abbrev T_M_fault : Nat := 62
abbrev T_M_supply : Nat := 63
abbrev T_M_box : Nat := 64
abbrev T_M_temper : Nat := 65
abbrev T_M_winds : Nat := 66
abbrev T_M_claimed : Nat := 67
abbrev T_M_reversible : Nat := 68
abbrev T_M_operation : Nat := 69
abbrev T_M_first : Nat := 70
abbrev T_M_second : Nat := 71
abbrev T_M_chord : Nat := 72
abbrev T_M_degrees : Nat := 73
abbrev T_M_best : Nat := 74
abbrev T_M_isRelay : Nat := 75
abbrev T_S_ranks : Nat := 76
abbrev T_S_offsets : Nat := 77
abbrev T_S_firsts : Nat := 78
abbrev T_S_lasts : Nat := 79
abbrev T_S_places : Nat := 80
abbrev T_S_keysAt : Nat := 81
abbrev T_K_wires : Nat := 82
abbrev T_K_ranks : Nat := 83
abbrev T_K_offsets : Nat := 84
abbrev T_K_froms : Nat := 85
abbrev T_K_tos : Nat := 86
abbrev f_now : Nat := 0
abbrev f_speakers : Nat := 1
abbrev f_allBegins : Nat := 2
abbrev f_heat : Nat := 3
abbrev f_isWaiting : Nat := 4
abbrev f_lastPressedAt : Nat := 5
abbrev f_isTutti : Nat := 6
abbrev f_crescendo : Nat := 7
abbrev f_recording : Nat := 8
abbrev f_tkind : Nat := 9
abbrev f_tsize : Nat := 10
abbrev f_startedAt : Nat := 11
abbrev f_guest : Nat := 12
abbrev f_level : Nat := 13
abbrev f_next : Nat := 14
abbrev f_tonic : Nat := 15
abbrev f_isMajor : Nat := 16
abbrev f_hasChord : Nat := 17
abbrev f_bestBad : Nat := 18
abbrev f_bestWay : Nat := 19
abbrev f_a_pressed : Nat := 20
abbrev f_a_pressedAt : Nat := 21
abbrev f_a_lowest : Nat := 22
abbrev f_a_highest : Nat := 23
abbrev f_a_operations : Nat := 24
abbrev f_a_sources : Nat := 25
abbrev f_a_others : Nat := 26
abbrev f_a_relaysOn : Nat := 27
abbrev f_a_supplies : Nat := 28
abbrev f_a_winds : Nat := 29
abbrev f_a_openings : Nat := 30
abbrev f_a_temperings : Nat := 31
abbrev f_a_uses : Nat := 32
abbrev f_a_ways : Nat := 33
abbrev f_a_isSet : Nat := 34
abbrev f_a_reversibles : Nat := 35
abbrev f_a_owners : Nat := 36
abbrev f_a_frameCounts : Nat := 37
abbrev f_a_chord : Nat := 38
abbrev f_a_trial : Nat := 39
abbrev f_a_best : Nat := 40
abbrev f_r_lowest : Nat := 41
abbrev f_r_division : Nat := 42
abbrev f_r_use : Nat := 43
abbrev f_r_delay : Nat := 44
abbrev f_r_rest : Nat := 45
abbrev f_r_power : Nat := 46
abbrev f_r_heatNumber : Nat := 47
abbrev f_p_found : Nat := 48
abbrev f_p_isHeld : Nat := 49
abbrev f_p_isWanted : Nat := 50
abbrev f_p_changedAt : Nat := 51
abbrev f_p_isOpened : Nat := 52
abbrev f_p_closedAt : Nat := 53
abbrev f_p_fault : Nat := 54
abbrev f_p_tuning : Nat := 55
abbrev f_p_isSpeaking : Nat := 56
abbrev f_p_begins : Nat := 57
abbrev f_p_ends : Nat := 58
abbrev f_k_kind : Nat := 59
abbrev f_k_division : Nat := 60
abbrev f_k_isOut : Nat := 61
abbrev f_k_isLocked : Nat := 62
abbrev f_k_isInScope : Nat := 63
abbrev f_k_relay : Nat := 64
abbrev f_c_from : Nat := 65
abbrev f_c_to : Nat := 66
abbrev f_c_shift : Nat := 67
abbrev f_c_kind : Nat := 68
abbrev f_s_stage : Nat := 69
abbrev f_s_rows : Nat := 70
abbrev f_s_ranks : Nat := 71
abbrev f_s_offsets : Nat := 72
abbrev f_s_firsts : Nat := 73
abbrev f_s_lasts : Nat := 74
abbrev f_s_places : Nat := 75
abbrev f_s_keysAt : Nat := 76
abbrev f_entries : Nat := 77
abbrev f_l_modCount : Nat := 78
abbrev f_l_size : Nat := 79
abbrev f_m_thrown : Nat := 80
abbrev f_m_tick : Nat := 81
abbrev f_m_pipes : Nat := 82
abbrev f_m_heat : Nat := 83
abbrev f_m_crescendo : Nat := 84
abbrev f_m_guest : Nat := 85
abbrev f_m_level : Nat := 86
abbrev f_m_next : Nat := 87
abbrev f_m_tonic : Nat := 88
abbrev f_m_recording : Nat := 89
abbrev f_m_kindKept : Nat := 90
abbrev f_m_isTutti : Nat := 91
abbrev f_m_isMajor : Nat := 92
abbrev f_m_hasChord : Nat := 93
abbrev f_m_isDown : Nat := 94
abbrev f_m_isHeld : Nat := 95
abbrev f_m_isWanted : Nat := 96
abbrev f_m_isCalled : Nat := 97
abbrev f_m_isOpen : Nat := 98
abbrev f_m_speaks : Nat := 99
abbrev f_m_wentDown : Nat := 100
abbrev f_m_counts : Nat := 101
abbrev f_m_since : Nat := 102
abbrev f_m_closedSince : Nat := 103
abbrev f_m_begun : Nat := 104
abbrev f_m_tuning : Nat := 105
abbrev f_m_rankOf : Nat := 106
abbrev f_m_fault : Nat := 107
abbrev f_m_supply : Nat := 108
abbrev f_m_box : Nat := 109
abbrev f_m_temper : Nat := 110
abbrev f_m_winds : Nat := 111
abbrev f_m_claimed : Nat := 112
abbrev f_m_reversible : Nat := 113
abbrev f_m_operation : Nat := 114
abbrev f_m_first : Nat := 115
abbrev f_m_second : Nat := 116
abbrev f_m_chord : Nat := 117
abbrev f_m_degrees : Nat := 118
abbrev f_m_best : Nat := 119
abbrev f_m_isRelay : Nat := 120
abbrev f_mr_lowest : Nat := 121
abbrev f_mr_highest : Nat := 122
abbrev f_mr_wind : Nat := 123
abbrev f_mr_division : Nat := 124
abbrev f_mr_delay : Nat := 125
abbrev f_mr_rest : Nat := 126
abbrev f_mr_power : Nat := 127
abbrev f_mr_base : Nat := 128
abbrev f_mr_heat : Nat := 129
abbrev f_mk_kind : Nat := 130
abbrev f_mk_division : Nat := 131
abbrev f_mk_to : Nat := 132
abbrev f_mk_shift : Nat := 133
abbrev f_mk_letter : Nat := 134
abbrev f_mk_isDrawn : Nat := 135
abbrev f_mk_isLocked : Nat := 136
abbrev f_mk_isIn : Nat := 137
abbrev f_mk_rows : Nat := 138
abbrev f_mk_stage : Nat := 139
abbrev f_mk_relay : Nat := 140
abbrev f_mk_wires : Nat := 141
abbrev f_mk_ranks : Nat := 142
abbrev f_mk_offsets : Nat := 143
abbrev f_mk_froms : Nat := 144
abbrev f_mk_tos : Nat := 145
abbrev f_mt_division : Nat := 146
abbrev f_mt_at : Nat := 147
abbrev f_mt_tick : Nat := 148
abbrev f_mt_is : Nat := 149
abbrev f_mg_isSet : Nat := 150
abbrev f_mf_isSet : Nat := 151
abbrev j_allEnds : Nat := 0
abbrev j_a_kept : Nat := 1
abbrev j_a_drawn : Nat := 2
abbrev j_a_frameKept : Nat := 3
abbrev j_a_frameDrawn : Nat := 4
abbrev j_m_ended : Nat := 5
abbrev j_m_allBegun : Nat := 6
abbrev j_mg_knobs : Nat := 7
abbrev j_mg_drawn : Nat := 8
abbrev j_mf_knobs : Nat := 9
abbrev j_mf_drawn : Nat := 10
abbrev j_out : Nat := 11
abbrev g_h_WORKS : Nat := 0
abbrev g_h_KEYS : Nat := 1
abbrev g_h_CONS : Nat := 2
abbrev g_h_TAPE : Nat := 3
abbrev g_h_MEM : Nat := 4
abbrev g_h_CONT : Nat := 5
abbrev g_w_KEYS : Nat := 6
abbrev g_w_CONS : Nat := 7
abbrev g_w_TAPE : Nat := 8
abbrev g_w_supplies : Nat := 9
abbrev g_w_winds : Nat := 10
abbrev g_w_openings : Nat := 11
abbrev g_w_temperings : Nat := 12
abbrev g_w_uses : Nat := 13
abbrev g_w_ways : Nat := 14
abbrev g_y_pressed : Nat := 15
abbrev g_y_pressedAt : Nat := 16
abbrev g_y_lowest : Nat := 17
abbrev g_y_highest : Nat := 18
abbrev g_n_operations : Nat := 19
abbrev g_n_sources : Nat := 20
abbrev g_n_others : Nat := 21
abbrev g_n_relaysOn : Nat := 22
abbrev g_e_isSet : Nat := 23
abbrev g_e_kept : Nat := 24
abbrev g_e_drawn : Nat := 25
abbrev g_e_reversibles : Nat := 26
abbrev g_e_owners : Nat := 27
abbrev g_e_frameCounts : Nat := 28
abbrev g_e_frameKept : Nat := 29
abbrev g_e_frameDrawn : Nat := 30
abbrev g_o_chord : Nat := 31
abbrev g_o_trial : Nat := 32
abbrev g_o_best : Nat := 33
abbrev g_t_entries : Nat := 34
abbrev g_w_ranks : Nat := 35
abbrev g_n_knobs : Nat := 36
abbrev g_r_pipes : Nat := 37
abbrev g_s_ranks : Nat := 38
abbrev g_s_offsets : Nat := 39
abbrev g_s_firsts : Nat := 40
abbrev g_s_lasts : Nat := 41
abbrev g_s_places : Nat := 42
abbrev g_s_keysAt : Nat := 43
abbrev g_l_arr : Nat := 44
abbrev g_m_list0 : Nat := 45
abbrev g_m_list1 : Nat := 46
abbrev g_m_list2 : Nat := 47
abbrev g_m_list3 : Nat := 48
abbrev g_m_list4 : Nat := 49
abbrev g_m_list5 : Nat := 50
abbrev g_m_isDown : Nat := 51
abbrev g_m_isHeld : Nat := 52
abbrev g_m_isWanted : Nat := 53
abbrev g_m_isCalled : Nat := 54
abbrev g_m_isOpen : Nat := 55
abbrev g_m_speaks : Nat := 56
abbrev g_m_wentDown : Nat := 57
abbrev g_m_counts : Nat := 58
abbrev g_m_since : Nat := 59
abbrev g_m_closedSince : Nat := 60
abbrev g_m_begun : Nat := 61
abbrev g_m_tuning : Nat := 62
abbrev g_m_rankOf : Nat := 63
abbrev g_m_fault : Nat := 64
abbrev g_m_supply : Nat := 65
abbrev g_m_box : Nat := 66
abbrev g_m_temper : Nat := 67
abbrev g_m_winds : Nat := 68
abbrev g_m_claimed : Nat := 69
abbrev g_m_reversible : Nat := 70
abbrev g_m_operation : Nat := 71
abbrev g_m_first : Nat := 72
abbrev g_m_second : Nat := 73
abbrev g_m_chord : Nat := 74
abbrev g_m_degrees : Nat := 75
abbrev g_m_best : Nat := 76
abbrev g_m_isRelay : Nat := 77
abbrev g_mk_wires : Nat := 78
abbrev g_mk_ranks : Nat := 79
abbrev g_mk_offsets : Nat := 80
abbrev g_mk_froms : Nat := 81
abbrev g_mk_tos : Nat := 82
/-- kind of a type, length of its rows (0: an object; 1: a row whose length the shape tells) -/
def e_tT : List (Nat × Nat) := [(15, 0), (14, 0), (7, 0), (4, 0), (13, 0), (9, 0), (5, 0), (20, 0), (3, 0), (11, 0), (10, 0), (8, 0), (6, 0), (12, 0), (19, 0), (18, 0), (17, 0), (16, 0), (16, 0), (105, 1000000000), (106, 1000000000), (100, 1000000000), (103, 1), (104, 1), (101, 183), (100, 183), (100, 3), (100, 3), (102, 16), (100, 16), (100, 16), (101, 16), (100, 3), (100, 3), (100, 3), (100, 12), (100, 3), (100, 183), (101, 80), (103, 80), (103, 80), (100, 16), (100, 4), (100, 4), (103, 80), (103, 80), (100, 4), (100, 4), (100, 4), (101, 183), (101, 1280), (101, 1280), (101, 1280), (101, 1280), (101, 1280), (100, 183), (100, 1280), (100, 1280), (100, 1280), (100, 1280), (100, 1280), (100, 1280), (102, 1280), (100, 3), (100, 3), (100, 12), (100, 3), (100, 4), (100, 16), (102, 16), (100, 16), (100, 16), (100, 4), (100, 7), (100, 3), (101, 16), (100, 4), (100, 4), (100, 4), (100, 4), (100, 61), (100, 61), (100, 61), (100, 4), (100, 4), (100, 4), (100, 4)]
/-- int fields: type, first slot, width -/
def e_tI : List (Nat × Nat × Nat) := [(1, 4, 1), (1, 5, 1), (1, 6, 1), (1, 8, 1), (1, 15, 1), (2, 4, 1), (3, 1, 1), (3, 2, 1), (4, 0, 1), (4, 1, 1), (4, 2, 1), (4, 3, 1), (5, 0, 1), (5, 1, 1), (5, 2, 1), (6, 0, 1), (6, 1, 1), (6, 2, 1), (6, 6, 1), (6, 7, 1), (24, 0, 183), (25, 0, 183), (26, 0, 3), (27, 0, 3), (28, 0, 16), (29, 0, 16), (30, 0, 16), (31, 0, 16), (32, 0, 3), (33, 0, 3), (34, 0, 3), (35, 0, 12), (36, 0, 3), (37, 0, 183), (38, 0, 80), (41, 0, 16), (42, 0, 4), (43, 0, 4), (46, 0, 4), (47, 0, 4), (48, 0, 4), (9, 0, 1), (9, 1, 1), (9, 3, 1), (9, 4, 1), (9, 5, 1), (9, 6, 1), (9, 7, 1), (10, 0, 1), (10, 1, 1), (10, 2, 1), (10, 3, 1), (10, 4, 1), (10, 5, 1), (10, 6, 1), (10, 7, 1), (10, 8, 1), (10, 9, 1), (10, 10, 1), (11, 0, 1), (11, 1, 1), (11, 4, 1), (11, 5, 1), (11, 6, 1), (11, 7, 1), (12, 0, 1), (12, 1, 1), (12, 2, 1), (12, 3, 1), (13, 0, 1), (13, 1, 1), (76, 0, 4), (77, 0, 4), (78, 0, 4), (79, 0, 4), (80, 0, 61), (81, 0, 61), (21, 0, 1048576), (8, 0, 1), (8, 2, 1), (7, 33, 1), (7, 34, 1), (7, 35, 1), (7, 36, 1), (7, 37, 1), (7, 38, 1), (7, 39, 1), (7, 40, 1), (7, 41, 1), (7, 44, 1), (7, 45, 1), (7, 46, 1), (7, 47, 1), (7, 48, 1), (49, 0, 183), (50, 0, 1280), (51, 0, 1280), (52, 0, 1280), (53, 0, 1280), (54, 0, 1280), (55, 0, 183), (56, 0, 1280), (57, 0, 1280), (58, 0, 1280), (59, 0, 1280), (60, 0, 1280), (61, 0, 1280), (62, 0, 1280), (63, 0, 3), (64, 0, 3), (65, 0, 12), (66, 0, 3), (67, 0, 4), (68, 0, 16), (69, 0, 16), (70, 0, 16), (71, 0, 16), (72, 0, 4), (73, 0, 7), (74, 0, 3), (75, 0, 16), (14, 0, 1), (14, 1, 1), (14, 2, 1), (14, 3, 1), (14, 4, 1), (14, 5, 1), (14, 6, 1), (14, 7, 1), (14, 8, 1), (15, 0, 1), (15, 1, 1), (15, 2, 1), (15, 3, 1), (15, 4, 1), (15, 10, 1), (15, 11, 1), (15, 12, 1), (15, 13, 1), (15, 14, 1), (15, 15, 1), (82, 0, 61), (83, 0, 4), (84, 0, 4), (85, 0, 4), (86, 0, 4), (16, 0, 1), (16, 1, 1), (16, 2, 1), (16, 3, 1), (17, 2, 1), (18, 2, 1)]
def e_tJ : List (Nat × Nat × Nat) := [(1, 7, 1), (39, 0, 80), (40, 0, 80), (44, 0, 80), (45, 0, 80), (7, 42, 1), (7, 43, 1), (17, 0, 1), (17, 1, 1), (18, 0, 1), (18, 1, 1), (22, 0, 1)]
/-- references: type, slot, target type, target index (0: fixed, then which; 1: the same) -/
def e_tG : List (Nat × Nat × Nat × Nat × Nat) := [(0, 0, 1, 0, 0), (0, 1, 2, 0, 0), (0, 2, 3, 0, 0), (0, 3, 4, 0, 0), (0, 4, 5, 0, 0), (0, 5, 6, 0, 0), (1, 0, 2, 0, 0), (1, 1, 3, 0, 0), (1, 2, 4, 0, 0), (1, 9, 32, 0, 0), (1, 10, 33, 0, 0), (1, 11, 34, 0, 0), (1, 12, 35, 0, 0), (1, 13, 36, 0, 0), (1, 14, 37, 0, 0), (2, 0, 24, 0, 0), (2, 1, 25, 0, 0), (2, 2, 26, 0, 0), (2, 3, 27, 0, 0), (3, 3, 28, 0, 0), (3, 4, 29, 0, 0), (3, 5, 30, 0, 0), (3, 6, 31, 0, 0), (5, 3, 38, 0, 0), (5, 4, 39, 0, 0), (5, 5, 40, 0, 0), (5, 6, 41, 0, 0), (5, 7, 42, 0, 0), (5, 8, 43, 0, 0), (5, 9, 44, 0, 0), (5, 10, 45, 0, 0), (6, 3, 46, 0, 0), (6, 4, 47, 0, 0), (6, 5, 48, 0, 0), (4, 4, 21, 0, 0), (1, 3, 8, 0, 0), (3, 0, 8, 0, 1), (9, 2, 20, 1, 0), (13, 2, 76, 1, 0), (13, 3, 77, 1, 0), (13, 4, 78, 1, 0), (13, 5, 79, 1, 0), (13, 6, 80, 1, 0), (13, 7, 81, 1, 0), (8, 1, 19, 1, 0), (7, 0, 8, 0, 2), (7, 1, 8, 0, 3), (7, 2, 8, 0, 4), (7, 3, 8, 0, 5), (7, 4, 8, 0, 6), (7, 5, 8, 0, 7), (7, 6, 49, 0, 0), (7, 7, 50, 0, 0), (7, 8, 51, 0, 0), (7, 9, 52, 0, 0), (7, 10, 53, 0, 0), (7, 11, 54, 0, 0), (7, 12, 55, 0, 0), (7, 13, 56, 0, 0), (7, 14, 57, 0, 0), (7, 15, 58, 0, 0), (7, 16, 59, 0, 0), (7, 17, 60, 0, 0), (7, 18, 61, 0, 0), (7, 19, 62, 0, 0), (7, 20, 63, 0, 0), (7, 21, 64, 0, 0), (7, 22, 65, 0, 0), (7, 23, 66, 0, 0), (7, 24, 67, 0, 0), (7, 25, 68, 0, 0), (7, 26, 69, 0, 0), (7, 27, 70, 0, 0), (7, 28, 71, 0, 0), (7, 29, 72, 0, 0), (7, 30, 73, 0, 0), (7, 31, 74, 0, 0), (7, 32, 75, 0, 0), (15, 5, 82, 1, 0), (15, 6, 83, 1, 0), (15, 7, 84, 1, 0), (15, 8, 85, 1, 0), (15, 9, 86, 1, 0)]
abbrev e_Sp : Type := (Nat → Nat → Nat) × (Nat → Nat → Bool) × (Nat → Nat → Nat) × (Nat → Nat × Nat) × (Nat → Nat)
abbrev e_I : Type := Nat → Nat → Int32
abbrev e_Jt : Type := Nat → Nat → Int64
def e_T (t : Nat) : Nat × Nat := (e_tT[t]?).getD (0, 0)
def e_FI (F : Nat) : Nat × Nat × Nat := (e_tI[F]?).getD (0, 0, 1)
def e_FJ (F : Nat) : Nat × Nat × Nat := (e_tJ[F]?).getD (0, 0, 1)
def e_FG (G : Nat) : Nat × Nat × Nat × Nat × Nat := (e_tG[G]?).getD (0, 0, 0, 0, 0)
def e_NI : Nat := e_tI.length
def e_NJ : Nat := e_tJ.length
def e_NG : Nat := e_tG.length
def e_NT : Nat := e_tT.length
/-- elements of the lists: their type, their index -/
def e_elT (l : Nat) : Nat := match l with
  | 0 => T_RANK
  | 1 => T_KNOB
  | 2 => T_MRANK
  | 3 => T_MKNOB
  | 4 => T_MKEPT
  | 5 => T_LIST
  | 6 => T_MKEEP
  | 7 => T_MKEEP
  | _ => T_MFRAME
def e_elI (l j : Nat) : Nat := match l with
  | 5 => 8 + j
  | 7 => 32 + j
  | 0 => j
  | 1 => j
  | 2 => j
  | 3 => j
  | 4 => j
  | 6 => j
  | l => 64 * (l - 8) + j
/-- the heap holds the shape p with ints I and longs J -/
def e_rp1 (p : e_Sp) (h : e_Hp) : Prop := ∀ t i, p.2.1 t i = true → t < e_NT ∧ p.1 t i < e_n h ∧ e_kd h (p.1 t i) = (e_T t).1 ∧ p.2.2.2.1 (p.1 t i) = (t, i) ∧ e_ln h (p.1 t i) = (if (e_T t).2 = 1000000000 then p.2.2.1 t i else (e_T t).2)
def e_rp2 (p : e_Sp) (I : e_I) (h : e_Hp) : Prop := ∀ F i, F < e_NI → p.2.1 (e_FI F).1 (i / (e_FI F).2.2) = true → e_toI (e_v h (p.1 (e_FI F).1 (i / (e_FI F).2.2)) ((e_FI F).2.1 + i % (e_FI F).2.2)) = I F i
def e_rp3 (p : e_Sp) (J : e_Jt) (h : e_Hp) : Prop := ∀ F i, F < e_NJ → p.2.1 (e_FJ F).1 (i / (e_FJ F).2.2) = true → e_toJ (e_v h (p.1 (e_FJ F).1 (i / (e_FJ F).2.2)) ((e_FJ F).2.1 + i % (e_FJ F).2.2)) = J F i
def e_rp4 (p : e_Sp) (h : e_Hp) : Prop := ∀ G i, G < e_NG → p.2.1 (e_FG G).1 i = true → e_toO (e_v h (p.1 (e_FG G).1 i) (e_FG G).2.1) = some (p.1 (e_FG G).2.2.1 (if (e_FG G).2.2.2.1 = 1 then i else (e_FG G).2.2.2.2))
def e_rp5 (p : e_Sp) (I : e_I) (h : e_Hp) : Prop := ∀ l j, p.2.1 T_LIST l = true → j < (I f_l_size l).toNatClampNeg → p.2.1 T_LARR l = true ∧ (I f_l_size l).toNatClampNeg ≤ p.2.2.1 T_LARR l ∧ p.2.1 (e_elT l) (e_elI l j) = true ∧ e_toO (e_v h (p.1 T_LARR l) j) = some (p.1 (e_elT l) (e_elI l j))
def e_rp6 (p : e_Sp) (h : e_Hp) : Prop := ∀ r, p.2.1 T_RANK r = true → p.2.1 T_PARR r = true ∧ ∀ j, j < p.2.2.1 T_PARR r → p.2.1 T_PIPE (p.2.2.2.2 r + j) = true ∧ e_toO (e_v h (p.1 T_PARR r) j) = some (p.1 T_PIPE (p.2.2.2.2 r + j))
def e_rp7 (p : e_Sp) (h : e_Hp) : Prop := ∀ k, p.2.1 T_KNOB k = true → e_toO (e_v h (p.1 T_KNOB k) 2) = (if p.2.1 T_STOP k = true then some (p.1 T_STOP k) else none) ∧ e_toO (e_v h (p.1 T_KNOB k) 3) = (if p.2.1 T_COUP k = true then some (p.1 T_COUP k) else none)
def e_rep (p : e_Sp) (I : e_I) (J : e_Jt) (h : e_Hp) : Prop := e_rp1 p h ∧ e_rp2 p I h ∧ e_rp3 p J h ∧ e_rp4 p h ∧ e_rp5 p I h ∧ e_rp6 p h ∧ e_rp7 p h
def s_up {α : Type} (I : Nat → Nat → α) (F i : Nat) (x : α) : Nat → Nat → α := fun F' i' => if F' = F ∧ i' = i then x else I F' i'
theorem s_up_s {α : Type} {I : Nat → Nat → α} {F i : Nat} {x : α} : s_up I F i x F i = x := if_pos ⟨rfl, rfl⟩
theorem s_up_F {α : Type} {I : Nat → Nat → α} {F i F' i' : Nat} {x : α} (h : F' ≠ F) : s_up I F i x F' i' = I F' i' := if_neg (fun z => h z.1)
theorem s_up_i {α : Type} {I : Nat → Nat → α} {F i F' i' : Nat} {x : α} (h : i' ≠ i) : s_up I F i x F' i' = I F' i' := if_neg (fun z => h z.2)
/-! the tables' checks: places of one type are apart -/
def e_tIT0 : List (Nat × Nat × Nat) := (List.range e_NI).map e_FI
theorem e_c1 : ((List.range e_NI).all fun F => decide ((e_FI F).2.2 > 0 ∧ (e_FI F).1 < e_NT) && (List.range e_NI).all fun F' => decide (F = F') || (decide ((e_FI F).1 ≠ (e_FI F').1) || decide ((e_FI F).2.1 + (e_FI F).2.2 ≤ (e_FI F').2.1 ∨ (e_FI F').2.1 + (e_FI F').2.2 ≤ (e_FI F).2.1))) = true := by decide +kernel
theorem e_c2 : ((List.range e_NJ).all fun F => decide ((e_FJ F).2.2 > 0 ∧ (e_FJ F).1 < e_NT) && (List.range e_NJ).all fun F' => decide (F = F') || (decide ((e_FJ F).1 ≠ (e_FJ F').1) || decide ((e_FJ F).2.1 + (e_FJ F).2.2 ≤ (e_FJ F').2.1 ∨ (e_FJ F').2.1 + (e_FJ F').2.2 ≤ (e_FJ F).2.1))) = true := by decide +kernel
theorem e_c3 : ((List.range e_NI).all fun F => (List.range e_NJ).all fun F' => decide ((e_FI F).1 ≠ (e_FJ F').1) || decide ((e_FI F).2.1 + (e_FI F).2.2 ≤ (e_FJ F').2.1 ∨ (e_FJ F').2.1 + (e_FJ F').2.2 ≤ (e_FI F).2.1)) = true := by decide +kernel
theorem e_c4 : ((List.range e_NI).all fun F => (List.range e_NG).all fun G => decide ((e_FI F).1 ≠ (e_FG G).1) || decide ((e_FI F).2.1 + (e_FI F).2.2 ≤ (e_FG G).2.1 ∨ (e_FG G).2.1 + 1 ≤ (e_FI F).2.1)) = true := by decide +kernel
theorem e_c5 : ((List.range e_NJ).all fun F => (List.range e_NG).all fun G => decide ((e_FJ F).1 ≠ (e_FG G).1) || decide ((e_FJ F).2.1 + (e_FJ F).2.2 ≤ (e_FG G).2.1 ∨ (e_FG G).2.1 + 1 ≤ (e_FJ F).2.1)) = true := by decide +kernel
theorem e_c6 : ((List.range e_NI).all fun F => decide ((e_FI F).1 ≠ T_LARR) && (decide ((e_FI F).1 ≠ T_PARR) && (decide ((e_FI F).1 ≠ T_KNOB) || decide ((e_FI F).2.2 = 1 ∧ (e_FI F).2.1 ≠ 2 ∧ (e_FI F).2.1 ≠ 3)))) = true := by decide +kernel
theorem e_c7 : ((List.range e_NJ).all fun F => decide ((e_FJ F).1 ≠ T_LARR) && (decide ((e_FJ F).1 ≠ T_PARR) && decide ((e_FJ F).1 ≠ T_KNOB))) = true := by decide +kernel
theorem e_c8 : ((List.range e_NI).all fun F => decide ((e_FI F).1 ≠ T_OUTD)) = true := by decide +kernel
theorem e_c9 : ((List.range e_NJ).all fun F => decide ((e_FJ F).1 ≠ T_OUTD)) = true := by decide +kernel
theorem e_c10 : ((List.range e_NG).all fun F => decide ((e_FG F).1 ≠ T_OUTD)) = true := by decide +kernel
theorem e_all {n : Nat} {f : Nat → Bool} (h : (List.range n).all f = true) {i : Nat} (hi : i < n) : f i = true := List.all_eq_true.mp h i (List.mem_range.mpr hi)
section e_rps
variable {p : e_Sp} {I : e_I} {J : e_Jt} {h : e_Hp} {F i t k s : Nat} {x : Int32} {y : Int64} {v : Value}
theorem e_v_ne {h : e_Hp} {a a' s s' : Nat} {v : Value} (hne : a' ≠ a ∨ s' ≠ s) : e_v (e_set h a s v) a' s' = e_v h a' s' := by
  by_cases ha : a' = a
  · subst ha
    rw [e_v_set]
    exact if_neg (hne.resolve_left (fun z => z rfl))
  · unfold e_v e_set; simp only [if_neg ha]
theorem e_v_eq {h : e_Hp} {a s : Nat} {v : Value} : e_v (e_set h a s v) a s = v := by rw [e_v_set]; exact if_pos rfl
theorem e_rp1.apart (hR : e_rp1 p h) {t i t' i' : Nat} (h1 : p.2.1 t i = true) (h2 : p.2.1 t' i' = true) (hne : ¬ (t = t' ∧ i = i')) : p.1 t i ≠ p.1 t' i' := by
  intro e
  have a := (hR t i h1).2.2.2.1
  have b := (hR t' i' h2).2.2.2.1
  rw [e, b] at a
  cases a
  exact hne ⟨rfl, rfl⟩
theorem e_slot {a b c d i j : Nat} (hb : 0 < b) (hd : 0 < d) (h : a + b ≤ c ∨ c + d ≤ a) : a + i % b ≠ c + j % d := by
  have := Nat.mod_lt i hb
  have := Nat.mod_lt j hd
  omega
/-- an int is written -/
theorem e_rep.setI (hR : e_rep p I J h) (hF : F < e_NI) (hv : p.2.1 (e_FI F).1 (i / (e_FI F).2.2) = true) (hs : F ≠ f_l_size) :
    e_rep p (s_up I F i x) J (e_set h (p.1 (e_FI F).1 (i / (e_FI F).2.2)) ((e_FI F).2.1 + i % (e_FI F).2.2) (.int x)) := by
  obtain ⟨r1, r2, r3, r4, r5, r6, r7⟩ := hR
  have c1 := e_all e_c1 hF
  rw [Bool.and_eq_true] at c1
  have hW := (of_decide_eq_true c1.1).1
  refine ⟨r1, fun F' i' hF' hv' => ?_, fun F' i' hF' hv' => ?_, fun G i' hG hv' => ?_, fun l j hl hj => ?_, fun r hr => ?_, fun k hk => ?_⟩
  · by_cases e : F' = F ∧ i' = i
    · obtain ⟨rfl, rfl⟩ := e
      rw [e_v_eq, s_up_s]; rfl
    · rw [show s_up I F i x F' i' = I F' i' from if_neg e, ← r2 F' i' hF' hv']
      refine congrArg e_toI (e_v_ne ?_)
      by_cases ht : (e_FI F').1 = (e_FI F).1 ∧ i' / (e_FI F').2.2 = i / (e_FI F).2.2
      · refine Or.inr ?_
        by_cases eF : F' = F
        · subst eF
          intro z
          have h1 := Nat.div_add_mod i' (e_FI F').2.2
          have h2 := Nat.div_add_mod i (e_FI F').2.2
          rw [ht.2] at h1
          exact e ⟨rfl, by omega⟩
        · have c2 := e_all (e_all e_c1 hF' |> fun z => by rw [Bool.and_eq_true] at z; exact z.2) hF
          have c3 := e_all e_c1 hF'
          rw [Bool.and_eq_true] at c3
          rcases (Bool.or_eq_true _ _).mp c2 with c2 | c2
          · exact absurd (of_decide_eq_true c2) eF
          · rcases (Bool.or_eq_true _ _).mp c2 with c2 | c2
            · exact absurd ht.1 (of_decide_eq_true c2)
            · exact e_slot (of_decide_eq_true c3.1).1 hW (of_decide_eq_true c2)
      · exact Or.inl (r1.apart hv' hv ht)
  · rw [← r3 F' i' hF' hv']
    refine congrArg e_toJ (e_v_ne ?_)
    by_cases ht : (e_FJ F').1 = (e_FI F).1 ∧ i' / (e_FJ F').2.2 = i / (e_FI F).2.2
    · refine Or.inr ?_
      have c3 := e_all e_c2 hF'
      rw [Bool.and_eq_true] at c3
      rcases (Bool.or_eq_true _ _).mp (e_all (e_all e_c3 hF) hF') with c2 | c2
      · exact absurd ht.1.symm (of_decide_eq_true c2)
      · exact e_slot (of_decide_eq_true c3.1).1 hW (Or.symm (of_decide_eq_true c2))
    · exact Or.inl (r1.apart hv' hv ht)
  · rw [← r4 G i' hG hv']
    refine congrArg e_toO (e_v_ne ?_)
    by_cases ht : (e_FG G).1 = (e_FI F).1 ∧ i' = i / (e_FI F).2.2
    · refine Or.inr ?_
      rcases (Bool.or_eq_true _ _).mp (e_all (e_all e_c4 hF) hG) with c2 | c2
      · exact absurd ht.1.symm (of_decide_eq_true c2)
      · have h3 := of_decide_eq_true c2
        have := Nat.mod_lt i hW
        omega
    · exact Or.inl (r1.apart hv' hv ht)
  · rw [s_up_F (Ne.symm hs)] at hj ⊢
    obtain ⟨q1, q2, q3, q4⟩ := r5 l j hl hj
    refine ⟨q1, q2, q3, ?_⟩
    rw [← q4]
    have c6 := e_all e_c6 hF
    rw [Bool.and_eq_true] at c6
    exact congrArg e_toO (e_v_ne (Or.inl (r1.apart q1 hv (fun z => (of_decide_eq_true c6.1) z.1.symm))))
  · obtain ⟨q1, q2⟩ := r6 r hr
    refine ⟨q1, fun j hj => ⟨(q2 j hj).1, ?_⟩⟩
    rw [← (q2 j hj).2]
    have c6 := e_all e_c6 hF
    rw [Bool.and_eq_true, Bool.and_eq_true] at c6
    exact congrArg e_toO (e_v_ne (Or.inl (r1.apart q1 hv (fun z => (of_decide_eq_true c6.2.1) z.1.symm))))
  · have c6 := e_all e_c6 hF
    rw [Bool.and_eq_true, Bool.and_eq_true] at c6
    have key : ∀ s, s = 2 ∨ s = 3 → e_v (e_set h (p.1 (e_FI F).1 (i / (e_FI F).2.2)) ((e_FI F).2.1 + i % (e_FI F).2.2) (.int x)) (p.1 T_KNOB k) s = e_v h (p.1 T_KNOB k) s := fun s hs => by
      refine e_v_ne ?_
      by_cases ht : T_KNOB = (e_FI F).1 ∧ k = i / (e_FI F).2.2
      · rcases (Bool.or_eq_true _ _).mp c6.2.2 with c | c
        · exact absurd ht.1.symm (of_decide_eq_true c)
        · obtain ⟨w1, w2, w3⟩ := of_decide_eq_true c
          refine Or.inr ?_
          rw [w1, Nat.mod_one]
          omega
      · exact Or.inl (r1.apart hk hv ht)
    rw [key 2 (Or.inl rfl), key 3 (Or.inr rfl)]
    exact r7 k hk
/-- a long is written -/
theorem e_rep.setJ (hR : e_rep p I J h) (hF : F < e_NJ) (hv : p.2.1 (e_FJ F).1 (i / (e_FJ F).2.2) = true) :
    e_rep p I (s_up J F i y) (e_set h (p.1 (e_FJ F).1 (i / (e_FJ F).2.2)) ((e_FJ F).2.1 + i % (e_FJ F).2.2) (.long y)) := by
  obtain ⟨r1, r2, r3, r4, r5, r6, r7⟩ := hR
  have c1 := e_all e_c2 hF
  rw [Bool.and_eq_true] at c1
  have hW := (of_decide_eq_true c1.1).1
  have c7 := e_all e_c7 hF
  rw [Bool.and_eq_true, Bool.and_eq_true] at c7
  refine ⟨r1, fun F' i' hF' hv' => ?_, fun F' i' hF' hv' => ?_, fun G i' hG hv' => ?_, fun l j hl hj => ?_, fun r hr => ?_, fun k hk => ?_⟩
  · rw [← r2 F' i' hF' hv']
    refine congrArg e_toI (e_v_ne ?_)
    by_cases ht : (e_FI F').1 = (e_FJ F).1 ∧ i' / (e_FI F').2.2 = i / (e_FJ F).2.2
    · refine Or.inr ?_
      have c3 := e_all e_c1 hF'
      rw [Bool.and_eq_true] at c3
      rcases (Bool.or_eq_true _ _).mp (e_all (e_all e_c3 hF') hF) with c2 | c2
      · exact absurd ht.1 (of_decide_eq_true c2)
      · exact e_slot (of_decide_eq_true c3.1).1 hW (of_decide_eq_true c2)
    · exact Or.inl (r1.apart hv' hv ht)
  · by_cases e : F' = F ∧ i' = i
    · obtain ⟨rfl, rfl⟩ := e
      rw [e_v_eq, s_up_s]; rfl
    · rw [show s_up J F i y F' i' = J F' i' from if_neg e, ← r3 F' i' hF' hv']
      refine congrArg e_toJ (e_v_ne ?_)
      by_cases ht : (e_FJ F').1 = (e_FJ F).1 ∧ i' / (e_FJ F').2.2 = i / (e_FJ F).2.2
      · refine Or.inr ?_
        by_cases eF : F' = F
        · subst eF
          intro z
          have h1 := Nat.div_add_mod i' (e_FJ F').2.2
          have h2 := Nat.div_add_mod i (e_FJ F').2.2
          rw [ht.2] at h1
          exact e ⟨rfl, by omega⟩
        · have c2 := e_all (e_all e_c2 hF' |> fun z => by rw [Bool.and_eq_true] at z; exact z.2) hF
          have c3 := e_all e_c2 hF'
          rw [Bool.and_eq_true] at c3
          rcases (Bool.or_eq_true _ _).mp c2 with c2 | c2
          · exact absurd (of_decide_eq_true c2) eF
          · rcases (Bool.or_eq_true _ _).mp c2 with c2 | c2
            · exact absurd ht.1 (of_decide_eq_true c2)
            · exact e_slot (of_decide_eq_true c3.1).1 hW (of_decide_eq_true c2)
      · exact Or.inl (r1.apart hv' hv ht)
  · rw [← r4 G i' hG hv']
    refine congrArg e_toO (e_v_ne ?_)
    by_cases ht : (e_FG G).1 = (e_FJ F).1 ∧ i' = i / (e_FJ F).2.2
    · refine Or.inr ?_
      rcases (Bool.or_eq_true _ _).mp (e_all (e_all e_c5 hF) hG) with c2 | c2
      · exact absurd ht.1.symm (of_decide_eq_true c2)
      · have h3 := of_decide_eq_true c2
        have := Nat.mod_lt i hW
        omega
    · exact Or.inl (r1.apart hv' hv ht)
  · obtain ⟨q1, q2, q3, q4⟩ := r5 l j hl hj
    refine ⟨q1, q2, q3, ?_⟩
    rw [← q4]
    exact congrArg e_toO (e_v_ne (Or.inl (r1.apart q1 hv (fun z => (of_decide_eq_true c7.1) z.1.symm))))
  · obtain ⟨q1, q2⟩ := r6 r hr
    refine ⟨q1, fun j hj => ⟨(q2 j hj).1, ?_⟩⟩
    rw [← (q2 j hj).2]
    exact congrArg e_toO (e_v_ne (Or.inl (r1.apart q1 hv (fun z => (of_decide_eq_true c7.2.1) z.1.symm))))
  · have key : ∀ s, e_v (e_set h (p.1 (e_FJ F).1 (i / (e_FJ F).2.2)) ((e_FJ F).2.1 + i % (e_FJ F).2.2) (.long y)) (p.1 T_KNOB k) s = e_v h (p.1 T_KNOB k) s := fun s => e_v_ne (Or.inl (r1.apart hk hv (fun z => (of_decide_eq_true c7.2.2) z.1.symm)))
    rw [key 2, key 3]
    exact r7 k hk
/-- a double is written -/
theorem e_rep.setD (hR : e_rep p I J h) (hv : p.2.1 T_OUTD 0 = true) : e_rep p I J (e_set h (p.1 T_OUTD 0) 0 v) := by
  obtain ⟨r1, r2, r3, r4, r5, r6, r7⟩ := hR
  have key : ∀ t i s, p.2.1 t i = true → t ≠ T_OUTD → e_v (e_set h (p.1 T_OUTD 0) 0 v) (p.1 t i) s = e_v h (p.1 t i) s := fun t i s ht hne => e_v_ne (Or.inl (r1.apart ht hv (fun z => hne z.1)))
  refine ⟨r1, fun F' i' hF' hv' => ?_, fun F' i' hF' hv' => ?_, fun G i' hG hv' => ?_, fun l j hl hj => ?_, fun r hr => ?_, fun k hk => ?_⟩
  · rw [key _ _ _ hv' (of_decide_eq_true (e_all e_c8 hF'))]; exact r2 F' i' hF' hv'
  · rw [key _ _ _ hv' (of_decide_eq_true (e_all e_c9 hF'))]; exact r3 F' i' hF' hv'
  · rw [key _ _ _ hv' (of_decide_eq_true (e_all e_c10 hG))]; exact r4 G i' hG hv'
  · obtain ⟨q1, q2, q3, q4⟩ := r5 l j hl hj
    exact ⟨q1, q2, q3, by rw [key _ _ _ q1 (by decide)]; exact q4⟩
  · obtain ⟨q1, q2⟩ := r6 r hr
    exact ⟨q1, fun j hj => ⟨(q2 j hj).1, by rw [key _ _ _ q1 (by decide)]; exact (q2 j hj).2⟩⟩
  · rw [key _ _ _ hk (by decide), key _ _ _ hk (by decide)]; exact r7 k hk
end e_rps
