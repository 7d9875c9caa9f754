/-! 999999999995: the second implementation is published (printed by wip/whole/p999999999995.py) -/
def s_IMODEL (I : e_I) (x0 x1 x2 x3 x4 x5 x6 x7 x8 x9 x10 x11 x12 x13 : Int32) : e_I := (s_up (s_up (s_up (s_up (s_up (s_up (s_up (s_up (s_up (s_up (s_up (s_up (s_up (s_up I f_m_thrown 0 x0) f_m_tick 0 x1) f_m_pipes 0 x2) f_m_heat 0 x3) f_m_crescendo 0 x4) f_m_guest 0 x5) f_m_level 0 x6) f_m_next 0 x7) f_m_tonic 0 x8) f_m_recording 0 x9) f_m_kindKept 0 x10) f_m_isTutti 0 x11) f_m_isMajor 0 x12) f_m_hasChord 0 x13)
def s_JMODEL (J : e_Jt) (y0 y1 : Int64) : e_Jt := (s_up (s_up J j_m_ended 0 y0) j_m_allBegun 0 y1)
set_option maxRecDepth 100000 in
set_option maxHeartbeats 1000000 in
theorem s_is.pubMODEL {p : e_Sp} {I : e_I} {J : e_Jt} {c : Nat × Nat} {w : e_Rw1} {h : e_Hp} {b : Nat} {f : Nat → Value} {x0 x1 x2 x3 x4 x5 x6 x7 x8 x9 x10 x11 x12 x13 : Int32}  {y0 y1 : Int64} (hs : s_is (p, I, J, c, s_rw w b (20, 0, f)) h) (hnv : p.2.1 T_MODEL 0 = false) (hb : w b = none) (hx_m_thrown : e_toI (f 33) = x0) (hx_m_tick : e_toI (f 34) = x1) (hx_m_pipes : e_toI (f 35) = x2) (hx_m_heat : e_toI (f 36) = x3) (hx_m_crescendo : e_toI (f 37) = x4) (hx_m_guest : e_toI (f 38) = x5) (hx_m_level : e_toI (f 39) = x6) (hx_m_next : e_toI (f 40) = x7) (hx_m_tonic : e_toI (f 41) = x8) (hx_m_recording : e_toI (f 44) = x9) (hx_m_kindKept : e_toI (f 45) = x10) (hx_m_isTutti : e_toI (f 46) = x11) (hx_m_isMajor : e_toI (f 47) = x12) (hx_m_hasChord : e_toI (f 48) = x13) (hy_m_ended : e_toJ (f 42) = y0) (hy_m_allBegun : e_toJ (f 43) = y1) (hg_m_list0 : f 0 = .ref (p.1 T_LIST 2)) (hg_m_list1 : f 1 = .ref (p.1 T_LIST 3)) (hg_m_list2 : f 2 = .ref (p.1 T_LIST 4)) (hg_m_list3 : f 3 = .ref (p.1 T_LIST 5)) (hg_m_list4 : f 4 = .ref (p.1 T_LIST 6)) (hg_m_list5 : f 5 = .ref (p.1 T_LIST 7)) (hg_m_isDown : f 6 = .ref (p.1 T_M_isDown 0)) (hg_m_isHeld : f 7 = .ref (p.1 T_M_isHeld 0)) (hg_m_isWanted : f 8 = .ref (p.1 T_M_isWanted 0)) (hg_m_isCalled : f 9 = .ref (p.1 T_M_isCalled 0)) (hg_m_isOpen : f 10 = .ref (p.1 T_M_isOpen 0)) (hg_m_speaks : f 11 = .ref (p.1 T_M_speaks 0)) (hg_m_wentDown : f 12 = .ref (p.1 T_M_wentDown 0)) (hg_m_counts : f 13 = .ref (p.1 T_M_counts 0)) (hg_m_since : f 14 = .ref (p.1 T_M_since 0)) (hg_m_closedSince : f 15 = .ref (p.1 T_M_closedSince 0)) (hg_m_begun : f 16 = .ref (p.1 T_M_begun 0)) (hg_m_tuning : f 17 = .ref (p.1 T_M_tuning 0)) (hg_m_rankOf : f 18 = .ref (p.1 T_M_rankOf 0)) (hg_m_fault : f 19 = .ref (p.1 T_M_fault 0)) (hg_m_supply : f 20 = .ref (p.1 T_M_supply 0)) (hg_m_box : f 21 = .ref (p.1 T_M_box 0)) (hg_m_temper : f 22 = .ref (p.1 T_M_temper 0)) (hg_m_winds : f 23 = .ref (p.1 T_M_winds 0)) (hg_m_claimed : f 24 = .ref (p.1 T_M_claimed 0)) (hg_m_reversible : f 25 = .ref (p.1 T_M_reversible 0)) (hg_m_operation : f 26 = .ref (p.1 T_M_operation 0)) (hg_m_first : f 27 = .ref (p.1 T_M_first 0)) (hg_m_second : f 28 = .ref (p.1 T_M_second 0)) (hg_m_chord : f 29 = .ref (p.1 T_M_chord 0)) (hg_m_degrees : f 30 = .ref (p.1 T_M_degrees 0)) (hg_m_best : f 31 = .ref (p.1 T_M_best 0)) (hg_m_isRelay : f 32 = .ref (p.1 T_M_isRelay 0)) : s_is (s_pv p T_MODEL 0 b 0, (s_IMODEL I x0 x1 x2 x3 x4 x5 x6 x7 x8 x9 x10 x11 x12 x13), (s_JMODEL J y0 y1), c, w) h := by
  have h0 : ∀ F m, I F m = I F m ∨ (e_FI F = (T_MODEL, (e_FI F).2.1, 1) ∧ m = 0) := fun _ _ => Or.inl rfl
  have hs1 := hs.gI (I' := (s_IMODEL I x0 x1 x2 x3 x4 x5 x6 x7 x8 x9 x10 x11 x12 x13)) (J' := J) (s_gI1 hnv (s_up_or (sl := 48) rfl (s_up_or (sl := 47) rfl (s_up_or (sl := 46) rfl (s_up_or (sl := 45) rfl (s_up_or (sl := 44) rfl (s_up_or (sl := 41) rfl (s_up_or (sl := 40) rfl (s_up_or (sl := 39) rfl (s_up_or (sl := 38) rfl (s_up_or (sl := 37) rfl (s_up_or (sl := 36) rfl (s_up_or (sl := 35) rfl (s_up_or (sl := 34) rfl (s_up_or (sl := 33) rfl h0))))))))))))))) (fun _ _ _ _ => rfl)
  clear h0
  have h0 : ∀ F m, J F m = J F m ∨ (e_FJ F = (T_MODEL, (e_FJ F).2.1, 1) ∧ m = 0) := fun _ _ => Or.inl rfl
  have hs1 := hs1.gI (I' := (s_IMODEL I x0 x1 x2 x3 x4 x5 x6 x7 x8 x9 x10 x11 x12 x13)) (J' := (s_JMODEL J y0 y1)) (fun _ _ _ _ => rfl) (s_gJ1 hnv (s_upJ_or (sl := 43) rfl (s_upJ_or (sl := 42) rfl h0)))
  have hs2 := hs1.pub (t := T_MODEL) (i := 0) (a := b) (n := 0) (ln := 0) (f := f) s_rw_s (by decide) rfl hnv ⟨by decide, by decide, by decide, fun z => absurd z (by decide)⟩
    (s_hol.of (LI := [f_m_thrown, f_m_tick, f_m_pipes, f_m_heat, f_m_crescendo, f_m_guest, f_m_level, f_m_next, f_m_tonic, f_m_recording, f_m_kindKept, f_m_isTutti, f_m_isMajor, f_m_hasChord]) (LJ := [j_m_ended, j_m_allBegun]) (LG := [g_m_list0, g_m_list1, g_m_list2, g_m_list3, g_m_list4, g_m_list5, g_m_isDown, g_m_isHeld, g_m_isWanted, g_m_isCalled, g_m_isOpen, g_m_speaks, g_m_wentDown, g_m_counts, g_m_since, g_m_closedSince, g_m_begun, g_m_tuning, g_m_rankOf, g_m_fault, g_m_supply, g_m_box, g_m_temper, g_m_winds, g_m_claimed, g_m_reversible, g_m_operation, g_m_first, g_m_second, g_m_chord, g_m_degrees, g_m_best, g_m_isRelay]) (by decide +kernel) (by decide +kernel) (by decide +kernel) (fun F hF => by
      rcases List.mem_cons.mp hF with rfl | hF
      · exact s_hI1 (sl := 33) rfl (by rw [hx_m_thrown]; unfold s_IMODEL; repeat (first | rw [s_up_s] | rw [s_up_F (by decide)]))
      rcases List.mem_cons.mp hF with rfl | hF
      · exact s_hI1 (sl := 34) rfl (by rw [hx_m_tick]; unfold s_IMODEL; repeat (first | rw [s_up_s] | rw [s_up_F (by decide)]))
      rcases List.mem_cons.mp hF with rfl | hF
      · exact s_hI1 (sl := 35) rfl (by rw [hx_m_pipes]; unfold s_IMODEL; repeat (first | rw [s_up_s] | rw [s_up_F (by decide)]))
      rcases List.mem_cons.mp hF with rfl | hF
      · exact s_hI1 (sl := 36) rfl (by rw [hx_m_heat]; unfold s_IMODEL; repeat (first | rw [s_up_s] | rw [s_up_F (by decide)]))
      rcases List.mem_cons.mp hF with rfl | hF
      · exact s_hI1 (sl := 37) rfl (by rw [hx_m_crescendo]; unfold s_IMODEL; repeat (first | rw [s_up_s] | rw [s_up_F (by decide)]))
      rcases List.mem_cons.mp hF with rfl | hF
      · exact s_hI1 (sl := 38) rfl (by rw [hx_m_guest]; unfold s_IMODEL; repeat (first | rw [s_up_s] | rw [s_up_F (by decide)]))
      rcases List.mem_cons.mp hF with rfl | hF
      · exact s_hI1 (sl := 39) rfl (by rw [hx_m_level]; unfold s_IMODEL; repeat (first | rw [s_up_s] | rw [s_up_F (by decide)]))
      rcases List.mem_cons.mp hF with rfl | hF
      · exact s_hI1 (sl := 40) rfl (by rw [hx_m_next]; unfold s_IMODEL; repeat (first | rw [s_up_s] | rw [s_up_F (by decide)]))
      rcases List.mem_cons.mp hF with rfl | hF
      · exact s_hI1 (sl := 41) rfl (by rw [hx_m_tonic]; unfold s_IMODEL; repeat (first | rw [s_up_s] | rw [s_up_F (by decide)]))
      rcases List.mem_cons.mp hF with rfl | hF
      · exact s_hI1 (sl := 44) rfl (by rw [hx_m_recording]; unfold s_IMODEL; repeat (first | rw [s_up_s] | rw [s_up_F (by decide)]))
      rcases List.mem_cons.mp hF with rfl | hF
      · exact s_hI1 (sl := 45) rfl (by rw [hx_m_kindKept]; unfold s_IMODEL; repeat (first | rw [s_up_s] | rw [s_up_F (by decide)]))
      rcases List.mem_cons.mp hF with rfl | hF
      · exact s_hI1 (sl := 46) rfl (by rw [hx_m_isTutti]; unfold s_IMODEL; repeat (first | rw [s_up_s] | rw [s_up_F (by decide)]))
      rcases List.mem_cons.mp hF with rfl | hF
      · exact s_hI1 (sl := 47) rfl (by rw [hx_m_isMajor]; unfold s_IMODEL; repeat (first | rw [s_up_s] | rw [s_up_F (by decide)]))
      obtain rfl := List.mem_singleton.mp hF
      exact s_hI1 (sl := 48) rfl (by rw [hx_m_hasChord]; unfold s_IMODEL; repeat (first | rw [s_up_s] | rw [s_up_F (by decide)]))) (fun F hF => by
      rcases List.mem_cons.mp hF with rfl | hF
      · exact s_hJ1 (sl := 42) rfl (by rw [hy_m_ended]; unfold s_JMODEL; repeat (first | rw [s_up_s] | rw [s_up_F (by decide)]))
      obtain rfl := List.mem_singleton.mp hF
      exact s_hJ1 (sl := 43) rfl (by rw [hy_m_allBegun]; unfold s_JMODEL; repeat (first | rw [s_up_s] | rw [s_up_F (by decide)]))) (fun F hF => by
      rcases List.mem_cons.mp hF with rfl | hF
      · show e_toO (f 0) = some ((s_pv p T_MODEL 0 b 0).1 T_LIST 2); rw [hg_m_list0, s_pv_n (fun z => absurd z.1 (by decide))]; rfl
      rcases List.mem_cons.mp hF with rfl | hF
      · show e_toO (f 1) = some ((s_pv p T_MODEL 0 b 0).1 T_LIST 3); rw [hg_m_list1, s_pv_n (fun z => absurd z.1 (by decide))]; rfl
      rcases List.mem_cons.mp hF with rfl | hF
      · show e_toO (f 2) = some ((s_pv p T_MODEL 0 b 0).1 T_LIST 4); rw [hg_m_list2, s_pv_n (fun z => absurd z.1 (by decide))]; rfl
      rcases List.mem_cons.mp hF with rfl | hF
      · show e_toO (f 3) = some ((s_pv p T_MODEL 0 b 0).1 T_LIST 5); rw [hg_m_list3, s_pv_n (fun z => absurd z.1 (by decide))]; rfl
      rcases List.mem_cons.mp hF with rfl | hF
      · show e_toO (f 4) = some ((s_pv p T_MODEL 0 b 0).1 T_LIST 6); rw [hg_m_list4, s_pv_n (fun z => absurd z.1 (by decide))]; rfl
      rcases List.mem_cons.mp hF with rfl | hF
      · show e_toO (f 5) = some ((s_pv p T_MODEL 0 b 0).1 T_LIST 7); rw [hg_m_list5, s_pv_n (fun z => absurd z.1 (by decide))]; rfl
      rcases List.mem_cons.mp hF with rfl | hF
      · show e_toO (f 6) = some ((s_pv p T_MODEL 0 b 0).1 T_M_isDown 0); rw [hg_m_isDown, s_pv_n (fun z => absurd z.1 (by decide))]; rfl
      rcases List.mem_cons.mp hF with rfl | hF
      · show e_toO (f 7) = some ((s_pv p T_MODEL 0 b 0).1 T_M_isHeld 0); rw [hg_m_isHeld, s_pv_n (fun z => absurd z.1 (by decide))]; rfl
      rcases List.mem_cons.mp hF with rfl | hF
      · show e_toO (f 8) = some ((s_pv p T_MODEL 0 b 0).1 T_M_isWanted 0); rw [hg_m_isWanted, s_pv_n (fun z => absurd z.1 (by decide))]; rfl
      rcases List.mem_cons.mp hF with rfl | hF
      · show e_toO (f 9) = some ((s_pv p T_MODEL 0 b 0).1 T_M_isCalled 0); rw [hg_m_isCalled, s_pv_n (fun z => absurd z.1 (by decide))]; rfl
      rcases List.mem_cons.mp hF with rfl | hF
      · show e_toO (f 10) = some ((s_pv p T_MODEL 0 b 0).1 T_M_isOpen 0); rw [hg_m_isOpen, s_pv_n (fun z => absurd z.1 (by decide))]; rfl
      rcases List.mem_cons.mp hF with rfl | hF
      · show e_toO (f 11) = some ((s_pv p T_MODEL 0 b 0).1 T_M_speaks 0); rw [hg_m_speaks, s_pv_n (fun z => absurd z.1 (by decide))]; rfl
      rcases List.mem_cons.mp hF with rfl | hF
      · show e_toO (f 12) = some ((s_pv p T_MODEL 0 b 0).1 T_M_wentDown 0); rw [hg_m_wentDown, s_pv_n (fun z => absurd z.1 (by decide))]; rfl
      rcases List.mem_cons.mp hF with rfl | hF
      · show e_toO (f 13) = some ((s_pv p T_MODEL 0 b 0).1 T_M_counts 0); rw [hg_m_counts, s_pv_n (fun z => absurd z.1 (by decide))]; rfl
      rcases List.mem_cons.mp hF with rfl | hF
      · show e_toO (f 14) = some ((s_pv p T_MODEL 0 b 0).1 T_M_since 0); rw [hg_m_since, s_pv_n (fun z => absurd z.1 (by decide))]; rfl
      rcases List.mem_cons.mp hF with rfl | hF
      · show e_toO (f 15) = some ((s_pv p T_MODEL 0 b 0).1 T_M_closedSince 0); rw [hg_m_closedSince, s_pv_n (fun z => absurd z.1 (by decide))]; rfl
      rcases List.mem_cons.mp hF with rfl | hF
      · show e_toO (f 16) = some ((s_pv p T_MODEL 0 b 0).1 T_M_begun 0); rw [hg_m_begun, s_pv_n (fun z => absurd z.1 (by decide))]; rfl
      rcases List.mem_cons.mp hF with rfl | hF
      · show e_toO (f 17) = some ((s_pv p T_MODEL 0 b 0).1 T_M_tuning 0); rw [hg_m_tuning, s_pv_n (fun z => absurd z.1 (by decide))]; rfl
      rcases List.mem_cons.mp hF with rfl | hF
      · show e_toO (f 18) = some ((s_pv p T_MODEL 0 b 0).1 T_M_rankOf 0); rw [hg_m_rankOf, s_pv_n (fun z => absurd z.1 (by decide))]; rfl
      rcases List.mem_cons.mp hF with rfl | hF
      · show e_toO (f 19) = some ((s_pv p T_MODEL 0 b 0).1 T_M_fault 0); rw [hg_m_fault, s_pv_n (fun z => absurd z.1 (by decide))]; rfl
      rcases List.mem_cons.mp hF with rfl | hF
      · show e_toO (f 20) = some ((s_pv p T_MODEL 0 b 0).1 T_M_supply 0); rw [hg_m_supply, s_pv_n (fun z => absurd z.1 (by decide))]; rfl
      rcases List.mem_cons.mp hF with rfl | hF
      · show e_toO (f 21) = some ((s_pv p T_MODEL 0 b 0).1 T_M_box 0); rw [hg_m_box, s_pv_n (fun z => absurd z.1 (by decide))]; rfl
      rcases List.mem_cons.mp hF with rfl | hF
      · show e_toO (f 22) = some ((s_pv p T_MODEL 0 b 0).1 T_M_temper 0); rw [hg_m_temper, s_pv_n (fun z => absurd z.1 (by decide))]; rfl
      rcases List.mem_cons.mp hF with rfl | hF
      · show e_toO (f 23) = some ((s_pv p T_MODEL 0 b 0).1 T_M_winds 0); rw [hg_m_winds, s_pv_n (fun z => absurd z.1 (by decide))]; rfl
      rcases List.mem_cons.mp hF with rfl | hF
      · show e_toO (f 24) = some ((s_pv p T_MODEL 0 b 0).1 T_M_claimed 0); rw [hg_m_claimed, s_pv_n (fun z => absurd z.1 (by decide))]; rfl
      rcases List.mem_cons.mp hF with rfl | hF
      · show e_toO (f 25) = some ((s_pv p T_MODEL 0 b 0).1 T_M_reversible 0); rw [hg_m_reversible, s_pv_n (fun z => absurd z.1 (by decide))]; rfl
      rcases List.mem_cons.mp hF with rfl | hF
      · show e_toO (f 26) = some ((s_pv p T_MODEL 0 b 0).1 T_M_operation 0); rw [hg_m_operation, s_pv_n (fun z => absurd z.1 (by decide))]; rfl
      rcases List.mem_cons.mp hF with rfl | hF
      · show e_toO (f 27) = some ((s_pv p T_MODEL 0 b 0).1 T_M_first 0); rw [hg_m_first, s_pv_n (fun z => absurd z.1 (by decide))]; rfl
      rcases List.mem_cons.mp hF with rfl | hF
      · show e_toO (f 28) = some ((s_pv p T_MODEL 0 b 0).1 T_M_second 0); rw [hg_m_second, s_pv_n (fun z => absurd z.1 (by decide))]; rfl
      rcases List.mem_cons.mp hF with rfl | hF
      · show e_toO (f 29) = some ((s_pv p T_MODEL 0 b 0).1 T_M_chord 0); rw [hg_m_chord, s_pv_n (fun z => absurd z.1 (by decide))]; rfl
      rcases List.mem_cons.mp hF with rfl | hF
      · show e_toO (f 30) = some ((s_pv p T_MODEL 0 b 0).1 T_M_degrees 0); rw [hg_m_degrees, s_pv_n (fun z => absurd z.1 (by decide))]; rfl
      rcases List.mem_cons.mp hF with rfl | hF
      · show e_toO (f 31) = some ((s_pv p T_MODEL 0 b 0).1 T_M_best 0); rw [hg_m_best, s_pv_n (fun z => absurd z.1 (by decide))]; rfl
      obtain rfl := List.mem_singleton.mp hF
      show e_toO (f 32) = some ((s_pv p T_MODEL 0 b 0).1 T_M_isRelay 0); rw [hg_m_isRelay, s_pv_n (fun z => absurd z.1 (by decide))]; rfl) (fun z => absurd z (by decide)))
    (fun G hG e9 j hj e8 => by
      have := s_mPG hG e9
      rw [show s_PG T_MODEL = [] by decide +kernel] at this
      cases this) (fun z => absurd z (by decide))
  rw [s_rw_un hb] at hs2
  exact hs2

