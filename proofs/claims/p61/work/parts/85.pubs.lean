/-! 85: single things are published (printed by wip/whole/p85.py) -/
theorem s_gJ1 {T : Nat} {p : e_Sp} {J J' : e_Jt} {j : Nat} (hv : p.2.1 T j = false) (h : ∀ F m, J' F m = J F m ∨ (e_FJ F = (T, (e_FJ F).2.1, 1) ∧ m = j)) : ∀ F m, F < e_NJ → p.2.1 (e_FJ F).1 (m / (e_FJ F).2.2) = true → J' F m = J F m := fun F m _ h1 => by
  rcases h F m with e | ⟨e1, rfl⟩
  · exact e
  · rw [e1] at h1
    have h1 : p.2.1 T (m / 1) = true := h1
    rw [Nat.div_one, hv] at h1
    cases h1
theorem s_upJ_or {I I0 : e_Jt} {F j T sl : Nat} {x : Int64} (hF : e_FJ F = (T, sl, 1)) (h : ∀ F m, I F m = I0 F m ∨ (e_FJ F = (T, (e_FJ F).2.1, 1) ∧ m = j)) : ∀ F' m, s_up I F j x F' m = I0 F' m ∨ (e_FJ F' = (T, (e_FJ F').2.1, 1) ∧ m = j) := fun F' m => by
  by_cases e : F' = F ∧ m = j
  · obtain ⟨rfl, rfl⟩ := e
    exact Or.inr ⟨by rw [hF], rfl⟩
  · rw [show s_up I F j x F' m = I F' m from if_neg e]
    exact h F' m
def s_IKEYS (I : e_I) (x0 : Int32) : e_I := (s_up I f_lastPressedAt 0 x0)
def s_JKEYS (J : e_Jt)  : e_Jt := J
set_option maxRecDepth 100000 in
set_option maxHeartbeats 1000000 in
theorem s_is.pubKEYS {p : e_Sp} {I : e_I} {J : e_Jt} {c : Nat × Nat} {w : e_Rw1} {h : e_Hp} {b : Nat} {f : Nat → Value} {x0 : Int32}  (hs : s_is (p, I, J, c, s_rw w b (7, 0, f)) h) (hnv : p.2.1 T_KEYS 0 = false) (hb : w b = none) (hx_lastPressedAt : e_toI (f 4) = x0) (hg_y_pressed : f 0 = .ref (p.1 T_A_pressed 0)) (hg_y_pressedAt : f 1 = .ref (p.1 T_A_pressedAt 0)) (hg_y_lowest : f 2 = .ref (p.1 T_A_lowest 0)) (hg_y_highest : f 3 = .ref (p.1 T_A_highest 0)) (hp_HALL : ∀ j, p.2.1 T_HALL j = false) (hp_WORKS : ∀ j, p.2.1 T_WORKS j = false) : s_is (s_pv p T_KEYS 0 b 0, (s_IKEYS I x0), (s_JKEYS J ), c, w) h := by
  have h0 : ∀ F m, I F m = I F m ∨ (e_FI F = (T_KEYS, (e_FI F).2.1, 1) ∧ m = 0) := fun _ _ => Or.inl rfl
  have hs1 := hs.gI (I' := (s_IKEYS I x0)) (J' := J) (s_gI1 hnv (s_up_or (sl := 4) rfl h0)) (fun _ _ _ _ => rfl)
  have hs1 := hs1.gI (I' := (s_IKEYS I x0)) (J' := (s_JKEYS J )) (fun _ _ _ _ => rfl) (fun _ _ _ _ => rfl)
  have hs2 := hs1.pub (t := T_KEYS) (i := 0) (a := b) (n := 0) (ln := 0) (f := f) s_rw_s (by decide) rfl hnv ⟨by decide, by decide, by decide, fun z => absurd z (by decide)⟩
    (s_hol.of (LI := [f_lastPressedAt]) (LJ := []) (LG := [g_y_pressed, g_y_pressedAt, g_y_lowest, g_y_highest]) (by decide +kernel) (by decide +kernel) (by decide +kernel) (fun F hF => by
      obtain rfl := List.mem_singleton.mp hF
      exact s_hI1 (sl := 4) rfl (by rw [hx_lastPressedAt]; unfold s_IKEYS; repeat (first | rw [s_up_s] | rw [s_up_F (by decide)]))) (fun F hF => nomatch hF) (fun F hF => by
      rcases List.mem_cons.mp hF with rfl | hF
      · show e_toO (f 0) = some ((s_pv p T_KEYS 0 b 0).1 T_A_pressed 0); rw [hg_y_pressed, s_pv_n (fun z => absurd z.1 (by decide))]; rfl
      rcases List.mem_cons.mp hF with rfl | hF
      · show e_toO (f 1) = some ((s_pv p T_KEYS 0 b 0).1 T_A_pressedAt 0); rw [hg_y_pressedAt, s_pv_n (fun z => absurd z.1 (by decide))]; rfl
      rcases List.mem_cons.mp hF with rfl | hF
      · show e_toO (f 2) = some ((s_pv p T_KEYS 0 b 0).1 T_A_lowest 0); rw [hg_y_lowest, s_pv_n (fun z => absurd z.1 (by decide))]; rfl
      obtain rfl := List.mem_singleton.mp hF
      show e_toO (f 3) = some ((s_pv p T_KEYS 0 b 0).1 T_A_highest 0); rw [hg_y_highest, s_pv_n (fun z => absurd z.1 (by decide))]; rfl) (fun z => absurd z (by decide)))
    (fun G hG e9 j hj e8 => by
      have := s_mPG hG e9
      rw [show s_PG T_KEYS = [g_h_KEYS, g_w_KEYS] by decide +kernel] at this
      rcases List.mem_cons.mp this with rfl | this
      · exfalso; exact (by have hj : p.2.1 T_HALL j = true := hj; rw [hp_HALL] at hj; cases hj)
      obtain rfl := List.mem_singleton.mp this
      exfalso; exact (by have hj : p.2.1 T_WORKS j = true := hj; rw [hp_WORKS] at hj; cases hj)) (fun z => absurd z (by decide))
  rw [s_rw_un hb] at hs2
  exact hs2
def s_ICONS (I : e_I) (x0 x1 : Int32) : e_I := (s_up (s_up I f_isTutti 0 x0) f_crescendo 0 x1)
def s_JCONS (J : e_Jt)  : e_Jt := J
set_option maxRecDepth 100000 in
set_option maxHeartbeats 1000000 in
theorem s_is.pubCONS {p : e_Sp} {I : e_I} {J : e_Jt} {c : Nat × Nat} {w : e_Rw1} {h : e_Hp} {b : Nat} {f : Nat → Value} {x0 x1 : Int32}  (hs : s_is (p, I, J, c, s_rw w b (4, 0, f)) h) (hnv : p.2.1 T_CONS 0 = false) (hb : w b = none) (hx_isTutti : e_toI (f 1) = x0) (hx_crescendo : e_toI (f 2) = x1) (hg_n_operations : f 3 = .ref (p.1 T_A_operations 0)) (hg_n_sources : f 4 = .ref (p.1 T_A_sources 0)) (hg_n_others : f 5 = .ref (p.1 T_A_others 0)) (hg_n_relaysOn : f 6 = .ref (p.1 T_A_relaysOn 0)) (hg_n_knobs : f 0 = .ref (p.1 T_LIST 1)) (hp_HALL : ∀ j, p.2.1 T_HALL j = false) (hp_WORKS : ∀ j, p.2.1 T_WORKS j = false) : s_is (s_pv p T_CONS 0 b 0, (s_ICONS I x0 x1), (s_JCONS J ), c, w) h := by
  have h0 : ∀ F m, I F m = I F m ∨ (e_FI F = (T_CONS, (e_FI F).2.1, 1) ∧ m = 0) := fun _ _ => Or.inl rfl
  have hs1 := hs.gI (I' := (s_ICONS I x0 x1)) (J' := J) (s_gI1 hnv (s_up_or (sl := 2) rfl (s_up_or (sl := 1) rfl h0))) (fun _ _ _ _ => rfl)
  have hs1 := hs1.gI (I' := (s_ICONS I x0 x1)) (J' := (s_JCONS J )) (fun _ _ _ _ => rfl) (fun _ _ _ _ => rfl)
  have hs2 := hs1.pub (t := T_CONS) (i := 0) (a := b) (n := 0) (ln := 0) (f := f) s_rw_s (by decide) rfl hnv ⟨by decide, by decide, by decide, fun z => absurd z (by decide)⟩
    (s_hol.of (LI := [f_isTutti, f_crescendo]) (LJ := []) (LG := [g_n_operations, g_n_sources, g_n_others, g_n_relaysOn, g_n_knobs]) (by decide +kernel) (by decide +kernel) (by decide +kernel) (fun F hF => by
      rcases List.mem_cons.mp hF with rfl | hF
      · exact s_hI1 (sl := 1) rfl (by rw [hx_isTutti]; unfold s_ICONS; repeat (first | rw [s_up_s] | rw [s_up_F (by decide)]))
      obtain rfl := List.mem_singleton.mp hF
      exact s_hI1 (sl := 2) rfl (by rw [hx_crescendo]; unfold s_ICONS; repeat (first | rw [s_up_s] | rw [s_up_F (by decide)]))) (fun F hF => nomatch hF) (fun F hF => by
      rcases List.mem_cons.mp hF with rfl | hF
      · show e_toO (f 3) = some ((s_pv p T_CONS 0 b 0).1 T_A_operations 0); rw [hg_n_operations, s_pv_n (fun z => absurd z.1 (by decide))]; rfl
      rcases List.mem_cons.mp hF with rfl | hF
      · show e_toO (f 4) = some ((s_pv p T_CONS 0 b 0).1 T_A_sources 0); rw [hg_n_sources, s_pv_n (fun z => absurd z.1 (by decide))]; rfl
      rcases List.mem_cons.mp hF with rfl | hF
      · show e_toO (f 5) = some ((s_pv p T_CONS 0 b 0).1 T_A_others 0); rw [hg_n_others, s_pv_n (fun z => absurd z.1 (by decide))]; rfl
      rcases List.mem_cons.mp hF with rfl | hF
      · show e_toO (f 6) = some ((s_pv p T_CONS 0 b 0).1 T_A_relaysOn 0); rw [hg_n_relaysOn, s_pv_n (fun z => absurd z.1 (by decide))]; rfl
      obtain rfl := List.mem_singleton.mp hF
      show e_toO (f 0) = some ((s_pv p T_CONS 0 b 0).1 T_LIST 1); rw [hg_n_knobs, s_pv_n (fun z => absurd z.1 (by decide))]; rfl) (fun z => absurd z (by decide)))
    (fun G hG e9 j hj e8 => by
      have := s_mPG hG e9
      rw [show s_PG T_CONS = [g_h_CONS, g_w_CONS] by decide +kernel] at this
      rcases List.mem_cons.mp this with rfl | this
      · exfalso; exact (by have hj : p.2.1 T_HALL j = true := hj; rw [hp_HALL] at hj; cases hj)
      obtain rfl := List.mem_singleton.mp this
      exfalso; exact (by have hj : p.2.1 T_WORKS j = true := hj; rw [hp_WORKS] at hj; cases hj)) (fun z => absurd z (by decide))
  rw [s_rw_un hb] at hs2
  exact hs2
def s_ITAPE (I : e_I) (x0 x1 x2 x3 : Int32) : e_I := (s_up (s_up (s_up (s_up I f_recording 0 x0) f_tkind 0 x1) f_tsize 0 x2) f_startedAt 0 x3)
def s_JTAPE (J : e_Jt)  : e_Jt := J
set_option maxRecDepth 100000 in
set_option maxHeartbeats 1000000 in
theorem s_is.pubTAPE {p : e_Sp} {I : e_I} {J : e_Jt} {c : Nat × Nat} {w : e_Rw1} {h : e_Hp} {b : Nat} {f : Nat → Value} {x0 x1 x2 x3 : Int32}  (hs : s_is (p, I, J, c, s_rw w b (13, 0, f)) h) (hnv : p.2.1 T_TAPE 0 = false) (hb : w b = none) (hx_recording : e_toI (f 0) = x0) (hx_tkind : e_toI (f 1) = x1) (hx_tsize : e_toI (f 2) = x2) (hx_startedAt : e_toI (f 3) = x3) (hg_t_entries : f 4 = .ref (p.1 T_ENTR 0)) (hp_HALL : ∀ j, p.2.1 T_HALL j = false) (hp_WORKS : ∀ j, p.2.1 T_WORKS j = false) : s_is (s_pv p T_TAPE 0 b 0, (s_ITAPE I x0 x1 x2 x3), (s_JTAPE J ), c, w) h := by
  have h0 : ∀ F m, I F m = I F m ∨ (e_FI F = (T_TAPE, (e_FI F).2.1, 1) ∧ m = 0) := fun _ _ => Or.inl rfl
  have hs1 := hs.gI (I' := (s_ITAPE I x0 x1 x2 x3)) (J' := J) (s_gI1 hnv (s_up_or (sl := 3) rfl (s_up_or (sl := 2) rfl (s_up_or (sl := 1) rfl (s_up_or (sl := 0) rfl h0))))) (fun _ _ _ _ => rfl)
  have hs1 := hs1.gI (I' := (s_ITAPE I x0 x1 x2 x3)) (J' := (s_JTAPE J )) (fun _ _ _ _ => rfl) (fun _ _ _ _ => rfl)
  have hs2 := hs1.pub (t := T_TAPE) (i := 0) (a := b) (n := 0) (ln := 0) (f := f) s_rw_s (by decide) rfl hnv ⟨by decide, by decide, by decide, fun z => absurd z (by decide)⟩
    (s_hol.of (LI := [f_recording, f_tkind, f_tsize, f_startedAt]) (LJ := []) (LG := [g_t_entries]) (by decide +kernel) (by decide +kernel) (by decide +kernel) (fun F hF => by
      rcases List.mem_cons.mp hF with rfl | hF
      · exact s_hI1 (sl := 0) rfl (by rw [hx_recording]; unfold s_ITAPE; repeat (first | rw [s_up_s] | rw [s_up_F (by decide)]))
      rcases List.mem_cons.mp hF with rfl | hF
      · exact s_hI1 (sl := 1) rfl (by rw [hx_tkind]; unfold s_ITAPE; repeat (first | rw [s_up_s] | rw [s_up_F (by decide)]))
      rcases List.mem_cons.mp hF with rfl | hF
      · exact s_hI1 (sl := 2) rfl (by rw [hx_tsize]; unfold s_ITAPE; repeat (first | rw [s_up_s] | rw [s_up_F (by decide)]))
      obtain rfl := List.mem_singleton.mp hF
      exact s_hI1 (sl := 3) rfl (by rw [hx_startedAt]; unfold s_ITAPE; repeat (first | rw [s_up_s] | rw [s_up_F (by decide)]))) (fun F hF => nomatch hF) (fun F hF => by
      obtain rfl := List.mem_singleton.mp hF
      show e_toO (f 4) = some ((s_pv p T_TAPE 0 b 0).1 T_ENTR 0); rw [hg_t_entries, s_pv_n (fun z => absurd z.1 (by decide))]; rfl) (fun z => absurd z (by decide)))
    (fun G hG e9 j hj e8 => by
      have := s_mPG hG e9
      rw [show s_PG T_TAPE = [g_h_TAPE, g_w_TAPE] by decide +kernel] at this
      rcases List.mem_cons.mp this with rfl | this
      · exfalso; exact (by have hj : p.2.1 T_HALL j = true := hj; rw [hp_HALL] at hj; cases hj)
      obtain rfl := List.mem_singleton.mp this
      exfalso; exact (by have hj : p.2.1 T_WORKS j = true := hj; rw [hp_WORKS] at hj; cases hj)) (fun z => absurd z (by decide))
  rw [s_rw_un hb] at hs2
  exact hs2
def s_IMEM (I : e_I) (x0 x1 x2 : Int32) : e_I := (s_up (s_up (s_up I f_guest 0 x0) f_level 0 x1) f_next 0 x2)
def s_JMEM (J : e_Jt)  : e_Jt := J
set_option maxRecDepth 100000 in
set_option maxHeartbeats 1000000 in
theorem s_is.pubMEM {p : e_Sp} {I : e_I} {J : e_Jt} {c : Nat × Nat} {w : e_Rw1} {h : e_Hp} {b : Nat} {f : Nat → Value} {x0 x1 x2 : Int32}  (hs : s_is (p, I, J, c, s_rw w b (9, 0, f)) h) (hnv : p.2.1 T_MEM 0 = false) (hb : w b = none) (hx_guest : e_toI (f 0) = x0) (hx_level : e_toI (f 1) = x1) (hx_next : e_toI (f 2) = x2) (hg_e_isSet : f 3 = .ref (p.1 T_A_isSet 0)) (hg_e_kept : f 4 = .ref (p.1 T_A_kept 0)) (hg_e_drawn : f 5 = .ref (p.1 T_A_drawn 0)) (hg_e_reversibles : f 6 = .ref (p.1 T_A_reversibles 0)) (hg_e_owners : f 7 = .ref (p.1 T_A_owners 0)) (hg_e_frameCounts : f 8 = .ref (p.1 T_A_frameCounts 0)) (hg_e_frameKept : f 9 = .ref (p.1 T_A_frameKept 0)) (hg_e_frameDrawn : f 10 = .ref (p.1 T_A_frameDrawn 0)) (hp_HALL : ∀ j, p.2.1 T_HALL j = false) : s_is (s_pv p T_MEM 0 b 0, (s_IMEM I x0 x1 x2), (s_JMEM J ), c, w) h := by
  have h0 : ∀ F m, I F m = I F m ∨ (e_FI F = (T_MEM, (e_FI F).2.1, 1) ∧ m = 0) := fun _ _ => Or.inl rfl
  have hs1 := hs.gI (I' := (s_IMEM I x0 x1 x2)) (J' := J) (s_gI1 hnv (s_up_or (sl := 2) rfl (s_up_or (sl := 1) rfl (s_up_or (sl := 0) rfl h0)))) (fun _ _ _ _ => rfl)
  have hs1 := hs1.gI (I' := (s_IMEM I x0 x1 x2)) (J' := (s_JMEM J )) (fun _ _ _ _ => rfl) (fun _ _ _ _ => rfl)
  have hs2 := hs1.pub (t := T_MEM) (i := 0) (a := b) (n := 0) (ln := 0) (f := f) s_rw_s (by decide) rfl hnv ⟨by decide, by decide, by decide, fun z => absurd z (by decide)⟩
    (s_hol.of (LI := [f_guest, f_level, f_next]) (LJ := []) (LG := [g_e_isSet, g_e_kept, g_e_drawn, g_e_reversibles, g_e_owners, g_e_frameCounts, g_e_frameKept, g_e_frameDrawn]) (by decide +kernel) (by decide +kernel) (by decide +kernel) (fun F hF => by
      rcases List.mem_cons.mp hF with rfl | hF
      · exact s_hI1 (sl := 0) rfl (by rw [hx_guest]; unfold s_IMEM; repeat (first | rw [s_up_s] | rw [s_up_F (by decide)]))
      rcases List.mem_cons.mp hF with rfl | hF
      · exact s_hI1 (sl := 1) rfl (by rw [hx_level]; unfold s_IMEM; repeat (first | rw [s_up_s] | rw [s_up_F (by decide)]))
      obtain rfl := List.mem_singleton.mp hF
      exact s_hI1 (sl := 2) rfl (by rw [hx_next]; unfold s_IMEM; repeat (first | rw [s_up_s] | rw [s_up_F (by decide)]))) (fun F hF => nomatch hF) (fun F hF => by
      rcases List.mem_cons.mp hF with rfl | hF
      · show e_toO (f 3) = some ((s_pv p T_MEM 0 b 0).1 T_A_isSet 0); rw [hg_e_isSet, s_pv_n (fun z => absurd z.1 (by decide))]; rfl
      rcases List.mem_cons.mp hF with rfl | hF
      · show e_toO (f 4) = some ((s_pv p T_MEM 0 b 0).1 T_A_kept 0); rw [hg_e_kept, s_pv_n (fun z => absurd z.1 (by decide))]; rfl
      rcases List.mem_cons.mp hF with rfl | hF
      · show e_toO (f 5) = some ((s_pv p T_MEM 0 b 0).1 T_A_drawn 0); rw [hg_e_drawn, s_pv_n (fun z => absurd z.1 (by decide))]; rfl
      rcases List.mem_cons.mp hF with rfl | hF
      · show e_toO (f 6) = some ((s_pv p T_MEM 0 b 0).1 T_A_reversibles 0); rw [hg_e_reversibles, s_pv_n (fun z => absurd z.1 (by decide))]; rfl
      rcases List.mem_cons.mp hF with rfl | hF
      · show e_toO (f 7) = some ((s_pv p T_MEM 0 b 0).1 T_A_owners 0); rw [hg_e_owners, s_pv_n (fun z => absurd z.1 (by decide))]; rfl
      rcases List.mem_cons.mp hF with rfl | hF
      · show e_toO (f 8) = some ((s_pv p T_MEM 0 b 0).1 T_A_frameCounts 0); rw [hg_e_frameCounts, s_pv_n (fun z => absurd z.1 (by decide))]; rfl
      rcases List.mem_cons.mp hF with rfl | hF
      · show e_toO (f 9) = some ((s_pv p T_MEM 0 b 0).1 T_A_frameKept 0); rw [hg_e_frameKept, s_pv_n (fun z => absurd z.1 (by decide))]; rfl
      obtain rfl := List.mem_singleton.mp hF
      show e_toO (f 10) = some ((s_pv p T_MEM 0 b 0).1 T_A_frameDrawn 0); rw [hg_e_frameDrawn, s_pv_n (fun z => absurd z.1 (by decide))]; rfl) (fun z => absurd z (by decide)))
    (fun G hG e9 j hj e8 => by
      have := s_mPG hG e9
      rw [show s_PG T_MEM = [g_h_MEM] by decide +kernel] at this
      obtain rfl := List.mem_singleton.mp this
      exfalso; exact (by have hj : p.2.1 T_HALL j = true := hj; rw [hp_HALL] at hj; cases hj)) (fun z => absurd z (by decide))
  rw [s_rw_un hb] at hs2
  exact hs2
def s_ICONT (I : e_I) (x0 x1 x2 x3 x4 : Int32) : e_I := (s_up (s_up (s_up (s_up (s_up I f_tonic 0 x0) f_isMajor 0 x1) f_hasChord 0 x2) f_bestBad 0 x3) f_bestWay 0 x4)
def s_JCONT (J : e_Jt)  : e_Jt := J
set_option maxRecDepth 100000 in
set_option maxHeartbeats 1000000 in
theorem s_is.pubCONT {p : e_Sp} {I : e_I} {J : e_Jt} {c : Nat × Nat} {w : e_Rw1} {h : e_Hp} {b : Nat} {f : Nat → Value} {x0 x1 x2 x3 x4 : Int32}  (hs : s_is (p, I, J, c, s_rw w b (5, 0, f)) h) (hnv : p.2.1 T_CONT 0 = false) (hb : w b = none) (hx_tonic : e_toI (f 0) = x0) (hx_isMajor : e_toI (f 1) = x1) (hx_hasChord : e_toI (f 2) = x2) (hx_bestBad : e_toI (f 6) = x3) (hx_bestWay : e_toI (f 7) = x4) (hg_o_chord : f 3 = .ref (p.1 T_A_chord 0)) (hg_o_trial : f 4 = .ref (p.1 T_A_trial 0)) (hg_o_best : f 5 = .ref (p.1 T_A_best 0)) (hp_HALL : ∀ j, p.2.1 T_HALL j = false) : s_is (s_pv p T_CONT 0 b 0, (s_ICONT I x0 x1 x2 x3 x4), (s_JCONT J ), c, w) h := by
  have h0 : ∀ F m, I F m = I F m ∨ (e_FI F = (T_CONT, (e_FI F).2.1, 1) ∧ m = 0) := fun _ _ => Or.inl rfl
  have hs1 := hs.gI (I' := (s_ICONT I x0 x1 x2 x3 x4)) (J' := J) (s_gI1 hnv (s_up_or (sl := 7) rfl (s_up_or (sl := 6) rfl (s_up_or (sl := 2) rfl (s_up_or (sl := 1) rfl (s_up_or (sl := 0) rfl h0)))))) (fun _ _ _ _ => rfl)
  have hs1 := hs1.gI (I' := (s_ICONT I x0 x1 x2 x3 x4)) (J' := (s_JCONT J )) (fun _ _ _ _ => rfl) (fun _ _ _ _ => rfl)
  have hs2 := hs1.pub (t := T_CONT) (i := 0) (a := b) (n := 0) (ln := 0) (f := f) s_rw_s (by decide) rfl hnv ⟨by decide, by decide, by decide, fun z => absurd z (by decide)⟩
    (s_hol.of (LI := [f_tonic, f_isMajor, f_hasChord, f_bestBad, f_bestWay]) (LJ := []) (LG := [g_o_chord, g_o_trial, g_o_best]) (by decide +kernel) (by decide +kernel) (by decide +kernel) (fun F hF => by
      rcases List.mem_cons.mp hF with rfl | hF
      · exact s_hI1 (sl := 0) rfl (by rw [hx_tonic]; unfold s_ICONT; repeat (first | rw [s_up_s] | rw [s_up_F (by decide)]))
      rcases List.mem_cons.mp hF with rfl | hF
      · exact s_hI1 (sl := 1) rfl (by rw [hx_isMajor]; unfold s_ICONT; repeat (first | rw [s_up_s] | rw [s_up_F (by decide)]))
      rcases List.mem_cons.mp hF with rfl | hF
      · exact s_hI1 (sl := 2) rfl (by rw [hx_hasChord]; unfold s_ICONT; repeat (first | rw [s_up_s] | rw [s_up_F (by decide)]))
      rcases List.mem_cons.mp hF with rfl | hF
      · exact s_hI1 (sl := 6) rfl (by rw [hx_bestBad]; unfold s_ICONT; repeat (first | rw [s_up_s] | rw [s_up_F (by decide)]))
      obtain rfl := List.mem_singleton.mp hF
      exact s_hI1 (sl := 7) rfl (by rw [hx_bestWay]; unfold s_ICONT; repeat (first | rw [s_up_s] | rw [s_up_F (by decide)]))) (fun F hF => nomatch hF) (fun F hF => by
      rcases List.mem_cons.mp hF with rfl | hF
      · show e_toO (f 3) = some ((s_pv p T_CONT 0 b 0).1 T_A_chord 0); rw [hg_o_chord, s_pv_n (fun z => absurd z.1 (by decide))]; rfl
      rcases List.mem_cons.mp hF with rfl | hF
      · show e_toO (f 4) = some ((s_pv p T_CONT 0 b 0).1 T_A_trial 0); rw [hg_o_trial, s_pv_n (fun z => absurd z.1 (by decide))]; rfl
      obtain rfl := List.mem_singleton.mp hF
      show e_toO (f 5) = some ((s_pv p T_CONT 0 b 0).1 T_A_best 0); rw [hg_o_best, s_pv_n (fun z => absurd z.1 (by decide))]; rfl) (fun z => absurd z (by decide)))
    (fun G hG e9 j hj e8 => by
      have := s_mPG hG e9
      rw [show s_PG T_CONT = [g_h_CONT] by decide +kernel] at this
      obtain rfl := List.mem_singleton.mp this
      exfalso; exact (by have hj : p.2.1 T_HALL j = true := hj; rw [hp_HALL] at hj; cases hj)) (fun z => absurd z (by decide))
  rw [s_rw_un hb] at hs2
  exact hs2
def s_IWORKS (I : e_I) (x0 x1 x2 x3 x4 : Int32) : e_I := (s_up (s_up (s_up (s_up (s_up I f_now 0 x0) f_speakers 0 x1) f_allBegins 0 x2) f_heat 0 x3) f_isWaiting 0 x4)
def s_JWORKS (J : e_Jt) (y0 : Int64) : e_Jt := (s_up J j_allEnds 0 y0)
set_option maxRecDepth 100000 in
set_option maxHeartbeats 1000000 in
theorem s_is.pubWORKS {p : e_Sp} {I : e_I} {J : e_Jt} {c : Nat × Nat} {w : e_Rw1} {h : e_Hp} {b : Nat} {f : Nat → Value} {x0 x1 x2 x3 x4 : Int32}  {y0 : Int64} (hs : s_is (p, I, J, c, s_rw w b (14, 0, f)) h) (hnv : p.2.1 T_WORKS 0 = false) (hb : w b = none) (hx_now : e_toI (f 4) = x0) (hx_speakers : e_toI (f 5) = x1) (hx_allBegins : e_toI (f 6) = x2) (hx_heat : e_toI (f 8) = x3) (hx_isWaiting : e_toI (f 15) = x4) (hy_allEnds : e_toJ (f 7) = y0) (hg_w_KEYS : f 0 = .ref (p.1 T_KEYS 0)) (hg_w_CONS : f 1 = .ref (p.1 T_CONS 0)) (hg_w_TAPE : f 2 = .ref (p.1 T_TAPE 0)) (hg_w_supplies : f 9 = .ref (p.1 T_A_supplies 0)) (hg_w_winds : f 10 = .ref (p.1 T_A_winds 0)) (hg_w_openings : f 11 = .ref (p.1 T_A_openings 0)) (hg_w_temperings : f 12 = .ref (p.1 T_A_temperings 0)) (hg_w_uses : f 13 = .ref (p.1 T_A_uses 0)) (hg_w_ways : f 14 = .ref (p.1 T_A_ways 0)) (hg_w_ranks : f 3 = .ref (p.1 T_LIST 0)) (hp_HALL : ∀ j, p.2.1 T_HALL j = false) : s_is (s_pv p T_WORKS 0 b 0, (s_IWORKS I x0 x1 x2 x3 x4), (s_JWORKS J y0), c, w) h := by
  have h0 : ∀ F m, I F m = I F m ∨ (e_FI F = (T_WORKS, (e_FI F).2.1, 1) ∧ m = 0) := fun _ _ => Or.inl rfl
  have hs1 := hs.gI (I' := (s_IWORKS I x0 x1 x2 x3 x4)) (J' := J) (s_gI1 hnv (s_up_or (sl := 15) rfl (s_up_or (sl := 8) rfl (s_up_or (sl := 6) rfl (s_up_or (sl := 5) rfl (s_up_or (sl := 4) rfl h0)))))) (fun _ _ _ _ => rfl)
  clear h0
  have h0 : ∀ F m, J F m = J F m ∨ (e_FJ F = (T_WORKS, (e_FJ F).2.1, 1) ∧ m = 0) := fun _ _ => Or.inl rfl
  have hs1 := hs1.gI (I' := (s_IWORKS I x0 x1 x2 x3 x4)) (J' := (s_JWORKS J y0)) (fun _ _ _ _ => rfl) (s_gJ1 hnv (s_upJ_or (sl := 7) rfl h0))
  have hs2 := hs1.pub (t := T_WORKS) (i := 0) (a := b) (n := 0) (ln := 0) (f := f) s_rw_s (by decide) rfl hnv ⟨by decide, by decide, by decide, fun z => absurd z (by decide)⟩
    (s_hol.of (LI := [f_now, f_speakers, f_allBegins, f_heat, f_isWaiting]) (LJ := [j_allEnds]) (LG := [g_w_KEYS, g_w_CONS, g_w_TAPE, g_w_supplies, g_w_winds, g_w_openings, g_w_temperings, g_w_uses, g_w_ways, g_w_ranks]) (by decide +kernel) (by decide +kernel) (by decide +kernel) (fun F hF => by
      rcases List.mem_cons.mp hF with rfl | hF
      · exact s_hI1 (sl := 4) rfl (by rw [hx_now]; unfold s_IWORKS; repeat (first | rw [s_up_s] | rw [s_up_F (by decide)]))
      rcases List.mem_cons.mp hF with rfl | hF
      · exact s_hI1 (sl := 5) rfl (by rw [hx_speakers]; unfold s_IWORKS; repeat (first | rw [s_up_s] | rw [s_up_F (by decide)]))
      rcases List.mem_cons.mp hF with rfl | hF
      · exact s_hI1 (sl := 6) rfl (by rw [hx_allBegins]; unfold s_IWORKS; repeat (first | rw [s_up_s] | rw [s_up_F (by decide)]))
      rcases List.mem_cons.mp hF with rfl | hF
      · exact s_hI1 (sl := 8) rfl (by rw [hx_heat]; unfold s_IWORKS; repeat (first | rw [s_up_s] | rw [s_up_F (by decide)]))
      obtain rfl := List.mem_singleton.mp hF
      exact s_hI1 (sl := 15) rfl (by rw [hx_isWaiting]; unfold s_IWORKS; repeat (first | rw [s_up_s] | rw [s_up_F (by decide)]))) (fun F hF => by
      obtain rfl := List.mem_singleton.mp hF
      exact s_hJ1 (sl := 7) rfl (by rw [hy_allEnds]; unfold s_JWORKS; repeat (first | rw [s_up_s] | rw [s_up_F (by decide)]))) (fun F hF => by
      rcases List.mem_cons.mp hF with rfl | hF
      · show e_toO (f 0) = some ((s_pv p T_WORKS 0 b 0).1 T_KEYS 0); rw [hg_w_KEYS, s_pv_n (fun z => absurd z.1 (by decide))]; rfl
      rcases List.mem_cons.mp hF with rfl | hF
      · show e_toO (f 1) = some ((s_pv p T_WORKS 0 b 0).1 T_CONS 0); rw [hg_w_CONS, s_pv_n (fun z => absurd z.1 (by decide))]; rfl
      rcases List.mem_cons.mp hF with rfl | hF
      · show e_toO (f 2) = some ((s_pv p T_WORKS 0 b 0).1 T_TAPE 0); rw [hg_w_TAPE, s_pv_n (fun z => absurd z.1 (by decide))]; rfl
      rcases List.mem_cons.mp hF with rfl | hF
      · show e_toO (f 9) = some ((s_pv p T_WORKS 0 b 0).1 T_A_supplies 0); rw [hg_w_supplies, s_pv_n (fun z => absurd z.1 (by decide))]; rfl
      rcases List.mem_cons.mp hF with rfl | hF
      · show e_toO (f 10) = some ((s_pv p T_WORKS 0 b 0).1 T_A_winds 0); rw [hg_w_winds, s_pv_n (fun z => absurd z.1 (by decide))]; rfl
      rcases List.mem_cons.mp hF with rfl | hF
      · show e_toO (f 11) = some ((s_pv p T_WORKS 0 b 0).1 T_A_openings 0); rw [hg_w_openings, s_pv_n (fun z => absurd z.1 (by decide))]; rfl
      rcases List.mem_cons.mp hF with rfl | hF
      · show e_toO (f 12) = some ((s_pv p T_WORKS 0 b 0).1 T_A_temperings 0); rw [hg_w_temperings, s_pv_n (fun z => absurd z.1 (by decide))]; rfl
      rcases List.mem_cons.mp hF with rfl | hF
      · show e_toO (f 13) = some ((s_pv p T_WORKS 0 b 0).1 T_A_uses 0); rw [hg_w_uses, s_pv_n (fun z => absurd z.1 (by decide))]; rfl
      rcases List.mem_cons.mp hF with rfl | hF
      · show e_toO (f 14) = some ((s_pv p T_WORKS 0 b 0).1 T_A_ways 0); rw [hg_w_ways, s_pv_n (fun z => absurd z.1 (by decide))]; rfl
      obtain rfl := List.mem_singleton.mp hF
      show e_toO (f 3) = some ((s_pv p T_WORKS 0 b 0).1 T_LIST 0); rw [hg_w_ranks, s_pv_n (fun z => absurd z.1 (by decide))]; rfl) (fun z => absurd z (by decide)))
    (fun G hG e9 j hj e8 => by
      have := s_mPG hG e9
      rw [show s_PG T_WORKS = [g_h_WORKS] by decide +kernel] at this
      obtain rfl := List.mem_singleton.mp this
      exfalso; exact (by have hj : p.2.1 T_HALL j = true := hj; rw [hp_HALL] at hj; cases hj)) (fun z => absurd z (by decide))
  rw [s_rw_un hb] at hs2
  exact hs2
def s_IHALL (I : e_I)  : e_I := I
def s_JHALL (J : e_Jt)  : e_Jt := J
set_option maxRecDepth 100000 in
set_option maxHeartbeats 1000000 in
theorem s_is.pubHALL {p : e_Sp} {I : e_I} {J : e_Jt} {c : Nat × Nat} {w : e_Rw1} {h : e_Hp} {b : Nat} {f : Nat → Value}  (hs : s_is (p, I, J, c, s_rw w b (15, 0, f)) h) (hnv : p.2.1 T_HALL 0 = false) (hb : w b = none) (hg_h_WORKS : f 0 = .ref (p.1 T_WORKS 0)) (hg_h_KEYS : f 1 = .ref (p.1 T_KEYS 0)) (hg_h_CONS : f 2 = .ref (p.1 T_CONS 0)) (hg_h_TAPE : f 3 = .ref (p.1 T_TAPE 0)) (hg_h_MEM : f 4 = .ref (p.1 T_MEM 0)) (hg_h_CONT : f 5 = .ref (p.1 T_CONT 0)) : s_is (s_pv p T_HALL 0 b 0, (s_IHALL I ), (s_JHALL J ), c, w) h := by
  have hs1 := hs.gI (I' := (s_IHALL I )) (J' := J) (fun _ _ _ _ => rfl) (fun _ _ _ _ => rfl)
  have hs1 := hs1.gI (I' := (s_IHALL I )) (J' := (s_JHALL J )) (fun _ _ _ _ => rfl) (fun _ _ _ _ => rfl)
  have hs2 := hs1.pub (t := T_HALL) (i := 0) (a := b) (n := 0) (ln := 0) (f := f) s_rw_s (by decide) rfl hnv ⟨by decide, by decide, by decide, fun z => absurd z (by decide)⟩
    (s_hol.of (LI := []) (LJ := []) (LG := [g_h_WORKS, g_h_KEYS, g_h_CONS, g_h_TAPE, g_h_MEM, g_h_CONT]) (by decide +kernel) (by decide +kernel) (by decide +kernel) (fun F hF => nomatch hF) (fun F hF => nomatch hF) (fun F hF => by
      rcases List.mem_cons.mp hF with rfl | hF
      · show e_toO (f 0) = some ((s_pv p T_HALL 0 b 0).1 T_WORKS 0); rw [hg_h_WORKS, s_pv_n (fun z => absurd z.1 (by decide))]; rfl
      rcases List.mem_cons.mp hF with rfl | hF
      · show e_toO (f 1) = some ((s_pv p T_HALL 0 b 0).1 T_KEYS 0); rw [hg_h_KEYS, s_pv_n (fun z => absurd z.1 (by decide))]; rfl
      rcases List.mem_cons.mp hF with rfl | hF
      · show e_toO (f 2) = some ((s_pv p T_HALL 0 b 0).1 T_CONS 0); rw [hg_h_CONS, s_pv_n (fun z => absurd z.1 (by decide))]; rfl
      rcases List.mem_cons.mp hF with rfl | hF
      · show e_toO (f 3) = some ((s_pv p T_HALL 0 b 0).1 T_TAPE 0); rw [hg_h_TAPE, s_pv_n (fun z => absurd z.1 (by decide))]; rfl
      rcases List.mem_cons.mp hF with rfl | hF
      · show e_toO (f 4) = some ((s_pv p T_HALL 0 b 0).1 T_MEM 0); rw [hg_h_MEM, s_pv_n (fun z => absurd z.1 (by decide))]; rfl
      obtain rfl := List.mem_singleton.mp hF
      show e_toO (f 5) = some ((s_pv p T_HALL 0 b 0).1 T_CONT 0); rw [hg_h_CONT, s_pv_n (fun z => absurd z.1 (by decide))]; rfl) (fun z => absurd z (by decide)))
    (fun G hG e9 j hj e8 => by
      have := s_mPG hG e9
      rw [show s_PG T_HALL = [] by decide +kernel] at this
      cases this) (fun z => absurd z (by decide))
  rw [s_rw_un hb] at hs2
  exact hs2
def s_ILIST (I : e_I) (i : Nat) (x0 x1 : Int32) : e_I := (s_up (s_up I f_l_modCount i x0) f_l_size i x1)
def s_JLIST (J : e_Jt) (i : Nat)  : e_Jt := J
set_option maxRecDepth 100000 in
set_option maxHeartbeats 1000000 in
theorem s_is.pubLIST {p : e_Sp} {I : e_I} {J : e_Jt} {c : Nat × Nat} {w : e_Rw1} {h : e_Hp} {b i : Nat} {f : Nat → Value} {x0 x1 : Int32}  (hs : s_is (p, I, J, c, s_rw w b (3, 0, f)) h) (hnv : p.2.1 T_LIST i = false) (hb : w b = none) (hx_l_modCount : e_toI (f 0) = x0) (hx_l_size : e_toI (f 2) = x1) (hg_l_arr : f 1 = .ref (p.1 T_LARR i)) (hp_CONS : p.2.1 T_CONS 0 = false ∨ i ≠ 1) (hp_MODEL : p.2.1 T_MODEL 0 = false ∨ i ≠ 2 ∧ i ≠ 3 ∧ i ≠ 4 ∧ i ≠ 5 ∧ i ≠ 6 ∧ i ≠ 7) (hp_WORKS : p.2.1 T_WORKS 0 = false ∨ i ≠ 0) (hsz : x1 = 0) (hsg_CONS : ∀ j, p.2.1 T_CONS j = true → j = 0) (hsg_MODEL : ∀ j, p.2.1 T_MODEL j = true → j = 0) (hsg_WORKS : ∀ j, p.2.1 T_WORKS j = true → j = 0) : s_is (s_pv p T_LIST i b 0, (s_ILIST I i x0 x1), (s_JLIST J i ), c, w) h := by
  have h0 : ∀ F m, I F m = I F m ∨ (e_FI F = (T_LIST, (e_FI F).2.1, 1) ∧ m = i) := fun _ _ => Or.inl rfl
  have hs1 := hs.gI (I' := (s_ILIST I i x0 x1)) (J' := J) (s_gI1 hnv (s_up_or (sl := 2) rfl (s_up_or (sl := 0) rfl h0))) (fun _ _ _ _ => rfl)
  have hs1 := hs1.gI (I' := (s_ILIST I i x0 x1)) (J' := (s_JLIST J i )) (fun _ _ _ _ => rfl) (fun _ _ _ _ => rfl)
  have hs2 := hs1.pub (t := T_LIST) (i := i) (a := b) (n := 0) (ln := 0) (f := f) s_rw_s (by decide) rfl hnv ⟨by decide, by decide, by decide, fun _ => by (rw [show s_ILIST I i x0 x1 f_l_size i = x1 from (by unfold s_ILIST; repeat (first | rw [s_up_s] | rw [s_up_F (by decide)])), hsz]; rfl)⟩
    (s_hol.of (LI := [f_l_modCount, f_l_size]) (LJ := []) (LG := [g_l_arr]) (by decide +kernel) (by decide +kernel) (by decide +kernel) (fun F hF => by
      rcases List.mem_cons.mp hF with rfl | hF
      · exact s_hI1 (sl := 0) rfl (by rw [hx_l_modCount]; unfold s_ILIST; repeat (first | rw [s_up_s] | rw [s_up_F (by decide)]))
      obtain rfl := List.mem_singleton.mp hF
      exact s_hI1 (sl := 2) rfl (by rw [hx_l_size]; unfold s_ILIST; repeat (first | rw [s_up_s] | rw [s_up_F (by decide)]))) (fun F hF => nomatch hF) (fun F hF => by
      obtain rfl := List.mem_singleton.mp hF
      show e_toO (f 1) = some ((s_pv p T_LIST i b 0).1 T_LARR i); rw [hg_l_arr, s_pv_n (fun z => absurd z.1 (by decide))]; rfl) (fun z => absurd z (by decide)))
    (fun G hG e9 j hj e8 => by
      have := s_mPG hG e9
      rw [show s_PG T_LIST = [g_w_ranks, g_n_knobs, g_m_list0, g_m_list1, g_m_list2, g_m_list3, g_m_list4, g_m_list5] by decide +kernel] at this
      rcases List.mem_cons.mp this with rfl | this
      · exfalso; exact (by have hj : p.2.1 T_WORKS j = true := hj; have e8 : 0 = i := e8; rcases hp_WORKS with z | z; exact absurd hj (by rw [hsg_WORKS j hj, z]; decide); exact absurd e8.symm z)
      rcases List.mem_cons.mp this with rfl | this
      · exfalso; exact (by have hj : p.2.1 T_CONS j = true := hj; have e8 : 1 = i := e8; rcases hp_CONS with z | z; exact absurd hj (by rw [hsg_CONS j hj, z]; decide); exact absurd e8.symm z)
      rcases List.mem_cons.mp this with rfl | this
      · exfalso; exact (by have hj : p.2.1 T_MODEL j = true := hj; have e8 : 2 = i := e8; rcases hp_MODEL with z | z; exact absurd hj (by rw [hsg_MODEL j hj, z]; decide); exact absurd e8.symm z.1)
      rcases List.mem_cons.mp this with rfl | this
      · exfalso; exact (by have hj : p.2.1 T_MODEL j = true := hj; have e8 : 3 = i := e8; rcases hp_MODEL with z | z; exact absurd hj (by rw [hsg_MODEL j hj, z]; decide); exact absurd e8.symm z.2.1)
      rcases List.mem_cons.mp this with rfl | this
      · exfalso; exact (by have hj : p.2.1 T_MODEL j = true := hj; have e8 : 4 = i := e8; rcases hp_MODEL with z | z; exact absurd hj (by rw [hsg_MODEL j hj, z]; decide); exact absurd e8.symm z.2.2.1)
      rcases List.mem_cons.mp this with rfl | this
      · exfalso; exact (by have hj : p.2.1 T_MODEL j = true := hj; have e8 : 5 = i := e8; rcases hp_MODEL with z | z; exact absurd hj (by rw [hsg_MODEL j hj, z]; decide); exact absurd e8.symm z.2.2.2.1)
      rcases List.mem_cons.mp this with rfl | this
      · exfalso; exact (by have hj : p.2.1 T_MODEL j = true := hj; have e8 : 6 = i := e8; rcases hp_MODEL with z | z; exact absurd hj (by rw [hsg_MODEL j hj, z]; decide); exact absurd e8.symm z.2.2.2.2.1)
      obtain rfl := List.mem_singleton.mp this
      exfalso; exact (by have hj : p.2.1 T_MODEL j = true := hj; have e8 : 7 = i := e8; rcases hp_MODEL with z | z; exact absurd hj (by rw [hsg_MODEL j hj, z]; decide); exact absurd e8.symm z.2.2.2.2.2)) (fun z => absurd z (by decide))
  rw [s_rw_un hb] at hs2
  exact hs2
