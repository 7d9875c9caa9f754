/-! 93: what is recorded joins the list (printed by wip/whole/p93.py) -/
def s_IMKEPT (I : e_I) (i : Nat) (x0 x1 x2 x3 : Int32) : e_I := (s_up (s_up (s_up (s_up I f_mt_division i x0) f_mt_at i x1) f_mt_tick i x2) f_mt_is i x3)
def s_JMKEPT (J : e_Jt) (i : Nat)  : e_Jt := J
set_option maxRecDepth 100000 in
set_option maxHeartbeats 1000000 in
theorem s_is.pubMKEPT {p : e_Sp} {I : e_I} {J : e_Jt} {c : Nat × Nat} {w : e_Rw1} {h : e_Hp} {b i : Nat} {f : Nat → Value} {x0 x1 x2 x3 : Int32}  (hs : s_is (p, I, J, c, s_rw w b (17, 0, f)) h) (hnv : p.2.1 T_MKEPT i = false) (hb : w b = none) (hx_mt_division : e_toI (f 0) = x0) (hx_mt_at : e_toI (f 1) = x1) (hx_mt_tick : e_toI (f 2) = x2) (hx_mt_is : e_toI (f 3) = x3) : s_is (s_pv p T_MKEPT i b 0, (s_IMKEPT I i x0 x1 x2 x3), (s_JMKEPT J i ), c, w) h := by
  have h0 : ∀ F m, I F m = I F m ∨ (e_FI F = (T_MKEPT, (e_FI F).2.1, 1) ∧ m = i) := fun _ _ => Or.inl rfl
  have hs1 := hs.gI (I' := (s_IMKEPT I i x0 x1 x2 x3)) (J' := J) (s_gI1 hnv (s_up_or (sl := 3) rfl (s_up_or (sl := 2) rfl (s_up_or (sl := 1) rfl (s_up_or (sl := 0) rfl h0))))) (fun _ _ _ _ => rfl)
  have hs1 := hs1.gI (I' := (s_IMKEPT I i x0 x1 x2 x3)) (J' := (s_JMKEPT J i )) (fun _ _ _ _ => rfl) (fun _ _ _ _ => rfl)
  have hs2 := hs1.pub (t := T_MKEPT) (i := i) (a := b) (n := 0) (ln := 0) (f := f) s_rw_s (by decide) rfl hnv ⟨by decide, by decide, by decide, fun z => absurd z (by decide)⟩
    (s_hol.of (LI := [f_mt_division, f_mt_at, f_mt_tick, f_mt_is]) (LJ := []) (LG := []) (by decide +kernel) (by decide +kernel) (by decide +kernel) (fun F hF => by
      rcases List.mem_cons.mp hF with rfl | hF
      · exact s_hI1 (sl := 0) rfl (by rw [hx_mt_division]; unfold s_IMKEPT; repeat (first | rw [s_up_s] | rw [s_up_F (by decide)]))
      rcases List.mem_cons.mp hF with rfl | hF
      · exact s_hI1 (sl := 1) rfl (by rw [hx_mt_at]; unfold s_IMKEPT; repeat (first | rw [s_up_s] | rw [s_up_F (by decide)]))
      rcases List.mem_cons.mp hF with rfl | hF
      · exact s_hI1 (sl := 2) rfl (by rw [hx_mt_tick]; unfold s_IMKEPT; repeat (first | rw [s_up_s] | rw [s_up_F (by decide)]))
      obtain rfl := List.mem_singleton.mp hF
      exact s_hI1 (sl := 3) rfl (by rw [hx_mt_is]; unfold s_IMKEPT; repeat (first | rw [s_up_s] | rw [s_up_F (by decide)]))) (fun F hF => nomatch hF) (fun F hF => nomatch hF) (fun z => absurd z (by decide)))
    (fun G hG e9 j hj e8 => by
      have := s_mPG hG e9
      rw [show s_PG T_MKEPT = [] by decide +kernel] at this
      cases this) (fun z => absurd z (by decide))
  rw [s_rw_un hb] at hs2
  exact hs2

def s_IMRANK (I : e_I) (i : Nat) (x0 x1 x2 x3 x4 x5 x6 x7 x8 : Int32) : e_I := (s_up (s_up (s_up (s_up (s_up (s_up (s_up (s_up (s_up I f_mr_lowest i x0) f_mr_highest i x1) f_mr_wind i x2) f_mr_division i x3) f_mr_delay i x4) f_mr_rest i x5) f_mr_power i x6) f_mr_base i x7) f_mr_heat i x8)
def s_JMRANK (J : e_Jt) (i : Nat)  : e_Jt := J
set_option maxRecDepth 100000 in
set_option maxHeartbeats 1000000 in
theorem s_is.pubMRANK {p : e_Sp} {I : e_I} {J : e_Jt} {c : Nat × Nat} {w : e_Rw1} {h : e_Hp} {b i : Nat} {f : Nat → Value} {x0 x1 x2 x3 x4 x5 x6 x7 x8 : Int32}  (hs : s_is (p, I, J, c, s_rw w b (19, 0, f)) h) (hnv : p.2.1 T_MRANK i = false) (hb : w b = none) (hx_mr_lowest : e_toI (f 0) = x0) (hx_mr_highest : e_toI (f 1) = x1) (hx_mr_wind : e_toI (f 2) = x2) (hx_mr_division : e_toI (f 3) = x3) (hx_mr_delay : e_toI (f 4) = x4) (hx_mr_rest : e_toI (f 5) = x5) (hx_mr_power : e_toI (f 6) = x6) (hx_mr_base : e_toI (f 7) = x7) (hx_mr_heat : e_toI (f 8) = x8) : s_is (s_pv p T_MRANK i b 0, (s_IMRANK I i x0 x1 x2 x3 x4 x5 x6 x7 x8), (s_JMRANK J i ), c, w) h := by
  have h0 : ∀ F m, I F m = I F m ∨ (e_FI F = (T_MRANK, (e_FI F).2.1, 1) ∧ m = i) := fun _ _ => Or.inl rfl
  have hs1 := hs.gI (I' := (s_IMRANK I i x0 x1 x2 x3 x4 x5 x6 x7 x8)) (J' := J) (s_gI1 hnv (s_up_or (sl := 8) rfl (s_up_or (sl := 7) rfl (s_up_or (sl := 6) rfl (s_up_or (sl := 5) rfl (s_up_or (sl := 4) rfl (s_up_or (sl := 3) rfl (s_up_or (sl := 2) rfl (s_up_or (sl := 1) rfl (s_up_or (sl := 0) rfl h0)))))))))) (fun _ _ _ _ => rfl)
  have hs1 := hs1.gI (I' := (s_IMRANK I i x0 x1 x2 x3 x4 x5 x6 x7 x8)) (J' := (s_JMRANK J i )) (fun _ _ _ _ => rfl) (fun _ _ _ _ => rfl)
  have hs2 := hs1.pub (t := T_MRANK) (i := i) (a := b) (n := 0) (ln := 0) (f := f) s_rw_s (by decide) rfl hnv ⟨by decide, by decide, by decide, fun z => absurd z (by decide)⟩
    (s_hol.of (LI := [f_mr_lowest, f_mr_highest, f_mr_wind, f_mr_division, f_mr_delay, f_mr_rest, f_mr_power, f_mr_base, f_mr_heat]) (LJ := []) (LG := []) (by decide +kernel) (by decide +kernel) (by decide +kernel) (fun F hF => by
      rcases List.mem_cons.mp hF with rfl | hF
      · exact s_hI1 (sl := 0) rfl (by rw [hx_mr_lowest]; unfold s_IMRANK; repeat (first | rw [s_up_s] | rw [s_up_F (by decide)]))
      rcases List.mem_cons.mp hF with rfl | hF
      · exact s_hI1 (sl := 1) rfl (by rw [hx_mr_highest]; unfold s_IMRANK; repeat (first | rw [s_up_s] | rw [s_up_F (by decide)]))
      rcases List.mem_cons.mp hF with rfl | hF
      · exact s_hI1 (sl := 2) rfl (by rw [hx_mr_wind]; unfold s_IMRANK; repeat (first | rw [s_up_s] | rw [s_up_F (by decide)]))
      rcases List.mem_cons.mp hF with rfl | hF
      · exact s_hI1 (sl := 3) rfl (by rw [hx_mr_division]; unfold s_IMRANK; repeat (first | rw [s_up_s] | rw [s_up_F (by decide)]))
      rcases List.mem_cons.mp hF with rfl | hF
      · exact s_hI1 (sl := 4) rfl (by rw [hx_mr_delay]; unfold s_IMRANK; repeat (first | rw [s_up_s] | rw [s_up_F (by decide)]))
      rcases List.mem_cons.mp hF with rfl | hF
      · exact s_hI1 (sl := 5) rfl (by rw [hx_mr_rest]; unfold s_IMRANK; repeat (first | rw [s_up_s] | rw [s_up_F (by decide)]))
      rcases List.mem_cons.mp hF with rfl | hF
      · exact s_hI1 (sl := 6) rfl (by rw [hx_mr_power]; unfold s_IMRANK; repeat (first | rw [s_up_s] | rw [s_up_F (by decide)]))
      rcases List.mem_cons.mp hF with rfl | hF
      · exact s_hI1 (sl := 7) rfl (by rw [hx_mr_base]; unfold s_IMRANK; repeat (first | rw [s_up_s] | rw [s_up_F (by decide)]))
      obtain rfl := List.mem_singleton.mp hF
      exact s_hI1 (sl := 8) rfl (by rw [hx_mr_heat]; unfold s_IMRANK; repeat (first | rw [s_up_s] | rw [s_up_F (by decide)]))) (fun F hF => nomatch hF) (fun F hF => nomatch hF) (fun z => absurd z (by decide)))
    (fun G hG e9 j hj e8 => by
      have := s_mPG hG e9
      rw [show s_PG T_MRANK = [] by decide +kernel] at this
      cases this) (fun z => absurd z (by decide))
  rw [s_rw_un hb] at hs2
  exact hs2

def s_IMKNOB (I : e_I) (i : Nat) (x0 x1 x2 x3 x4 x5 x6 x7 x8 x9 x10 : Int32) : e_I := (s_up (s_up (s_up (s_up (s_up (s_up (s_up (s_up (s_up (s_up (s_up I f_mk_kind i x0) f_mk_division i x1) f_mk_to i x2) f_mk_shift i x3) f_mk_letter i x4) f_mk_isDrawn i x5) f_mk_isLocked i x6) f_mk_isIn i x7) f_mk_rows i x8) f_mk_stage i x9) f_mk_relay i x10)
def s_JMKNOB (J : e_Jt) (i : Nat)  : e_Jt := J
set_option maxRecDepth 100000 in
set_option maxHeartbeats 1000000 in
theorem s_is.pubMKNOB {p : e_Sp} {I : e_I} {J : e_Jt} {c : Nat × Nat} {w : e_Rw1} {h : e_Hp} {b i : Nat} {f : Nat → Value} {x0 x1 x2 x3 x4 x5 x6 x7 x8 x9 x10 : Int32}  (hs : s_is (p, I, J, c, s_rw w b (18, 0, f)) h) (hnv : p.2.1 T_MKNOB i = false) (hb : w b = none) (hx_mk_kind : e_toI (f 0) = x0) (hx_mk_division : e_toI (f 1) = x1) (hx_mk_to : e_toI (f 2) = x2) (hx_mk_shift : e_toI (f 3) = x3) (hx_mk_letter : e_toI (f 4) = x4) (hx_mk_isDrawn : e_toI (f 10) = x5) (hx_mk_isLocked : e_toI (f 11) = x6) (hx_mk_isIn : e_toI (f 12) = x7) (hx_mk_rows : e_toI (f 13) = x8) (hx_mk_stage : e_toI (f 14) = x9) (hx_mk_relay : e_toI (f 15) = x10) (hg_mk_wires : f 5 = .ref (p.1 T_K_wires i)) (hg_mk_ranks : f 6 = .ref (p.1 T_K_ranks i)) (hg_mk_offsets : f 7 = .ref (p.1 T_K_offsets i)) (hg_mk_froms : f 8 = .ref (p.1 T_K_froms i)) (hg_mk_tos : f 9 = .ref (p.1 T_K_tos i)) : s_is (s_pv p T_MKNOB i b 0, (s_IMKNOB I i x0 x1 x2 x3 x4 x5 x6 x7 x8 x9 x10), (s_JMKNOB J i ), c, w) h := by
  have h0 : ∀ F m, I F m = I F m ∨ (e_FI F = (T_MKNOB, (e_FI F).2.1, 1) ∧ m = i) := fun _ _ => Or.inl rfl
  have hs1 := hs.gI (I' := (s_IMKNOB I i x0 x1 x2 x3 x4 x5 x6 x7 x8 x9 x10)) (J' := J) (s_gI1 hnv (s_up_or (sl := 15) rfl (s_up_or (sl := 14) rfl (s_up_or (sl := 13) rfl (s_up_or (sl := 12) rfl (s_up_or (sl := 11) rfl (s_up_or (sl := 10) rfl (s_up_or (sl := 4) rfl (s_up_or (sl := 3) rfl (s_up_or (sl := 2) rfl (s_up_or (sl := 1) rfl (s_up_or (sl := 0) rfl h0)))))))))))) (fun _ _ _ _ => rfl)
  have hs1 := hs1.gI (I' := (s_IMKNOB I i x0 x1 x2 x3 x4 x5 x6 x7 x8 x9 x10)) (J' := (s_JMKNOB J i )) (fun _ _ _ _ => rfl) (fun _ _ _ _ => rfl)
  have hs2 := hs1.pub (t := T_MKNOB) (i := i) (a := b) (n := 0) (ln := 0) (f := f) s_rw_s (by decide) rfl hnv ⟨by decide, by decide, by decide, fun z => absurd z (by decide)⟩
    (s_hol.of (LI := [f_mk_kind, f_mk_division, f_mk_to, f_mk_shift, f_mk_letter, f_mk_isDrawn, f_mk_isLocked, f_mk_isIn, f_mk_rows, f_mk_stage, f_mk_relay]) (LJ := []) (LG := [g_mk_wires, g_mk_ranks, g_mk_offsets, g_mk_froms, g_mk_tos]) (by decide +kernel) (by decide +kernel) (by decide +kernel) (fun F hF => by
      rcases List.mem_cons.mp hF with rfl | hF
      · exact s_hI1 (sl := 0) rfl (by rw [hx_mk_kind]; unfold s_IMKNOB; repeat (first | rw [s_up_s] | rw [s_up_F (by decide)]))
      rcases List.mem_cons.mp hF with rfl | hF
      · exact s_hI1 (sl := 1) rfl (by rw [hx_mk_division]; unfold s_IMKNOB; repeat (first | rw [s_up_s] | rw [s_up_F (by decide)]))
      rcases List.mem_cons.mp hF with rfl | hF
      · exact s_hI1 (sl := 2) rfl (by rw [hx_mk_to]; unfold s_IMKNOB; repeat (first | rw [s_up_s] | rw [s_up_F (by decide)]))
      rcases List.mem_cons.mp hF with rfl | hF
      · exact s_hI1 (sl := 3) rfl (by rw [hx_mk_shift]; unfold s_IMKNOB; repeat (first | rw [s_up_s] | rw [s_up_F (by decide)]))
      rcases List.mem_cons.mp hF with rfl | hF
      · exact s_hI1 (sl := 4) rfl (by rw [hx_mk_letter]; unfold s_IMKNOB; repeat (first | rw [s_up_s] | rw [s_up_F (by decide)]))
      rcases List.mem_cons.mp hF with rfl | hF
      · exact s_hI1 (sl := 10) rfl (by rw [hx_mk_isDrawn]; unfold s_IMKNOB; repeat (first | rw [s_up_s] | rw [s_up_F (by decide)]))
      rcases List.mem_cons.mp hF with rfl | hF
      · exact s_hI1 (sl := 11) rfl (by rw [hx_mk_isLocked]; unfold s_IMKNOB; repeat (first | rw [s_up_s] | rw [s_up_F (by decide)]))
      rcases List.mem_cons.mp hF with rfl | hF
      · exact s_hI1 (sl := 12) rfl (by rw [hx_mk_isIn]; unfold s_IMKNOB; repeat (first | rw [s_up_s] | rw [s_up_F (by decide)]))
      rcases List.mem_cons.mp hF with rfl | hF
      · exact s_hI1 (sl := 13) rfl (by rw [hx_mk_rows]; unfold s_IMKNOB; repeat (first | rw [s_up_s] | rw [s_up_F (by decide)]))
      rcases List.mem_cons.mp hF with rfl | hF
      · exact s_hI1 (sl := 14) rfl (by rw [hx_mk_stage]; unfold s_IMKNOB; repeat (first | rw [s_up_s] | rw [s_up_F (by decide)]))
      obtain rfl := List.mem_singleton.mp hF
      exact s_hI1 (sl := 15) rfl (by rw [hx_mk_relay]; unfold s_IMKNOB; repeat (first | rw [s_up_s] | rw [s_up_F (by decide)]))) (fun F hF => nomatch hF) (fun F hF => by
      rcases List.mem_cons.mp hF with rfl | hF
      · show e_toO (f 5) = some ((s_pv p T_MKNOB i b 0).1 T_K_wires i); rw [hg_mk_wires, s_pv_n (fun z => absurd z.1 (by decide))]; rfl
      rcases List.mem_cons.mp hF with rfl | hF
      · show e_toO (f 6) = some ((s_pv p T_MKNOB i b 0).1 T_K_ranks i); rw [hg_mk_ranks, s_pv_n (fun z => absurd z.1 (by decide))]; rfl
      rcases List.mem_cons.mp hF with rfl | hF
      · show e_toO (f 7) = some ((s_pv p T_MKNOB i b 0).1 T_K_offsets i); rw [hg_mk_offsets, s_pv_n (fun z => absurd z.1 (by decide))]; rfl
      rcases List.mem_cons.mp hF with rfl | hF
      · show e_toO (f 8) = some ((s_pv p T_MKNOB i b 0).1 T_K_froms i); rw [hg_mk_froms, s_pv_n (fun z => absurd z.1 (by decide))]; rfl
      obtain rfl := List.mem_singleton.mp hF
      show e_toO (f 9) = some ((s_pv p T_MKNOB i b 0).1 T_K_tos i); rw [hg_mk_tos, s_pv_n (fun z => absurd z.1 (by decide))]; rfl) (fun z => absurd z (by decide)))
    (fun G hG e9 j hj e8 => by
      have := s_mPG hG e9
      rw [show s_PG T_MKNOB = [] by decide +kernel] at this
      cases this) (fun z => absurd z (by decide))
  rw [s_rw_un hb] at hs2
  exact hs2

def s_IMKEEP (I : e_I) (i : Nat) (x0 : Int32) : e_I := (s_up I f_mg_isSet i x0)
def s_JMKEEP (J : e_Jt) (i : Nat) (y0 y1 : Int64) : e_Jt := (s_up (s_up J j_mg_knobs i y0) j_mg_drawn i y1)
set_option maxRecDepth 100000 in
set_option maxHeartbeats 1000000 in
theorem s_is.pubMKEEP {p : e_Sp} {I : e_I} {J : e_Jt} {c : Nat × Nat} {w : e_Rw1} {h : e_Hp} {b i : Nat} {f : Nat → Value} {x0 : Int32}  {y0 y1 : Int64} (hs : s_is (p, I, J, c, s_rw w b (16, 0, f)) h) (hnv : p.2.1 T_MKEEP i = false) (hb : w b = none) (hx_mg_isSet : e_toI (f 2) = x0) (hy_mg_knobs : e_toJ (f 0) = y0) (hy_mg_drawn : e_toJ (f 1) = y1) : s_is (s_pv p T_MKEEP i b 0, (s_IMKEEP I i x0), (s_JMKEEP J i y0 y1), c, w) h := by
  have h0 : ∀ F m, I F m = I F m ∨ (e_FI F = (T_MKEEP, (e_FI F).2.1, 1) ∧ m = i) := fun _ _ => Or.inl rfl
  have hs1 := hs.gI (I' := (s_IMKEEP I i x0)) (J' := J) (s_gI1 hnv (s_up_or (sl := 2) rfl h0)) (fun _ _ _ _ => rfl)
  clear h0
  have h0 : ∀ F m, J F m = J F m ∨ (e_FJ F = (T_MKEEP, (e_FJ F).2.1, 1) ∧ m = i) := fun _ _ => Or.inl rfl
  have hs1 := hs1.gI (I' := (s_IMKEEP I i x0)) (J' := (s_JMKEEP J i y0 y1)) (fun _ _ _ _ => rfl) (s_gJ1 hnv (s_upJ_or (sl := 1) rfl (s_upJ_or (sl := 0) rfl h0)))
  have hs2 := hs1.pub (t := T_MKEEP) (i := i) (a := b) (n := 0) (ln := 0) (f := f) s_rw_s (by decide) rfl hnv ⟨by decide, by decide, by decide, fun z => absurd z (by decide)⟩
    (s_hol.of (LI := [f_mg_isSet]) (LJ := [j_mg_knobs, j_mg_drawn]) (LG := []) (by decide +kernel) (by decide +kernel) (by decide +kernel) (fun F hF => by
      obtain rfl := List.mem_singleton.mp hF
      exact s_hI1 (sl := 2) rfl (by rw [hx_mg_isSet]; unfold s_IMKEEP; repeat (first | rw [s_up_s] | rw [s_up_F (by decide)]))) (fun F hF => by
      rcases List.mem_cons.mp hF with rfl | hF
      · exact s_hJ1 (sl := 0) rfl (by rw [hy_mg_knobs]; unfold s_JMKEEP; repeat (first | rw [s_up_s] | rw [s_up_F (by decide)]))
      obtain rfl := List.mem_singleton.mp hF
      exact s_hJ1 (sl := 1) rfl (by rw [hy_mg_drawn]; unfold s_JMKEEP; repeat (first | rw [s_up_s] | rw [s_up_F (by decide)]))) (fun F hF => nomatch hF) (fun z => absurd z (by decide)))
    (fun G hG e9 j hj e8 => by
      have := s_mPG hG e9
      rw [show s_PG T_MKEEP = [] by decide +kernel] at this
      cases this) (fun z => absurd z (by decide))
  rw [s_rw_un hb] at hs2
  exact hs2

def s_IMFRAME (I : e_I) (i : Nat) (x0 : Int32) : e_I := (s_up I f_mf_isSet i x0)
def s_JMFRAME (J : e_Jt) (i : Nat) (y0 y1 : Int64) : e_Jt := (s_up (s_up J j_mf_knobs i y0) j_mf_drawn i y1)
set_option maxRecDepth 100000 in
set_option maxHeartbeats 1000000 in
theorem s_is.pubMFRAME {p : e_Sp} {I : e_I} {J : e_Jt} {c : Nat × Nat} {w : e_Rw1} {h : e_Hp} {b i : Nat} {f : Nat → Value} {x0 : Int32}  {y0 y1 : Int64} (hs : s_is (p, I, J, c, s_rw w b (16, 0, f)) h) (hnv : p.2.1 T_MFRAME i = false) (hb : w b = none) (hx_mf_isSet : e_toI (f 2) = x0) (hy_mf_knobs : e_toJ (f 0) = y0) (hy_mf_drawn : e_toJ (f 1) = y1) : s_is (s_pv p T_MFRAME i b 0, (s_IMFRAME I i x0), (s_JMFRAME J i y0 y1), c, w) h := by
  have h0 : ∀ F m, I F m = I F m ∨ (e_FI F = (T_MFRAME, (e_FI F).2.1, 1) ∧ m = i) := fun _ _ => Or.inl rfl
  have hs1 := hs.gI (I' := (s_IMFRAME I i x0)) (J' := J) (s_gI1 hnv (s_up_or (sl := 2) rfl h0)) (fun _ _ _ _ => rfl)
  clear h0
  have h0 : ∀ F m, J F m = J F m ∨ (e_FJ F = (T_MFRAME, (e_FJ F).2.1, 1) ∧ m = i) := fun _ _ => Or.inl rfl
  have hs1 := hs1.gI (I' := (s_IMFRAME I i x0)) (J' := (s_JMFRAME J i y0 y1)) (fun _ _ _ _ => rfl) (s_gJ1 hnv (s_upJ_or (sl := 1) rfl (s_upJ_or (sl := 0) rfl h0)))
  have hs2 := hs1.pub (t := T_MFRAME) (i := i) (a := b) (n := 0) (ln := 0) (f := f) s_rw_s (by decide) rfl hnv ⟨by decide, by decide, by decide, fun z => absurd z (by decide)⟩
    (s_hol.of (LI := [f_mf_isSet]) (LJ := [j_mf_knobs, j_mf_drawn]) (LG := []) (by decide +kernel) (by decide +kernel) (by decide +kernel) (fun F hF => by
      obtain rfl := List.mem_singleton.mp hF
      exact s_hI1 (sl := 2) rfl (by rw [hx_mf_isSet]; unfold s_IMFRAME; repeat (first | rw [s_up_s] | rw [s_up_F (by decide)]))) (fun F hF => by
      rcases List.mem_cons.mp hF with rfl | hF
      · exact s_hJ1 (sl := 0) rfl (by rw [hy_mf_knobs]; unfold s_JMFRAME; repeat (first | rw [s_up_s] | rw [s_up_F (by decide)]))
      obtain rfl := List.mem_singleton.mp hF
      exact s_hJ1 (sl := 1) rfl (by rw [hy_mf_drawn]; unfold s_JMFRAME; repeat (first | rw [s_up_s] | rw [s_up_F (by decide)]))) (fun F hF => nomatch hF) (fun z => absurd z (by decide)))
    (fun G hG e9 j hj e8 => by
      have := s_mPG hG e9
      rw [show s_PG T_MFRAME = [] by decide +kernel] at this
      cases this) (fun z => absurd z (by decide))
  rw [s_rw_un hb] at hs2
  exact hs2

/-- the capacities of a list's row, one after another; their sum -/
def q_cs : Nat → Nat
  | 0 => 0
  | g + 1 => s_cap (q_cs g)
def q_cq : Nat → Nat
  | 0 => 0
  | g + 1 => q_cq g + s_cap (q_cs g)
def q_cp (p : e_Sp) : Nat := if p.2.1 T_LARR 4 = true then p.2.2.1 T_LARR 4 else 0
/-- the list of what is recorded: n things; the room: a cells and b slots are spent on other things -/
def q_L (p : e_Sp) (I : e_I) (c : Nat × Nat) (a b n : Nat) : Prop := s_La p I 4 n ∧ (∀ j, p.2.1 T_MKEPT j = decide (j < n)) ∧ (p.1 T_LARR 4 = e_xb + 8 → q_cp p = 0) ∧ ∃ g, q_cp p = q_cs g ∧ c.1 = a + n + g ∧ c.2 = b + 4 * n + q_cq g ∧ q_cs (g - 1) ≤ a + n
/-- the places that grow -/
def q_N (t i : Nat) : Bool := decide (t = T_MKEPT) || (decide (t = T_LARR) && decide (i = 4))
theorem q_N_t {t i : Nat} (h : t ≠ T_MKEPT) (h2 : t ≠ T_LARR) : q_N t i = false := by unfold q_N; rw [decide_eq_false h, decide_eq_false h2]; rfl
/-- a shape goes on: what is recorded keeps its places -/
def q_X (p p' : e_Sp) : Prop := s_xv q_N p p' ∧ ∀ j, p.2.1 T_MKEPT j = true → p'.1 T_MKEPT j = p.1 T_MKEPT j ∧ p'.2.1 T_MKEPT j = true
theorem q_X.rfl' {p : e_Sp} : q_X p p := ⟨s_xv.rfl', fun _ h => ⟨rfl, h⟩⟩
theorem q_X.trans {p p' p'' : e_Sp} (h : q_X p p') (h' : q_X p' p'') : q_X p p'' := ⟨h.1.trans h'.1, fun j hj => ⟨(h'.2 j (h.2 j hj).2).1.trans (h.2 j hj).1, (h'.2 j (h.2 j hj).2).2⟩⟩
theorem q_X.a {p p' : e_Sp} {t i : Nat} (x : q_X p p') (h : t ≠ T_MKEPT ∧ t ≠ T_LARR) : p'.1 t i = p.1 t i := (x.1.1 t i (q_N_t h.1 h.2)).1
/-- fields of T, and the length of the list 4, may differ -/
def q_e (T : List Nat) (I I' : e_I) : Prop := s_eqN (f_l_size :: T) I I' ∧ ∀ l, l ≠ 4 → I' f_l_size l = I f_l_size l
theorem q_e.rfl' {T : List Nat} {I : e_I} : q_e T I I := ⟨s_eqN.rfl', fun _ _ => rfl⟩
theorem q_e.trans {T : List Nat} {I I' I'' : e_I} (h : q_e T I I') (h' : q_e T I' I'') : q_e T I I'' := ⟨h.1.trans h'.1, fun l hl => (h'.2 l hl).trans (h.2 l hl)⟩
theorem q_e.of {L T : List Nat} {I I' : e_I} (h : s_eqN L I I') (h1 : L.contains f_l_size = false) (h2 : s_sub L T = true) : q_e T I I' := ⟨h.mono (by
    unfold s_sub at h2 ⊢
    rw [List.all_eq_true] at h2 ⊢
    intro F hF
    have := h2 F hF
    rw [List.contains_cons, this, Bool.or_true]), fun l _ => congrFun (h _ h1) l⟩
theorem s_up_n {α : Type} {I : Nat → Nat → α} {F F' i j : Nat} {x : α} (h : F' ≠ F) : s_up I F i x F' j = I F' j := if_neg (fun z => h z.1)
theorem q_e.up {T : List Nat} {I : e_I} {F i : Nat} {x : Int32} (h : T.contains F = true) (h2 : F ≠ f_l_size) : q_e T I (s_up I F i x) := ⟨s_eqN.up (by rw [List.contains_cons, h, Bool.or_true]), fun l _ => s_up_n (Ne.symm h2)⟩
theorem q_e.mono {L T : List Nat} {I I' : e_I} (h : q_e L I I') (hs : s_sub L T = true) : q_e T I I' := ⟨h.1.mono (by
    unfold s_sub at hs ⊢
    rw [List.all_eq_true] at hs ⊢
    intro F hF
    rcases List.mem_cons.mp hF with rfl | hF
    · simp
    · rw [List.contains_cons, hs F hF, Bool.or_true]), h.2⟩
theorem q_e.F {T : List Nat} {I I' : e_I} {F : Nat} (h : q_e T I I') (hF : (F != f_l_size && !T.contains F) = true) : I' F = I F := h.1 F (by
  rw [Bool.and_eq_true] at hF
  rw [List.contains_cons]
  simp at hF ⊢
  exact ⟨hF.1, hF.2⟩)
def q_ms2 : List Nat := [f_m_pipes, f_mk_division, f_mk_rows, f_mk_relay, f_mr_lowest, f_mr_highest, f_mr_base, f_mr_division, f_m_rankOf]
def q_fr2 (T : List Nat) : Bool := q_ms2.all (fun F => !T.contains F)
theorem q_D.e {T : List Nat} {p p' : e_Sp} {I I' : e_I} {nk nr np : Nat} (h : q_D p I nk nr np) (x : q_X p p') (e : q_e T I I') (hT : q_fr2 T = true) : q_D p' I' nk nr np := by
  have hF : ∀ F, F ∈ q_ms2 → I' F = I F := fun F hF => e.F (by
    have h1 := List.all_eq_true.mp hT F hF
    have h2 : q_ms2.all (fun F => F != f_l_size) = true := by decide
    rw [List.all_eq_true.mp h2 F hF]
    exact h1)
  obtain ⟨⟨a1, a2⟩, b1, b2, b3, b4, b5, b6⟩ := h
  have v : ∀ t i, t ≠ T_MKEPT → t ≠ T_LARR → p'.2.1 t i = p.2.1 t i := fun t i h1 h2 => (x.1.1 t i (q_N_t h1 h2)).2.1
  refine ⟨⟨fun t ht => ?_, fun l hl => by rw [v _ _ (by decide) (by decide)]; exact a2 l hl⟩, by rw [e.2 3 (by decide)]; exact b1, by rw [e.2 2 (by decide)]; exact b2, by rw [hF _ (by decide)]; exact b3, fun k hk => ?_, fun r hr => ?_, fun q hq => ?_⟩
  · rw [v t 0 (fun z => by rw [z] at ht; exact absurd ht (by decide)) (fun z => by rw [z] at ht; exact absurd ht (by decide))]; exact a1 t ht
  · have := b4 k hk
    unfold q_K at this ⊢
    rw [hF f_mk_division (by decide), hF f_mk_rows (by decide), hF f_mk_relay (by decide), v _ _ (by decide) (by decide)]
    refine ⟨this.1, fun t ht => ?_, this.2.2⟩
    rw [v t k (fun z => by rw [z] at ht; exact absurd ht (by decide)) (fun z => by rw [z] at ht; exact absurd ht (by decide))]
    exact this.2.1 t ht
  · have := b5 r hr
    unfold q_R at this ⊢
    rw [hF f_mr_lowest (by decide), hF f_mr_highest (by decide), hF f_mr_base (by decide), hF f_mr_division (by decide), v _ _ (by decide) (by decide)]
    exact this
  · rw [hF f_m_rankOf (by decide), hF f_mr_base (by decide)]
    exact b6 q hq
/-- something recorded: the ints behind it -/
def q_ka (I : e_I) (n : Nat) (x y z : Int32) : e_I := s_adI (s_IMKEPT I n x y (I f_m_tick 0) z) 4 n
def q_kT9 : List Nat := [f_mt_division, f_mt_at, f_mt_tick, f_mt_is, f_l_modCount]
theorem q_ka_e {I : e_I} {n : Nat} {x y z : Int32} : q_e q_kT9 I (q_ka I n x y z) := by
  refine ⟨?_, fun l hl => ?_⟩
  · unfold q_ka s_adI s_IMKEPT
    exact (((((s_eqN.up (by decide)).trans (s_eqN.up (by decide))).trans (s_eqN.up (by decide))).trans (s_eqN.up (by decide))).trans (s_eqN.up (by decide))).trans (s_eqN.up (by decide))
  · unfold q_ka
    rw [s_adI_n hl]
    unfold s_IMKEPT
    rw [s_up_F (by decide), s_up_F (by decide), s_up_F (by decide), s_up_F (by decide)]
theorem q_ka_n {I : e_I} {n : Nat} {x y z : Int32} : q_ka I n x y z f_l_size 4 = nI (n + 1) := s_adI_s
theorem s_La.x4 {p p' : e_Sp} {I I' : e_I} {n : Nat} (h : s_La p I 4 n) (h1 : p'.2.1 T_LIST 4 = p.2.1 T_LIST 4) (h2 : p'.1 T_LARR 4 = p.1 T_LARR 4 ∧ p'.2.1 T_LARR 4 = p.2.1 T_LARR 4 ∧ p'.2.2.1 T_LARR 4 = p.2.2.1 T_LARR 4) (e : I' f_l_size 4 = I f_l_size 4) : s_La p' I' 4 n := by
  unfold s_La at h ⊢
  rw [e, h1, h2.1, h2.2.1, h2.2.2]
  exact h
theorem q_L.n {p : e_Sp} {I : e_I} {c : Nat × Nat} {a b n : Nat} (h : q_L p I c a b n) : I f_l_size 4 = nI n := h.1.2.1
theorem q_L.eq {p : e_Sp} {I I' : e_I} {c : Nat × Nat} {a b n : Nat} (h : q_L p I c a b n) (e : I' f_l_size 4 = I f_l_size 4) : q_L p I' c a b n := ⟨h.1.x4 rfl ⟨rfl, rfl, rfl⟩ e, h.2⟩
theorem s_pv_l {p : e_Sp} {t i a n : Nat} : (s_pv p t i a n).2.2.1 t i = n := if_pos ⟨rfl, rfl⟩
/-- one more, in the row that is there -/
theorem q_L.add0 {p : e_Sp} {I : e_I} {c : Nat × Nat} {a b n a9 : Nat} {x y z : Int32} (h : q_L p I c a b n) (hA : p.2.1 T_LARR 4 = true) (h10 : 10 ≤ p.2.2.1 T_LARR 4) (hlt : n < p.2.2.1 T_LARR 4) (hle : p.2.2.1 T_LARR 4 ≤ 60000000) (hn : n < 39999999) : q_L (s_pv p T_MKEPT n a9 0) (q_ka I n x y z) (c.1 + 1, c.2 + 4) a b (n + 1) := by
  obtain ⟨h1, h2, h3, g, h4, h5, h6, h7⟩ := h
  have e1 : (s_pv p T_MKEPT n a9 0).1 T_LARR 4 = p.1 T_LARR 4 := s_pv_n (fun z => absurd z.1 (by decide))
  have e2 : (s_pv p T_MKEPT n a9 0).2.1 T_LARR 4 = p.2.1 T_LARR 4 := s_pv_nv (fun z => absurd z.1 (by decide))
  have e3 : (s_pv p T_MKEPT n a9 0).2.2.1 T_LARR 4 = p.2.2.1 T_LARR 4 := s_pv_nl (fun z => absurd z.1 (by decide))
  have e4 : q_cp (s_pv p T_MKEPT n a9 0) = q_cp p := by unfold q_cp; rw [e2, e3]
  refine ⟨⟨s_pv_k h1.1, q_ka_n, by omega, Or.inr ⟨by rw [e2]; exact hA, by rw [e3]; exact h10, by rw [e3]; exact hlt, by rw [e3]; exact hle⟩⟩, fun j => ?_, fun z => by rw [e4]; exact h3 (e1 ▸ z), g, by rw [e4]; exact h4, by show c.1 + 1 = _; omega, by show c.2 + 4 = _; omega, by omega⟩
  by_cases e : j = n
  · subst e; rw [s_pv_v]; exact (decide_eq_true (by omega)).symm
  · rw [s_pv_nv (fun z => e z.2), h2 j]; exact decide_eq_decide.mpr (by omega)
/-- one more, in another row -/
theorem q_L.add1 {p : e_Sp} {I : e_I} {c : Nat × Nat} {a b n a9 b9 : Nat} {x y z : Int32} (h : q_L p I c a b n) (hAB : (n = 0 ∧ p.1 T_LARR 4 = e_xb + 8) ∨ (10 ≤ n ∧ p.2.1 T_LARR 4 = true ∧ p.2.2.1 T_LARR 4 = n)) (hb9 : b9 < e_xb) (hn : n < 39999999) : q_L (s_pv (s_pv p T_MKEPT n a9 0) T_LARR 4 b9 (s_cap n)) (q_ka I n x y z) (c.1 + 1 + 1, c.2 + 4 + s_cap n) a b (n + 1) := by
  obtain ⟨h1, h2, h3, g, h4, h5, h6, h7⟩ := h
  have hc : n + 1 ≤ s_cap n ∧ 10 ≤ s_cap n ∧ s_cap n ≤ 60000000 := by
    unfold s_cap
    rcases hAB with h | h
    · rw [if_pos h.1]; omega
    · rw [if_neg (by omega)]; omega
  have hg : q_cs g = n := by
    rw [← h4]
    rcases hAB with h | h
    · rw [h3 h.2, h.1]
    · unfold q_cp; rw [if_pos h.2.1, h.2.2]
  have e3 : (s_pv (s_pv p T_MKEPT n a9 0) T_LARR 4 b9 (s_cap n)).2.2.1 T_LARR 4 = s_cap n := s_pv_l
  have e4 : q_cp (s_pv (s_pv p T_MKEPT n a9 0) T_LARR 4 b9 (s_cap n)) = s_cap n := by unfold q_cp; rw [if_pos s_pv_v, e3]
  refine ⟨⟨s_pv_k (s_pv_k h1.1), q_ka_n, by omega, Or.inr ⟨s_pv_v, by rw [e3]; exact hc.2.1, by rw [e3]; exact hc.1, by rw [e3]; exact hc.2.2⟩⟩, fun j => ?_, fun z => ?_, g + 1, by rw [e4]; show _ = s_cap (q_cs g); rw [hg], by show c.1 + 1 + 1 = _; omega, by show c.2 + 4 + s_cap n = _ + (q_cq g + s_cap (q_cs g)); rw [hg]; omega, by show q_cs g ≤ a + (n + 1); omega⟩
  · rw [s_pv_nv (fun z => absurd z.1 (by decide))]
    by_cases e : j = n
    · subst e; rw [s_pv_v]; exact (decide_eq_true (by omega)).symm
    · rw [s_pv_nv (fun z => e z.2), h2 j]; exact decide_eq_decide.mpr (by omega)
  · rw [s_pv_s] at z; omega
theorem q_X.p1 {p : e_Sp} {n a9 : Nat} (h : p.2.1 T_MKEPT n = false) : q_X p (s_pv p T_MKEPT n a9 0) := ⟨s_xv.pv rfl, fun j hj => ⟨s_pv_n (fun z => by rw [z.2, h] at hj; cases hj), s_pv_k hj⟩⟩
theorem q_X.p2 {p : e_Sp} {n a9 b9 m : Nat} (h : p.2.1 T_MKEPT n = false) : q_X p (s_pv (s_pv p T_MKEPT n a9 0) T_LARR 4 b9 m) := (q_X.p1 h).trans ⟨s_xv.pv rfl, fun j hj => ⟨s_pv_n (fun z => absurd z.1 (by decide)), s_pv_k hj⟩⟩

set_option maxRecDepth 100000 in
set_option maxHeartbeats 800000 in
theorem c_X13_init {X : e_XT} {d : Nat} {p : e_Sp} {I : e_I} {J : e_Jt} {c : Nat × Nat} {w : e_Rw1} {Q : e_Rt → e_SS → Prop} {b : Nat} {f : Nat → Value} {x y z t : Int32} (hz : z = 0 ∨ z = 1) (k : Q (.inl none) (p, I, J, c, s_rw w b (17, 0, (s_fu (s_fu (s_fu (s_fu f 0 (.int x)) 1 (.int y)) 3 (.int z)) 2 (.int t))))) : s_c X (d + 0) 208 [.ref b, .int x, .int y, .int z, .int t] (p, I, J, c, s_rw w b (17, 0, f)) Q := by
  refine m_X13_init (Nat.le_of_ble_eq_true rfl) ?_
  show s_w _ _ _ 0 _ _ _ _
  refine w_op (pc' := 1) dX13_init_0 rfl ?_
  refine w_objinit (by decide) rfl (Nat.le_of_ble_eq_true rfl) dX13_init_1 ?_
  refine w_op (pc' := 5) dX13_init_4 rfl ?_
  refine w_op (pc' := 6) dX13_init_5 rfl ?_
  refine t_putR dX13_init_6 rfl rfl (Or.inr ⟨rfl, rfl, rfl⟩) ?_
  refine w_op (pc' := 10) dX13_init_9 rfl ?_
  refine w_op (pc' := 11) dX13_init_10 rfl ?_
  refine t_putR dX13_init_11 rfl rfl (Or.inr ⟨rfl, rfl, rfl⟩) ?_
  refine w_op (pc' := 15) dX13_init_14 rfl ?_
  refine w_op (pc' := 16) dX13_init_15 rfl ?_
  refine t_putR dX13_init_16 rfl (s_ckb (by first | exact Or.inl rfl | exact Or.inr rfl | assumption)) (Or.inr ⟨rfl, rfl, rfl⟩) ?_
  refine w_op (pc' := 20) dX13_init_19 rfl ?_
  refine w_op (pc' := 22) dX13_init_20 rfl ?_
  refine t_putR dX13_init_22 rfl rfl (Or.inr ⟨rfl, rfl, rfl⟩) ?_
  exact w_return dX13_init_25 ⟨rfl, k⟩

