/-! 99994: the second implementation is made, its rows and lists (printed by wip/whole/p99994.py) -/
/-- what is made stands where the words f say -/
def q_Mk (D : List (Nat × Nat × Nat)) (p : e_Sp) (f : Nat → Value) : Prop := ∀ x, x ∈ D → f x.1 = .ref (p.1 x.2.1 x.2.2) ∧ p.2.1 x.2.1 x.2.2 = true
def q_Nv (R : List (Nat × Nat)) (p : e_Sp) : Prop := ∀ x, x ∈ R → p.2.1 x.1 x.2 = false
def q_Ms : List Nat := [T_M_isDown, T_M_isHeld, T_M_isWanted, T_M_isCalled, T_M_isOpen, T_M_speaks, T_M_wentDown, T_M_counts, T_M_since, T_M_closedSince, T_M_begun, T_M_tuning, T_M_rankOf, T_M_fault, T_M_supply, T_M_box, T_M_temper, T_M_winds, T_M_claimed, T_M_reversible, T_M_operation, T_M_first, T_M_second, T_M_chord, T_M_degrees, T_M_best, T_M_isRelay]
def q_NI (t i : Nat) : Bool := (q_Ms.contains t && decide (i = 0)) || (decide (t = T_LIST) && (decide (2 ≤ i) && decide (i ≤ 7)))
def q_In (D : List (Nat × Nat × Nat)) (R : List (Nat × Nat)) (p0 p : e_Sp) (f0 f : Nat → Value) : Prop := q_Mk D p f ∧ q_Nv R p ∧ s_xv q_NI p0 p ∧ ∀ sl, 33 ≤ sl → f sl = f0 sl
theorem q_In.step {D : List (Nat × Nat × Nat)} {R : List (Nat × Nat)} {p0 p : e_Sp} {f0 f : Nat → Value} {sl t i a n : Nat} (h : q_In D ((t, i) :: R) p0 p f0 f) (h1 : (D.all fun x => !decide (x.1 = sl)) = true) (h2 : (R.all fun x => !(decide (x.1 = t) && decide (x.2 = i))) = true) (h3 : q_NI t i = true) (h4 : sl < 33) : q_In ((sl, t, i) :: D) R p0 (s_pv p t i a n) f0 (s_fu f sl (.ref a)) := by
  obtain ⟨a1, a2, a3, a4⟩ := h
  have hnv := a2 (t, i) List.mem_cons_self
  refine ⟨fun x hx => ?_, fun x hx => ?_, a3.trans (s_xv.pv h3), fun s hs => (if_neg (by omega) : (if s = sl then Value.ref a else f s) = f s).trans (a4 s hs)⟩
  · rcases List.mem_cons.mp hx with rfl | hx
    · exact ⟨(if_pos rfl : (if sl = sl then Value.ref a else f sl) = _).trans (by rw [s_pv_s]), s_pv_v⟩
    · obtain ⟨g1, g2⟩ := a1 x hx
      have e1 : ¬ (x.2.1 = t ∧ x.2.2 = i) := fun z => by rw [z.1, z.2] at g2; rw [g2] at hnv; cases hnv
      have e2 := List.all_eq_true.mp h1 x hx
      have e2 : ¬ x.1 = sl := by simpa using e2
      exact ⟨(if_neg e2 : (if x.1 = sl then Value.ref a else f x.1) = _).trans (by rw [s_pv_n e1]; exact g1), s_pv_k g2⟩
  · have e2 := List.all_eq_true.mp h2 x hx
    rw [s_pv_nv (fun z => by rw [z.1, z.2, decide_eq_true rfl, decide_eq_true rfl] at e2; cases e2)]
    exact a2 x (List.mem_cons_of_mem _ hx)
theorem q_In.nv {D : List (Nat × Nat × Nat)} {R : List (Nat × Nat)} {p0 p : e_Sp} {f0 f : Nat → Value} {t i : Nat} (h : q_In D ((t, i) :: R) p0 p f0 f) : p.2.1 t i = false := h.2.1 (t, i) List.mem_cons_self
theorem q_NI_n {t i : Nat} (h1 : q_Ms.contains t = false) (h2 : t ≠ T_LIST) : q_NI t i = false := by
  unfold q_NI
  rw [h1, decide_eq_false h2]; rfl
theorem q_In.md {D : List (Nat × Nat × Nat)} {R : List (Nat × Nat)} {p0 p : e_Sp} {f0 f : Nat → Value} {t i : Nat} (h : q_In D R p0 p f0 f) (h1 : q_Ms.contains t = false) (h2 : t ≠ T_LIST) : p.2.1 t i = p0.2.1 t i := (h.2.2.1.1 t i (q_NI_n h1 h2)).2.1
theorem q_In.la {D : List (Nat × Nat × Nat)} {R : List (Nat × Nat)} {p0 p : e_Sp} {f0 f : Nat → Value} {l : Nat} (h : q_In D R p0 p f0 f) : p.1 T_LARR l = p0.1 T_LARR l := (h.2.2.1.1 T_LARR l (q_NI_n (by decide) (by decide))).1

def q_D33 : List (Nat × Nat × Nat) := [(32, T_M_isRelay, 0), (31, T_M_best, 0), (30, T_M_degrees, 0), (29, T_M_chord, 0), (28, T_M_second, 0), (27, T_M_first, 0), (26, T_M_operation, 0), (25, T_M_reversible, 0), (24, T_M_claimed, 0), (23, T_M_winds, 0), (22, T_M_temper, 0), (21, T_M_box, 0), (20, T_M_supply, 0), (19, T_M_fault, 0), (18, T_M_rankOf, 0), (17, T_M_tuning, 0), (16, T_M_begun, 0), (15, T_M_closedSince, 0), (14, T_M_since, 0), (13, T_M_counts, 0), (12, T_M_wentDown, 0), (11, T_M_speaks, 0), (10, T_M_isOpen, 0), (9, T_M_isCalled, 0), (8, T_M_isWanted, 0), (7, T_M_isHeld, 0), (6, T_M_isDown, 0), (5, T_LIST, 7), (4, T_LIST, 6), (3, T_LIST, 5), (2, T_LIST, 4), (1, T_LIST, 3), (0, T_LIST, 2)]
def q_iA (I : e_I) : e_I := (s_ILIST (s_ILIST (s_ILIST (s_ILIST (s_ILIST (s_ILIST I 2 0 0) 3 0 0) 4 0 0) 5 0 0) 6 0 0) 7 0 0)
set_option maxRecDepth 100000 in
set_option maxHeartbeats 4000000 in
theorem l_X16_init_iA {X : e_XT} {d : Nat} {p : e_Sp} {I : e_I} {J : e_Jt} {c : Nat × Nat} {w : e_Rw1} {Q : e_Rt → e_SS → Prop} {b : Nat} {f0 f : Nat → Value} {p0 : e_Sp} (hM : ∀ i, p0.2.1 T_MODEL i = false) (hA : ∀ l, 2 ≤ l → l ≤ 11 → p0.1 T_LARR l = e_xb + 8) (hsC : ∀ j, p0.2.1 T_CONS j = true → j = 0) (hsW : ∀ j, p0.2.1 T_WORKS j = true → j = 0) (hq : q_In [] [(T_LIST, 2), (T_LIST, 3), (T_LIST, 4), (T_LIST, 5), (T_LIST, 6), (T_LIST, 7), (T_M_isDown, 0), (T_M_isHeld, 0), (T_M_isWanted, 0), (T_M_isCalled, 0), (T_M_isOpen, 0), (T_M_speaks, 0), (T_M_wentDown, 0), (T_M_counts, 0), (T_M_since, 0), (T_M_closedSince, 0), (T_M_begun, 0), (T_M_tuning, 0), (T_M_rankOf, 0), (T_M_fault, 0), (T_M_supply, 0), (T_M_box, 0), (T_M_temper, 0), (T_M_winds, 0), (T_M_claimed, 0), (T_M_reversible, 0), (T_M_operation, 0), (T_M_first, 0), (T_M_second, 0), (T_M_chord, 0), (T_M_degrees, 0), (T_M_best, 0), (T_M_isRelay, 0)] p0 p f0 f) (hc : c.1 + 7 < e_xb) (k : ∀ p' f', q_In [(5, T_LIST, 7), (4, T_LIST, 6), (3, T_LIST, 5), (2, T_LIST, 4), (1, T_LIST, 3), (0, T_LIST, 2)] [(T_M_isDown, 0), (T_M_isHeld, 0), (T_M_isWanted, 0), (T_M_isCalled, 0), (T_M_isOpen, 0), (T_M_speaks, 0), (T_M_wentDown, 0), (T_M_counts, 0), (T_M_since, 0), (T_M_closedSince, 0), (T_M_begun, 0), (T_M_tuning, 0), (T_M_rankOf, 0), (T_M_fault, 0), (T_M_supply, 0), (T_M_box, 0), (T_M_temper, 0), (T_M_winds, 0), (T_M_claimed, 0), (T_M_reversible, 0), (T_M_operation, 0), (T_M_first, 0), (T_M_second, 0), (T_M_chord, 0), (T_M_degrees, 0), (T_M_best, 0), (T_M_isRelay, 0)] p0 p' f0 f' → s_w X (d + 7) K_X16_init 70 [some (.ref b), none] [] (p', q_iA I, J, (c.1 + 6, c.2 + 18), s_rw w b (20, 0, f')) (fun r S' => e_rcr (none) r = true ∧ Q r S')) : s_w X (d + 7) K_X16_init 4 [some (.ref b), none] [] (p, I, J, c, s_rw w b (20, 0, f)) (fun r S' => e_rcr (none) r = true ∧ Q r S') := by
  refine w_op (pc' := 5) dX16_init_4 rfl ?_
  refine t_new dX16_init_5 rfl (show c.1 + 0 < e_xb by omega) (fun a5 ha5 => ?_)
  refine w_op (pc' := 9) dX16_init_8 rfl ?_
  refine t_callI (As := []) dX16_init_9 rfl rM_Jx4a65c_init_da8c8 (by decide) (by decide) rfl rfl rfl (Nat.le_of_ble_eq_true rfl) (c_initL ?_)
  refine ⟨rfl, ?_⟩
  refine w_ghost (S' := (s_pv p T_LIST 2 a5 0, (s_ILIST I 2 0 0), J, (c.1 + 1, c.2 + 3), s_rw w b (20, 0, f))) (fun h hs => hs.pubLIST (x0 := 0) (x1 := 0) hq.nv ha5.1 rfl rfl (by rw [hq.la, hA 2 (by decide) (by decide)]; rfl) (Or.inr (by decide)) (Or.inl ((hq.md (by decide) (by decide)).trans (hM 0))) (Or.inr (by decide)) rfl (fun j9 hj9 => hsC j9 ((hq.md (by decide) (by decide)).symm.trans hj9)) (fun j9 hj9 => by rw [hq.md (by decide) (by decide), hM] at hj9; cases hj9) (fun j9 hj9 => hsW j9 ((hq.md (by decide) (by decide)).symm.trans hj9))) ?_
  refine t_putR dX16_init_12 rfl rfl (Or.inr ⟨rfl, rfl, rfl⟩) ?_
  have hq := hq.step (sl := 0) (t := T_LIST) (i := 2) (a := a5) (n := 0) (by decide) (by decide) (by decide) (by decide)
  refine w_show (S' := (s_pv p T_LIST 2 a5 0, (s_ILIST I 2 0 0), J, (c.1 + 1, c.2 + 3), s_rw w b (20, 0, s_fu f 0 (.ref a5)))) rfl ?_
  generalize s_pv p T_LIST 2 a5 0 = p at hq ⊢
  generalize s_fu f 0 (.ref a5) = f at hq ⊢
  refine w_op (pc' := 16) dX16_init_15 rfl ?_
  refine t_new dX16_init_16 rfl (show c.1 + 1 < e_xb by omega) (fun a16 ha16 => ?_)
  refine w_op (pc' := 20) dX16_init_19 rfl ?_
  refine t_callI (As := []) dX16_init_20 rfl rM_Jx4a65c_init_da8c8 (by decide) (by decide) rfl rfl rfl (Nat.le_of_ble_eq_true rfl) (c_initL ?_)
  refine ⟨rfl, ?_⟩
  refine w_ghost (S' := (s_pv p T_LIST 3 a16 0, (s_ILIST (s_ILIST I 2 0 0) 3 0 0), J, (c.1 + 2, c.2 + 6), s_rw w b (20, 0, f))) (fun h hs => hs.pubLIST (x0 := 0) (x1 := 0) hq.nv ha16.1 rfl rfl (by rw [hq.la, hA 3 (by decide) (by decide)]; rfl) (Or.inr (by decide)) (Or.inl ((hq.md (by decide) (by decide)).trans (hM 0))) (Or.inr (by decide)) rfl (fun j9 hj9 => hsC j9 ((hq.md (by decide) (by decide)).symm.trans hj9)) (fun j9 hj9 => by rw [hq.md (by decide) (by decide), hM] at hj9; cases hj9) (fun j9 hj9 => hsW j9 ((hq.md (by decide) (by decide)).symm.trans hj9))) ?_
  refine t_putR dX16_init_23 rfl rfl (Or.inr ⟨rfl, rfl, rfl⟩) ?_
  have hq := hq.step (sl := 1) (t := T_LIST) (i := 3) (a := a16) (n := 0) (by decide) (by decide) (by decide) (by decide)
  refine w_show (S' := (s_pv p T_LIST 3 a16 0, (s_ILIST (s_ILIST I 2 0 0) 3 0 0), J, (c.1 + 2, c.2 + 6), s_rw w b (20, 0, s_fu f 1 (.ref a16)))) rfl ?_
  generalize s_pv p T_LIST 3 a16 0 = p at hq ⊢
  generalize s_fu f 1 (.ref a16) = f at hq ⊢
  refine w_op (pc' := 27) dX16_init_26 rfl ?_
  refine t_new dX16_init_27 rfl (show c.1 + 2 < e_xb by omega) (fun a27 ha27 => ?_)
  refine w_op (pc' := 31) dX16_init_30 rfl ?_
  refine t_callI (As := []) dX16_init_31 rfl rM_Jx4a65c_init_da8c8 (by decide) (by decide) rfl rfl rfl (Nat.le_of_ble_eq_true rfl) (c_initL ?_)
  refine ⟨rfl, ?_⟩
  refine w_ghost (S' := (s_pv p T_LIST 4 a27 0, (s_ILIST (s_ILIST (s_ILIST I 2 0 0) 3 0 0) 4 0 0), J, (c.1 + 3, c.2 + 9), s_rw w b (20, 0, f))) (fun h hs => hs.pubLIST (x0 := 0) (x1 := 0) hq.nv ha27.1 rfl rfl (by rw [hq.la, hA 4 (by decide) (by decide)]; rfl) (Or.inr (by decide)) (Or.inl ((hq.md (by decide) (by decide)).trans (hM 0))) (Or.inr (by decide)) rfl (fun j9 hj9 => hsC j9 ((hq.md (by decide) (by decide)).symm.trans hj9)) (fun j9 hj9 => by rw [hq.md (by decide) (by decide), hM] at hj9; cases hj9) (fun j9 hj9 => hsW j9 ((hq.md (by decide) (by decide)).symm.trans hj9))) ?_
  refine t_putR dX16_init_34 rfl rfl (Or.inr ⟨rfl, rfl, rfl⟩) ?_
  have hq := hq.step (sl := 2) (t := T_LIST) (i := 4) (a := a27) (n := 0) (by decide) (by decide) (by decide) (by decide)
  refine w_show (S' := (s_pv p T_LIST 4 a27 0, (s_ILIST (s_ILIST (s_ILIST I 2 0 0) 3 0 0) 4 0 0), J, (c.1 + 3, c.2 + 9), s_rw w b (20, 0, s_fu f 2 (.ref a27)))) rfl ?_
  generalize s_pv p T_LIST 4 a27 0 = p at hq ⊢
  generalize s_fu f 2 (.ref a27) = f at hq ⊢
  refine w_op (pc' := 38) dX16_init_37 rfl ?_
  refine t_new dX16_init_38 rfl (show c.1 + 3 < e_xb by omega) (fun a38 ha38 => ?_)
  refine w_op (pc' := 42) dX16_init_41 rfl ?_
  refine t_callI (As := []) dX16_init_42 rfl rM_Jx4a65c_init_da8c8 (by decide) (by decide) rfl rfl rfl (Nat.le_of_ble_eq_true rfl) (c_initL ?_)
  refine ⟨rfl, ?_⟩
  refine w_ghost (S' := (s_pv p T_LIST 5 a38 0, (s_ILIST (s_ILIST (s_ILIST (s_ILIST I 2 0 0) 3 0 0) 4 0 0) 5 0 0), J, (c.1 + 4, c.2 + 12), s_rw w b (20, 0, f))) (fun h hs => hs.pubLIST (x0 := 0) (x1 := 0) hq.nv ha38.1 rfl rfl (by rw [hq.la, hA 5 (by decide) (by decide)]; rfl) (Or.inr (by decide)) (Or.inl ((hq.md (by decide) (by decide)).trans (hM 0))) (Or.inr (by decide)) rfl (fun j9 hj9 => hsC j9 ((hq.md (by decide) (by decide)).symm.trans hj9)) (fun j9 hj9 => by rw [hq.md (by decide) (by decide), hM] at hj9; cases hj9) (fun j9 hj9 => hsW j9 ((hq.md (by decide) (by decide)).symm.trans hj9))) ?_
  refine t_putR dX16_init_45 rfl rfl (Or.inr ⟨rfl, rfl, rfl⟩) ?_
  have hq := hq.step (sl := 3) (t := T_LIST) (i := 5) (a := a38) (n := 0) (by decide) (by decide) (by decide) (by decide)
  refine w_show (S' := (s_pv p T_LIST 5 a38 0, (s_ILIST (s_ILIST (s_ILIST (s_ILIST I 2 0 0) 3 0 0) 4 0 0) 5 0 0), J, (c.1 + 4, c.2 + 12), s_rw w b (20, 0, s_fu f 3 (.ref a38)))) rfl ?_
  generalize s_pv p T_LIST 5 a38 0 = p at hq ⊢
  generalize s_fu f 3 (.ref a38) = f at hq ⊢
  refine w_op (pc' := 49) dX16_init_48 rfl ?_
  refine t_new dX16_init_49 rfl (show c.1 + 4 < e_xb by omega) (fun a49 ha49 => ?_)
  refine w_op (pc' := 53) dX16_init_52 rfl ?_
  refine t_callI (As := []) dX16_init_53 rfl rM_Jx4a65c_init_da8c8 (by decide) (by decide) rfl rfl rfl (Nat.le_of_ble_eq_true rfl) (c_initL ?_)
  refine ⟨rfl, ?_⟩
  refine w_ghost (S' := (s_pv p T_LIST 6 a49 0, (s_ILIST (s_ILIST (s_ILIST (s_ILIST (s_ILIST I 2 0 0) 3 0 0) 4 0 0) 5 0 0) 6 0 0), J, (c.1 + 5, c.2 + 15), s_rw w b (20, 0, f))) (fun h hs => hs.pubLIST (x0 := 0) (x1 := 0) hq.nv ha49.1 rfl rfl (by rw [hq.la, hA 6 (by decide) (by decide)]; rfl) (Or.inr (by decide)) (Or.inl ((hq.md (by decide) (by decide)).trans (hM 0))) (Or.inr (by decide)) rfl (fun j9 hj9 => hsC j9 ((hq.md (by decide) (by decide)).symm.trans hj9)) (fun j9 hj9 => by rw [hq.md (by decide) (by decide), hM] at hj9; cases hj9) (fun j9 hj9 => hsW j9 ((hq.md (by decide) (by decide)).symm.trans hj9))) ?_
  refine t_putR dX16_init_56 rfl rfl (Or.inr ⟨rfl, rfl, rfl⟩) ?_
  have hq := hq.step (sl := 4) (t := T_LIST) (i := 6) (a := a49) (n := 0) (by decide) (by decide) (by decide) (by decide)
  refine w_show (S' := (s_pv p T_LIST 6 a49 0, (s_ILIST (s_ILIST (s_ILIST (s_ILIST (s_ILIST I 2 0 0) 3 0 0) 4 0 0) 5 0 0) 6 0 0), J, (c.1 + 5, c.2 + 15), s_rw w b (20, 0, s_fu f 4 (.ref a49)))) rfl ?_
  generalize s_pv p T_LIST 6 a49 0 = p at hq ⊢
  generalize s_fu f 4 (.ref a49) = f at hq ⊢
  refine w_op (pc' := 60) dX16_init_59 rfl ?_
  refine t_new dX16_init_60 rfl (show c.1 + 5 < e_xb by omega) (fun a60 ha60 => ?_)
  refine w_op (pc' := 64) dX16_init_63 rfl ?_
  refine t_callI (As := []) dX16_init_64 rfl rM_Jx4a65c_init_da8c8 (by decide) (by decide) rfl rfl rfl (Nat.le_of_ble_eq_true rfl) (c_initL ?_)
  refine ⟨rfl, ?_⟩
  refine w_ghost (S' := (s_pv p T_LIST 7 a60 0, (s_ILIST (s_ILIST (s_ILIST (s_ILIST (s_ILIST (s_ILIST I 2 0 0) 3 0 0) 4 0 0) 5 0 0) 6 0 0) 7 0 0), J, (c.1 + 6, c.2 + 18), s_rw w b (20, 0, f))) (fun h hs => hs.pubLIST (x0 := 0) (x1 := 0) hq.nv ha60.1 rfl rfl (by rw [hq.la, hA 7 (by decide) (by decide)]; rfl) (Or.inr (by decide)) (Or.inl ((hq.md (by decide) (by decide)).trans (hM 0))) (Or.inr (by decide)) rfl (fun j9 hj9 => hsC j9 ((hq.md (by decide) (by decide)).symm.trans hj9)) (fun j9 hj9 => by rw [hq.md (by decide) (by decide), hM] at hj9; cases hj9) (fun j9 hj9 => hsW j9 ((hq.md (by decide) (by decide)).symm.trans hj9))) ?_
  refine t_putR dX16_init_67 rfl rfl (Or.inr ⟨rfl, rfl, rfl⟩) ?_
  have hq := hq.step (sl := 5) (t := T_LIST) (i := 7) (a := a60) (n := 0) (by decide) (by decide) (by decide) (by decide)
  refine w_show (S' := (s_pv p T_LIST 7 a60 0, (s_ILIST (s_ILIST (s_ILIST (s_ILIST (s_ILIST (s_ILIST I 2 0 0) 3 0 0) 4 0 0) 5 0 0) 6 0 0) 7 0 0), J, (c.1 + 6, c.2 + 18), s_rw w b (20, 0, s_fu f 5 (.ref a60)))) rfl ?_
  generalize s_pv p T_LIST 7 a60 0 = p at hq ⊢
  generalize s_fu f 5 (.ref a60) = f at hq ⊢
  exact k p f hq

def q_iB (I : e_I) : e_I := (s_z (s_z (s_z (s_z (s_z (s_z (s_z (s_z (s_z (s_z (s_z (s_z (s_z (s_z I f_m_isDown 0 183) f_m_isHeld 0 1280) f_m_isWanted 0 1280) f_m_isCalled 0 1280) f_m_isOpen 0 1280) f_m_speaks 0 1280) f_m_wentDown 0 183) f_m_counts 0 1280) f_m_since 0 1280) f_m_closedSince 0 1280) f_m_begun 0 1280) f_m_tuning 0 1280) f_m_rankOf 0 1280) f_m_fault 0 1280)
set_option maxRecDepth 100000 in
set_option maxHeartbeats 4000000 in
theorem l_X16_init_iB {X : e_XT} {d : Nat} {p : e_Sp} {I : e_I} {J : e_Jt} {c : Nat × Nat} {w : e_Rw1} {Q : e_Rt → e_SS → Prop} {b : Nat} {f0 f : Nat → Value} {p0 : e_Sp} (hM : ∀ i, p0.2.1 T_MODEL i = false) (hA : ∀ l, 2 ≤ l → l ≤ 11 → p0.1 T_LARR l = e_xb + 8) (hsC : ∀ j, p0.2.1 T_CONS j = true → j = 0) (hsW : ∀ j, p0.2.1 T_WORKS j = true → j = 0) (hq : q_In [(5, T_LIST, 7), (4, T_LIST, 6), (3, T_LIST, 5), (2, T_LIST, 4), (1, T_LIST, 3), (0, T_LIST, 2)] [(T_M_isDown, 0), (T_M_isHeld, 0), (T_M_isWanted, 0), (T_M_isCalled, 0), (T_M_isOpen, 0), (T_M_speaks, 0), (T_M_wentDown, 0), (T_M_counts, 0), (T_M_since, 0), (T_M_closedSince, 0), (T_M_begun, 0), (T_M_tuning, 0), (T_M_rankOf, 0), (T_M_fault, 0), (T_M_supply, 0), (T_M_box, 0), (T_M_temper, 0), (T_M_winds, 0), (T_M_claimed, 0), (T_M_reversible, 0), (T_M_operation, 0), (T_M_first, 0), (T_M_second, 0), (T_M_chord, 0), (T_M_degrees, 0), (T_M_best, 0), (T_M_isRelay, 0)] p0 p f0 f) (hc : c.1 + 15 < e_xb) (k : ∀ p' f', q_In [(19, T_M_fault, 0), (18, T_M_rankOf, 0), (17, T_M_tuning, 0), (16, T_M_begun, 0), (15, T_M_closedSince, 0), (14, T_M_since, 0), (13, T_M_counts, 0), (12, T_M_wentDown, 0), (11, T_M_speaks, 0), (10, T_M_isOpen, 0), (9, T_M_isCalled, 0), (8, T_M_isWanted, 0), (7, T_M_isHeld, 0), (6, T_M_isDown, 0), (5, T_LIST, 7), (4, T_LIST, 6), (3, T_LIST, 5), (2, T_LIST, 4), (1, T_LIST, 3), (0, T_LIST, 2)] [(T_M_supply, 0), (T_M_box, 0), (T_M_temper, 0), (T_M_winds, 0), (T_M_claimed, 0), (T_M_reversible, 0), (T_M_operation, 0), (T_M_first, 0), (T_M_second, 0), (T_M_chord, 0), (T_M_degrees, 0), (T_M_best, 0), (T_M_isRelay, 0)] p0 p' f0 f' → s_w X (d + 7) K_X16_init 196 [some (.ref b), none] [] (p', q_iB I, J, (c.1 + 14, c.2 + 15726), s_rw w b (20, 0, f')) (fun r S' => e_rcr (none) r = true ∧ Q r S')) : s_w X (d + 7) K_X16_init 70 [some (.ref b), none] [] (p, I, J, c, s_rw w b (20, 0, f)) (fun r S' => e_rcr (none) r = true ∧ Q r S') := by
  refine w_op (pc' := 71) dX16_init_70 rfl ?_
  refine w_sipush (v := 183) dX16_init_71 rfl ?_
  refine t_newrow (t := T_M_isDown) (i := 0) (F := f_m_isDown) (G := g_m_isDown) (W := 183) (W' := 183) dX16_init_74 ⟨by decide, by decide⟩ rfl (by decide) (Or.inl rfl) rfl (by decide) (by decide) (by decide +kernel) (by decide +kernel) (by decide +kernel) (by decide +kernel) (by decide) (by decide) (by decide) hq.nv (s_par0 (tt := T_MODEL) rfl (fun i9 => (hq.md (by decide) (by decide)).trans (hM i9))) (show c.1 + 0 < e_xb by omega) (fun a74 ha74 => ?_)
  refine t_putR dX16_init_76 rfl rfl (Or.inr ⟨rfl, rfl, rfl⟩) ?_
  have hq := hq.step (sl := 6) (t := T_M_isDown) (i := 0) (a := a74) (n := 183) (by decide) (by decide) (by decide) (by decide)
  refine w_show (S' := (s_pv p T_M_isDown 0 a74 183, (s_z I f_m_isDown 0 183), J, (c.1 + 1, c.2 + 183), s_rw w b (20, 0, s_fu f 6 (.ref a74)))) rfl ?_
  generalize s_pv p T_M_isDown 0 a74 183 = p at hq ⊢
  generalize s_fu f 6 (.ref a74) = f at hq ⊢
  refine w_op (pc' := 80) dX16_init_79 rfl ?_
  refine w_sipush (v := 1280) dX16_init_80 rfl ?_
  refine t_newrow (t := T_M_isHeld) (i := 0) (F := f_m_isHeld) (G := g_m_isHeld) (W := 1280) (W' := 1280) dX16_init_83 ⟨by decide, by decide⟩ rfl (by decide) (Or.inl rfl) rfl (by decide) (by decide) (by decide +kernel) (by decide +kernel) (by decide +kernel) (by decide +kernel) (by decide) (by decide) (by decide) hq.nv (s_par0 (tt := T_MODEL) rfl (fun i9 => (hq.md (by decide) (by decide)).trans (hM i9))) (show c.1 + 1 < e_xb by omega) (fun a83 ha83 => ?_)
  refine t_putR dX16_init_85 rfl rfl (Or.inr ⟨rfl, rfl, rfl⟩) ?_
  have hq := hq.step (sl := 7) (t := T_M_isHeld) (i := 0) (a := a83) (n := 1280) (by decide) (by decide) (by decide) (by decide)
  refine w_show (S' := (s_pv p T_M_isHeld 0 a83 1280, (s_z (s_z I f_m_isDown 0 183) f_m_isHeld 0 1280), J, (c.1 + 2, c.2 + 1463), s_rw w b (20, 0, s_fu f 7 (.ref a83)))) rfl ?_
  generalize s_pv p T_M_isHeld 0 a83 1280 = p at hq ⊢
  generalize s_fu f 7 (.ref a83) = f at hq ⊢
  refine w_op (pc' := 89) dX16_init_88 rfl ?_
  refine w_sipush (v := 1280) dX16_init_89 rfl ?_
  refine t_newrow (t := T_M_isWanted) (i := 0) (F := f_m_isWanted) (G := g_m_isWanted) (W := 1280) (W' := 1280) dX16_init_92 ⟨by decide, by decide⟩ rfl (by decide) (Or.inl rfl) rfl (by decide) (by decide) (by decide +kernel) (by decide +kernel) (by decide +kernel) (by decide +kernel) (by decide) (by decide) (by decide) hq.nv (s_par0 (tt := T_MODEL) rfl (fun i9 => (hq.md (by decide) (by decide)).trans (hM i9))) (show c.1 + 2 < e_xb by omega) (fun a92 ha92 => ?_)
  refine t_putR dX16_init_94 rfl rfl (Or.inr ⟨rfl, rfl, rfl⟩) ?_
  have hq := hq.step (sl := 8) (t := T_M_isWanted) (i := 0) (a := a92) (n := 1280) (by decide) (by decide) (by decide) (by decide)
  refine w_show (S' := (s_pv p T_M_isWanted 0 a92 1280, (s_z (s_z (s_z I f_m_isDown 0 183) f_m_isHeld 0 1280) f_m_isWanted 0 1280), J, (c.1 + 3, c.2 + 2743), s_rw w b (20, 0, s_fu f 8 (.ref a92)))) rfl ?_
  generalize s_pv p T_M_isWanted 0 a92 1280 = p at hq ⊢
  generalize s_fu f 8 (.ref a92) = f at hq ⊢
  refine w_op (pc' := 98) dX16_init_97 rfl ?_
  refine w_sipush (v := 1280) dX16_init_98 rfl ?_
  refine t_newrow (t := T_M_isCalled) (i := 0) (F := f_m_isCalled) (G := g_m_isCalled) (W := 1280) (W' := 1280) dX16_init_101 ⟨by decide, by decide⟩ rfl (by decide) (Or.inl rfl) rfl (by decide) (by decide) (by decide +kernel) (by decide +kernel) (by decide +kernel) (by decide +kernel) (by decide) (by decide) (by decide) hq.nv (s_par0 (tt := T_MODEL) rfl (fun i9 => (hq.md (by decide) (by decide)).trans (hM i9))) (show c.1 + 3 < e_xb by omega) (fun a101 ha101 => ?_)
  refine t_putR dX16_init_103 rfl rfl (Or.inr ⟨rfl, rfl, rfl⟩) ?_
  have hq := hq.step (sl := 9) (t := T_M_isCalled) (i := 0) (a := a101) (n := 1280) (by decide) (by decide) (by decide) (by decide)
  refine w_show (S' := (s_pv p T_M_isCalled 0 a101 1280, (s_z (s_z (s_z (s_z I f_m_isDown 0 183) f_m_isHeld 0 1280) f_m_isWanted 0 1280) f_m_isCalled 0 1280), J, (c.1 + 4, c.2 + 4023), s_rw w b (20, 0, s_fu f 9 (.ref a101)))) rfl ?_
  generalize s_pv p T_M_isCalled 0 a101 1280 = p at hq ⊢
  generalize s_fu f 9 (.ref a101) = f at hq ⊢
  refine w_op (pc' := 107) dX16_init_106 rfl ?_
  refine w_sipush (v := 1280) dX16_init_107 rfl ?_
  refine t_newrow (t := T_M_isOpen) (i := 0) (F := f_m_isOpen) (G := g_m_isOpen) (W := 1280) (W' := 1280) dX16_init_110 ⟨by decide, by decide⟩ rfl (by decide) (Or.inl rfl) rfl (by decide) (by decide) (by decide +kernel) (by decide +kernel) (by decide +kernel) (by decide +kernel) (by decide) (by decide) (by decide) hq.nv (s_par0 (tt := T_MODEL) rfl (fun i9 => (hq.md (by decide) (by decide)).trans (hM i9))) (show c.1 + 4 < e_xb by omega) (fun a110 ha110 => ?_)
  refine t_putR dX16_init_112 rfl rfl (Or.inr ⟨rfl, rfl, rfl⟩) ?_
  have hq := hq.step (sl := 10) (t := T_M_isOpen) (i := 0) (a := a110) (n := 1280) (by decide) (by decide) (by decide) (by decide)
  refine w_show (S' := (s_pv p T_M_isOpen 0 a110 1280, (s_z (s_z (s_z (s_z (s_z I f_m_isDown 0 183) f_m_isHeld 0 1280) f_m_isWanted 0 1280) f_m_isCalled 0 1280) f_m_isOpen 0 1280), J, (c.1 + 5, c.2 + 5303), s_rw w b (20, 0, s_fu f 10 (.ref a110)))) rfl ?_
  generalize s_pv p T_M_isOpen 0 a110 1280 = p at hq ⊢
  generalize s_fu f 10 (.ref a110) = f at hq ⊢
  refine w_op (pc' := 116) dX16_init_115 rfl ?_
  refine w_sipush (v := 1280) dX16_init_116 rfl ?_
  refine t_newrow (t := T_M_speaks) (i := 0) (F := f_m_speaks) (G := g_m_speaks) (W := 1280) (W' := 1280) dX16_init_119 ⟨by decide, by decide⟩ rfl (by decide) (Or.inl rfl) rfl (by decide) (by decide) (by decide +kernel) (by decide +kernel) (by decide +kernel) (by decide +kernel) (by decide) (by decide) (by decide) hq.nv (s_par0 (tt := T_MODEL) rfl (fun i9 => (hq.md (by decide) (by decide)).trans (hM i9))) (show c.1 + 5 < e_xb by omega) (fun a119 ha119 => ?_)
  refine t_putR dX16_init_121 rfl rfl (Or.inr ⟨rfl, rfl, rfl⟩) ?_
  have hq := hq.step (sl := 11) (t := T_M_speaks) (i := 0) (a := a119) (n := 1280) (by decide) (by decide) (by decide) (by decide)
  refine w_show (S' := (s_pv p T_M_speaks 0 a119 1280, (s_z (s_z (s_z (s_z (s_z (s_z I f_m_isDown 0 183) f_m_isHeld 0 1280) f_m_isWanted 0 1280) f_m_isCalled 0 1280) f_m_isOpen 0 1280) f_m_speaks 0 1280), J, (c.1 + 6, c.2 + 6583), s_rw w b (20, 0, s_fu f 11 (.ref a119)))) rfl ?_
  generalize s_pv p T_M_speaks 0 a119 1280 = p at hq ⊢
  generalize s_fu f 11 (.ref a119) = f at hq ⊢
  refine w_op (pc' := 125) dX16_init_124 rfl ?_
  refine w_sipush (v := 183) dX16_init_125 rfl ?_
  refine t_newrow (t := T_M_wentDown) (i := 0) (F := f_m_wentDown) (G := g_m_wentDown) (W := 183) (W' := 183) dX16_init_128 ⟨by decide, by decide⟩ rfl (by decide) (Or.inl rfl) rfl (by decide) (by decide) (by decide +kernel) (by decide +kernel) (by decide +kernel) (by decide +kernel) (by decide) (by decide) (by decide) hq.nv (s_par0 (tt := T_MODEL) rfl (fun i9 => (hq.md (by decide) (by decide)).trans (hM i9))) (show c.1 + 6 < e_xb by omega) (fun a128 ha128 => ?_)
  refine t_putR dX16_init_130 rfl rfl (Or.inr ⟨rfl, rfl, rfl⟩) ?_
  have hq := hq.step (sl := 12) (t := T_M_wentDown) (i := 0) (a := a128) (n := 183) (by decide) (by decide) (by decide) (by decide)
  refine w_show (S' := (s_pv p T_M_wentDown 0 a128 183, (s_z (s_z (s_z (s_z (s_z (s_z (s_z I f_m_isDown 0 183) f_m_isHeld 0 1280) f_m_isWanted 0 1280) f_m_isCalled 0 1280) f_m_isOpen 0 1280) f_m_speaks 0 1280) f_m_wentDown 0 183), J, (c.1 + 7, c.2 + 6766), s_rw w b (20, 0, s_fu f 12 (.ref a128)))) rfl ?_
  generalize s_pv p T_M_wentDown 0 a128 183 = p at hq ⊢
  generalize s_fu f 12 (.ref a128) = f at hq ⊢
  refine w_op (pc' := 134) dX16_init_133 rfl ?_
  refine w_sipush (v := 1280) dX16_init_134 rfl ?_
  refine t_newrow (t := T_M_counts) (i := 0) (F := f_m_counts) (G := g_m_counts) (W := 1280) (W' := 1280) dX16_init_137 ⟨by decide, by decide⟩ rfl (by decide) (Or.inl rfl) rfl (by decide) (by decide) (by decide +kernel) (by decide +kernel) (by decide +kernel) (by decide +kernel) (by decide) (by decide) (by decide) hq.nv (s_par0 (tt := T_MODEL) rfl (fun i9 => (hq.md (by decide) (by decide)).trans (hM i9))) (show c.1 + 7 < e_xb by omega) (fun a137 ha137 => ?_)
  refine t_putR dX16_init_139 rfl rfl (Or.inr ⟨rfl, rfl, rfl⟩) ?_
  have hq := hq.step (sl := 13) (t := T_M_counts) (i := 0) (a := a137) (n := 1280) (by decide) (by decide) (by decide) (by decide)
  refine w_show (S' := (s_pv p T_M_counts 0 a137 1280, (s_z (s_z (s_z (s_z (s_z (s_z (s_z (s_z I f_m_isDown 0 183) f_m_isHeld 0 1280) f_m_isWanted 0 1280) f_m_isCalled 0 1280) f_m_isOpen 0 1280) f_m_speaks 0 1280) f_m_wentDown 0 183) f_m_counts 0 1280), J, (c.1 + 8, c.2 + 8046), s_rw w b (20, 0, s_fu f 13 (.ref a137)))) rfl ?_
  generalize s_pv p T_M_counts 0 a137 1280 = p at hq ⊢
  generalize s_fu f 13 (.ref a137) = f at hq ⊢
  refine w_op (pc' := 143) dX16_init_142 rfl ?_
  refine w_sipush (v := 1280) dX16_init_143 rfl ?_
  refine t_newrow (t := T_M_since) (i := 0) (F := f_m_since) (G := g_m_since) (W := 1280) (W' := 1280) dX16_init_146 ⟨by decide, by decide⟩ rfl (by decide) (Or.inl rfl) rfl (by decide) (by decide) (by decide +kernel) (by decide +kernel) (by decide +kernel) (by decide +kernel) (by decide) (by decide) (by decide) hq.nv (s_par0 (tt := T_MODEL) rfl (fun i9 => (hq.md (by decide) (by decide)).trans (hM i9))) (show c.1 + 8 < e_xb by omega) (fun a146 ha146 => ?_)
  refine t_putR dX16_init_148 rfl rfl (Or.inr ⟨rfl, rfl, rfl⟩) ?_
  have hq := hq.step (sl := 14) (t := T_M_since) (i := 0) (a := a146) (n := 1280) (by decide) (by decide) (by decide) (by decide)
  refine w_show (S' := (s_pv p T_M_since 0 a146 1280, (s_z (s_z (s_z (s_z (s_z (s_z (s_z (s_z (s_z I f_m_isDown 0 183) f_m_isHeld 0 1280) f_m_isWanted 0 1280) f_m_isCalled 0 1280) f_m_isOpen 0 1280) f_m_speaks 0 1280) f_m_wentDown 0 183) f_m_counts 0 1280) f_m_since 0 1280), J, (c.1 + 9, c.2 + 9326), s_rw w b (20, 0, s_fu f 14 (.ref a146)))) rfl ?_
  generalize s_pv p T_M_since 0 a146 1280 = p at hq ⊢
  generalize s_fu f 14 (.ref a146) = f at hq ⊢
  refine w_op (pc' := 152) dX16_init_151 rfl ?_
  refine w_sipush (v := 1280) dX16_init_152 rfl ?_
  refine t_newrow (t := T_M_closedSince) (i := 0) (F := f_m_closedSince) (G := g_m_closedSince) (W := 1280) (W' := 1280) dX16_init_155 ⟨by decide, by decide⟩ rfl (by decide) (Or.inl rfl) rfl (by decide) (by decide) (by decide +kernel) (by decide +kernel) (by decide +kernel) (by decide +kernel) (by decide) (by decide) (by decide) hq.nv (s_par0 (tt := T_MODEL) rfl (fun i9 => (hq.md (by decide) (by decide)).trans (hM i9))) (show c.1 + 9 < e_xb by omega) (fun a155 ha155 => ?_)
  refine t_putR dX16_init_157 rfl rfl (Or.inr ⟨rfl, rfl, rfl⟩) ?_
  have hq := hq.step (sl := 15) (t := T_M_closedSince) (i := 0) (a := a155) (n := 1280) (by decide) (by decide) (by decide) (by decide)
  refine w_show (S' := (s_pv p T_M_closedSince 0 a155 1280, (s_z (s_z (s_z (s_z (s_z (s_z (s_z (s_z (s_z (s_z I f_m_isDown 0 183) f_m_isHeld 0 1280) f_m_isWanted 0 1280) f_m_isCalled 0 1280) f_m_isOpen 0 1280) f_m_speaks 0 1280) f_m_wentDown 0 183) f_m_counts 0 1280) f_m_since 0 1280) f_m_closedSince 0 1280), J, (c.1 + 10, c.2 + 10606), s_rw w b (20, 0, s_fu f 15 (.ref a155)))) rfl ?_
  generalize s_pv p T_M_closedSince 0 a155 1280 = p at hq ⊢
  generalize s_fu f 15 (.ref a155) = f at hq ⊢
  refine w_op (pc' := 161) dX16_init_160 rfl ?_
  refine w_sipush (v := 1280) dX16_init_161 rfl ?_
  refine t_newrow (t := T_M_begun) (i := 0) (F := f_m_begun) (G := g_m_begun) (W := 1280) (W' := 1280) dX16_init_164 ⟨by decide, by decide⟩ rfl (by decide) (Or.inl rfl) rfl (by decide) (by decide) (by decide +kernel) (by decide +kernel) (by decide +kernel) (by decide +kernel) (by decide) (by decide) (by decide) hq.nv (s_par0 (tt := T_MODEL) rfl (fun i9 => (hq.md (by decide) (by decide)).trans (hM i9))) (show c.1 + 10 < e_xb by omega) (fun a164 ha164 => ?_)
  refine t_putR dX16_init_166 rfl rfl (Or.inr ⟨rfl, rfl, rfl⟩) ?_
  have hq := hq.step (sl := 16) (t := T_M_begun) (i := 0) (a := a164) (n := 1280) (by decide) (by decide) (by decide) (by decide)
  refine w_show (S' := (s_pv p T_M_begun 0 a164 1280, (s_z (s_z (s_z (s_z (s_z (s_z (s_z (s_z (s_z (s_z (s_z I f_m_isDown 0 183) f_m_isHeld 0 1280) f_m_isWanted 0 1280) f_m_isCalled 0 1280) f_m_isOpen 0 1280) f_m_speaks 0 1280) f_m_wentDown 0 183) f_m_counts 0 1280) f_m_since 0 1280) f_m_closedSince 0 1280) f_m_begun 0 1280), J, (c.1 + 11, c.2 + 11886), s_rw w b (20, 0, s_fu f 16 (.ref a164)))) rfl ?_
  generalize s_pv p T_M_begun 0 a164 1280 = p at hq ⊢
  generalize s_fu f 16 (.ref a164) = f at hq ⊢
  refine w_op (pc' := 170) dX16_init_169 rfl ?_
  refine w_sipush (v := 1280) dX16_init_170 rfl ?_
  refine t_newrow (t := T_M_tuning) (i := 0) (F := f_m_tuning) (G := g_m_tuning) (W := 1280) (W' := 1280) dX16_init_173 ⟨by decide, by decide⟩ rfl (by decide) (Or.inl rfl) rfl (by decide) (by decide) (by decide +kernel) (by decide +kernel) (by decide +kernel) (by decide +kernel) (by decide) (by decide) (by decide) hq.nv (s_par0 (tt := T_MODEL) rfl (fun i9 => (hq.md (by decide) (by decide)).trans (hM i9))) (show c.1 + 11 < e_xb by omega) (fun a173 ha173 => ?_)
  refine t_putR dX16_init_175 rfl rfl (Or.inr ⟨rfl, rfl, rfl⟩) ?_
  have hq := hq.step (sl := 17) (t := T_M_tuning) (i := 0) (a := a173) (n := 1280) (by decide) (by decide) (by decide) (by decide)
  refine w_show (S' := (s_pv p T_M_tuning 0 a173 1280, (s_z (s_z (s_z (s_z (s_z (s_z (s_z (s_z (s_z (s_z (s_z (s_z I f_m_isDown 0 183) f_m_isHeld 0 1280) f_m_isWanted 0 1280) f_m_isCalled 0 1280) f_m_isOpen 0 1280) f_m_speaks 0 1280) f_m_wentDown 0 183) f_m_counts 0 1280) f_m_since 0 1280) f_m_closedSince 0 1280) f_m_begun 0 1280) f_m_tuning 0 1280), J, (c.1 + 12, c.2 + 13166), s_rw w b (20, 0, s_fu f 17 (.ref a173)))) rfl ?_
  generalize s_pv p T_M_tuning 0 a173 1280 = p at hq ⊢
  generalize s_fu f 17 (.ref a173) = f at hq ⊢
  refine w_op (pc' := 179) dX16_init_178 rfl ?_
  refine w_sipush (v := 1280) dX16_init_179 rfl ?_
  refine t_newrow (t := T_M_rankOf) (i := 0) (F := f_m_rankOf) (G := g_m_rankOf) (W := 1280) (W' := 1280) dX16_init_182 ⟨by decide, by decide⟩ rfl (by decide) (Or.inl rfl) rfl (by decide) (by decide) (by decide +kernel) (by decide +kernel) (by decide +kernel) (by decide +kernel) (by decide) (by decide) (by decide) hq.nv (s_par0 (tt := T_MODEL) rfl (fun i9 => (hq.md (by decide) (by decide)).trans (hM i9))) (show c.1 + 12 < e_xb by omega) (fun a182 ha182 => ?_)
  refine t_putR dX16_init_184 rfl rfl (Or.inr ⟨rfl, rfl, rfl⟩) ?_
  have hq := hq.step (sl := 18) (t := T_M_rankOf) (i := 0) (a := a182) (n := 1280) (by decide) (by decide) (by decide) (by decide)
  refine w_show (S' := (s_pv p T_M_rankOf 0 a182 1280, (s_z (s_z (s_z (s_z (s_z (s_z (s_z (s_z (s_z (s_z (s_z (s_z (s_z I f_m_isDown 0 183) f_m_isHeld 0 1280) f_m_isWanted 0 1280) f_m_isCalled 0 1280) f_m_isOpen 0 1280) f_m_speaks 0 1280) f_m_wentDown 0 183) f_m_counts 0 1280) f_m_since 0 1280) f_m_closedSince 0 1280) f_m_begun 0 1280) f_m_tuning 0 1280) f_m_rankOf 0 1280), J, (c.1 + 13, c.2 + 14446), s_rw w b (20, 0, s_fu f 18 (.ref a182)))) rfl ?_
  generalize s_pv p T_M_rankOf 0 a182 1280 = p at hq ⊢
  generalize s_fu f 18 (.ref a182) = f at hq ⊢
  refine w_op (pc' := 188) dX16_init_187 rfl ?_
  refine w_sipush (v := 1280) dX16_init_188 rfl ?_
  refine t_newrow (t := T_M_fault) (i := 0) (F := f_m_fault) (G := g_m_fault) (W := 1280) (W' := 1280) dX16_init_191 ⟨by decide, by decide⟩ rfl (by decide) (Or.inl rfl) rfl (by decide) (by decide) (by decide +kernel) (by decide +kernel) (by decide +kernel) (by decide +kernel) (by decide) (by decide) (by decide) hq.nv (s_par0 (tt := T_MODEL) rfl (fun i9 => (hq.md (by decide) (by decide)).trans (hM i9))) (show c.1 + 13 < e_xb by omega) (fun a191 ha191 => ?_)
  refine t_putR dX16_init_193 rfl rfl (Or.inr ⟨rfl, rfl, rfl⟩) ?_
  have hq := hq.step (sl := 19) (t := T_M_fault) (i := 0) (a := a191) (n := 1280) (by decide) (by decide) (by decide) (by decide)
  refine w_show (S' := (s_pv p T_M_fault 0 a191 1280, (s_z (s_z (s_z (s_z (s_z (s_z (s_z (s_z (s_z (s_z (s_z (s_z (s_z (s_z I f_m_isDown 0 183) f_m_isHeld 0 1280) f_m_isWanted 0 1280) f_m_isCalled 0 1280) f_m_isOpen 0 1280) f_m_speaks 0 1280) f_m_wentDown 0 183) f_m_counts 0 1280) f_m_since 0 1280) f_m_closedSince 0 1280) f_m_begun 0 1280) f_m_tuning 0 1280) f_m_rankOf 0 1280) f_m_fault 0 1280), J, (c.1 + 14, c.2 + 15726), s_rw w b (20, 0, s_fu f 19 (.ref a191)))) rfl ?_
  generalize s_pv p T_M_fault 0 a191 1280 = p at hq ⊢
  generalize s_fu f 19 (.ref a191) = f at hq ⊢
  exact k p f hq

def q_iC (I : e_I) : e_I := (s_z (s_z (s_z (s_z (s_z (s_z (s_z (s_z (s_up (s_up (s_up (s_up (s_z (s_z (s_z (s_up (s_up (s_up (s_z (s_up (s_up (s_up (s_z I f_m_supply 0 3) f_m_supply 0 50) f_m_supply 1 50) f_m_supply 2 50) f_m_box 0 3) f_m_box 0 10) f_m_box 1 10) f_m_box 2 10) f_m_temper 0 12) f_m_winds 0 3) f_m_claimed 0 4) f_m_claimed 0 (-1)) f_m_claimed 1 (-1)) f_m_claimed 2 (-1)) f_m_claimed 3 (-1)) f_m_reversible 0 16) f_m_operation 0 16) f_m_first 0 16) f_m_second 0 16) f_m_chord 0 4) f_m_degrees 0 7) f_m_best 0 3) f_m_isRelay 0 16)
set_option maxRecDepth 100000 in
set_option maxHeartbeats 4000000 in
theorem l_X16_init_iC {X : e_XT} {d : Nat} {p : e_Sp} {I : e_I} {J : e_Jt} {c : Nat × Nat} {w : e_Rw1} {Q : e_Rt → e_SS → Prop} {b : Nat} {f0 f : Nat → Value} {p0 : e_Sp} (hM : ∀ i, p0.2.1 T_MODEL i = false) (hA : ∀ l, 2 ≤ l → l ≤ 11 → p0.1 T_LARR l = e_xb + 8) (hsC : ∀ j, p0.2.1 T_CONS j = true → j = 0) (hsW : ∀ j, p0.2.1 T_WORKS j = true → j = 0) (hq : q_In [(19, T_M_fault, 0), (18, T_M_rankOf, 0), (17, T_M_tuning, 0), (16, T_M_begun, 0), (15, T_M_closedSince, 0), (14, T_M_since, 0), (13, T_M_counts, 0), (12, T_M_wentDown, 0), (11, T_M_speaks, 0), (10, T_M_isOpen, 0), (9, T_M_isCalled, 0), (8, T_M_isWanted, 0), (7, T_M_isHeld, 0), (6, T_M_isDown, 0), (5, T_LIST, 7), (4, T_LIST, 6), (3, T_LIST, 5), (2, T_LIST, 4), (1, T_LIST, 3), (0, T_LIST, 2)] [(T_M_supply, 0), (T_M_box, 0), (T_M_temper, 0), (T_M_winds, 0), (T_M_claimed, 0), (T_M_reversible, 0), (T_M_operation, 0), (T_M_first, 0), (T_M_second, 0), (T_M_chord, 0), (T_M_degrees, 0), (T_M_best, 0), (T_M_isRelay, 0)] p0 p f0 f) (hc : c.1 + 14 < e_xb) (k : ∀ p' f', q_In [(32, T_M_isRelay, 0), (31, T_M_best, 0), (30, T_M_degrees, 0), (29, T_M_chord, 0), (28, T_M_second, 0), (27, T_M_first, 0), (26, T_M_operation, 0), (25, T_M_reversible, 0), (24, T_M_claimed, 0), (23, T_M_winds, 0), (22, T_M_temper, 0), (21, T_M_box, 0), (20, T_M_supply, 0), (19, T_M_fault, 0), (18, T_M_rankOf, 0), (17, T_M_tuning, 0), (16, T_M_begun, 0), (15, T_M_closedSince, 0), (14, T_M_since, 0), (13, T_M_counts, 0), (12, T_M_wentDown, 0), (11, T_M_speaks, 0), (10, T_M_isOpen, 0), (9, T_M_isCalled, 0), (8, T_M_isWanted, 0), (7, T_M_isHeld, 0), (6, T_M_isDown, 0), (5, T_LIST, 7), (4, T_LIST, 6), (3, T_LIST, 5), (2, T_LIST, 4), (1, T_LIST, 3), (0, T_LIST, 2)] [] p0 p' f0 f' → s_w X (d + 7) K_X16_init 340 [some (.ref b), none] [] (p', q_iC I, J, (c.1 + 13, c.2 + 119), s_rw w b (20, 0, f')) (fun r S' => e_rcr (none) r = true ∧ Q r S')) : s_w X (d + 7) K_X16_init 196 [some (.ref b), none] [] (p, I, J, c, s_rw w b (20, 0, f)) (fun r S' => e_rcr (none) r = true ∧ Q r S') := by
  refine w_op (pc' := 197) dX16_init_196 rfl ?_
  refine w_iconst (v := 3) dX16_init_197 rfl ?_
  refine t_newrow (t := T_M_supply) (i := 0) (F := f_m_supply) (G := g_m_supply) (W := 3) (W' := 3) dX16_init_198 ⟨by decide, by decide⟩ rfl (by decide) (Or.inl rfl) rfl (by decide) (by decide) (by decide +kernel) (by decide +kernel) (by decide +kernel) (by decide +kernel) (by decide) (by decide) (by decide) hq.nv (s_par0 (tt := T_MODEL) rfl (fun i9 => (hq.md (by decide) (by decide)).trans (hM i9))) (show c.1 + 0 < e_xb by omega) (fun a198 ha198 => ?_)
  refine w_op (pc' := 201) dX16_init_200 rfl ?_
  refine w_iconst (v := 0) dX16_init_201 rfl ?_
  refine w_bipush (v := 50) dX16_init_202 rfl ?_
  refine t_iast0 (F := f_m_supply) dX16_init_204 rfl (by decide) (by decide) rfl s_pv_v (s_ix.nI (n := 0) (N := 3) (by decide) (by decide)) (by decide) ?_
  refine w_op (pc' := 206) dX16_init_205 rfl ?_
  refine w_iconst (v := 1) dX16_init_206 rfl ?_
  refine w_bipush (v := 50) dX16_init_207 rfl ?_
  refine t_iast0 (F := f_m_supply) dX16_init_209 rfl (by decide) (by decide) rfl s_pv_v (s_ix.nI (n := 1) (N := 3) (by decide) (by decide)) (by decide) ?_
  refine w_op (pc' := 211) dX16_init_210 rfl ?_
  refine w_iconst (v := 2) dX16_init_211 rfl ?_
  refine w_bipush (v := 50) dX16_init_212 rfl ?_
  refine t_iast0 (F := f_m_supply) dX16_init_214 rfl (by decide) (by decide) rfl s_pv_v (s_ix.nI (n := 2) (N := 3) (by decide) (by decide)) (by decide) ?_
  refine t_putR dX16_init_215 rfl rfl (Or.inr ⟨rfl, rfl, rfl⟩) ?_
  have hq := hq.step (sl := 20) (t := T_M_supply) (i := 0) (a := a198) (n := 3) (by decide) (by decide) (by decide) (by decide)
  refine w_show (S' := (s_pv p T_M_supply 0 a198 3, (s_up (s_up (s_up (s_z I f_m_supply 0 3) f_m_supply 0 50) f_m_supply 1 50) f_m_supply 2 50), J, (c.1 + 1, c.2 + 3), s_rw w b (20, 0, s_fu f 20 (.ref a198)))) rfl ?_
  generalize s_pv p T_M_supply 0 a198 3 = p at hq ⊢
  generalize s_fu f 20 (.ref a198) = f at hq ⊢
  refine w_op (pc' := 219) dX16_init_218 rfl ?_
  refine w_iconst (v := 3) dX16_init_219 rfl ?_
  refine t_newrow (t := T_M_box) (i := 0) (F := f_m_box) (G := g_m_box) (W := 3) (W' := 3) dX16_init_220 ⟨by decide, by decide⟩ rfl (by decide) (Or.inl rfl) rfl (by decide) (by decide) (by decide +kernel) (by decide +kernel) (by decide +kernel) (by decide +kernel) (by decide) (by decide) (by decide) hq.nv (s_par0 (tt := T_MODEL) rfl (fun i9 => (hq.md (by decide) (by decide)).trans (hM i9))) (show c.1 + 1 < e_xb by omega) (fun a220 ha220 => ?_)
  refine w_op (pc' := 223) dX16_init_222 rfl ?_
  refine w_iconst (v := 0) dX16_init_223 rfl ?_
  refine w_bipush (v := 10) dX16_init_224 rfl ?_
  refine t_iast0 (F := f_m_box) dX16_init_226 rfl (by decide) (by decide) rfl s_pv_v (s_ix.nI (n := 0) (N := 3) (by decide) (by decide)) (by decide) ?_
  refine w_op (pc' := 228) dX16_init_227 rfl ?_
  refine w_iconst (v := 1) dX16_init_228 rfl ?_
  refine w_bipush (v := 10) dX16_init_229 rfl ?_
  refine t_iast0 (F := f_m_box) dX16_init_231 rfl (by decide) (by decide) rfl s_pv_v (s_ix.nI (n := 1) (N := 3) (by decide) (by decide)) (by decide) ?_
  refine w_op (pc' := 233) dX16_init_232 rfl ?_
  refine w_iconst (v := 2) dX16_init_233 rfl ?_
  refine w_bipush (v := 10) dX16_init_234 rfl ?_
  refine t_iast0 (F := f_m_box) dX16_init_236 rfl (by decide) (by decide) rfl s_pv_v (s_ix.nI (n := 2) (N := 3) (by decide) (by decide)) (by decide) ?_
  refine t_putR dX16_init_237 rfl rfl (Or.inr ⟨rfl, rfl, rfl⟩) ?_
  have hq := hq.step (sl := 21) (t := T_M_box) (i := 0) (a := a220) (n := 3) (by decide) (by decide) (by decide) (by decide)
  refine w_show (S' := (s_pv p T_M_box 0 a220 3, (s_up (s_up (s_up (s_z (s_up (s_up (s_up (s_z I f_m_supply 0 3) f_m_supply 0 50) f_m_supply 1 50) f_m_supply 2 50) f_m_box 0 3) f_m_box 0 10) f_m_box 1 10) f_m_box 2 10), J, (c.1 + 2, c.2 + 6), s_rw w b (20, 0, s_fu f 21 (.ref a220)))) rfl ?_
  generalize s_pv p T_M_box 0 a220 3 = p at hq ⊢
  generalize s_fu f 21 (.ref a220) = f at hq ⊢
  refine w_op (pc' := 241) dX16_init_240 rfl ?_
  refine w_bipush (v := 12) dX16_init_241 rfl ?_
  refine t_newrow (t := T_M_temper) (i := 0) (F := f_m_temper) (G := g_m_temper) (W := 12) (W' := 12) dX16_init_243 ⟨by decide, by decide⟩ rfl (by decide) (Or.inl rfl) rfl (by decide) (by decide) (by decide +kernel) (by decide +kernel) (by decide +kernel) (by decide +kernel) (by decide) (by decide) (by decide) hq.nv (s_par0 (tt := T_MODEL) rfl (fun i9 => (hq.md (by decide) (by decide)).trans (hM i9))) (show c.1 + 2 < e_xb by omega) (fun a243 ha243 => ?_)
  refine t_putR dX16_init_245 rfl rfl (Or.inr ⟨rfl, rfl, rfl⟩) ?_
  have hq := hq.step (sl := 22) (t := T_M_temper) (i := 0) (a := a243) (n := 12) (by decide) (by decide) (by decide) (by decide)
  refine w_show (S' := (s_pv p T_M_temper 0 a243 12, (s_z (s_up (s_up (s_up (s_z (s_up (s_up (s_up (s_z I f_m_supply 0 3) f_m_supply 0 50) f_m_supply 1 50) f_m_supply 2 50) f_m_box 0 3) f_m_box 0 10) f_m_box 1 10) f_m_box 2 10) f_m_temper 0 12), J, (c.1 + 3, c.2 + 18), s_rw w b (20, 0, s_fu f 22 (.ref a243)))) rfl ?_
  generalize s_pv p T_M_temper 0 a243 12 = p at hq ⊢
  generalize s_fu f 22 (.ref a243) = f at hq ⊢
  refine w_op (pc' := 249) dX16_init_248 rfl ?_
  refine w_iconst (v := 3) dX16_init_249 rfl ?_
  refine t_newrow (t := T_M_winds) (i := 0) (F := f_m_winds) (G := g_m_winds) (W := 3) (W' := 3) dX16_init_250 ⟨by decide, by decide⟩ rfl (by decide) (Or.inl rfl) rfl (by decide) (by decide) (by decide +kernel) (by decide +kernel) (by decide +kernel) (by decide +kernel) (by decide) (by decide) (by decide) hq.nv (s_par0 (tt := T_MODEL) rfl (fun i9 => (hq.md (by decide) (by decide)).trans (hM i9))) (show c.1 + 3 < e_xb by omega) (fun a250 ha250 => ?_)
  refine t_putR dX16_init_252 rfl rfl (Or.inr ⟨rfl, rfl, rfl⟩) ?_
  have hq := hq.step (sl := 23) (t := T_M_winds) (i := 0) (a := a250) (n := 3) (by decide) (by decide) (by decide) (by decide)
  refine w_show (S' := (s_pv p T_M_winds 0 a250 3, (s_z (s_z (s_up (s_up (s_up (s_z (s_up (s_up (s_up (s_z I f_m_supply 0 3) f_m_supply 0 50) f_m_supply 1 50) f_m_supply 2 50) f_m_box 0 3) f_m_box 0 10) f_m_box 1 10) f_m_box 2 10) f_m_temper 0 12) f_m_winds 0 3), J, (c.1 + 4, c.2 + 21), s_rw w b (20, 0, s_fu f 23 (.ref a250)))) rfl ?_
  generalize s_pv p T_M_winds 0 a250 3 = p at hq ⊢
  generalize s_fu f 23 (.ref a250) = f at hq ⊢
  refine w_op (pc' := 256) dX16_init_255 rfl ?_
  refine w_iconst (v := 4) dX16_init_256 rfl ?_
  refine t_newrow (t := T_M_claimed) (i := 0) (F := f_m_claimed) (G := g_m_claimed) (W := 4) (W' := 4) dX16_init_257 ⟨by decide, by decide⟩ rfl (by decide) (Or.inl rfl) rfl (by decide) (by decide) (by decide +kernel) (by decide +kernel) (by decide +kernel) (by decide +kernel) (by decide) (by decide) (by decide) hq.nv (s_par0 (tt := T_MODEL) rfl (fun i9 => (hq.md (by decide) (by decide)).trans (hM i9))) (show c.1 + 4 < e_xb by omega) (fun a257 ha257 => ?_)
  refine w_op (pc' := 260) dX16_init_259 rfl ?_
  refine w_iconst (v := 0) dX16_init_260 rfl ?_
  refine w_iconst (v := (-1)) dX16_init_261 rfl ?_
  refine t_iast0 (F := f_m_claimed) dX16_init_262 rfl (by decide) (by decide) rfl s_pv_v (s_ix.nI (n := 0) (N := 4) (by decide) (by decide)) (by decide) ?_
  refine w_op (pc' := 264) dX16_init_263 rfl ?_
  refine w_iconst (v := 1) dX16_init_264 rfl ?_
  refine w_iconst (v := (-1)) dX16_init_265 rfl ?_
  refine t_iast0 (F := f_m_claimed) dX16_init_266 rfl (by decide) (by decide) rfl s_pv_v (s_ix.nI (n := 1) (N := 4) (by decide) (by decide)) (by decide) ?_
  refine w_op (pc' := 268) dX16_init_267 rfl ?_
  refine w_iconst (v := 2) dX16_init_268 rfl ?_
  refine w_iconst (v := (-1)) dX16_init_269 rfl ?_
  refine t_iast0 (F := f_m_claimed) dX16_init_270 rfl (by decide) (by decide) rfl s_pv_v (s_ix.nI (n := 2) (N := 4) (by decide) (by decide)) (by decide) ?_
  refine w_op (pc' := 272) dX16_init_271 rfl ?_
  refine w_iconst (v := 3) dX16_init_272 rfl ?_
  refine w_iconst (v := (-1)) dX16_init_273 rfl ?_
  refine t_iast0 (F := f_m_claimed) dX16_init_274 rfl (by decide) (by decide) rfl s_pv_v (s_ix.nI (n := 3) (N := 4) (by decide) (by decide)) (by decide) ?_
  refine t_putR dX16_init_275 rfl rfl (Or.inr ⟨rfl, rfl, rfl⟩) ?_
  have hq := hq.step (sl := 24) (t := T_M_claimed) (i := 0) (a := a257) (n := 4) (by decide) (by decide) (by decide) (by decide)
  refine w_show (S' := (s_pv p T_M_claimed 0 a257 4, (s_up (s_up (s_up (s_up (s_z (s_z (s_z (s_up (s_up (s_up (s_z (s_up (s_up (s_up (s_z I f_m_supply 0 3) f_m_supply 0 50) f_m_supply 1 50) f_m_supply 2 50) f_m_box 0 3) f_m_box 0 10) f_m_box 1 10) f_m_box 2 10) f_m_temper 0 12) f_m_winds 0 3) f_m_claimed 0 4) f_m_claimed 0 (-1)) f_m_claimed 1 (-1)) f_m_claimed 2 (-1)) f_m_claimed 3 (-1)), J, (c.1 + 5, c.2 + 25), s_rw w b (20, 0, s_fu f 24 (.ref a257)))) rfl ?_
  generalize s_pv p T_M_claimed 0 a257 4 = p at hq ⊢
  generalize s_fu f 24 (.ref a257) = f at hq ⊢
  refine w_op (pc' := 279) dX16_init_278 rfl ?_
  refine w_bipush (v := 16) dX16_init_279 rfl ?_
  refine t_newrow (t := T_M_reversible) (i := 0) (F := f_m_reversible) (G := g_m_reversible) (W := 16) (W' := 16) dX16_init_281 ⟨by decide, by decide⟩ rfl (by decide) (Or.inl rfl) rfl (by decide) (by decide) (by decide +kernel) (by decide +kernel) (by decide +kernel) (by decide +kernel) (by decide) (by decide) (by decide) hq.nv (s_par0 (tt := T_MODEL) rfl (fun i9 => (hq.md (by decide) (by decide)).trans (hM i9))) (show c.1 + 5 < e_xb by omega) (fun a281 ha281 => ?_)
  refine t_putR dX16_init_283 rfl rfl (Or.inr ⟨rfl, rfl, rfl⟩) ?_
  have hq := hq.step (sl := 25) (t := T_M_reversible) (i := 0) (a := a281) (n := 16) (by decide) (by decide) (by decide) (by decide)
  refine w_show (S' := (s_pv p T_M_reversible 0 a281 16, (s_z (s_up (s_up (s_up (s_up (s_z (s_z (s_z (s_up (s_up (s_up (s_z (s_up (s_up (s_up (s_z I f_m_supply 0 3) f_m_supply 0 50) f_m_supply 1 50) f_m_supply 2 50) f_m_box 0 3) f_m_box 0 10) f_m_box 1 10) f_m_box 2 10) f_m_temper 0 12) f_m_winds 0 3) f_m_claimed 0 4) f_m_claimed 0 (-1)) f_m_claimed 1 (-1)) f_m_claimed 2 (-1)) f_m_claimed 3 (-1)) f_m_reversible 0 16), J, (c.1 + 6, c.2 + 41), s_rw w b (20, 0, s_fu f 25 (.ref a281)))) rfl ?_
  generalize s_pv p T_M_reversible 0 a281 16 = p at hq ⊢
  generalize s_fu f 25 (.ref a281) = f at hq ⊢
  refine w_op (pc' := 287) dX16_init_286 rfl ?_
  refine w_bipush (v := 16) dX16_init_287 rfl ?_
  refine t_newrow (t := T_M_operation) (i := 0) (F := f_m_operation) (G := g_m_operation) (W := 16) (W' := 16) dX16_init_289 ⟨by decide, by decide⟩ rfl (by decide) (Or.inl rfl) rfl (by decide) (by decide) (by decide +kernel) (by decide +kernel) (by decide +kernel) (by decide +kernel) (by decide) (by decide) (by decide) hq.nv (s_par0 (tt := T_MODEL) rfl (fun i9 => (hq.md (by decide) (by decide)).trans (hM i9))) (show c.1 + 6 < e_xb by omega) (fun a289 ha289 => ?_)
  refine t_putR dX16_init_291 rfl rfl (Or.inr ⟨rfl, rfl, rfl⟩) ?_
  have hq := hq.step (sl := 26) (t := T_M_operation) (i := 0) (a := a289) (n := 16) (by decide) (by decide) (by decide) (by decide)
  refine w_show (S' := (s_pv p T_M_operation 0 a289 16, (s_z (s_z (s_up (s_up (s_up (s_up (s_z (s_z (s_z (s_up (s_up (s_up (s_z (s_up (s_up (s_up (s_z I f_m_supply 0 3) f_m_supply 0 50) f_m_supply 1 50) f_m_supply 2 50) f_m_box 0 3) f_m_box 0 10) f_m_box 1 10) f_m_box 2 10) f_m_temper 0 12) f_m_winds 0 3) f_m_claimed 0 4) f_m_claimed 0 (-1)) f_m_claimed 1 (-1)) f_m_claimed 2 (-1)) f_m_claimed 3 (-1)) f_m_reversible 0 16) f_m_operation 0 16), J, (c.1 + 7, c.2 + 57), s_rw w b (20, 0, s_fu f 26 (.ref a289)))) rfl ?_
  generalize s_pv p T_M_operation 0 a289 16 = p at hq ⊢
  generalize s_fu f 26 (.ref a289) = f at hq ⊢
  refine w_op (pc' := 295) dX16_init_294 rfl ?_
  refine w_bipush (v := 16) dX16_init_295 rfl ?_
  refine t_newrow (t := T_M_first) (i := 0) (F := f_m_first) (G := g_m_first) (W := 16) (W' := 16) dX16_init_297 ⟨by decide, by decide⟩ rfl (by decide) (Or.inl rfl) rfl (by decide) (by decide) (by decide +kernel) (by decide +kernel) (by decide +kernel) (by decide +kernel) (by decide) (by decide) (by decide) hq.nv (s_par0 (tt := T_MODEL) rfl (fun i9 => (hq.md (by decide) (by decide)).trans (hM i9))) (show c.1 + 7 < e_xb by omega) (fun a297 ha297 => ?_)
  refine t_putR dX16_init_299 rfl rfl (Or.inr ⟨rfl, rfl, rfl⟩) ?_
  have hq := hq.step (sl := 27) (t := T_M_first) (i := 0) (a := a297) (n := 16) (by decide) (by decide) (by decide) (by decide)
  refine w_show (S' := (s_pv p T_M_first 0 a297 16, (s_z (s_z (s_z (s_up (s_up (s_up (s_up (s_z (s_z (s_z (s_up (s_up (s_up (s_z (s_up (s_up (s_up (s_z I f_m_supply 0 3) f_m_supply 0 50) f_m_supply 1 50) f_m_supply 2 50) f_m_box 0 3) f_m_box 0 10) f_m_box 1 10) f_m_box 2 10) f_m_temper 0 12) f_m_winds 0 3) f_m_claimed 0 4) f_m_claimed 0 (-1)) f_m_claimed 1 (-1)) f_m_claimed 2 (-1)) f_m_claimed 3 (-1)) f_m_reversible 0 16) f_m_operation 0 16) f_m_first 0 16), J, (c.1 + 8, c.2 + 73), s_rw w b (20, 0, s_fu f 27 (.ref a297)))) rfl ?_
  generalize s_pv p T_M_first 0 a297 16 = p at hq ⊢
  generalize s_fu f 27 (.ref a297) = f at hq ⊢
  refine w_op (pc' := 303) dX16_init_302 rfl ?_
  refine w_bipush (v := 16) dX16_init_303 rfl ?_
  refine t_newrow (t := T_M_second) (i := 0) (F := f_m_second) (G := g_m_second) (W := 16) (W' := 16) dX16_init_305 ⟨by decide, by decide⟩ rfl (by decide) (Or.inl rfl) rfl (by decide) (by decide) (by decide +kernel) (by decide +kernel) (by decide +kernel) (by decide +kernel) (by decide) (by decide) (by decide) hq.nv (s_par0 (tt := T_MODEL) rfl (fun i9 => (hq.md (by decide) (by decide)).trans (hM i9))) (show c.1 + 8 < e_xb by omega) (fun a305 ha305 => ?_)
  refine t_putR dX16_init_307 rfl rfl (Or.inr ⟨rfl, rfl, rfl⟩) ?_
  have hq := hq.step (sl := 28) (t := T_M_second) (i := 0) (a := a305) (n := 16) (by decide) (by decide) (by decide) (by decide)
  refine w_show (S' := (s_pv p T_M_second 0 a305 16, (s_z (s_z (s_z (s_z (s_up (s_up (s_up (s_up (s_z (s_z (s_z (s_up (s_up (s_up (s_z (s_up (s_up (s_up (s_z I f_m_supply 0 3) f_m_supply 0 50) f_m_supply 1 50) f_m_supply 2 50) f_m_box 0 3) f_m_box 0 10) f_m_box 1 10) f_m_box 2 10) f_m_temper 0 12) f_m_winds 0 3) f_m_claimed 0 4) f_m_claimed 0 (-1)) f_m_claimed 1 (-1)) f_m_claimed 2 (-1)) f_m_claimed 3 (-1)) f_m_reversible 0 16) f_m_operation 0 16) f_m_first 0 16) f_m_second 0 16), J, (c.1 + 9, c.2 + 89), s_rw w b (20, 0, s_fu f 28 (.ref a305)))) rfl ?_
  generalize s_pv p T_M_second 0 a305 16 = p at hq ⊢
  generalize s_fu f 28 (.ref a305) = f at hq ⊢
  refine w_op (pc' := 311) dX16_init_310 rfl ?_
  refine w_iconst (v := 4) dX16_init_311 rfl ?_
  refine t_newrow (t := T_M_chord) (i := 0) (F := f_m_chord) (G := g_m_chord) (W := 4) (W' := 4) dX16_init_312 ⟨by decide, by decide⟩ rfl (by decide) (Or.inl rfl) rfl (by decide) (by decide) (by decide +kernel) (by decide +kernel) (by decide +kernel) (by decide +kernel) (by decide) (by decide) (by decide) hq.nv (s_par0 (tt := T_MODEL) rfl (fun i9 => (hq.md (by decide) (by decide)).trans (hM i9))) (show c.1 + 9 < e_xb by omega) (fun a312 ha312 => ?_)
  refine t_putR dX16_init_314 rfl rfl (Or.inr ⟨rfl, rfl, rfl⟩) ?_
  have hq := hq.step (sl := 29) (t := T_M_chord) (i := 0) (a := a312) (n := 4) (by decide) (by decide) (by decide) (by decide)
  refine w_show (S' := (s_pv p T_M_chord 0 a312 4, (s_z (s_z (s_z (s_z (s_z (s_up (s_up (s_up (s_up (s_z (s_z (s_z (s_up (s_up (s_up (s_z (s_up (s_up (s_up (s_z I f_m_supply 0 3) f_m_supply 0 50) f_m_supply 1 50) f_m_supply 2 50) f_m_box 0 3) f_m_box 0 10) f_m_box 1 10) f_m_box 2 10) f_m_temper 0 12) f_m_winds 0 3) f_m_claimed 0 4) f_m_claimed 0 (-1)) f_m_claimed 1 (-1)) f_m_claimed 2 (-1)) f_m_claimed 3 (-1)) f_m_reversible 0 16) f_m_operation 0 16) f_m_first 0 16) f_m_second 0 16) f_m_chord 0 4), J, (c.1 + 10, c.2 + 93), s_rw w b (20, 0, s_fu f 29 (.ref a312)))) rfl ?_
  generalize s_pv p T_M_chord 0 a312 4 = p at hq ⊢
  generalize s_fu f 29 (.ref a312) = f at hq ⊢
  refine w_op (pc' := 318) dX16_init_317 rfl ?_
  refine w_bipush (v := 7) dX16_init_318 rfl ?_
  refine t_newrow (t := T_M_degrees) (i := 0) (F := f_m_degrees) (G := g_m_degrees) (W := 7) (W' := 7) dX16_init_320 ⟨by decide, by decide⟩ rfl (by decide) (Or.inl rfl) rfl (by decide) (by decide) (by decide +kernel) (by decide +kernel) (by decide +kernel) (by decide +kernel) (by decide) (by decide) (by decide) hq.nv (s_par0 (tt := T_MODEL) rfl (fun i9 => (hq.md (by decide) (by decide)).trans (hM i9))) (show c.1 + 10 < e_xb by omega) (fun a320 ha320 => ?_)
  refine t_putR dX16_init_322 rfl rfl (Or.inr ⟨rfl, rfl, rfl⟩) ?_
  have hq := hq.step (sl := 30) (t := T_M_degrees) (i := 0) (a := a320) (n := 7) (by decide) (by decide) (by decide) (by decide)
  refine w_show (S' := (s_pv p T_M_degrees 0 a320 7, (s_z (s_z (s_z (s_z (s_z (s_z (s_up (s_up (s_up (s_up (s_z (s_z (s_z (s_up (s_up (s_up (s_z (s_up (s_up (s_up (s_z I f_m_supply 0 3) f_m_supply 0 50) f_m_supply 1 50) f_m_supply 2 50) f_m_box 0 3) f_m_box 0 10) f_m_box 1 10) f_m_box 2 10) f_m_temper 0 12) f_m_winds 0 3) f_m_claimed 0 4) f_m_claimed 0 (-1)) f_m_claimed 1 (-1)) f_m_claimed 2 (-1)) f_m_claimed 3 (-1)) f_m_reversible 0 16) f_m_operation 0 16) f_m_first 0 16) f_m_second 0 16) f_m_chord 0 4) f_m_degrees 0 7), J, (c.1 + 11, c.2 + 100), s_rw w b (20, 0, s_fu f 30 (.ref a320)))) rfl ?_
  generalize s_pv p T_M_degrees 0 a320 7 = p at hq ⊢
  generalize s_fu f 30 (.ref a320) = f at hq ⊢
  refine w_op (pc' := 326) dX16_init_325 rfl ?_
  refine w_iconst (v := 3) dX16_init_326 rfl ?_
  refine t_newrow (t := T_M_best) (i := 0) (F := f_m_best) (G := g_m_best) (W := 3) (W' := 3) dX16_init_327 ⟨by decide, by decide⟩ rfl (by decide) (Or.inl rfl) rfl (by decide) (by decide) (by decide +kernel) (by decide +kernel) (by decide +kernel) (by decide +kernel) (by decide) (by decide) (by decide) hq.nv (s_par0 (tt := T_MODEL) rfl (fun i9 => (hq.md (by decide) (by decide)).trans (hM i9))) (show c.1 + 11 < e_xb by omega) (fun a327 ha327 => ?_)
  refine t_putR dX16_init_329 rfl rfl (Or.inr ⟨rfl, rfl, rfl⟩) ?_
  have hq := hq.step (sl := 31) (t := T_M_best) (i := 0) (a := a327) (n := 3) (by decide) (by decide) (by decide) (by decide)
  refine w_show (S' := (s_pv p T_M_best 0 a327 3, (s_z (s_z (s_z (s_z (s_z (s_z (s_z (s_up (s_up (s_up (s_up (s_z (s_z (s_z (s_up (s_up (s_up (s_z (s_up (s_up (s_up (s_z I f_m_supply 0 3) f_m_supply 0 50) f_m_supply 1 50) f_m_supply 2 50) f_m_box 0 3) f_m_box 0 10) f_m_box 1 10) f_m_box 2 10) f_m_temper 0 12) f_m_winds 0 3) f_m_claimed 0 4) f_m_claimed 0 (-1)) f_m_claimed 1 (-1)) f_m_claimed 2 (-1)) f_m_claimed 3 (-1)) f_m_reversible 0 16) f_m_operation 0 16) f_m_first 0 16) f_m_second 0 16) f_m_chord 0 4) f_m_degrees 0 7) f_m_best 0 3), J, (c.1 + 12, c.2 + 103), s_rw w b (20, 0, s_fu f 31 (.ref a327)))) rfl ?_
  generalize s_pv p T_M_best 0 a327 3 = p at hq ⊢
  generalize s_fu f 31 (.ref a327) = f at hq ⊢
  refine w_op (pc' := 333) dX16_init_332 rfl ?_
  refine w_bipush (v := 16) dX16_init_333 rfl ?_
  refine t_newrow (t := T_M_isRelay) (i := 0) (F := f_m_isRelay) (G := g_m_isRelay) (W := 16) (W' := 16) dX16_init_335 ⟨by decide, by decide⟩ rfl (by decide) (Or.inl rfl) rfl (by decide) (by decide) (by decide +kernel) (by decide +kernel) (by decide +kernel) (by decide +kernel) (by decide) (by decide) (by decide) hq.nv (s_par0 (tt := T_MODEL) rfl (fun i9 => (hq.md (by decide) (by decide)).trans (hM i9))) (show c.1 + 12 < e_xb by omega) (fun a335 ha335 => ?_)
  refine t_putR dX16_init_337 rfl rfl (Or.inr ⟨rfl, rfl, rfl⟩) ?_
  have hq := hq.step (sl := 32) (t := T_M_isRelay) (i := 0) (a := a335) (n := 16) (by decide) (by decide) (by decide) (by decide)
  refine w_show (S' := (s_pv p T_M_isRelay 0 a335 16, (s_z (s_z (s_z (s_z (s_z (s_z (s_z (s_z (s_up (s_up (s_up (s_up (s_z (s_z (s_z (s_up (s_up (s_up (s_z (s_up (s_up (s_up (s_z I f_m_supply 0 3) f_m_supply 0 50) f_m_supply 1 50) f_m_supply 2 50) f_m_box 0 3) f_m_box 0 10) f_m_box 1 10) f_m_box 2 10) f_m_temper 0 12) f_m_winds 0 3) f_m_claimed 0 4) f_m_claimed 0 (-1)) f_m_claimed 1 (-1)) f_m_claimed 2 (-1)) f_m_claimed 3 (-1)) f_m_reversible 0 16) f_m_operation 0 16) f_m_first 0 16) f_m_second 0 16) f_m_chord 0 4) f_m_degrees 0 7) f_m_best 0 3) f_m_isRelay 0 16), J, (c.1 + 13, c.2 + 119), s_rw w b (20, 0, s_fu f 32 (.ref a335)))) rfl ?_
  generalize s_pv p T_M_isRelay 0 a335 16 = p at hq ⊢
  generalize s_fu f 32 (.ref a335) = f at hq ⊢
  exact k p f hq

