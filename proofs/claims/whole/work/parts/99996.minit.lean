/-! 99996: the second implementation is made (printed by wip/whole/p99996.py) -/
theorem s_fill2 {I : e_I} {F G i : Nat} {x y : Int32} (h : F ≠ G) : s_up (s_up (s_fill (s_fill I F i x) G i y) F i x) G i y = s_fill (s_fill I F (i + 1) x) G (i + 1) y := by
  funext F' j
  unfold s_up s_fill
  by_cases e1 : F' = G
  · subst e1
    by_cases e2 : j = i
    · rw [if_pos ⟨rfl, e2⟩, if_pos ⟨rfl, by omega⟩]
    · rw [if_neg (fun z => e2 z.2), if_neg (fun z => e2 z.2)]
      by_cases e3 : j < i
      · rw [if_pos ⟨rfl, e3⟩, if_pos ⟨rfl, by omega⟩]
      · rw [if_neg (fun z => e3 z.2), if_neg (fun z => h z.1.symm), if_neg (fun z => by have := z.2; omega), if_neg (fun z => h z.1.symm)]
  · rw [if_neg (fun z => e1 z.1)]
    by_cases e2 : F' = F ∧ j = i
    · rw [if_pos e2, if_neg (fun z => e1 z.1), if_pos ⟨e2.1, by omega⟩]
    · have n1 : ∀ k, ¬ (F' = G ∧ j < k) := fun k z => e1 z.1
      rw [if_neg e2, if_neg (n1 i), if_neg (n1 (i + 1))]
      by_cases e3 : F' = F ∧ j < i
      · rw [if_pos e3, if_pos ⟨e3.1, by omega⟩]
      · rw [if_neg e3, if_neg (fun z => e3 ⟨z.1, by have : j ≠ i := fun y => e2 ⟨z.1, y⟩; have := z.2; omega⟩)]
theorem s_fill2_0 {I : e_I} {F G : Nat} {x y : Int32} : s_fill (s_fill I F 0 x) G 0 y = I := by
  funext F' j
  unfold s_fill
  rw [if_neg (fun z => Nat.not_lt_zero _ z.2), if_neg (fun z => Nat.not_lt_zero _ z.2)]
def q_mI0 (I : e_I) : e_I := q_ug 7 48 (q_ug 6 32 (q_ul 4 (q_uk 3 (q_iC (q_iB (q_iA I))))))
def q_mI (I : e_I) : e_I := s_fill (s_fill (s_fill (s_fill (q_mI0 I) f_m_reversible 16 (-1)) f_m_operation 16 45) f_m_fault 1280 45) f_m_closedSince 1280 (-1000000)
def q_mJ (J : e_Jt) : e_Jt := q_ugJ 7 48 (q_ugJ 6 32 J)
def q_NX (t i : Nat) : Bool := (q_Ms.contains t && decide (i = 0)) || ((decide (t = T_LIST) && decide (2 ≤ i)) || ((T_MKEEP :: q_LK).contains t || (decide (t = T_LARR) && [3, 5, 6, 7].contains i)))
theorem q_NX_f {t i : Nat} (h : (q_Ms.contains t || (T_MKEEP :: q_LK).contains t) = false) (h2 : t ≠ T_LIST ∨ i < 2) (h3 : t ≠ T_LARR ∨ [3, 5, 6, 7].contains i = false) : q_NX t i = false := by
  rw [Bool.or_eq_false_iff] at h
  unfold q_NX
  rw [h.1, h.2]
  have e2 : (decide (t = T_LIST) && decide (2 ≤ i)) = false := by
    rcases h2 with h2 | h2
    · rw [decide_eq_false h2]; rfl
    · rw [decide_eq_false (show ¬ 2 ≤ i by omega), Bool.and_false]
  have e3 : (decide (t = T_LARR) && [3, 5, 6, 7].contains i) = false := by
    rcases h3 with h3 | h3
    · rw [decide_eq_false h3]; rfl
    · rw [h3, Bool.and_false]
  rw [e2, e3]; rfl
theorem s_xv.nx {N : Nat → Nat → Bool} {p p' : e_Sp} (h : s_xv N p p') (hN : ∀ t i, N t i = true → q_NX t i = true) : s_xv q_NX p p' := h.mono (fun t i ht => by
  cases e : N t i
  · rfl
  · rw [hN t i e] at ht; cases ht)
theorem q_NX_I (t i : Nat) (h : q_NI t i = true) : q_NX t i = true := by
  unfold q_NI at h
  unfold q_NX
  rcases (Bool.or_eq_true _ _).mp h with h | h
  · rw [h]; rfl
  · rw [Bool.and_eq_true, Bool.and_eq_true] at h
    rw [h.1, h.2.1]; simp
theorem s_NL_e {l t i : Nat} (h : s_NL l t i = true) : t = T_LARR ∧ i = l := by
  unfold s_NL at h
  rw [Bool.and_eq_true] at h
  exact ⟨of_decide_eq_true h.1, of_decide_eq_true h.2⟩
theorem q_NX_l {l : Nat} (h : [3, 5, 6, 7].contains l = true) : q_NX T_LARR l = true := by
  unfold q_NX
  rw [h, decide_eq_true (show T_LARR = T_LARR from rfl)]; simp
theorem q_NX_K (t i : Nat) (h : q_Nl q_LK 3 t i = true) : q_NX t i = true := by
  unfold q_Nl at h
  rcases (Bool.or_eq_true _ _).mp h with h | h
  · unfold q_NX
    rw [show (T_MKEEP :: q_LK).contains t = true from List.contains_iff_mem.mpr (List.mem_cons_of_mem _ (List.contains_iff_mem.mp h))]; simp
  · obtain ⟨rfl, rfl⟩ := s_NL_e h
    exact q_NX_l (by decide)
theorem q_NX_8 (t i : Nat) (h : q_N8l t i = true) : q_NX t i = true := by
  unfold q_N8l at h
  rcases (Bool.or_eq_true _ _).mp h with h | h
  · rw [Bool.and_eq_true] at h
    unfold q_NX
    rw [h.1, decide_eq_true (show 2 ≤ i by have := of_decide_eq_true h.2; omega)]; simp
  · obtain ⟨rfl, rfl⟩ := s_NL_e h
    exact q_NX_l (by decide)
theorem q_NX_G {l : Nat} (hl : [3, 5, 6, 7].contains l = true) (t i : Nat) (h : q_Nl [T_MKEEP] l t i = true) : q_NX t i = true := by
  unfold q_Nl at h
  rcases (Bool.or_eq_true _ _).mp h with h | h
  · obtain rfl := List.mem_singleton.mp (List.contains_iff_mem.mp h)
    unfold q_NX; simp
  · obtain ⟨rfl, rfl⟩ := s_NL_e h
    exact q_NX_l hl
theorem q_Mk.fu {D : List (Nat × Nat × Nat)} {p : e_Sp} {f : Nat → Value} {sl : Nat} {v : Value} (h : q_Mk D p f) (h1 : (D.all fun x => !decide (x.1 = sl)) = true) : q_Mk D p (s_fu f sl v) := fun x hx => by
  have e2 := List.all_eq_true.mp h1 x hx
  have e2 : ¬ x.1 = sl := by simpa using e2
  exact ⟨(if_neg e2 : (if x.1 = sl then v else f x.1) = _).trans (h x hx).1, (h x hx).2⟩
/-! the lists' sizes -/
theorem q_ug_l {l n l' : Nat} {I : e_I} (h : l' ≠ l) : q_ug l n I f_l_size l' = I f_l_size l' := by
  induction n with
  | zero => rfl
  | succ n ih =>
    show s_adI (s_IMKEEP (q_ug l n I) (e_elI l n) 0) l n f_l_size l' = _
    rw [s_adI_n h, ← ih]
    exact s_up_F (by decide)
theorem q_ul_l {n l' : Nat} {I : e_I} (h : l' ≠ 5) (h2 : l' < 8 ∨ 8 + n ≤ l') : q_ul n I f_l_size l' = I f_l_size l' := by
  induction n with
  | zero => rfl
  | succ n ih =>
    show s_adI (s_ILIST (q_ul n I) (8 + n) 0 0) 5 n f_l_size l' = _
    rw [s_adI_n h, ← ih (by omega)]
    unfold s_ILIST
    rw [s_up_i (by omega), s_up_F (by decide)]
theorem q_ul_8 {n g : Nat} {I : e_I} (h : g < n) : q_ul n I f_l_size (8 + g) = 0 := by
  induction n with
  | zero => omega
  | succ n ih =>
    show s_adI (s_ILIST (q_ul n I) (8 + n) 0 0) 5 n f_l_size (8 + g) = _
    rw [s_adI_n (by omega)]
    unfold s_ILIST
    by_cases e : g = n
    · subst e; exact s_up_s
    · rw [s_up_i (by omega), s_up_F (by decide)]
      exact ih (by omega)
theorem q_uk_l {n l' : Nat} {I : e_I} (h : l' ≠ 3) : q_uk n I f_l_size l' = I f_l_size l' := by
  induction n with
  | zero => rfl
  | succ n ih =>
    show s_adI (q_nk (q_uk n I) n 117 (nI n) (nI n) 0 45) 3 n f_l_size l' = _
    rw [s_adI_n h, ← ih, q_nk_F (by decide)]
theorem q_iBC_l {I : e_I} {l : Nat} : q_iC (q_iB I) f_l_size l = I f_l_size l := by
  unfold q_iC q_iB
  repeat (first | rw [s_up_F (by decide)] | rw [s_z_F (by decide)])
theorem q_iA_l {I : e_I} {l : Nat} (h : 2 ≤ l ∧ l ≤ 7) : q_iA I f_l_size l = 0 := by
  have h3 : l = 2 ∨ l = 3 ∨ l = 4 ∨ l = 5 ∨ l = 6 ∨ l = 7 := by omega
  unfold q_iA s_ILIST
  rcases h3 with rfl | rfl | rfl | rfl | rfl | rfl <;> repeat (first | rw [s_up_s] | rw [s_up_F (by decide)] | rw [s_up_i (by decide)])

set_option maxRecDepth 100000 in
set_option maxHeartbeats 4000000 in
theorem l_X16_init_r1 {X : e_XT} {d : Nat} {p : e_Sp} {I : e_I} {J : e_Jt} {c : Nat × Nat} {w : e_Rw1} {Q : e_Rt → e_SS → Prop} {b : Nat} {f : Nat → Value} (hf1 : f 25 = .ref (p.1 T_M_reversible 0)) (hf2 : f 26 = .ref (p.1 T_M_operation 0)) (hv1 : p.2.1 T_M_reversible 0 = true) (hv2 : p.2.1 T_M_operation 0 = true) (hk : s_w X (d + 7) K_X16_init 507 [some (.ref b), some (.int (nI 16))] [] (p, s_fill (s_fill I f_m_reversible 16 (-1)) f_m_operation 16 (45), J, c, s_rw w b (20, 0, f)) (fun r S' => e_rcr (none) r = true ∧ Q r S')) : ∀ (n : Nat) (i : Nat), (h1 : i ≤ 16) → (hn : 16 - i < n) → s_w X (d + 7) K_X16_init 480 [some (.ref b), some (.int (nI i))] [] (p, s_fill (s_fill I f_m_reversible i (-1)) f_m_operation i (45), J, c, s_rw w b (20, 0, f)) (fun r S' => e_rcr (none) r = true ∧ Q r S') := by
  intro n
  induction n with
  | zero =>
    intro i h1 hn
    exact absurd hn (Nat.not_lt_zero _)
  | succ n ih =>
    intro i h1 hn
    refine w_op (pc' := 481) dX16_init_480 rfl ?_
    refine w_bipush (v := 16) dX16_init_481 rfl ?_
    refine w_icmpge (t := 507) dX16_init_483 (by decide) (fun c483 => ?_) (fun c483 => ?_)
    · have hi : 16 ≤ i := (nI_leI (a := 16) (by omega) (by omega)).mp c483
      obtain rfl : i = 16 := by omega
      exact hk
    · have hi : i < 16 := Nat.lt_of_not_le (fun z => c483 ((nI_leI (a := 16) (by omega) (by omega)).mpr z))
      refine w_op (pc' := 487) dX16_init_486 rfl ?_
      refine t_getR (v := .ref (p.1 T_M_reversible 0)) dX16_init_487 rfl (by rw [hf1]; rfl) ?_
      refine w_op (pc' := 491) dX16_init_490 rfl ?_
      refine w_iconst (v := (-1)) dX16_init_491 rfl ?_
      refine t_iast0 (F := f_m_reversible) dX16_init_492 rfl (by decide) (by decide) rfl hv1 (s_ix.nI (n := i) (N := 16) hi (by decide)) hi ?_
      refine w_op (pc' := 494) dX16_init_493 rfl ?_
      refine t_getR (v := .ref (p.1 T_M_operation 0)) dX16_init_494 rfl (by rw [hf2]; rfl) ?_
      refine w_op (pc' := 498) dX16_init_497 rfl ?_
      refine w_bipush (v := 45) dX16_init_498 rfl ?_
      refine t_cast0 (F := f_m_operation) dX16_init_500 rfl (by decide) (by decide) rfl hv2 (s_ix.nI (n := i) (N := 16) hi (by decide)) hi (by decide +kernel) ?_
      refine w_op (pc' := 504) (ll' := [_, _]) dX16_init_501 rfl ?_
      refine w_goto (t := 480) dX16_init_504 (by decide) ?_
      rw [show nI i + Int32.ofInt 1 = nI (i + 1) from nI_1 i]
      have e9 := s_fill2 (I := I) (F := f_m_reversible) (G := f_m_operation) (i := i) (x := -1) (y := 45) (by decide)
      refine w_show (S' := (p, s_fill (s_fill I f_m_reversible (i + 1) (-1)) f_m_operation (i + 1) (45), J, c, s_rw w b (20, 0, f))) (by rw [← e9]) ?_
      exact ih (i + 1) (by omega) (by omega)
set_option maxRecDepth 100000 in
set_option maxHeartbeats 4000000 in
theorem l_X16_init_r2 {X : e_XT} {d : Nat} {p : e_Sp} {I : e_I} {J : e_Jt} {c : Nat × Nat} {w : e_Rw1} {Q : e_Rt → e_SS → Prop} {b : Nat} {f : Nat → Value} (hf1 : f 19 = .ref (p.1 T_M_fault 0)) (hf2 : f 15 = .ref (p.1 T_M_closedSince 0)) (hv1 : p.2.1 T_M_fault 0 = true) (hv2 : p.2.1 T_M_closedSince 0 = true) (hk : s_w X (d + 7) K_X16_init 538 [some (.ref b), some (.int (nI 1280))] [] (p, s_fill (s_fill I f_m_fault 1280 (45)) f_m_closedSince 1280 (-1000000), J, c, s_rw w b (20, 0, f)) (fun r S' => e_rcr (none) r = true ∧ Q r S')) : ∀ (n : Nat) (i : Nat), (h1 : i ≤ 1280) → (hn : 1280 - i < n) → s_w X (d + 7) K_X16_init 509 [some (.ref b), some (.int (nI i))] [] (p, s_fill (s_fill I f_m_fault i (45)) f_m_closedSince i (-1000000), J, c, s_rw w b (20, 0, f)) (fun r S' => e_rcr (none) r = true ∧ Q r S') := by
  intro n
  induction n with
  | zero =>
    intro i h1 hn
    exact absurd hn (Nat.not_lt_zero _)
  | succ n ih =>
    intro i h1 hn
    refine w_op (pc' := 510) dX16_init_509 rfl ?_
    refine w_sipush (v := 1280) dX16_init_510 rfl ?_
    refine w_icmpge (t := 538) dX16_init_513 (by decide) (fun c513 => ?_) (fun c513 => ?_)
    · have hi : 1280 ≤ i := (nI_leI (a := 1280) (by omega) (by omega)).mp c513
      obtain rfl : i = 1280 := by omega
      exact hk
    · have hi : i < 1280 := Nat.lt_of_not_le (fun z => c513 ((nI_leI (a := 1280) (by omega) (by omega)).mpr z))
      refine w_op (pc' := 517) dX16_init_516 rfl ?_
      refine t_getR (v := .ref (p.1 T_M_fault 0)) dX16_init_517 rfl (by rw [hf1]; rfl) ?_
      refine w_op (pc' := 521) dX16_init_520 rfl ?_
      refine w_bipush (v := 45) dX16_init_521 rfl ?_
      refine t_cast0 (F := f_m_fault) dX16_init_523 rfl (by decide) (by decide) rfl hv1 (s_ix.nI (n := i) (N := 1280) hi (by decide)) hi (by decide +kernel) ?_
      refine w_op (pc' := 525) dX16_init_524 rfl ?_
      refine t_getR (v := .ref (p.1 T_M_closedSince 0)) dX16_init_525 rfl (by rw [hf2]; rfl) ?_
      refine w_op (pc' := 529) dX16_init_528 rfl ?_
      refine w_ldci dX16_init_529 rfl ?_
      refine t_iast0 (F := f_m_closedSince) dX16_init_531 rfl (by decide) (by decide) rfl hv2 (s_ix.nI (n := i) (N := 1280) hi (by decide)) hi ?_
      refine w_op (pc' := 535) (ll' := [_, _]) dX16_init_532 rfl ?_
      refine w_goto (t := 509) dX16_init_535 (by decide) ?_
      rw [show nI i + Int32.ofInt 1 = nI (i + 1) from nI_1 i]
      have e9 := s_fill2 (I := I) (F := f_m_fault) (G := f_m_closedSince) (i := i) (x := 45) (y := -1000000) (by decide)
      refine w_show (S' := (p, s_fill (s_fill I f_m_fault (i + 1) (45)) f_m_closedSince (i + 1) (-1000000), J, c, s_rw w b (20, 0, f))) (by rw [← e9]) ?_
      exact ih (i + 1) (by omega) (by omega)
set_option maxRecDepth 100000 in
set_option maxHeartbeats 4000000 in
theorem c_X16_init {X : e_XT} {d : Nat} {p : e_Sp} {I : e_I} {J : e_Jt} {c : Nat × Nat} {w : e_Rw1} {Q : e_Rt → e_SS → Prop} {b : Nat} {f : Nat → Value} (hN : ∀ t, t ∈ (T_MODEL :: q_Ms) ++ (T_MKEEP :: q_LK) → ∀ i, p.2.1 t i = false) (hNL : ∀ l, 2 ≤ l → p.2.1 T_LIST l = false) (hA : ∀ l, 2 ≤ l → l ≤ 11 → p.1 T_LARR l = e_xb + 8) (hsC : ∀ j, p.2.1 T_CONS j = true → j = 0) (hsW : ∀ j, p.2.1 T_WORKS j = true → j = 0) (hX : (X 8).1 = 0) (hc : c.1 + 2000 < e_xb) (k : ∀ p' c' f', s_xv q_NX p p' → q_Mk q_D33 p' f' → (f' 44 = .int 45 ∧ f' 45 = .int 45 ∧ f' 47 = .int 1) → (∀ sl, 33 ≤ sl → sl ≠ 44 → sl ≠ 45 → sl ≠ 47 → f' sl = f sl) → (∀ t, t ∈ q_LK → ∀ k, p'.2.1 t k = decide (k < 3)) → (∀ k, p'.2.1 T_MKEEP k = decide (k < 80)) → (∀ k, 8 ≤ k → p'.2.1 T_LIST k = decide (k < 12)) → (s_La p' (q_mI I) 2 0 ∧ s_La p' (q_mI I) 3 3 ∧ s_La p' (q_mI I) 4 0 ∧ s_La p' (q_mI I) 5 4 ∧ s_La p' (q_mI I) 6 32 ∧ s_La p' (q_mI I) 7 48 ∧ ∀ g, g < 4 → s_La p' (q_mI I) (8 + g) 0) → (c'.1 ≤ c.1 + 400 ∧ c'.2 ≤ c.2 + 30000) → Q (.inl none) (p', q_mI I, q_mJ J, c', s_rw w b (20, 0, f'))) : s_c X (d + 7) 212 [.ref b] (p, I, J, c, s_rw w b (20, 0, f)) Q := by
  have hM : ∀ i, p.2.1 T_MODEL i = false := fun i => hN T_MODEL (by decide) i
  have hR : q_Nv [(T_LIST, 2), (T_LIST, 3), (T_LIST, 4), (T_LIST, 5), (T_LIST, 6), (T_LIST, 7), (T_M_isDown, 0), (T_M_isHeld, 0), (T_M_isWanted, 0), (T_M_isCalled, 0), (T_M_isOpen, 0), (T_M_speaks, 0), (T_M_wentDown, 0), (T_M_counts, 0), (T_M_since, 0), (T_M_closedSince, 0), (T_M_begun, 0), (T_M_tuning, 0), (T_M_rankOf, 0), (T_M_fault, 0), (T_M_supply, 0), (T_M_box, 0), (T_M_temper, 0), (T_M_winds, 0), (T_M_claimed, 0), (T_M_reversible, 0), (T_M_operation, 0), (T_M_first, 0), (T_M_second, 0), (T_M_chord, 0), (T_M_degrees, 0), (T_M_best, 0), (T_M_isRelay, 0)] p := fun x hx => by
    have h9 : (List.all [(T_LIST, 2), (T_LIST, 3), (T_LIST, 4), (T_LIST, 5), (T_LIST, 6), (T_LIST, 7), (T_M_isDown, 0), (T_M_isHeld, 0), (T_M_isWanted, 0), (T_M_isCalled, 0), (T_M_isOpen, 0), (T_M_speaks, 0), (T_M_wentDown, 0), (T_M_counts, 0), (T_M_since, 0), (T_M_closedSince, 0), (T_M_begun, 0), (T_M_tuning, 0), (T_M_rankOf, 0), (T_M_fault, 0), (T_M_supply, 0), (T_M_box, 0), (T_M_temper, 0), (T_M_winds, 0), (T_M_claimed, 0), (T_M_reversible, 0), (T_M_operation, 0), (T_M_first, 0), (T_M_second, 0), (T_M_chord, 0), (T_M_degrees, 0), (T_M_best, 0), (T_M_isRelay, 0)] fun x => (decide (x.1 = T_LIST) && decide (2 ≤ x.2)) || q_Ms.contains x.1) = true := by decide
    rcases (Bool.or_eq_true _ _).mp (List.all_eq_true.mp h9 x hx) with h | h
    · rw [Bool.and_eq_true] at h
      rw [of_decide_eq_true h.1]
      exact hNL _ (of_decide_eq_true h.2)
    · exact hN _ (List.mem_append_left _ (List.mem_cons_of_mem _ (List.contains_iff_mem.mp h))) _
  have hq0 : q_In [] [(T_LIST, 2), (T_LIST, 3), (T_LIST, 4), (T_LIST, 5), (T_LIST, 6), (T_LIST, 7), (T_M_isDown, 0), (T_M_isHeld, 0), (T_M_isWanted, 0), (T_M_isCalled, 0), (T_M_isOpen, 0), (T_M_speaks, 0), (T_M_wentDown, 0), (T_M_counts, 0), (T_M_since, 0), (T_M_closedSince, 0), (T_M_begun, 0), (T_M_tuning, 0), (T_M_rankOf, 0), (T_M_fault, 0), (T_M_supply, 0), (T_M_box, 0), (T_M_temper, 0), (T_M_winds, 0), (T_M_claimed, 0), (T_M_reversible, 0), (T_M_operation, 0), (T_M_first, 0), (T_M_second, 0), (T_M_chord, 0), (T_M_degrees, 0), (T_M_best, 0), (T_M_isRelay, 0)] p p f f := ⟨(fun x hx => nomatch hx), hR, s_xv.rfl', fun _ _ => rfl⟩
  refine m_X16_init (Nat.le_of_ble_eq_true rfl) ?_
  show s_w _ _ _ 0 _ _ _ _
  refine w_op (pc' := 1) dX16_init_0 rfl ?_
  refine w_objinit (by decide) rfl (Nat.le_of_ble_eq_true rfl) dX16_init_1 ?_
  refine l_X16_init_iA (p0 := p) (f0 := f) hM hA hsC hsW hq0 (by omega) (fun p1 f1 hq1 => ?_)
  refine l_X16_init_iB (p0 := p) (f0 := f) hM hA hsC hsW hq1 (show c.1 + 6 + _ < e_xb by omega) (fun p2 f2 hq2 => ?_)
  refine l_X16_init_iC (p0 := p) (f0 := f) hM hA hsC hsW hq2 (show c.1 + 6 + 14 + _ < e_xb by omega) (fun p3 f3 hq3 => ?_)
  refine w_show (S' := (p3, (q_iC (q_iB (q_iA I))), J, (c.1 + 33, c.2 + 15863), s_rw w b (20, 0, f3))) rfl ?_
  refine w_op (pc' := 341) dX16_init_340 rfl ?_
  refine w_bipush (v := 45) dX16_init_341 rfl ?_
  refine t_putR dX16_init_343 rfl (s_ckc (by decide +kernel)) (Or.inl rfl) ?_
  refine w_op (pc' := 347) dX16_init_346 rfl ?_
  refine w_bipush (v := 45) dX16_init_347 rfl ?_
  refine t_putR dX16_init_349 rfl (s_ckc (by decide +kernel)) (Or.inl rfl) ?_
  refine w_op (pc' := 353) dX16_init_352 rfl ?_
  refine w_iconst (v := 1) dX16_init_353 rfl ?_
  refine t_putR dX16_init_354 rfl (s_ckb (Or.inr rfl)) (Or.inl rfl) ?_
  refine w_iconst (v := 0) dX16_init_357 rfl ?_
  refine w_op (pc' := 359) (ll' := [_, _]) dX16_init_358 rfl ?_
  have hm3 : q_Mk q_D33 p3 (s_fu (s_fu (s_fu f3 44 (.int 45)) 45 (.int 45)) 47 (.int 1)) := ((hq3.1.fu (by decide)).fu (by decide)).fu (by decide)
  have hx3 : s_xv q_NI p p3 := hq3.2.2.1
  have h33 : ∀ sl, 33 ≤ sl → sl ≠ 44 → sl ≠ 45 → sl ≠ 47 → (s_fu (s_fu (s_fu f3 44 (.int 45)) 45 (.int 45)) 47 (.int 1)) sl = f sl := fun sl h1 h2 h3 h4 => by
    rw [show (s_fu (s_fu (s_fu f3 44 (.int 45)) 45 (.int 45)) 47 (.int 1)) sl = f3 sl from (if_neg h4).trans ((if_neg h3).trans (if_neg h2))]
    exact hq3.2.2.2 sl h1
  have hf9 : (s_fu (s_fu (s_fu f3 44 (.int 45)) 45 (.int 45)) 47 (.int 1)) 44 = .int 45 ∧ (s_fu (s_fu (s_fu f3 44 (.int 45)) 45 (.int 45)) 47 (.int 1)) 45 = .int 45 ∧ (s_fu (s_fu (s_fu f3 44 (.int 45)) 45 (.int 45)) 47 (.int 1)) 47 = .int 1 := ⟨rfl, rfl, rfl⟩
  generalize (s_fu (s_fu (s_fu f3 44 (.int 45)) 45 (.int 45)) 47 (.int 1)) = f4 at hm3 h33 hf9 ⊢
  have hla : ∀ l, 2 ≤ l → l ≤ 11 → p3.1 T_LARR l = e_xb + 8 := fun l h1 h2 => (hq3.la).trans (hA l h1 h2)
  have n3 : ∀ t i, q_Ms.contains t = false → t ≠ T_LIST → p3.2.1 t i = p.2.1 t i := fun t i h1 h2 => hq3.md h1 h2
  have hLa0 : ∀ l, 2 ≤ l → l ≤ 7 → p3.2.1 T_LIST l = true → s_La p3 (q_iC (q_iB (q_iA I))) l 0 := fun l h1 h2 hv => ⟨hv, (by rw [q_iBC_l, q_iA_l ⟨h1, h2⟩]; rfl), by omega, Or.inl ⟨rfl, hla l h1 (by omega)⟩⟩
  have hv3 : ∀ sl l, (sl, T_LIST, l) ∈ q_D33 → f4 sl = .ref (p3.1 T_LIST l) ∧ p3.2.1 T_LIST l = true := fun sl l h => hm3 _ h
  refine w_show (S' := (p3, q_uk 0 (q_iC (q_iB (q_iA I))), J, (c.1 + 33, c.2 + 15863), s_rw w b (20, 0, f4))) rfl ?_
  refine l_X16_init_kn (p := p3) (I := (q_iC (q_iB (q_iA I)))) (c := (c.1 + 33, c.2 + 15863)) (p0 := p3) (c0 := (c.1 + 33, c.2 + 15863)) hX (hv3 1 3 (by decide)).1 (show c.1 + 33 + 1000 < e_xb by omega) (fun p4 c4 hx4 hL4 hl4 hk4 hc4 => ?_) 4 0 p3 _ _ (Nat.zero_le _) s_xv.rfl' (hLa0 3 (by omega) (by omega) (hv3 1 3 (by decide)).2) rfl (fun t ht k => ?_) rfl ⟨Nat.le_refl _, Nat.le_refl _⟩ (by omega)
  rotate_left
  · rw [n3 t k (by revert t; decide) (fun z => by rw [z] at ht; exact absurd ht (by decide)), hN t (by revert t; decide) k]; exact (decide_eq_false (Nat.not_lt_zero k)).symm
  refine w_iconst (v := 0) dX16_init_392 rfl ?_
  refine w_op (pc' := 394) (ll' := [_, _]) dX16_init_393 rfl ?_
  have hm4 : q_Mk q_D33 p4 f4 := hm3.xv hx4 (by decide)
  have n4 : ∀ t i, (q_LK.contains t || decide (t = T_LARR)) = false → p4.1 t i = p3.1 t i ∧ p4.2.1 t i = p3.2.1 t i := fun t i h => by
    rw [Bool.or_eq_false_iff] at h
    exact ⟨(hx4.1 t i (q_Nl_f h.1 (Or.inl (of_decide_eq_false h.2)))).1, (hx4.1 t i (q_Nl_f h.1 (Or.inl (of_decide_eq_false h.2)))).2.1⟩
  have la4 : ∀ l, 4 ≤ l → l ≤ 11 → p4.1 T_LARR l = e_xb + 8 := fun l h1 h2 => (hx4.1 T_LARR l (q_Nl_f (by decide) (Or.inr (by omega)))).1.trans (hla l (by omega) h2)
  have hL45 : s_La p4 (q_uk 3 (q_iC (q_iB (q_iA I)))) 5 0 := ⟨((n4 _ _ (by decide)).2).trans (hv3 3 5 (by decide)).2, (by rw [q_uk_l (by decide), q_iBC_l, q_iA_l (by decide)]; rfl), by omega, Or.inl ⟨rfl, la4 5 (by omega) (by omega)⟩⟩
  have hM4 : ∀ i, p4.2.1 T_MODEL i = false := fun i => ((n4 _ _ (by decide)).2).trans ((n3 _ _ (by decide) (by decide)).trans (hM i))
  refine w_show (S' := (p4, q_ul 0 (q_uk 3 (q_iC (q_iB (q_iA I)))), J, c4, s_rw w b (20, 0, f4))) rfl ?_
  refine l_X16_init_fl (p := p4) (I := q_uk 3 (q_iC (q_iB (q_iA I)))) (c := c4) (p0 := p4) (c0 := c4) (A9 := p4.1 T_LIST 5) hX (hm4 (3, T_LIST, 5) (by decide)).1 (by have := hc4.1; have : c4.1 ≤ c.1 + 33 + 10 * 3 := this; omega) hM4 (fun l h1 h2 => la4 l (by omega) h2) (fun j hj => hsC j ((n3 _ _ (by decide) (by decide)).symm.trans ((n4 _ _ (by decide)).2.symm.trans hj))) (fun j hj => hsW j ((n3 _ _ (by decide) (by decide)).symm.trans ((n4 _ _ (by decide)).2.symm.trans hj))) (fun p5 c5 hx5 hL5 hl5 hk5 hc5 => ?_) 5 0 p4 _ c4 (Nat.zero_le _) s_xv.rfl' hL45 rfl (fun k hk => ?_) rfl ⟨Nat.le_refl _, Nat.le_refl _⟩ (by omega)
  rotate_left
  · rw [(n4 _ _ (by decide)).2, (hx3.1 T_LIST k (by unfold q_NI; rw [decide_eq_false (show ¬ k ≤ 7 by omega), show q_Ms.contains T_LIST = false from by decide]; simp)).2.1, hNL k (by omega)]; exact (decide_eq_false (by omega)).symm
  refine w_iconst (v := 0) dX16_init_420 rfl ?_
  refine w_op (pc' := 422) (ll' := [_, _]) dX16_init_421 rfl ?_
  have hm5 : q_Mk q_D33 p5 f4 := hm4.xv hx5 (by decide)
  have n5 : ∀ t i, (t ≠ T_LIST ∨ i < 8) → (t ≠ T_LARR ∨ i ≠ 5) → p5.1 t i = p4.1 t i ∧ p5.2.1 t i = p4.2.1 t i := fun t i h1 h2 => ⟨(hx5.1 t i (q_N8l_f h1 h2)).1, (hx5.1 t i (q_N8l_f h1 h2)).2.1⟩
  have hL56 : ∀ l, l = 6 ∨ l = 7 → s_La p5 (q_ul 4 (q_uk 3 (q_iC (q_iB (q_iA I))))) l 0 := fun l hl => ⟨hl.elim (fun z => by rw [z]; exact (hm5 (4, T_LIST, 6) (by decide)).2) (fun z => by rw [z]; exact (hm5 (5, T_LIST, 7) (by decide)).2), (by rw [q_ul_l (by omega) (by omega), q_uk_l (by omega), q_iBC_l, q_iA_l (by omega)]; rfl), by omega, Or.inl ⟨rfl, ((n5 _ _ (Or.inl (by decide)) (Or.inr (by omega))).1).trans (la4 l (by omega) (by omega))⟩⟩
  refine w_show (S' := (p5, q_ug 6 0 (q_ul 4 (q_uk 3 (q_iC (q_iB (q_iA I))))), q_ugJ 6 0 J, c5, s_rw w b (20, 0, f4))) rfl ?_
  refine l_X16_init_g6 (p := p5) (I := q_ul 4 (q_uk 3 (q_iC (q_iB (q_iA I))))) (J := J) (c := c5) (p0 := p5) (c0 := c5) (A9 := p5.1 T_LIST 6) hX (hm5 (4, T_LIST, 6) (by decide)).1 (by have h1 : c4.1 ≤ c.1 + 33 + 10 * 3 := hc4.1; have := hc5.1; omega) (fun p6 c6 hx6 hL6 hl6 hk6 hc6 => ?_) 33 0 p5 _ _ c5 (Nat.zero_le _) s_xv.rfl' (hL56 6 (Or.inl rfl)) rfl (fun k => ?_) rfl rfl ⟨Nat.le_refl _, Nat.le_refl _⟩ (by omega)
  rotate_left
  · rw [(n5 _ _ (Or.inl (by decide)) (Or.inl (by decide))).2, (n4 _ _ (by decide)).2, n3 _ _ (by decide) (by decide), hN _ (by decide)]; exact (decide_eq_false (Nat.not_lt_zero k)).symm
  refine w_iconst (v := 0) dX16_init_449 rfl ?_
  refine w_op (pc' := 451) (ll' := [_, _]) dX16_init_450 rfl ?_
  have hm6 : q_Mk q_D33 p6 f4 := hm5.xv hx6 (by decide)
  have hL67 : s_La p6 (q_ug 6 32 (q_ul 4 (q_uk 3 (q_iC (q_iB (q_iA I)))))) 7 0 := (hL56 7 (Or.inr rfl)).xv hx6 (q_Nl_f (by decide) (Or.inl (by decide))) (q_Nl_f (by decide) (Or.inr (by decide))) (q_ug_l (by decide))
  refine w_show (S' := (p6, q_ug 7 0 (q_ug 6 32 (q_ul 4 (q_uk 3 (q_iC (q_iB (q_iA I)))))), q_ugJ 7 0 (q_ugJ 6 32 J), c6, s_rw w b (20, 0, f4))) rfl ?_
  refine l_X16_init_g7 (p := p6) (I := q_ug 6 32 (q_ul 4 (q_uk 3 (q_iC (q_iB (q_iA I)))))) (J := q_ugJ 6 32 J) (c := c6) (p0 := p6) (c0 := c6) (A9 := p6.1 T_LIST 7) hX (hm6 (5, T_LIST, 7) (by decide)).1 (by have h1 : c4.1 ≤ c.1 + 33 + 10 * 3 := hc4.1; have := hc5.1; have := hc6.1; omega) (fun p7 c7 hx7 hL7 hl7 hk7 hc7 => ?_) 49 0 p6 _ _ c6 (Nat.zero_le _) s_xv.rfl' hL67 rfl hk6 rfl rfl ⟨Nat.le_refl _, Nat.le_refl _⟩ (by omega)
  refine w_iconst (v := 0) dX16_init_478 rfl ?_
  refine w_op (pc' := 480) (ll' := [_, _]) dX16_init_479 rfl ?_
  have hm7 : q_Mk q_D33 p7 f4 := hm6.xv hx7 (by decide)
  have g1 := hm7 (25, T_M_reversible, 0) (by decide)
  have g2 := hm7 (26, T_M_operation, 0) (by decide)
  have g3 := hm7 (19, T_M_fault, 0) (by decide)
  have g4 := hm7 (15, T_M_closedSince, 0) (by decide)
  have eI0 : q_ug 7 48 (q_ug 6 32 (q_ul 4 (q_uk 3 (q_iC (q_iB (q_iA I)))))) = q_mI0 I := rfl
  rw [eI0] at hL7 ⊢
  have h9 := l_X16_init_r1 (X := X) (d := d) (p := p7) (I := q_mI0 I) (J := q_mJ J) (c := c7) (w := w) (Q := Q) (b := b) (f := f4) g1.1 g2.1 g1.2 g2.2 ?_ 17 0 (Nat.zero_le _) (by omega)
  · rw [s_fill2_0] at h9
    exact h9
  refine w_iconst (v := 0) dX16_init_507 rfl ?_
  refine w_op (pc' := 509) (ll' := [_, _]) dX16_init_508 rfl ?_
  have h9 := l_X16_init_r2 (X := X) (d := d) (p := p7) (I := s_fill (s_fill (q_mI0 I) f_m_reversible 16 (-1)) f_m_operation 16 45) (J := q_mJ J) (c := c7) (w := w) (Q := Q) (b := b) (f := f4) g3.1 g4.1 g3.2 g4.2 ?_ 1281 0 (Nat.zero_le _) (by omega)
  · rw [s_fill2_0] at h9
    exact h9
  have x34 : s_xv q_NX p p7 := ((((hx3.nx q_NX_I).trans (hx4.nx q_NX_K)).trans (hx5.nx q_NX_8)).trans (hx6.nx (q_NX_G (by decide)))).trans (hx7.nx (q_NX_G (by decide)))
  have eS : ∀ l, q_mI I f_l_size l = q_mI0 I f_l_size l := fun l => by unfold q_mI; rw [s_fill_F (by decide), s_fill_F (by decide), s_fill_F (by decide), s_fill_F (by decide)]
  have n67 : ∀ t i, t ≠ T_MKEEP → (t ≠ T_LARR ∨ (i ≠ 6 ∧ i ≠ 7)) → p7.1 t i = p5.1 t i ∧ p7.2.1 t i = p5.2.1 t i ∧ p7.2.2.1 t i = p5.2.2.1 t i := fun t i h1 h2 => by
    have e1 := hx6.1 t i (q_Nl_f (by simpa using h1) (h2.imp id (fun z => z.1)))
    have e2 := hx7.1 t i (q_Nl_f (by simpa using h1) (h2.imp id (fun z => z.2)))
    exact ⟨e2.1.trans e1.1, e2.2.1.trans e1.2.1, e2.2.2.trans e1.2.2⟩
  have hx57 : s_xv (fun t i => decide (t = T_MKEEP) || (decide (t = T_LARR) && (decide (i = 6) || decide (i = 7)))) p5 p7 := ⟨fun t i h => n67 t i (fun z => by rw [z] at h; simp at h) (by
    by_cases z : t = T_LARR
    · right
      subst z
      simp at h
      exact h.2
    · exact Or.inl z), hx7.2.trans hx6.2⟩
  have eb : c7.1 ≤ c.1 + 400 ∧ c7.2 ≤ c.2 + 30000 := by
    have h1 : c4.1 ≤ c.1 + 33 + 10 * 3 := hc4.1
    have h2 : c4.2 ≤ c.2 + 15863 + 110 * 3 := hc4.2
    have := hc5
    have := hc6
    have := hc7
    omega
  refine w_return dX16_init_538 ⟨rfl, k p7 c7 f4 x34 hm7 hf9 h33 (fun t ht k => ?_) hk7 (fun k hk => ?_) ⟨?_, ?_, ?_, ?_, ?_, ?_, fun g hg => ?_⟩ eb⟩
  · have h8 : t ≠ T_MKEEP ∧ t ≠ T_LARR ∧ t ≠ T_LIST := by revert t; decide
    rw [(n67 t k h8.1 (Or.inl h8.2.1)).2.1, (n5 t k (Or.inl h8.2.2) (Or.inl h8.2.1)).2]
    exact hk4 t ht k
  · rw [(n67 _ _ (by decide) (Or.inl (by decide))).2.1]
    exact hk5 k hk
  · refine ⟨(hm7 (0, T_LIST, 2) (by decide)).2, ?_, by omega, Or.inl ⟨rfl, ?_⟩⟩
    · rw [eS]; unfold q_mI0; rw [q_ug_l (by decide), q_ug_l (by decide), q_ul_l (by decide) (by decide), q_uk_l (by decide), q_iBC_l, q_iA_l (by decide)]; rfl
    · rw [(n67 _ _ (by decide) (Or.inr (by decide))).1, (n5 _ _ (Or.inl (by decide)) (Or.inr (by decide))).1, (hx4.1 T_LARR 2 (q_Nl_f (by decide) (Or.inr (by decide)))).1]; exact hla 2 (by omega) (by omega)
  · exact (hL4.xv hx5 (q_N8l_f (Or.inr (by decide)) (Or.inl (by decide))) (q_N8l_f (Or.inl (by decide)) (Or.inr (by decide))) rfl).xv hx57 rfl rfl (by rw [eS]; unfold q_mI0; rw [q_ug_l (by decide), q_ug_l (by decide), q_ul_l (by decide) (by decide)])
  · refine ⟨(hm7 (2, T_LIST, 4) (by decide)).2, ?_, by omega, Or.inl ⟨rfl, ?_⟩⟩
    · rw [eS]; unfold q_mI0; rw [q_ug_l (by decide), q_ug_l (by decide), q_ul_l (by decide) (by decide), q_uk_l (by decide), q_iBC_l, q_iA_l (by decide)]; rfl
    · rw [(n67 _ _ (by decide) (Or.inr (by decide))).1, (n5 _ _ (Or.inl (by decide)) (Or.inr (by decide))).1]; exact la4 4 (by omega) (by omega)
  · exact hL5.xv hx57 rfl rfl (by rw [eS]; unfold q_mI0; rw [q_ug_l (by decide), q_ug_l (by decide)])
  · exact hL6.xv hx7 (q_Nl_f (by decide) (Or.inl (by decide))) (q_Nl_f (by decide) (Or.inr (by decide))) (by rw [eS]; unfold q_mI0; rw [q_ug_l (by decide)])
  · exact hL7.xv (s_xv.rfl' (N := fun _ _ => false)) rfl rfl (eS 7)
  · refine ⟨?_, ?_, by omega, Or.inl ⟨rfl, ?_⟩⟩
    · rw [(n67 _ _ (by decide) (Or.inl (by decide))).2.1, hk5 _ (by omega)]; exact decide_eq_true (by omega)
    · rw [eS]; unfold q_mI0; rw [q_ug_l (by omega), q_ug_l (by omega), q_ul_8 hg]; rfl
    · rw [(n67 _ _ (by decide) (Or.inr (by omega))).1, (n5 _ _ (Or.inl (by decide)) (Or.inr (by omega))).1]; exact la4 _ (by omega) (by omega)

