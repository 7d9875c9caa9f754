/-! 99995: the second implementation is made, its loops (printed by wip/whole/p99995.py) -/
def q_Nl (L : List Nat) (l t i : Nat) : Bool := L.contains t || s_NL l t i
theorem q_Nl_f {L : List Nat} {l t i : Nat} (h1 : L.contains t = false) (h2 : t ≠ T_LARR ∨ i ≠ l) : q_Nl L l t i = false := by
  unfold q_Nl
  rw [h1, s_NL_t h2]; rfl
theorem q_Nl_y {L : List Nat} {l t i : Nat} (h1 : L.contains t = true) : q_Nl L l t i = true := by
  unfold q_Nl
  rw [h1]; rfl
theorem q_Nl_l {L : List Nat} {l : Nat} : q_Nl L l T_LARR l = true := by
  unfold q_Nl s_NL
  rw [decide_eq_true (show T_LARR = T_LARR from rfl), decide_eq_true (show l = l from rfl)]; simp
def q_N8l (t i : Nat) : Bool := (decide (t = T_LIST) && decide (8 ≤ i)) || s_NL 5 t i
theorem q_N8l_f {t i : Nat} (h1 : t ≠ T_LIST ∨ i < 8) (h2 : t ≠ T_LARR ∨ i ≠ 5) : q_N8l t i = false := by
  unfold q_N8l
  rw [s_NL_t h2]
  rcases h1 with h | h
  · rw [decide_eq_false h]; rfl
  · rw [decide_eq_false (show ¬ 8 ≤ i by omega), Bool.and_false]; rfl
theorem q_Mk.xv {N : Nat → Nat → Bool} {D : List (Nat × Nat × Nat)} {p p' : e_Sp} {f : Nat → Value} (h : q_Mk D p f) (x : s_xv N p p') (hD : (D.all fun x => !N x.2.1 x.2.2) = true) : q_Mk D p' f := fun y hy => by
  have e := List.all_eq_true.mp hD y hy
  have e : N y.2.1 y.2.2 = false := by simpa using e
  obtain ⟨g1, g2⟩ := h y hy
  rw [(x.1 _ _ e).1, (x.1 _ _ e).2.1]
  exact ⟨g1, g2⟩
theorem s_La.xv {N : Nat → Nat → Bool} {p p' : e_Sp} {I I' : e_I} {l n : Nat} (h : s_La p I l n) (x : s_xv N p p') (h1 : N T_LIST l = false) (h2 : N T_LARR l = false) (e : I' f_l_size l = I f_l_size l) : s_La p' I' l n := by
  unfold s_La at h ⊢
  rw [e, (x.1 _ _ h1).2.1, (x.1 _ _ h2).1, (x.1 _ _ h2).2.1, (x.1 _ _ h2).2.2]
  exact h
def q_LK : List Nat := T_MKNOB :: q_kT
/-- unisons -/
def q_ukS (i : Nat) (I : e_I) : e_I := s_adI (q_nk I i 117 (nI i) (nI i) 0 45) 3 i
def q_uk : Nat → e_I → e_I
  | 0, I => I
  | n + 1, I => q_ukS n (q_uk n I)
/-- lists of frames -/
def q_ulS (i : Nat) (I : e_I) : e_I := s_adI (s_ILIST I (8 + i) 0 0) 5 i
def q_ul : Nat → e_I → e_I
  | 0, I => I
  | n + 1, I => q_ulS n (q_ul n I)
/-- keepings of the list l -/
def q_ugS (l i : Nat) (I : e_I) : e_I := s_adI (s_IMKEEP I (e_elI l i) 0) l i
def q_ug (l : Nat) : Nat → e_I → e_I
  | 0, I => I
  | n + 1, I => q_ugS l n (q_ug l n I)
def q_ugJ (l : Nat) : Nat → e_Jt → e_Jt
  | 0, J => J
  | n + 1, J => s_JMKEEP (q_ugJ l n J) (e_elI l n) 0 0

set_option maxRecDepth 100000 in
set_option maxHeartbeats 4000000 in
theorem l_X16_init_kn {X : e_XT} {d : Nat} {p : e_Sp} {I : e_I} {J : e_Jt} {c : Nat × Nat} {w : e_Rw1} {Q : e_Rt → e_SS → Prop} {b A9 : Nat} {f : Nat → Value} {p0 : e_Sp} {c0 : Nat × Nat} (hX : (X 8).1 = 0) (hfl : f 1 = .ref A9) (hc0 : c0.1 + 1000 < e_xb)  (hk : ∀ p c, s_xv (q_Nl q_LK 3) p0 p → s_La p (q_uk 3 I) 3 3 → p.1 T_LIST 3 = A9 → (∀ t, t ∈ q_LK → ∀ k, p.2.1 t k = decide (k < 3)) → (c.1 ≤ c0.1 + 10 * 3 ∧ c.2 ≤ c0.2 + 110 * 3) → s_w X (d + 7) K_X16_init 392 [some (.ref b), some (.int (nI 3))] [] (p, q_uk 3 I, J, c, s_rw w b (20, 0, f)) (fun r S' => e_rcr (none) r = true ∧ Q r S')) : ∀ (n : Nat) (i : Nat) (p : e_Sp) (I1 : e_I) (c : Nat × Nat), (h1 : i ≤ 3) → (hx : s_xv (q_Nl q_LK 3) p0 p) → (hL : s_La p I1 3 i) → (hl : p.1 T_LIST 3 = A9) → (hkv : ∀ t, t ∈ q_LK → ∀ k, p.2.1 t k = decide (k < i)) → (hI : I1 = q_uk i I) → (hcc : c.1 ≤ c0.1 + 10 * i ∧ c.2 ≤ c0.2 + 110 * i) → (hn : 3 - i < n) → s_w X (d + 7) K_X16_init 359 [some (.ref b), some (.int (nI i))] [] (p, I1, J, c, s_rw w b (20, 0, f)) (fun r S' => e_rcr (none) r = true ∧ Q r S') := by
  intro n
  induction n with
  | zero =>
    intro i p I1 c h1 hx hL hl hkv hI hcc hn
    exact absurd hn (Nat.not_lt_zero _)
  | succ n ih =>
    intro i p I1 c h1 hx hL hl hkv hI hcc hn
    refine w_op (pc' := 360) dX16_init_359 rfl ?_
    refine w_iconst (v := 3) dX16_init_360 rfl ?_
    refine w_icmpge (t := 392) dX16_init_361 (by decide) (fun c361 => ?_) (fun c361 => ?_)
    · have hi : 3 ≤ i := (nI_leI (a := 3) (by omega) (by omega)).mp c361
      obtain rfl : i = 3 := by omega
      subst hI
      exact hk p c hx hL hl hkv hcc
    · have hi : i < 3 := Nat.lt_of_not_le (fun z => c361 ((nI_leI (a := 3) (by omega) (by omega)).mpr z))
      have hcb : c.1 + 20 < e_xb := by have := hcc.1; omega
      refine w_op (pc' := 365) dX16_init_364 rfl ?_
      refine t_getR (v := .ref (p.1 T_LIST 3)) dX16_init_365 rfl (by rw [hfl, hl]; rfl) ?_
      refine t_new dX16_init_368 rfl (show c.1 < e_xb by omega) (fun a368 ha368 => ?_)
      refine w_op (pc' := 372) dX16_init_371 rfl ?_
      refine w_bipush (v := 117) dX16_init_372 rfl ?_
      refine w_op (pc' := 375) dX16_init_374 rfl ?_
      refine w_op (pc' := 376) dX16_init_375 rfl ?_
      refine w_iconst (v := 0) dX16_init_376 rfl ?_
      refine w_bipush (v := 45) dX16_init_377 rfl ?_
      refine t_callI (As := [_, _, _, _, _]) dX16_init_379 rfl rM_X14_init (by decide) (by decide) rfl rfl rfl (Nat.le_of_ble_eq_true rfl) (c_X14_init (j := i) (by decide) (by decide) (fun t ht => (hkv t (List.mem_cons_of_mem _ ht) i).trans (decide_eq_false (Nat.lt_irrefl i))) ((hkv _ List.mem_cons_self i).trans (decide_eq_false (Nat.lt_irrefl i))) (show c.1 + 1 + 5 < e_xb by omega) (fun p5 hx5 hv5 => ?_))
      refine ⟨rfl, ?_⟩
      have n5 : ∀ t j, q_kT.contains t = false → q_N5 i t j = false := fun t j ht => by unfold q_N5; rw [ht]; rfl
      refine w_ghost (S' := ((s_pv p5 T_MKNOB i a368 0), (q_nk I1 i 117 (nI i) (nI i) 0 45), J, (c.1 + 6, c.2 + 93), s_rw w b (20, 0, f))) (fun h hs => hs.pubMKNOB ((hx5.1 T_MKNOB i (n5 _ _ (by decide))).2.1.trans ((hkv _ List.mem_cons_self i).trans (decide_eq_false (Nat.lt_irrefl i)))) ha368.1 rfl rfl rfl rfl rfl rfl rfl rfl rfl rfl rfl rfl rfl rfl rfl rfl) ?_
      have hl3 : (s_pv p5 T_MKNOB i a368 0).1 T_LIST 3 = p.1 T_LIST 3 := (s_pv_n (fun z => absurd z.1 (by decide))).trans (hx5.1 T_LIST 3 (n5 _ _ (by decide))).1
      have hx3 : s_xv (q_Nl q_LK 3) p0 (s_pv p5 T_MKNOB i a368 0) := (hx.trans (hx5.mono (fun t j ht => by
        unfold q_N5
        cases e : q_kT.contains t
        · rfl
        · exfalso
          have e2 : q_LK.contains t = true := List.contains_iff_mem.mpr (List.mem_cons_of_mem _ (List.contains_iff_mem.mp e))
          rw [q_Nl_y e2] at ht
          cases ht))).trans (s_xv.pv (q_Nl_y (by decide)))
      have hL3 : s_La (s_pv p5 T_MKNOB i a368 0) (q_nk I1 i 117 (nI i) (nI i) 0 45) 3 i := ((hL.xv (I' := I1) hx5 (n5 _ _ (by decide)) (n5 _ _ (by decide)) rfl)).xv (s_xv.pv (N := fun t _ => decide (t = T_MKNOB)) rfl) rfl rfl (by rw [q_nk_F (by decide)])
      have hel : (s_pv p5 T_MKNOB i a368 0).2.1 T_MKNOB i = true := s_pv_v
      have hc9 : (c.1 + 6, c.2 + 93).1 < e_xb := (show c.1 + 6 < e_xb by omega)
      have hkv3 : ∀ t, t ∈ q_LK → ∀ k, (s_pv p5 T_MKNOB i a368 0).2.1 t k = decide (k < i + 1) := fun t ht k => by
        by_cases e : k = i
        · subst e
          rw [decide_eq_true (Nat.lt_succ_self k)]
          rcases List.mem_cons.mp ht with rfl | ht
          · exact s_pv_v
          · exact s_pv_k (hv5 t ht)
        · rw [s_pv_nv (fun z => e z.2), (hx5.1 t k (by unfold q_N5; rw [decide_eq_false e, Bool.and_false])).2.1, hkv t ht k]
          exact decide_eq_decide.mpr (by omega)
      have h2 : s_w X (d + 7) K_X16_init 382 [some (.ref b), some (.int (nI i))] [.ref ((s_pv p5 T_MKNOB i a368 0).1 T_MKNOB i), .ref ((s_pv p5 T_MKNOB i a368 0).1 T_LIST 3)] ((s_pv p5 T_MKNOB i a368 0), (q_nk I1 i 117 (nI i) (nI i) 0 45), J, (c.1 + 6, c.2 + 93), s_rw w b (20, 0, f)) (fun r S' => e_rcr (none) r = true ∧ Q r S') := by
        refine t_callV (t := T_LIST) (As := [_]) dX16_init_382 rfl rM_Jx4a65c_add_9ea2d (by decide) rfl rfl (by decide) (by decide) (Nat.le_of_ble_eq_true rfl) rfl hL3.1 (c_add hL3 hel hX hc9 (fun hA hA10 hlt hle => ?_) (fun hAB b9 hb9 => ?_))
        · show s_w _ _ _ 385 _ _ _ _
          refine w_op (pc' := 386) dX16_init_385 rfl ?_
          refine w_op (pc' := 389) (ll' := [_, _]) dX16_init_386 rfl ?_
          refine w_goto (t := 359) dX16_init_389 (by decide) ?_
          rw [show nI i + Int32.ofInt 1 = nI (i + 1) from nI_1 i]
          exact ih (i + 1) (s_pv p5 T_MKNOB i a368 0) (s_adI (q_nk I1 i 117 (nI i) (nI i) 0 45) 3 i) (c.1 + 6, c.2 + 93) (by omega) hx3 (hL3.add0 hA hA10 hlt hle (by omega)) (hl3.trans hl) hkv3 (by subst hI; rfl) ⟨(by have := hcc.1; show (c.1 + 6, c.2 + 93).1 ≤ c0.1 + 10 * (i + 1); simp only []; omega), (by have := hcc.2; show (c.1 + 6, c.2 + 93).2 ≤ c0.2 + 110 * (i + 1); simp only []; omega)⟩ (by omega)
        · show s_w _ _ _ 385 _ _ _ _
          refine w_op (pc' := 386) dX16_init_385 rfl ?_
          refine w_op (pc' := 389) (ll' := [_, _]) dX16_init_386 rfl ?_
          refine w_goto (t := 359) dX16_init_389 (by decide) ?_
          rw [show nI i + Int32.ofInt 1 = nI (i + 1) from nI_1 i]
          have h10 : s_cap i = 10 := hAB.elim (fun h9 => if_pos h9.1) (fun h9 => absurd h9.1 (by omega))
          exact ih (i + 1) (s_pv (s_pv p5 T_MKNOB i a368 0) T_LARR 3 b9 (s_cap i)) (s_adI (q_nk I1 i 117 (nI i) (nI i) 0 45) 3 i) ((c.1 + 6, c.2 + 93).1 + 1, (c.1 + 6, c.2 + 93).2 + s_cap i) (by omega) (hx3.trans (s_xv.pv q_Nl_l)) (hL3.add1 hAB (by omega)) ((s_pv_n (fun z => absurd z.1 (by decide))).trans (hl3.trans hl)) (fun t ht k => (s_pv_nv (fun z => by rw [z.1] at ht; exact absurd ht (by decide))).trans (hkv3 t ht k)) (by subst hI; rfl) ⟨(by have := hcc.1; show (c.1 + 6, c.2 + 93).1 + 1 ≤ c0.1 + 10 * (i + 1); simp only []; omega), (by have := hcc.2; show (c.1 + 6, c.2 + 93).2 + s_cap i ≤ c0.2 + 110 * (i + 1); simp only []; omega)⟩ (by omega)
      rw [s_pv_s, hl3] at h2
      exact h2
set_option maxRecDepth 100000 in
set_option maxHeartbeats 4000000 in
theorem l_X16_init_fl {X : e_XT} {d : Nat} {p : e_Sp} {I : e_I} {J : e_Jt} {c : Nat × Nat} {w : e_Rw1} {Q : e_Rt → e_SS → Prop} {b A9 : Nat} {f : Nat → Value} {p0 : e_Sp} {c0 : Nat × Nat} (hX : (X 8).1 = 0) (hfl : f 3 = .ref A9) (hc0 : c0.1 + 1000 < e_xb) (hM : ∀ i, p0.2.1 T_MODEL i = false) (hA9 : ∀ l, 8 ≤ l → l ≤ 11 → p0.1 T_LARR l = e_xb + 8) (hsC : ∀ j, p0.2.1 T_CONS j = true → j = 0) (hsW : ∀ j, p0.2.1 T_WORKS j = true → j = 0) (hk : ∀ p c, s_xv q_N8l p0 p → s_La p (q_ul 4 I) 5 4 → p.1 T_LIST 5 = A9 → (∀ k, 8 ≤ k → p.2.1 T_LIST k = decide (k < 8 + 4)) → (c.1 ≤ c0.1 + 3 * 4 ∧ c.2 ≤ c0.2 + 20 * 4) → s_w X (d + 7) K_X16_init 420 [some (.ref b), some (.int (nI 4))] [] (p, q_ul 4 I, J, c, s_rw w b (20, 0, f)) (fun r S' => e_rcr (none) r = true ∧ Q r S')) : ∀ (n : Nat) (i : Nat) (p : e_Sp) (I1 : e_I) (c : Nat × Nat), (h1 : i ≤ 4) → (hx : s_xv q_N8l p0 p) → (hL : s_La p I1 5 i) → (hl : p.1 T_LIST 5 = A9) → (hkv : ∀ k, 8 ≤ k → p.2.1 T_LIST k = decide (k < 8 + i)) → (hI : I1 = q_ul i I) → (hcc : c.1 ≤ c0.1 + 3 * i ∧ c.2 ≤ c0.2 + 20 * i) → (hn : 4 - i < n) → s_w X (d + 7) K_X16_init 394 [some (.ref b), some (.int (nI i))] [] (p, I1, J, c, s_rw w b (20, 0, f)) (fun r S' => e_rcr (none) r = true ∧ Q r S') := by
  intro n
  induction n with
  | zero =>
    intro i p I1 c h1 hx hL hl hkv hI hcc hn
    exact absurd hn (Nat.not_lt_zero _)
  | succ n ih =>
    intro i p I1 c h1 hx hL hl hkv hI hcc hn
    refine w_op (pc' := 395) dX16_init_394 rfl ?_
    refine w_iconst (v := 4) dX16_init_395 rfl ?_
    refine w_icmpge (t := 420) dX16_init_396 (by decide) (fun c396 => ?_) (fun c396 => ?_)
    · have hi : 4 ≤ i := (nI_leI (a := 4) (by omega) (by omega)).mp c396
      obtain rfl : i = 4 := by omega
      subst hI
      exact hk p c hx hL hl hkv hcc
    · have hi : i < 4 := Nat.lt_of_not_le (fun z => c396 ((nI_leI (a := 4) (by omega) (by omega)).mpr z))
      have hcb : c.1 + 20 < e_xb := by have := hcc.1; omega
      refine w_op (pc' := 400) dX16_init_399 rfl ?_
      refine t_getR (v := .ref (p.1 T_LIST 5)) dX16_init_400 rfl (by rw [hfl, hl]; rfl) ?_
      refine t_new dX16_init_403 rfl (show c.1 < e_xb by omega) (fun a403 ha403 => ?_)
      refine w_op (pc' := 407) dX16_init_406 rfl ?_
      refine t_callI (As := []) dX16_init_407 rfl rM_Jx4a65c_init_da8c8 (by decide) (by decide) rfl rfl rfl (Nat.le_of_ble_eq_true rfl) (c_initL ?_)
      refine ⟨rfl, ?_⟩
      have e8 : ∀ t j, t ≠ T_LIST → t ≠ T_LARR → p.2.1 t j = p0.2.1 t j := fun t j h1 h2 => (hx.1 t j (q_N8l_f (Or.inl h1) (Or.inl h2))).2.1
      refine w_ghost (S' := ((s_pv p T_LIST (8 + i) a403 0), (s_ILIST I1 (8 + i) 0 0), J, (c.1 + 1, c.2 + 3), s_rw w b (20, 0, f))) (fun h hs => hs.pubLIST (x0 := 0) (x1 := 0) ((hkv _ (by omega)).trans (decide_eq_false (by omega))) ha403.1 rfl rfl (by rw [(hx.1 T_LARR (8 + i) (q_N8l_f (Or.inl (by decide)) (Or.inr (by omega)))).1, hA9 _ (by omega) (by omega)]; rfl) (Or.inr (by omega)) (Or.inl ((e8 _ _ (by decide) (by decide)).trans (hM 0))) (Or.inr (by omega)) rfl (fun j9 hj9 => hsC j9 ((e8 _ _ (by decide) (by decide)).symm.trans hj9)) (fun j9 hj9 => by rw [e8 _ _ (by decide) (by decide), hM] at hj9; cases hj9) (fun j9 hj9 => hsW j9 ((e8 _ _ (by decide) (by decide)).symm.trans hj9))) ?_
      have hl3 : (s_pv p T_LIST (8 + i) a403 0).1 T_LIST 5 = p.1 T_LIST 5 := s_pv_n (fun z => by omega)
      have hx3 : s_xv q_N8l p0 (s_pv p T_LIST (8 + i) a403 0) := hx.trans (s_xv.pv (by unfold q_N8l; rw [decide_eq_true (show T_LIST = T_LIST from rfl), decide_eq_true (show 8 ≤ 8 + i by omega)]; rfl))
      have hL3 : s_La (s_pv p T_LIST (8 + i) a403 0) (s_ILIST I1 (8 + i) 0 0) 5 i := by
        obtain ⟨g1, g2, g3, g4⟩ := hL
        unfold s_La
        rw [s_pv_k g1, show (s_ILIST I1 (8 + i) 0 0) f_l_size 5 = I1 f_l_size 5 from by unfold s_ILIST; rw [s_up_i (by omega), s_up_F (by decide)], s_pv_n (t' := T_LARR) (fun z => absurd z.1 (by decide)), s_pv_nv (t' := T_LARR) (fun z => absurd z.1 (by decide)), s_pv_nl (t' := T_LARR) (fun z => absurd z.1 (by decide))]
        exact ⟨rfl, g2, g3, g4⟩
      have hel : (s_pv p T_LIST (8 + i) a403 0).2.1 T_LIST (8 + i) = true := s_pv_v
      have hc9 : (c.1 + 1, c.2 + 3).1 < e_xb := (show c.1 + 1 < e_xb by omega)
      have hkv3 : ∀ k, 8 ≤ k → (s_pv p T_LIST (8 + i) a403 0).2.1 T_LIST k = decide (k < 8 + (i + 1)) := fun k hk => by
        by_cases e : k = 8 + i
        · subst e
          rw [s_pv_v, decide_eq_true (by omega)]
        · rw [s_pv_nv (fun z => e z.2), hkv k hk]
          exact decide_eq_decide.mpr (by omega)
      have h2 : s_w X (d + 7) K_X16_init 410 [some (.ref b), some (.int (nI i))] [.ref ((s_pv p T_LIST (8 + i) a403 0).1 T_LIST (8 + i)), .ref ((s_pv p T_LIST (8 + i) a403 0).1 T_LIST 5)] ((s_pv p T_LIST (8 + i) a403 0), (s_ILIST I1 (8 + i) 0 0), J, (c.1 + 1, c.2 + 3), s_rw w b (20, 0, f)) (fun r S' => e_rcr (none) r = true ∧ Q r S') := by
        refine t_callV (t := T_LIST) (As := [_]) dX16_init_410 rfl rM_Jx4a65c_add_9ea2d (by decide) rfl rfl (by decide) (by decide) (Nat.le_of_ble_eq_true rfl) rfl hL3.1 (c_add hL3 hel hX hc9 (fun hA hA10 hlt hle => ?_) (fun hAB b9 hb9 => ?_))
        · show s_w _ _ _ 413 _ _ _ _
          refine w_op (pc' := 414) dX16_init_413 rfl ?_
          refine w_op (pc' := 417) (ll' := [_, _]) dX16_init_414 rfl ?_
          refine w_goto (t := 394) dX16_init_417 (by decide) ?_
          rw [show nI i + Int32.ofInt 1 = nI (i + 1) from nI_1 i]
          exact ih (i + 1) (s_pv p T_LIST (8 + i) a403 0) (s_adI (s_ILIST I1 (8 + i) 0 0) 5 i) (c.1 + 1, c.2 + 3) (by omega) hx3 (hL3.add0 hA hA10 hlt hle (by omega)) (hl3.trans hl) hkv3 (by subst hI; rfl) ⟨(by have := hcc.1; show (c.1 + 1, c.2 + 3).1 ≤ c0.1 + 3 * (i + 1); simp only []; omega), (by have := hcc.2; show (c.1 + 1, c.2 + 3).2 ≤ c0.2 + 20 * (i + 1); simp only []; omega)⟩ (by omega)
        · show s_w _ _ _ 413 _ _ _ _
          refine w_op (pc' := 414) dX16_init_413 rfl ?_
          refine w_op (pc' := 417) (ll' := [_, _]) dX16_init_414 rfl ?_
          refine w_goto (t := 394) dX16_init_417 (by decide) ?_
          rw [show nI i + Int32.ofInt 1 = nI (i + 1) from nI_1 i]
          have h10 : s_cap i = 10 := hAB.elim (fun h9 => if_pos h9.1) (fun h9 => absurd h9.1 (by omega))
          exact ih (i + 1) (s_pv (s_pv p T_LIST (8 + i) a403 0) T_LARR 5 b9 (s_cap i)) (s_adI (s_ILIST I1 (8 + i) 0 0) 5 i) ((c.1 + 1, c.2 + 3).1 + 1, (c.1 + 1, c.2 + 3).2 + s_cap i) (by omega) (hx3.trans (s_xv.pv rfl)) (hL3.add1 hAB (by omega)) ((s_pv_n (fun z => absurd z.1 (by decide))).trans (hl3.trans hl)) (fun k hk => (s_pv_nv (fun z => absurd z.1 (by decide))).trans (hkv3 k hk)) (by subst hI; rfl) ⟨(by have := hcc.1; show (c.1 + 1, c.2 + 3).1 + 1 ≤ c0.1 + 3 * (i + 1); simp only []; omega), (by have := hcc.2; show (c.1 + 1, c.2 + 3).2 + s_cap i ≤ c0.2 + 20 * (i + 1); simp only []; omega)⟩ (by omega)
      rw [show (s_pv p T_LIST (8 + i) a403 0).1 T_LIST (8 + i) = a403 from s_pv_s, hl3] at h2
      exact h2
set_option maxRecDepth 100000 in
set_option maxHeartbeats 4000000 in
theorem l_X16_init_g6 {X : e_XT} {d : Nat} {p : e_Sp} {I : e_I} {J : e_Jt} {c : Nat × Nat} {w : e_Rw1} {Q : e_Rt → e_SS → Prop} {b A9 : Nat} {f : Nat → Value} {p0 : e_Sp} {c0 : Nat × Nat} (hX : (X 8).1 = 0) (hfl : f 4 = .ref A9) (hc0 : c0.1 + 1000 < e_xb)  (hk : ∀ p c, s_xv (q_Nl [T_MKEEP] 6) p0 p → s_La p (q_ug 6 32 I) 6 32 → p.1 T_LIST 6 = A9 → (∀ k, p.2.1 T_MKEEP k = decide (k < 32)) → (c.1 ≤ c0.1 + 3 * 32 ∧ c.2 ≤ c0.2 + 90 * 32) → s_w X (d + 7) K_X16_init 449 [some (.ref b), some (.int (nI 32))] [] (p, q_ug 6 32 I, (q_ugJ 6 32 J), c, s_rw w b (20, 0, f)) (fun r S' => e_rcr (none) r = true ∧ Q r S')) : ∀ (n : Nat) (i : Nat) (p : e_Sp) (I1 : e_I) (J1 : e_Jt) (c : Nat × Nat), (h1 : i ≤ 32) → (hx : s_xv (q_Nl [T_MKEEP] 6) p0 p) → (hL : s_La p I1 6 i) → (hl : p.1 T_LIST 6 = A9) → (hkv : ∀ k, p.2.1 T_MKEEP k = decide (k < i)) → (hI : I1 = q_ug 6 i I) → (hJ : J1 = q_ugJ 6 i J) → (hcc : c.1 ≤ c0.1 + 3 * i ∧ c.2 ≤ c0.2 + 90 * i) → (hn : 32 - i < n) → s_w X (d + 7) K_X16_init 422 [some (.ref b), some (.int (nI i))] [] (p, I1, J1, c, s_rw w b (20, 0, f)) (fun r S' => e_rcr (none) r = true ∧ Q r S') := by
  intro n
  induction n with
  | zero =>
    intro i p I1 J1 c h1 hx hL hl hkv hI hJ hcc hn
    exact absurd hn (Nat.not_lt_zero _)
  | succ n ih =>
    intro i p I1 J1 c h1 hx hL hl hkv hI hJ hcc hn
    refine w_op (pc' := 423) dX16_init_422 rfl ?_
    refine w_bipush (v := 32) dX16_init_423 rfl ?_
    refine w_icmpge (t := 449) dX16_init_425 (by decide) (fun c425 => ?_) (fun c425 => ?_)
    · have hi : 32 ≤ i := (nI_leI (a := 32) (by omega) (by omega)).mp c425
      obtain rfl : i = 32 := by omega
      subst hI
      subst hJ
      exact hk p c hx hL hl hkv hcc
    · have hi : i < 32 := Nat.lt_of_not_le (fun z => c425 ((nI_leI (a := 32) (by omega) (by omega)).mpr z))
      have hcb : c.1 + 20 < e_xb := by have := hcc.1; omega
      refine w_op (pc' := 429) dX16_init_428 rfl ?_
      refine t_getR (v := .ref (p.1 T_LIST 6)) dX16_init_429 rfl (by rw [hfl, hl]; rfl) ?_
      refine t_new dX16_init_432 rfl (show c.1 < e_xb by omega) (fun a432 ha432 => ?_)
      refine w_op (pc' := 436) dX16_init_435 rfl ?_
      refine t_callI (As := []) dX16_init_436 rfl rM_X12_init (by decide) (by decide) rfl rfl rfl (Nat.le_of_ble_eq_true rfl) (c_X12_init ?_)
      refine ⟨rfl, ?_⟩
      refine w_ghost (S' := ((s_pv p T_MKEEP i a432 0), (s_IMKEEP I1 i 0), (s_JMKEEP J1 i 0 0), (c.1 + 1, c.2 + 3), s_rw w b (20, 0, f))) (fun h hs => hs.pubMKEEP ((hkv _).trans (decide_eq_false (by omega))) ha432.1 rfl rfl rfl) ?_
      have hl3 : (s_pv p T_MKEEP i a432 0).1 T_LIST 6 = p.1 T_LIST 6 := s_pv_n (fun z => absurd z.1 (by decide))
      have hx3 : s_xv (q_Nl [T_MKEEP] 6) p0 (s_pv p T_MKEEP i a432 0) := hx.trans (s_xv.pv (q_Nl_y (by decide)))
      have hL3 : s_La (s_pv p T_MKEEP i a432 0) (s_IMKEEP I1 i 0) 6 i := hL.pv (by decide) (s_up_F (by decide))
      have hel : (s_pv p T_MKEEP i a432 0).2.1 (e_elT 6) (e_elI 6 i) = true := s_pv_v
      have hc9 : (c.1 + 1, c.2 + 3).1 < e_xb := (show c.1 + 1 < e_xb by omega)
      have hkv3 : ∀ k, (s_pv p T_MKEEP i a432 0).2.1 T_MKEEP k = decide (k < (i + 1)) := fun k => by
        by_cases e : k = i
        · subst e
          rw [s_pv_v, decide_eq_true (by omega)]
        · rw [s_pv_nv (fun z => e z.2), hkv k]
          exact decide_eq_decide.mpr (by omega)
      have h2 : s_w X (d + 7) K_X16_init 439 [some (.ref b), some (.int (nI i))] [.ref ((s_pv p T_MKEEP i a432 0).1 T_MKEEP i), .ref ((s_pv p T_MKEEP i a432 0).1 T_LIST 6)] ((s_pv p T_MKEEP i a432 0), (s_IMKEEP I1 i 0), (s_JMKEEP J1 i 0 0), (c.1 + 1, c.2 + 3), s_rw w b (20, 0, f)) (fun r S' => e_rcr (none) r = true ∧ Q r S') := by
        refine t_callV (t := T_LIST) (As := [_]) dX16_init_439 rfl rM_Jx4a65c_add_9ea2d (by decide) rfl rfl (by decide) (by decide) (Nat.le_of_ble_eq_true rfl) rfl hL3.1 (c_add hL3 hel hX hc9 (fun hA hA10 hlt hle => ?_) (fun hAB b9 hb9 => ?_))
        · show s_w _ _ _ 442 _ _ _ _
          refine w_op (pc' := 443) dX16_init_442 rfl ?_
          refine w_op (pc' := 446) (ll' := [_, _]) dX16_init_443 rfl ?_
          refine w_goto (t := 422) dX16_init_446 (by decide) ?_
          rw [show nI i + Int32.ofInt 1 = nI (i + 1) from nI_1 i]
          exact ih (i + 1) (s_pv p T_MKEEP i a432 0) (s_adI (s_IMKEEP I1 i 0) 6 i) (s_JMKEEP J1 i 0 0) (c.1 + 1, c.2 + 3) (by omega) hx3 (hL3.add0 hA hA10 hlt hle (by omega)) (hl3.trans hl) hkv3 (by subst hI; rfl) (by subst hJ; rfl) ⟨(by have := hcc.1; show (c.1 + 1, c.2 + 3).1 ≤ c0.1 + 3 * (i + 1); simp only []; omega), (by have := hcc.2; show (c.1 + 1, c.2 + 3).2 ≤ c0.2 + 90 * (i + 1); simp only []; omega)⟩ (by omega)
        · show s_w _ _ _ 442 _ _ _ _
          refine w_op (pc' := 443) dX16_init_442 rfl ?_
          refine w_op (pc' := 446) (ll' := [_, _]) dX16_init_443 rfl ?_
          refine w_goto (t := 422) dX16_init_446 (by decide) ?_
          rw [show nI i + Int32.ofInt 1 = nI (i + 1) from nI_1 i]
          have h10 : s_cap i ≤ 72 := by (unfold s_cap; split <;> omega)
          exact ih (i + 1) (s_pv (s_pv p T_MKEEP i a432 0) T_LARR 6 b9 (s_cap i)) (s_adI (s_IMKEEP I1 i 0) 6 i) (s_JMKEEP J1 i 0 0) ((c.1 + 1, c.2 + 3).1 + 1, (c.1 + 1, c.2 + 3).2 + s_cap i) (by omega) (hx3.trans (s_xv.pv q_Nl_l)) (hL3.add1 hAB (by omega)) ((s_pv_n (fun z => absurd z.1 (by decide))).trans (hl3.trans hl)) (fun k => (s_pv_nv (fun z => absurd z.1 (by decide))).trans (hkv3 k)) (by subst hI; rfl) (by subst hJ; rfl) ⟨(by have := hcc.1; show (c.1 + 1, c.2 + 3).1 + 1 ≤ c0.1 + 3 * (i + 1); simp only []; omega), (by have := hcc.2; show (c.1 + 1, c.2 + 3).2 + s_cap i ≤ c0.2 + 90 * (i + 1); simp only []; omega)⟩ (by omega)
      rw [show (s_pv p T_MKEEP i a432 0).1 T_MKEEP i = a432 from s_pv_s, hl3] at h2
      exact h2
set_option maxRecDepth 100000 in
set_option maxHeartbeats 4000000 in
theorem l_X16_init_g7 {X : e_XT} {d : Nat} {p : e_Sp} {I : e_I} {J : e_Jt} {c : Nat × Nat} {w : e_Rw1} {Q : e_Rt → e_SS → Prop} {b A9 : Nat} {f : Nat → Value} {p0 : e_Sp} {c0 : Nat × Nat} (hX : (X 8).1 = 0) (hfl : f 5 = .ref A9) (hc0 : c0.1 + 1000 < e_xb)  (hk : ∀ p c, s_xv (q_Nl [T_MKEEP] 7) p0 p → s_La p (q_ug 7 48 I) 7 48 → p.1 T_LIST 7 = A9 → (∀ k, p.2.1 T_MKEEP k = decide (k < 32 + 48)) → (c.1 ≤ c0.1 + 3 * 48 ∧ c.2 ≤ c0.2 + 90 * 48) → s_w X (d + 7) K_X16_init 478 [some (.ref b), some (.int (nI 48))] [] (p, q_ug 7 48 I, (q_ugJ 7 48 J), c, s_rw w b (20, 0, f)) (fun r S' => e_rcr (none) r = true ∧ Q r S')) : ∀ (n : Nat) (i : Nat) (p : e_Sp) (I1 : e_I) (J1 : e_Jt) (c : Nat × Nat), (h1 : i ≤ 48) → (hx : s_xv (q_Nl [T_MKEEP] 7) p0 p) → (hL : s_La p I1 7 i) → (hl : p.1 T_LIST 7 = A9) → (hkv : ∀ k, p.2.1 T_MKEEP k = decide (k < 32 + i)) → (hI : I1 = q_ug 7 i I) → (hJ : J1 = q_ugJ 7 i J) → (hcc : c.1 ≤ c0.1 + 3 * i ∧ c.2 ≤ c0.2 + 90 * i) → (hn : 48 - i < n) → s_w X (d + 7) K_X16_init 451 [some (.ref b), some (.int (nI i))] [] (p, I1, J1, c, s_rw w b (20, 0, f)) (fun r S' => e_rcr (none) r = true ∧ Q r S') := by
  intro n
  induction n with
  | zero =>
    intro i p I1 J1 c h1 hx hL hl hkv hI hJ hcc hn
    exact absurd hn (Nat.not_lt_zero _)
  | succ n ih =>
    intro i p I1 J1 c h1 hx hL hl hkv hI hJ hcc hn
    refine w_op (pc' := 452) dX16_init_451 rfl ?_
    refine w_bipush (v := 48) dX16_init_452 rfl ?_
    refine w_icmpge (t := 478) dX16_init_454 (by decide) (fun c454 => ?_) (fun c454 => ?_)
    · have hi : 48 ≤ i := (nI_leI (a := 48) (by omega) (by omega)).mp c454
      obtain rfl : i = 48 := by omega
      subst hI
      subst hJ
      exact hk p c hx hL hl hkv hcc
    · have hi : i < 48 := Nat.lt_of_not_le (fun z => c454 ((nI_leI (a := 48) (by omega) (by omega)).mpr z))
      have hcb : c.1 + 20 < e_xb := by have := hcc.1; omega
      refine w_op (pc' := 458) dX16_init_457 rfl ?_
      refine t_getR (v := .ref (p.1 T_LIST 7)) dX16_init_458 rfl (by rw [hfl, hl]; rfl) ?_
      refine t_new dX16_init_461 rfl (show c.1 < e_xb by omega) (fun a461 ha461 => ?_)
      refine w_op (pc' := 465) dX16_init_464 rfl ?_
      refine t_callI (As := []) dX16_init_465 rfl rM_X12_init (by decide) (by decide) rfl rfl rfl (Nat.le_of_ble_eq_true rfl) (c_X12_init ?_)
      refine ⟨rfl, ?_⟩
      refine w_ghost (S' := ((s_pv p T_MKEEP (32 + i) a461 0), (s_IMKEEP I1 (32 + i) 0), (s_JMKEEP J1 (32 + i) 0 0), (c.1 + 1, c.2 + 3), s_rw w b (20, 0, f))) (fun h hs => hs.pubMKEEP ((hkv _).trans (decide_eq_false (by omega))) ha461.1 rfl rfl rfl) ?_
      have hl3 : (s_pv p T_MKEEP (32 + i) a461 0).1 T_LIST 7 = p.1 T_LIST 7 := s_pv_n (fun z => absurd z.1 (by decide))
      have hx3 : s_xv (q_Nl [T_MKEEP] 7) p0 (s_pv p T_MKEEP (32 + i) a461 0) := hx.trans (s_xv.pv (q_Nl_y (by decide)))
      have hL3 : s_La (s_pv p T_MKEEP (32 + i) a461 0) (s_IMKEEP I1 (32 + i) 0) 7 i := hL.pv (by decide) (s_up_F (by decide))
      have hel : (s_pv p T_MKEEP (32 + i) a461 0).2.1 (e_elT 7) (e_elI 7 i) = true := s_pv_v
      have hc9 : (c.1 + 1, c.2 + 3).1 < e_xb := (show c.1 + 1 < e_xb by omega)
      have hkv3 : ∀ k, (s_pv p T_MKEEP (32 + i) a461 0).2.1 T_MKEEP k = decide (k < 32 + (i + 1)) := fun k => by
        by_cases e : k = (32 + i)
        · subst e
          rw [s_pv_v, decide_eq_true (by omega)]
        · rw [s_pv_nv (fun z => e z.2), hkv k]
          exact decide_eq_decide.mpr (by omega)
      have h2 : s_w X (d + 7) K_X16_init 468 [some (.ref b), some (.int (nI i))] [.ref ((s_pv p T_MKEEP (32 + i) a461 0).1 T_MKEEP (32 + i)), .ref ((s_pv p T_MKEEP (32 + i) a461 0).1 T_LIST 7)] ((s_pv p T_MKEEP (32 + i) a461 0), (s_IMKEEP I1 (32 + i) 0), (s_JMKEEP J1 (32 + i) 0 0), (c.1 + 1, c.2 + 3), s_rw w b (20, 0, f)) (fun r S' => e_rcr (none) r = true ∧ Q r S') := by
        refine t_callV (t := T_LIST) (As := [_]) dX16_init_468 rfl rM_Jx4a65c_add_9ea2d (by decide) rfl rfl (by decide) (by decide) (Nat.le_of_ble_eq_true rfl) rfl hL3.1 (c_add hL3 hel hX hc9 (fun hA hA10 hlt hle => ?_) (fun hAB b9 hb9 => ?_))
        · show s_w _ _ _ 471 _ _ _ _
          refine w_op (pc' := 472) dX16_init_471 rfl ?_
          refine w_op (pc' := 475) (ll' := [_, _]) dX16_init_472 rfl ?_
          refine w_goto (t := 451) dX16_init_475 (by decide) ?_
          rw [show nI i + Int32.ofInt 1 = nI (i + 1) from nI_1 i]
          exact ih (i + 1) (s_pv p T_MKEEP (32 + i) a461 0) (s_adI (s_IMKEEP I1 (32 + i) 0) 7 i) (s_JMKEEP J1 (32 + i) 0 0) (c.1 + 1, c.2 + 3) (by omega) hx3 (hL3.add0 hA hA10 hlt hle (by omega)) (hl3.trans hl) hkv3 (by subst hI; rfl) (by subst hJ; rfl) ⟨(by have := hcc.1; show (c.1 + 1, c.2 + 3).1 ≤ c0.1 + 3 * (i + 1); simp only []; omega), (by have := hcc.2; show (c.1 + 1, c.2 + 3).2 ≤ c0.2 + 90 * (i + 1); simp only []; omega)⟩ (by omega)
        · show s_w _ _ _ 471 _ _ _ _
          refine w_op (pc' := 472) dX16_init_471 rfl ?_
          refine w_op (pc' := 475) (ll' := [_, _]) dX16_init_472 rfl ?_
          refine w_goto (t := 451) dX16_init_475 (by decide) ?_
          rw [show nI i + Int32.ofInt 1 = nI (i + 1) from nI_1 i]
          have h10 : s_cap i ≤ 72 := by (unfold s_cap; split <;> omega)
          exact ih (i + 1) (s_pv (s_pv p T_MKEEP (32 + i) a461 0) T_LARR 7 b9 (s_cap i)) (s_adI (s_IMKEEP I1 (32 + i) 0) 7 i) (s_JMKEEP J1 (32 + i) 0 0) ((c.1 + 1, c.2 + 3).1 + 1, (c.1 + 1, c.2 + 3).2 + s_cap i) (by omega) (hx3.trans (s_xv.pv q_Nl_l)) (hL3.add1 hAB (by omega)) ((s_pv_n (fun z => absurd z.1 (by decide))).trans (hl3.trans hl)) (fun k => (s_pv_nv (fun z => absurd z.1 (by decide))).trans (hkv3 k)) (by subst hI; rfl) (by subst hJ; rfl) ⟨(by have := hcc.1; show (c.1 + 1, c.2 + 3).1 + 1 ≤ c0.1 + 3 * (i + 1); simp only []; omega), (by have := hcc.2; show (c.1 + 1, c.2 + 3).2 + s_cap i ≤ c0.2 + 90 * (i + 1); simp only []; omega)⟩ (by omega)
      rw [show (s_pv p T_MKEEP (32 + i) a461 0).1 T_MKEEP (32 + i) = a461 from s_pv_s, hl3] at h2
      exact h2
