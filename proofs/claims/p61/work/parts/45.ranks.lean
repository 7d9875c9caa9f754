/-! 45: ranks and their pipes (printed by wip/whole/p45.py) -/
/-- n steps, from i on -/
def s_run {α : Type} (f : Nat → α → α) : Nat → Nat → α → α
  | _, 0, a => a
  | i, n + 1, a => s_run f (i + 1) n (f i a)
theorem s_run_s {α : Type} {f : Nat → α → α} {i n : Nat} {a : α} (h : i < n) : s_run f i (n - i) a = s_run f (i + 1) (n - (i + 1)) (f i a) := by
  rw [show n - i = (n - (i + 1)) + 1 by omega]; rfl
theorem s_run_z {α : Type} {f : Nat → α → α} {i n : Nat} {a : α} (h : n ≤ i) : s_run f i (n - i) a = a := by
  rw [show n - i = 0 by omega]; rfl
theorem s_run_ind {α : Type} {P : α → α → Prop} {f : Nat → α → α} (h0 : ∀ a, P a a) (h1 : ∀ {a b c}, P a b → P b c → P a c) (h : ∀ i a, P a (f i a)) : ∀ n i a, P a (s_run f i n a)
  | 0, _, a => h0 a
  | n + 1, i, a => h1 (h i a) (s_run_ind h0 h1 h n (i + 1) (f i a))
theorem s_eqC.run {f : Nat → e_I → e_I} (h : ∀ i I, s_eqC I (f i I)) (n i : Nat) (I : e_I) : s_eqC I (s_run f i n I) := s_run_ind (P := s_eqC) (fun _ => s_eqC.rfl') (fun a b => a.trans b) h n i I
/-- a rank stands -/
def s_Rk (p : e_Sp) (I : e_I) (r : Nat) : Prop := p.2.1 T_RANK r = true ∧ p.2.1 T_PARR r = true ∧ (∀ n, n < p.2.2.1 T_PARR r → p.2.1 T_PIPE (p.2.2.2.2 r + n) = true) ∧ (∃ lo, I f_r_lowest r = nI lo ∧ lo + p.2.2.1 T_PARR r ≤ 128) ∧ ∃ dv, dv < 3 ∧ I f_r_division r = nI dv
def s_St (p : e_Sp) (I : e_I) (k : Nat) : Prop := (∀ t, t ∈ s_sT → p.2.1 t k = true) ∧ ∃ m, m ≤ 4 ∧ I f_s_rows k = nI m
/-- the class stands: nk knobs, nr ranks -/
def s_D (p : e_Sp) (I : e_I) (nk nr : Nat) : Prop := s_C p I nk nr ∧ (∀ r, r < nr → s_Rk p I r) ∧ (p.2.2.2.2 0 = 0 ∧ ∀ r, r + 1 < nr → p.2.2.2.2 (r + 1) = p.2.2.2.2 r + p.2.2.1 T_PARR r) ∧ ∀ k, k < nk → I f_k_kind k = 115 → s_St p I k
theorem s_Rk.eq {p : e_Sp} {I I' : e_I} {r : Nat} (h : s_Rk p I r) (e : s_eqC I I') : s_Rk p I' r := by
  unfold s_Rk at h ⊢
  rw [e.2 f_r_lowest (by decide), e.2 f_r_division (by decide)]
  exact h
theorem s_D.eq {p : e_Sp} {I I' : e_I} {nk nr : Nat} (h : s_D p I nk nr) (e : s_eqC I I') : s_D p I' nk nr := by
  obtain ⟨a, b, c, d⟩ := h
  refine ⟨a.eq e, fun r hr => (b r hr).eq e, c, fun k hk => ?_⟩
  unfold s_St
  rw [e.2 f_k_kind (by decide), e.2 f_s_rows (by decide)]
  exact d k hk
theorem s_D.rk {p : e_Sp} {I : e_I} {nk nr r : Nat} (h : s_D p I nk nr) (hr : r < nr) : p.2.1 T_RANK r = true := (h.2.1 r hr).1
/-- the pipe of a note -/
def s_pof (p : e_Sp) (I : e_I) (r : Nat) (y : Int32) : Option Nat := if I f_r_lowest r ≤ y ∧ y < I f_r_lowest r + nI (p.2.2.1 T_PARR r) then some (p.2.2.2.2 r + (y - I f_r_lowest r).toNatClampNeg) else none
def s_pat (p : e_Sp) (I : e_I) (nr : Nat) (x y : Int32) : Option Nat := if 0 ≤ x ∧ x < nI nr then s_pof p I x.toNatClampNeg y else none
theorem s_pof_ix {p : e_Sp} {I : e_I} {r : Nat} {y : Int32} (h : s_Rk p I r) (h1 : I f_r_lowest r ≤ y) (h2 : y < I f_r_lowest r + nI (p.2.2.1 T_PARR r)) : s_ix (y - I f_r_lowest r) (y - I f_r_lowest r).toNatClampNeg (p.2.2.1 T_PARR r) := by
  obtain ⟨lo, e, hl⟩ := h.2.2.2.1
  rw [e] at h1 h2 ⊢
  have h0 := nI_pos' (n := lo) (by omega)
  rw [nI_add lo (p.2.2.1 T_PARR r)] at h2
  obtain ⟨j, hj, rfl⟩ := s_nat (Int32.le_trans h0 h1) h2 (by omega)
  have h3 : lo ≤ j := (nI_leI (by omega) (by omega)).mp h1
  have h4 : nI j - nI lo = nI (j - lo) := by
    have := nI_add (j - lo) lo
    rw [show j - lo + lo = j by omega] at this
    rw [← this]; grind
  rw [h4]
  have h5 := s_ix.nI (n := j - lo) (N := p.2.2.1 T_PARR r) (by omega) (by omega)
  exact ⟨h5.1, rfl, by rw [h5.2.1]; exact h5.2.2⟩
theorem s_pof_v {p : e_Sp} {I : e_I} {r j : Nat} {y : Int32} (h : s_Rk p I r) (e : s_pof p I r y = some j) : p.2.1 T_PIPE j = true := by
  unfold s_pof at e
  split at e
  · rename_i h1
    cases e
    exact h.2.2.1 _ (s_pof_ix h h1.1 h1.2).2.2
  · cases e
theorem s_pat_v {p : e_Sp} {I : e_I} {nk nr j : Nat} {x y : Int32} (h : s_D p I nk nr) (e : s_pat p I nr x y = some j) : p.2.1 T_PIPE j = true := by
  unfold s_pat at e
  split at e
  · rename_i h1
    obtain ⟨r, hr, rfl⟩ := s_nat h1.1 h1.2 (by have := h.1.2.2.1.1; omega)
    rw [nI_clamp (by have := h.1.2.2.1.1; omega)] at e
    exact s_pof_v (h.2.1 r hr) e
  · cases e
set_option maxRecDepth 100000 in
set_option maxHeartbeats 4000000 in
theorem c_X7_pipeOf {X : e_XT} {d : Nat} {p : e_Sp} {I : e_I} {J : e_Jt} {c : Nat × Nat} {w : e_Rw1} {Q : e_Rt → e_SS → Prop} {r : Nat} {y : Int32} (h : s_Rk p I r) (k1 : ∀ j, s_pof p I r y = some j → p.2.1 T_PIPE j = true → Q (.inl (some (.ref (p.1 T_PIPE j)))) (p, I, J, c, w)) (k2 : s_pof p I r y = none → Q (.inl (some .null)) (p, I, J, c, w)) : s_c X (d + 0) 82 [.ref (p.1 T_RANK r), .int y] (p, I, J, c, w) Q := by
  refine m_X7_pipeOf (Nat.le_of_ble_eq_true rfl) ?_
  show s_w _ _ _ 0 _ _ _ _
  refine w_op (pc' := 1) dX7_pipeOf_0 rfl ?_
  refine w_op (pc' := 2) dX7_pipeOf_1 rfl ?_
  refine t_getI (F := f_r_lowest) dX7_pipeOf_2 rfl rfl (by decide) rfl ⟨rfl, fun _ => rfl⟩ h.1 ?_
  refine w_icmplt (t := 22) dX7_pipeOf_5 (by decide) (fun c5 => ?_) (fun c5 => ?_)
  · refine w_op (pc' := 23) dX7_pipeOf_22 rfl ?_
    exact w_areturnN dX7_pipeOf_23 ⟨rfl, k2 (if_neg (fun z => Int32.not_le.mpr c5 z.1))⟩
  · refine w_op (pc' := 9) dX7_pipeOf_8 rfl ?_
    refine w_op (pc' := 10) dX7_pipeOf_9 rfl ?_
    refine t_getI (F := f_r_lowest) dX7_pipeOf_10 rfl rfl (by decide) rfl ⟨rfl, fun _ => rfl⟩ h.1 ?_
    refine w_op (pc' := 14) dX7_pipeOf_13 rfl ?_
    refine t_getG1 (G := g_r_pipes) dX7_pipeOf_14 rfl rfl (by decide) rfl (fun _ => rfl) h.1 ?_
    refine t_alen dX7_pipeOf_17 (by decide) h.2.1 ?_
    refine w_op (pc' := 19) dX7_pipeOf_18 rfl ?_
    refine w_icmplt (t := 24) dX7_pipeOf_19 (by decide) (fun c19 => ?_) (fun c19 => ?_)
    · refine w_op (pc' := 25) dX7_pipeOf_24 rfl ?_
      refine t_getG1 (G := g_r_pipes) dX7_pipeOf_25 rfl rfl (by decide) rfl (fun _ => rfl) h.1 ?_
      refine w_op (pc' := 29) dX7_pipeOf_28 rfl ?_
      refine w_op (pc' := 30) dX7_pipeOf_29 rfl ?_
      refine t_getI (F := f_r_lowest) dX7_pipeOf_30 rfl rfl (by decide) rfl ⟨rfl, fun _ => rfl⟩ h.1 ?_
      refine w_op (pc' := 34) dX7_pipeOf_33 rfl ?_
      refine t_aaldP dX7_pipeOf_34 h.1 (s_pof_ix h (Int32.not_lt.mp c5) c19) ?_
      exact w_areturn dX7_pipeOf_35 ⟨rfl, (have e := if_pos ⟨Int32.not_lt.mp c5, c19⟩; k1 _ e (s_pof_v h e))⟩
    · refine w_op (pc' := 23) dX7_pipeOf_22 rfl ?_
      exact w_areturnN dX7_pipeOf_23 ⟨rfl, k2 (if_neg (fun z => c19 z.2))⟩
set_option maxRecDepth 100000 in
set_option maxHeartbeats 4000000 in
theorem c_X10_rankAt {X : e_XT} {d : Nat} {p : e_Sp} {I : e_I} {J : e_Jt} {c : Nat × Nat} {w : e_Rw1} {Q : e_Rt → e_SS → Prop} {nk nr : Nat} (hD : s_D p I nk nr) {x : Int32} (k1 : ∀ r, r < nr → x = nI r → Q (.inl (some (.ref (p.1 T_RANK r)))) (p, I, J, c, w)) (k2 : (x < 0 ∨ nI nr ≤ x) → Q (.inl (some .null)) (p, I, J, c, w)) : s_c X (d + 3) 122 [.ref (p.1 T_WORKS 0), .int x] (p, I, J, c, w) Q := by
  have hC := hD.1
  have hp := hC.1
  have hn40 := hC.2.1.1
  have hk40 := hC.2.1.2
  have hn10 := hC.2.2.1.1
  have hr10 := hC.2.2.1.2
  refine m_X10_rankAt (Nat.le_of_ble_eq_true rfl) ?_
  show s_w _ _ _ 0 _ _ _ _
  refine w_op (pc' := 1) dX10_rankAt_0 rfl ?_
  refine w_iflt (t := 15) dX10_rankAt_1 (by decide) (fun c1 => ?_) (fun c1 => ?_)
  · refine w_op (pc' := 16) dX10_rankAt_15 rfl ?_
    refine w_goto (t := 30) dX10_rankAt_16 (by decide) ?_
    exact w_areturnN dX10_rankAt_30 ⟨rfl, k2 (Or.inl c1)⟩
  · refine w_op (pc' := 5) dX10_rankAt_4 rfl ?_
    refine w_op (pc' := 6) dX10_rankAt_5 rfl ?_
    refine t_getG0 (G := g_w_ranks) dX10_rankAt_6 rfl rfl (by decide) rfl (fun _ => rfl) (hp.1 _ rfl) ?_
    refine t_callV (t := T_LIST) (As := []) dX10_rankAt_9 rfl rM_Jx4a65c_size_8abf5 (by decide) rfl rfl (by decide) (by decide) (Nat.le_of_ble_eq_true rfl) rfl (hp.2 _ (by decide)) (c_size (hp.2 _ (by decide)) ?_)
    show s_w _ _ _ 12 _ _ _ _
    rw [hr10]
    refine w_icmplt (t := 19) dX10_rankAt_12 (by decide) (fun c12 => ?_) (fun c12 => ?_)
    · obtain ⟨r, hr, rfl⟩ := s_nat (Int32.not_lt.mp c1) c12 (by omega)
      have hc := nI_clamp (n := r) (by omega)
      refine w_op (pc' := 20) dX10_rankAt_19 rfl ?_
      refine t_getG0 (G := g_w_ranks) dX10_rankAt_20 rfl rfl (by decide) rfl (fun _ => rfl) (hp.1 _ rfl) ?_
      refine w_op (pc' := 24) dX10_rankAt_23 rfl ?_
      refine t_callV (t := T_LIST) (As := [_]) dX10_rankAt_24 rfl rM_Jx4a65c_get_915e3 (by decide) rfl rfl (by decide) (by decide) (Nat.le_of_ble_eq_true rfl) rfl (hp.2 _ (by decide)) (c_get0 hp hr10 (by omega) hr ?_)
      show s_w _ _ _ 27 _ _ _ _
      refine t_chk dX10_rankAt_27 rfl rfl (by decide) (hD.rk hr) ?_
      exact w_areturn dX10_rankAt_30 ⟨rfl, k1 r hr rfl⟩
    · refine w_op (pc' := 16) dX10_rankAt_15 rfl ?_
      refine w_goto (t := 30) dX10_rankAt_16 (by decide) ?_
      exact w_areturnN dX10_rankAt_30 ⟨rfl, k2 (Or.inr (Int32.not_lt.mp c12))⟩
set_option maxRecDepth 100000 in
set_option maxHeartbeats 4000000 in
theorem c_X10_pipeAt {X : e_XT} {d : Nat} {p : e_Sp} {I : e_I} {J : e_Jt} {c : Nat × Nat} {w : e_Rw1} {Q : e_Rt → e_SS → Prop} {nk nr : Nat} (hD : s_D p I nk nr) {x y : Int32} (k1 : ∀ j, s_pat p I nr x y = some j → p.2.1 T_PIPE j = true → Q (.inl (some (.ref (p.1 T_PIPE j)))) (p, I, J, c, w)) (k2 : s_pat p I nr x y = none → Q (.inl (some .null)) (p, I, J, c, w)) : s_c X (d + 3) 113 [.ref (p.1 T_WORKS 0), .int x, .int y] (p, I, J, c, w) Q := by
  have hC := hD.1
  have hp := hC.1
  have hn40 := hC.2.1.1
  have hk40 := hC.2.1.2
  have hn10 := hC.2.2.1.1
  have hr10 := hC.2.2.1.2
  refine m_X10_pipeAt (Nat.le_of_ble_eq_true rfl) ?_
  show s_w _ _ _ 0 _ _ _ _
  refine w_op (pc' := 1) dX10_pipeAt_0 rfl ?_
  refine w_iflt (t := 15) dX10_pipeAt_1 (by decide) (fun c1 => ?_) (fun c1 => ?_)
  · refine w_op (pc' := 16) dX10_pipeAt_15 rfl ?_
    refine w_goto (t := 30) dX10_pipeAt_16 (by decide) ?_
    refine w_op (pc' := 31) (ll' := [_, _, _, _]) dX10_pipeAt_30 rfl ?_
    refine w_op (pc' := 32) dX10_pipeAt_31 rfl ?_
    refine w_ifnonnull_f dX10_pipeAt_32 ?_
    refine w_op (pc' := 36) dX10_pipeAt_35 rfl ?_
    refine w_goto (t := 44) dX10_pipeAt_36 (by decide) ?_
    exact w_areturnN dX10_pipeAt_44 ⟨rfl, k2 (if_neg (fun z => Int32.not_le.mpr c1 z.1))⟩
  · refine w_op (pc' := 5) dX10_pipeAt_4 rfl ?_
    refine w_op (pc' := 6) dX10_pipeAt_5 rfl ?_
    refine t_getG0 (G := g_w_ranks) dX10_pipeAt_6 rfl rfl (by decide) rfl (fun _ => rfl) (hp.1 _ rfl) ?_
    refine t_callV (t := T_LIST) (As := []) dX10_pipeAt_9 rfl rM_Jx4a65c_size_8abf5 (by decide) rfl rfl (by decide) (by decide) (Nat.le_of_ble_eq_true rfl) rfl (hp.2 _ (by decide)) (c_size (hp.2 _ (by decide)) ?_)
    show s_w _ _ _ 12 _ _ _ _
    rw [hr10]
    refine w_icmplt (t := 19) dX10_pipeAt_12 (by decide) (fun c12 => ?_) (fun c12 => ?_)
    · obtain ⟨r, hr, rfl⟩ := s_nat (Int32.not_lt.mp c1) c12 (by omega)
      have hc := nI_clamp (n := r) (by omega)
      have he : s_pat p I nr (nI r) y = s_pof p I r y := by unfold s_pat; rw [if_pos ⟨Int32.not_lt.mp c1, c12⟩, hc]
      refine w_op (pc' := 20) dX10_pipeAt_19 rfl ?_
      refine t_getG0 (G := g_w_ranks) dX10_pipeAt_20 rfl rfl (by decide) rfl (fun _ => rfl) (hp.1 _ rfl) ?_
      refine w_op (pc' := 24) dX10_pipeAt_23 rfl ?_
      refine t_callV (t := T_LIST) (As := [_]) dX10_pipeAt_24 rfl rM_Jx4a65c_get_915e3 (by decide) rfl rfl (by decide) (by decide) (Nat.le_of_ble_eq_true rfl) rfl (hp.2 _ (by decide)) (c_get0 hp hr10 (by omega) hr ?_)
      show s_w _ _ _ 27 _ _ _ _
      refine t_chk dX10_pipeAt_27 rfl rfl (by decide) (hD.rk hr) ?_
      refine w_op (pc' := 31) (ll' := [_, _, _, _]) dX10_pipeAt_30 rfl ?_
      refine w_op (pc' := 32) dX10_pipeAt_31 rfl ?_
      refine w_ifnonnull_t (t := 39) dX10_pipeAt_32 (by decide) ?_
      refine w_op (pc' := 40) dX10_pipeAt_39 rfl ?_
      refine w_op (pc' := 41) dX10_pipeAt_40 rfl ?_
      refine t_callV (t := T_RANK) (As := [_]) dX10_pipeAt_41 rfl rM_X7_pipeOf (by decide) rfl rfl (by decide) (by decide) (Nat.le_of_ble_eq_true rfl) rfl (hD.rk hr) (c_X7_pipeOf (hD.2.1 r hr) (fun j hj hv => ?_) (fun hx => ?_))
      · show s_w _ _ _ 44 _ _ _ _
        exact w_areturn dX10_pipeAt_44 ⟨rfl, k1 j (he.trans hj) hv⟩
      · show s_w _ _ _ 44 _ _ _ _
        exact w_areturnN dX10_pipeAt_44 ⟨rfl, k2 (he.trans hx)⟩
    · refine w_op (pc' := 16) dX10_pipeAt_15 rfl ?_
      refine w_goto (t := 30) dX10_pipeAt_16 (by decide) ?_
      refine w_op (pc' := 31) (ll' := [_, _, _, _]) dX10_pipeAt_30 rfl ?_
      refine w_op (pc' := 32) dX10_pipeAt_31 rfl ?_
      refine w_ifnonnull_f dX10_pipeAt_32 ?_
      refine w_op (pc' := 36) dX10_pipeAt_35 rfl ?_
      refine w_goto (t := 44) dX10_pipeAt_36 (by decide) ?_
      exact w_areturnN dX10_pipeAt_44 ⟨rfl, k2 (if_neg (fun z => c12 z.2))⟩
