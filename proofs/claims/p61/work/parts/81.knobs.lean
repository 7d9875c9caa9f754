/-! 81: tremulants, couplers, stops (printed by wip/whole/p81.py) -/
def s_kT : List Nat := [T_KNOB, T_COUP, T_STOP, T_S_ranks, T_S_offsets, T_S_firsts, T_S_lasts, T_S_places, T_S_keysAt]
/-- places of a knob -/
def s_Nk (k t i : Nat) : Bool := s_kT.contains t && decide (i = k)
theorem s_sTk {t : Nat} (h : t ∈ s_sT) : t ∈ s_kT := by
  have h7 : s_sT.all (fun t => s_kT.contains t) = true := (by decide)
  exact List.contains_iff_mem.mp (List.all_eq_true.mp h7 t h)
theorem s_xv.N6 {k : Nat} {p p' : e_Sp} (h : s_xv (s_N6 k) p p') : s_xv (s_Nk k) p p' := h.mono (fun t i hti => by
  cases e : s_N6 k t i with
  | false => rfl
  | true =>
    exfalso
    unfold s_N6 at e
    rw [Bool.and_eq_true] at e
    unfold s_Nk at hti
    rw [e.2, Bool.and_true] at hti
    have := List.contains_iff_mem.mpr (s_sTk (List.contains_iff_mem.mp e.1))
    rw [hti] at this
    cases this)
def s_NK (k t i : Nat) : Bool := s_Nk k t i || s_NL 1 t i
theorem s_D.xk {p p' : e_Sp} {I I' : e_I} {nk nr : Nat} (h : s_D p I nk nr) (x : s_xv (s_Nk nk) p p') (e1 : ∀ F, F = f_l_size ∨ F = f_r_lowest ∨ F = f_r_division → I' F = I F) (e2 : ∀ F k, F = f_k_kind ∨ F = f_k_division ∨ F = f_s_rows → k ≠ nk → I' F k = I F k) : s_D p' I' nk nr := by
  have n1 : ∀ t, s_kT.contains t = false → ∀ i, s_Nk nk t i = false := fun t ht i => by unfold s_Nk; rw [ht]; rfl
  have n2 : ∀ t k, k < nk → s_Nk nk t k = false := fun t k hk => by unfold s_Nk; rw [decide_eq_false (by omega : ¬ k = nk), Bool.and_false]
  have v1 : ∀ t, s_kT.contains t = false → p'.2.1 t = p.2.1 t := fun t ht => funext fun i => (x.1 t i (n1 t ht i)).2.1
  have v2 : ∀ t k, k < nk → p'.2.1 t k = p.2.1 t k := fun t k hk => (x.1 t k (n2 t k hk)).2.1
  have v3 : p'.2.2.1 T_PARR = p.2.2.1 T_PARR := funext fun i => (x.1 T_PARR i (n1 _ (by decide) i)).2.2
  obtain ⟨⟨⟨a1, a2⟩, b1, b2, b3, b4⟩, c1, c2, c3⟩ := h
  refine ⟨⟨⟨fun t ht => ?_, fun l hl => by rw [v1 _ (by decide)]; exact a2 l hl⟩, by rw [e1 _ (Or.inl rfl)]; exact b1, by rw [e1 _ (Or.inl rfl)]; exact b2, fun k hk => ?_, fun r hr => by rw [v1 _ (by decide)]; exact b4 r hr⟩, fun r hr => ?_, by rw [x.2, v3]; exact c2, fun k hk h9 => ?_⟩
  · rw [v1 t ?_]
    · exact a1 t ht
    · cases e : s_kT.contains t with
      | false => rfl
      | true =>
        exfalso
        have h8 : s_kT.all (fun t => !s_sg t) = true := by decide
        have := List.all_eq_true.mp h8 t (List.contains_iff_mem.mp e)
        rw [ht] at this; cases this
  · rw [v2 _ _ hk, v2 _ _ hk, v2 _ _ hk, e2 _ _ (Or.inl rfl) (by omega), e2 _ _ (Or.inr (Or.inl rfl)) (by omega)]
    exact b3 k hk
  · have := c1 r hr
    unfold s_Rk at this ⊢
    rw [v1 T_RANK (by decide), v1 T_PARR (by decide), v1 T_PIPE (by decide), v3, x.2, e1 _ (Or.inr (Or.inl rfl)), e1 _ (Or.inr (Or.inr rfl))]
    exact this
  · rw [e2 _ _ (Or.inl rfl) (by omega)] at h9
    obtain ⟨d1, d2⟩ := c3 k hk h9
    unfold s_St
    rw [e2 _ _ (Or.inr (Or.inr rfl)) (by omega)]
    exact ⟨fun t ht => by rw [v2 _ _ hk]; exact d1 t ht, d2⟩
theorem s_Tp.xk {p p' : e_Sp} {I I' : e_I} {c : Nat × Nat} {a b x y k : Nat} (h : s_Tp p I c a b) (hx : s_xv (s_Nk k) p p') (e : s_eqT I I') (ha : a + x ≤ 4294960000) : s_Tp p' I' (c.1 + x, c.2 + y) (a + x) (b + y) := by
  have n1 : ∀ t, s_kT.contains t = false → ∀ i, s_Nk k t i = false := fun t ht i => by unfold s_Nk; rw [ht]; rfl
  exact (h.v (p' := p') (funext fun i => (hx.1 T_TAPE i (n1 _ (by decide) i)).2.1) (hx.1 T_ENTR 0 (n1 _ (by decide) 0)).2.2 (hx.1 T_ENTR 0 (n1 _ (by decide) 0)).2.1 ha).eq e
theorem s_La.xk {p p' : e_Sp} {I I' : e_I} {l n k : Nat} (h : s_La p I l n) (hx : s_xv (s_Nk k) p p') (e : I' f_l_size l = I f_l_size l) : s_La p' I' l n := by
  have n1 : ∀ t, s_kT.contains t = false → ∀ i, s_Nk k t i = false := fun t ht i => by unfold s_Nk; rw [ht]; rfl
  unfold s_La at h ⊢
  rw [e, (hx.1 T_LIST l (n1 _ (by decide) l)).2.1, (hx.1 T_LARR l (n1 _ (by decide) l)).1, (hx.1 T_LARR l (n1 _ (by decide) l)).2.1, (hx.1 T_LARR l (n1 _ (by decide) l)).2.2]
  exact h
theorem s_stl.xk {p p' : e_Sp} {k : Nat} (hx : s_xv (s_Nk k) p p') : s_stl p' = s_stl p := by
  have n1 : ∀ t, s_kT.contains t = false → ∀ i, s_Nk k t i = false := fun t ht i => by unfold s_Nk; rw [ht]; rfl
  exact s_stl.v (funext fun i => (hx.1 T_PARR i (n1 _ (by decide) i)).2.2) hx.2
theorem s_kI_F {I : e_I} {j F : Nat} {x y : Int32} (h1 : F ≠ f_k_kind) (h2 : F ≠ f_k_division) (h3 : F ≠ f_k_isOut) (h4 : F ≠ f_k_isLocked) (h5 : F ≠ f_k_isInScope) (h6 : F ≠ f_k_relay) : s_kI I j x y F = I F := by
  funext i
  unfold s_kI
  rw [s_up_F h6, s_up_F h5, s_up_F h4, s_up_F h3, s_up_F h2, s_up_F h1]
theorem s_kI_i {I : e_I} {j F i : Nat} {x y : Int32} (h : i ≠ j) : s_kI I j x y F i = I F i := by
  unfold s_kI
  rw [s_up_i h, s_up_i h, s_up_i h, s_up_i h, s_up_i h, s_up_i h]
theorem s_kI_k {I : e_I} {j : Nat} {x y : Int32} : s_kI I j x y f_k_kind j = x := by
  unfold s_kI
  rw [s_up_F (by decide), s_up_F (by decide), s_up_F (by decide), s_up_F (by decide), s_up_F (by decide), s_up_s]
theorem s_kI_d {I : e_I} {j : Nat} {x y : Int32} : s_kI I j x y f_k_division j = y := by
  unfold s_kI
  rw [s_up_F (by decide), s_up_F (by decide), s_up_F (by decide), s_up_F (by decide), s_up_s]
theorem s_eqT.kI {I : e_I} {j : Nat} {x y : Int32} : s_eqT I (s_kI I j x y) := (((((s_eqT.up (by decide)).trans (s_eqT.up (by decide))).trans (s_eqT.up (by decide))).trans (s_eqT.up (by decide))).trans (s_eqT.up (by decide))).trans (s_eqT.up (by decide))
theorem s_cI_F {I : e_I} {j F : Nat} {x y z t : Int32} (h1 : F ≠ f_c_from) (h2 : F ≠ f_c_to) (h3 : F ≠ f_c_shift) (h4 : F ≠ f_c_kind) : s_cI I j x y z t F = I F := by
  funext i
  unfold s_cI
  rw [s_up_F h4, s_up_F h3, s_up_F h2, s_up_F h1]
theorem s_eqT.cI {I : e_I} {j : Nat} {x y z t : Int32} : s_eqT I (s_cI I j x y z t) := (((s_eqT.up (by decide)).trans (s_eqT.up (by decide))).trans (s_eqT.up (by decide))).trans (s_eqT.up (by decide))
theorem s_sti_F {I : e_I} {j n F : Nat} (h1 : F ≠ f_s_places) (h2 : F ≠ f_s_keysAt) (h3 : F ≠ f_s_ranks) (h4 : F ≠ f_s_offsets) (h5 : F ≠ f_s_firsts) (h6 : F ≠ f_s_lasts) : s_sti I j n F = I F := by
  funext i
  unfold s_sti
  rw [if_neg (fun z => z.1.elim h1 h2), if_neg (fun z => z.1.elim h3 (fun z => z.elim h4 (fun z => z.elim h5 h6)))]
theorem s_eqT.sti {I : e_I} {j n : Nat} : s_eqT I (s_sti I j n) := ⟨by rw [s_sti_F (by decide) (by decide) (by decide) (by decide) (by decide) (by decide)], fun i => by rw [s_sti_F (by decide) (by decide) (by decide) (by decide) (by decide) (by decide)]⟩
theorem s_sI_F {I : e_I} {j F : Nat} (h1 : F ≠ f_s_stage) (h2 : F ≠ f_s_rows) : s_sI I j F = I F := by
  funext i
  unfold s_sI
  rw [s_up_F h2, s_up_F h1]
theorem s_sI_i {I : e_I} {j F i : Nat} (h : i ≠ j) : s_sI I j F i = I F i := by
  unfold s_sI
  rw [s_up_i h, s_up_i h]
theorem s_eqT.sI {I : e_I} {j : Nat} : s_eqT I (s_sI I j) := (s_eqT.up (by decide)).trans (s_eqT.up (by decide))
theorem s_isdv_nI {x : Int32} (h : s_isdv x = true) : ∃ dv, dv < 3 ∧ x = nI dv := by
  have h3 := s_dvx h
  obtain ⟨j, hj, e⟩ := nI_of (x := x) (Int32.not_lt.mpr h3.1)
  refine ⟨j, ?_, e⟩
  have := h3.2.2
  rw [e, nI_clamp hj] at this
  exact this
set_option maxRecDepth 100000 in
set_option maxHeartbeats 4000000 in
theorem l_X11_tremulant {X : e_XT} {d : Nat} {p : e_Sp} {I : e_I} {J : e_Jt} {c : Nat × Nat} {w : e_Rw1} {Q : e_Rt → e_SS → Prop} {l1 : Option Value} {nk nr : Nat} (hD : s_D p I nk nr) {a b : Nat} (hT : s_Tp p I c a b) (h40 : nk < 40) (hL : s_La p I 1 nk) (hK : s_Kn p I nk) (hS : I f_k_kind nk = 115 → s_St p I nk) (hX : (X 8).1 = 0) (hc : c.1 < e_xb) (ha : a + 1 ≤ 4294960000) (k : ∀ p1 x y, x ≤ 1 → y ≤ 60 → s_xv (s_NL 1) p p1 → ∀ p' c', s_D p' (s_stl p (nk + 1) nr (s_adI I 1 nk, J)).1 (nk + 1) nr → s_xt p1 p' → s_Tp p' (s_stl p (nk + 1) nr (s_adI I 1 nk, J)).1 c' (a + x) (b + y) → s_La p' (s_stl p (nk + 1) nr (s_adI I 1 nk, J)).1 1 (nk + 1) → Q (.inl (some (.int (nI nk)))) (p', (s_stl p (nk + 1) nr (s_adI I 1 nk, J)).1, (s_stl p (nk + 1) nr (s_adI I 1 nk, J)).2, c', w)) : s_w X (d + 8) K_X11_tremulant 21 [some (.ref (p.1 T_HALL 0)), l1] [.ref (p.1 T_KNOB nk), .ref (p.1 T_HALL 0)] (p, I, J, c, w) (fun r S' => e_rcr (some FieldType.int) r = true ∧ Q r S') := by
  have hC := hD.1
  have hp := hC.1
  refine t_callV (t := T_HALL) (As := [_]) dX11_tremulant_21 rfl rM_X11_addKnob (by decide) rfl rfl (by decide) (by decide) (Nat.le_of_ble_eq_true rfl) rfl (hp.1 _ rfl) (c_X11_addKnob hD hT h40 hL hK hS hX hc ha (fun p1 x y hx hy hv1 p' c' u1 u2 u3 u4 => ?_))
  show s_w _ _ _ 24 _ _ _ _
  exact w_ireturn dX11_tremulant_24 ⟨rfl, k p1 x y hx hy hv1 p' c' u1 u2 u3 u4⟩
set_option maxRecDepth 100000 in
set_option maxHeartbeats 4000000 in
theorem l_X11_stop {X : e_XT} {d : Nat} {p : e_Sp} {I : e_I} {J : e_Jt} {c : Nat × Nat} {w : e_Rw1} {Q : e_Rt → e_SS → Prop} {l1 : Option Value} {nk nr : Nat} (hD : s_D p I nk nr) {a b : Nat} (hT : s_Tp p I c a b) (h40 : nk < 40) (hL : s_La p I 1 nk) (hK : s_Kn p I nk) (hS : I f_k_kind nk = 115 → s_St p I nk) (hX : (X 8).1 = 0) (hc : c.1 < e_xb) (ha : a + 1 ≤ 4294960000) (k : ∀ p1 x y, x ≤ 1 → y ≤ 60 → s_xv (s_NL 1) p p1 → ∀ p' c', s_D p' (s_stl p (nk + 1) nr (s_adI I 1 nk, J)).1 (nk + 1) nr → s_xt p1 p' → s_Tp p' (s_stl p (nk + 1) nr (s_adI I 1 nk, J)).1 c' (a + x) (b + y) → s_La p' (s_stl p (nk + 1) nr (s_adI I 1 nk, J)).1 1 (nk + 1) → Q (.inl (some (.int (nI nk)))) (p', (s_stl p (nk + 1) nr (s_adI I 1 nk, J)).1, (s_stl p (nk + 1) nr (s_adI I 1 nk, J)).2, c', w)) : s_w X (d + 8) K_X11_stop 27 [some (.ref (p.1 T_HALL 0)), l1] [.ref (p.1 T_KNOB nk), .ref (p.1 T_HALL 0)] (p, I, J, c, w) (fun r S' => e_rcr (some FieldType.int) r = true ∧ Q r S') := by
  have hC := hD.1
  have hp := hC.1
  refine t_callV (t := T_HALL) (As := [_]) dX11_stop_27 rfl rM_X11_addKnob (by decide) rfl rfl (by decide) (by decide) (Nat.le_of_ble_eq_true rfl) rfl (hp.1 _ rfl) (c_X11_addKnob hD hT h40 hL hK hS hX hc ha (fun p1 x y hx hy hv1 p' c' u1 u2 u3 u4 => ?_))
  show s_w _ _ _ 30 _ _ _ _
  exact w_ireturn dX11_stop_30 ⟨rfl, k p1 x y hx hy hv1 p' c' u1 u2 u3 u4⟩
set_option maxRecDepth 100000 in
set_option maxHeartbeats 4000000 in
theorem l_X11_coupler {X : e_XT} {d : Nat} {p : e_Sp} {I : e_I} {J : e_Jt} {c : Nat × Nat} {w : e_Rw1} {Q : e_Rt → e_SS → Prop} {l1 l2 l3 l4 l5 l6 : Option Value} {nk nr : Nat} (hD : s_D p I nk nr) {a b : Nat} (hT : s_Tp p I c a b) (h40 : nk < 40) (hL : s_La p I 1 nk) (hK : s_Kn p I nk) (hS : I f_k_kind nk = 115 → s_St p I nk) (hX : (X 8).1 = 0) (hc : c.1 < e_xb) (ha : a + 1 ≤ 4294960000) (k : ∀ p1 x y, x ≤ 1 → y ≤ 60 → s_xv (s_NL 1) p p1 → ∀ p' c', s_D p' (s_stl p (nk + 1) nr (s_adI I 1 nk, J)).1 (nk + 1) nr → s_xt p1 p' → s_Tp p' (s_stl p (nk + 1) nr (s_adI I 1 nk, J)).1 c' (a + x) (b + y) → s_La p' (s_stl p (nk + 1) nr (s_adI I 1 nk, J)).1 1 (nk + 1) → Q (.inl (some (.int (nI nk)))) (p', (s_stl p (nk + 1) nr (s_adI I 1 nk, J)).1, (s_stl p (nk + 1) nr (s_adI I 1 nk, J)).2, c', w)) : s_w X (d + 8) K_X11_coupler 123 [some (.ref (p.1 T_HALL 0)), l1, l2, l3, l4, l5, l6] [.ref (p.1 T_KNOB nk), .ref (p.1 T_HALL 0)] (p, I, J, c, w) (fun r S' => e_rcr (some FieldType.int) r = true ∧ Q r S') := by
  have hC := hD.1
  have hp := hC.1
  refine t_callV (t := T_HALL) (As := [_]) dX11_coupler_123 rfl rM_X11_addKnob (by decide) rfl rfl (by decide) (by decide) (Nat.le_of_ble_eq_true rfl) rfl (hp.1 _ rfl) (c_X11_addKnob hD hT h40 hL hK hS hX hc ha (fun p1 x y hx hy hv1 p' c' u1 u2 u3 u4 => ?_))
  show s_w _ _ _ 126 _ _ _ _
  exact w_ireturn dX11_coupler_126 ⟨rfl, k p1 x y hx hy hv1 p' c' u1 u2 u3 u4⟩
set_option maxRecDepth 100000 in
set_option maxHeartbeats 4000000 in
theorem c_X11_tremulant {X : e_XT} {d : Nat} {p : e_Sp} {I : e_I} {J : e_Jt} {c : Nat × Nat} {w : e_Rw1} {Q : e_Rt → e_SS → Prop} {nk nr : Nat} (hD : s_D p I nk nr) {a b : Nat} (hT : s_Tp p I c a b) {x : Int32} (hL : s_La p I 1 nk) (hX : (X 8).1 = 0) (hc : c.1 + 20 < e_xb) (ha : a + 20 ≤ 4294960000) (hN : ∀ t, t ∈ s_kT → p.2.1 t nk = false) (k : s_isdv x = true → nk < 40 → ∀ p1 x9 y9, x9 ≤ 20 → y9 ≤ 400 → s_xv (s_NK nk) p p1 → p1.2.1 T_KNOB nk = true → ∀ p' c', s_D p' (s_stl p (nk + 1) nr (s_adI (s_kI I nk 116 x) 1 nk, J)).1 (nk + 1) nr → s_xt p1 p' → s_Tp p' (s_stl p (nk + 1) nr (s_adI (s_kI I nk 116 x) 1 nk, J)).1 c' (a + x9) (b + y9) → s_La p' (s_stl p (nk + 1) nr (s_adI (s_kI I nk 116 x) 1 nk, J)).1 1 (nk + 1) → Q (.inl (some (.int (nI nk)))) (p', (s_stl p (nk + 1) nr (s_adI (s_kI I nk 116 x) 1 nk, J)).1, (s_stl p (nk + 1) nr (s_adI (s_kI I nk 116 x) 1 nk, J)).2, c', w)) (kx : s_isdv x = false → Q (.inr 2) (p, I, J, (c.1 + 1, c.2 + 6), w)) (kx1 : s_isdv x = true → ¬ nk < 40 → Q (.inr 1) (p, I, J, (c.1 + 1, c.2 + 6), w)) : s_c X (d + 8) 155 [.ref (p.1 T_HALL 0), .int x] (p, I, J, c, w) Q := by
  have hC := hD.1
  have hp := hC.1
  refine m_X11_tremulant (Nat.le_of_ble_eq_true rfl) ?_
  show s_w _ _ _ 0 _ _ _ _
  refine w_op (pc' := 1) dX11_tremulant_0 rfl ?_
  refine t_callS (As := [_]) dX11_tremulant_1 rfl rM_X11_needDivision (by decide) rfl rfl (by decide) (Nat.le_of_ble_eq_true rfl) (c_X11_needDivision (fun hd => ?_) (fun hd => ?_))
  · show s_w _ _ _ 4 _ _ _ _
    refine w_op (pc' := 5) dX11_tremulant_4 rfl ?_
    refine t_callV (t := T_HALL) (As := []) dX11_tremulant_5 rfl rM_X11_needRoomForKnob (by decide) rfl rfl (by decide) (by decide) (Nat.le_of_ble_eq_true rfl) rfl (hp.1 _ rfl) (c_X11_needRoomForKnob hC (fun h40 => ?_) (fun h40 => ?_))
    · show s_w _ _ _ 8 _ _ _ _
      refine w_op (pc' := 9) dX11_tremulant_8 rfl ?_
      refine t_new dX11_tremulant_9 rfl (show c.1 < e_xb by omega) (fun a9 ha9 => ?_)
      refine w_op (pc' := 13) dX11_tremulant_12 rfl ?_
      refine w_bipush (v := 116) dX11_tremulant_13 rfl ?_
      refine w_op (pc' := 16) dX11_tremulant_15 rfl ?_
      refine w_op (pc' := 17) dX11_tremulant_16 rfl ?_
      refine w_op (pc' := 18) dX11_tremulant_17 rfl ?_
      refine t_callI (As := [_, _, _, _]) dX11_tremulant_18 rfl rM_X4_init (by decide) (by decide) rfl rfl rfl (Nat.le_of_ble_eq_true rfl) (c_X4_initT (by decide +kernel) ?_)
      refine ⟨rfl, ?_⟩
      refine w_ghost (S' := ((s_pv p T_KNOB nk a9 0), (s_kI I nk 116 x), J, (c.1 + 1, c.2 + 8), w)) (fun h hs => hs.pubK (hN _ (by decide)) ha9.1 ⟨rfl, rfl, rfl, rfl, rfl, rfl⟩ (by rw [if_neg (by rw [hN _ (by decide)]; decide)]; rfl) (by rw [if_neg (by rw [hN _ (by decide)]; decide)]; rfl)) ?_
      have hxk : s_xv (s_Nk nk) p (s_pv p T_KNOB nk a9 0) := s_xv.pv (by simp [s_Nk, s_kT])
      have hD1 : s_D (s_pv p T_KNOB nk a9 0) (s_kI I nk 116 x) nk nr := hD.xk hxk (fun F hF => by rcases hF with rfl | rfl | rfl <;> exact s_kI_F (by decide) (by decide) (by decide) (by decide) (by decide) (by decide)) (fun F k9 hF hk9 => by exact s_kI_i hk9)
      have hT1 : s_Tp (s_pv p T_KNOB nk a9 0) (s_kI I nk 116 x) (c.1 + 1, c.2 + 8) (a + 1) (b + 8) := hT.xk (x := 1) (y := 8) hxk s_eqT.kI (by omega)
      have hL1 : s_La (s_pv p T_KNOB nk a9 0) (s_kI I nk 116 x) 1 nk := hL.xk hxk (by rw [s_kI_F (by decide) (by decide) (by decide) (by decide) (by decide) (by decide)])
      have hK1 : s_Kn (s_pv p T_KNOB nk a9 0) (s_kI I nk 116 x) nk := ⟨s_pv_v, by rw [s_pv_nv (fun z => absurd z.1 (by decide)), hN _ (by decide), s_kI_k]; decide, by rw [s_pv_nv (fun z => absurd z.1 (by decide)), hN _ (by decide), s_kI_k]; decide, by rw [s_kI_d]; exact s_isdv_nI hd⟩
      have h2 := l_X11_tremulant (X := X) (d := d) (p := (s_pv p T_KNOB nk a9 0)) (I := (s_kI I nk 116 x)) (J := J) (c := (c.1 + 1, c.2 + 8)) (w := w) (Q := Q) (l1 := some (.int x)) hD1 hT1 h40 hL1 hK1 (fun z => by rw [s_kI_k] at z; exact absurd z (by decide)) hX (show c.1 + 1 < e_xb by omega) (by omega) (fun p1 x9 y9 hx9 hy9 hv9 p' c' u1 u2 u3 u4 => by rw [s_stl.xk hxk] at u1 u3 u4 ⊢; rw [Nat.add_assoc] at u3; rw [Nat.add_assoc] at u3; exact k hd h40 p1 _ _ (by omega) (by omega) ((hxk.mono (fun t i hti => (Bool.or_eq_false_iff.mp hti).1)).trans (hv9.mono (fun t i hti => (Bool.or_eq_false_iff.mp hti).2))) ((hv9.1 T_KNOB nk rfl).2.1.trans s_pv_v) p' c' u1 u2 u3 u4)
      rw [s_pv_n (fun z => absurd z.1 (by decide)), s_pv_s] at h2
      exact h2
    · exact ⟨rfl, rfl, kx1 hd h40⟩
  · exact ⟨rfl, rfl, kx hd⟩
set_option maxRecDepth 100000 in
set_option maxHeartbeats 4000000 in
theorem l2_X11_coupler {X : e_XT} {d : Nat} {p : e_Sp} {I : e_I} {J : e_Jt} {c : Nat × Nat} {w : e_Rw1} {Q : e_Rt → e_SS → Prop} {nk nr : Nat} (hD : s_D p I nk nr) {a b : Nat} (hT : s_Tp p I c a b) {x y z t : Int32} {l5 l6 : Option Value} (hL : s_La p I 1 nk) (hX : (X 8).1 = 0) (hc : c.1 + 20 < e_xb) (ha : a + 20 ≤ 4294960000) (hN : ∀ t, t ∈ s_kT → p.2.1 t nk = false) (ht : vp_nar .char t = t) (hd : s_isdv x = true) (hd2 : s_isdv y = true) (hsh : (z = -12 ∨ z = 0 ∨ z = 12)) (hkd : (t = 97 ∨ t = 109 ∨ t = 98 ∨ t = 112)) (hft : ¬ (x = y ∧ z = 0)) (k : s_isdv x = true → s_isdv y = true → (z = -12 ∨ z = 0 ∨ z = 12) → (t = 97 ∨ t = 109 ∨ t = 98 ∨ t = 112) → ¬ (x = y ∧ z = 0) → nk < 40 → ∀ p1 x9 y9, x9 ≤ 20 → y9 ≤ 400 → s_xv (s_NK nk) p p1 → p1.2.1 T_KNOB nk = true → ∀ p' c', s_D p' (s_stl p (nk + 1) nr (s_adI (s_kI (s_cI I nk x y z t) nk 99 x) 1 nk, J)).1 (nk + 1) nr → s_xt p1 p' → s_Tp p' (s_stl p (nk + 1) nr (s_adI (s_kI (s_cI I nk x y z t) nk 99 x) 1 nk, J)).1 c' (a + x9) (b + y9) → s_La p' (s_stl p (nk + 1) nr (s_adI (s_kI (s_cI I nk x y z t) nk 99 x) 1 nk, J)).1 1 (nk + 1) → Q (.inl (some (.int (nI nk)))) (p', (s_stl p (nk + 1) nr (s_adI (s_kI (s_cI I nk x y z t) nk 99 x) 1 nk, J)).1, (s_stl p (nk + 1) nr (s_adI (s_kI (s_cI I nk x y z t) nk 99 x) 1 nk, J)).2, c', w)) (kx1 : ¬ nk < 40 → Q (.inr 1) (p, I, J, (c.1 + 1, c.2 + 6), w)) : s_w X (d + 8) K_X11_coupler 95 [some (.ref (p.1 T_HALL 0)), some (.int x), some (.int y), some (.int z), some (.int t), l5, l6] [] (p, I, J, c, w) (fun r S' => e_rcr (some FieldType.int) r = true ∧ Q r S') := by
  have hC := hD.1
  have hp := hC.1
  refine w_op (pc' := 96) dX11_coupler_95 rfl ?_
  refine t_callV (t := T_HALL) (As := []) dX11_coupler_96 rfl rM_X11_needRoomForKnob (by decide) rfl rfl (by decide) (by decide) (Nat.le_of_ble_eq_true rfl) rfl (hp.1 _ rfl) (c_X11_needRoomForKnob hC (fun h40 => ?_) (fun h40 => ?_))
  · show s_w _ _ _ 99 _ _ _ _
    refine w_op (pc' := 100) dX11_coupler_99 rfl ?_
    refine t_new dX11_coupler_100 rfl (show c.1 < e_xb by omega) (fun a9 ha9 => ?_)
    refine w_op (pc' := 104) dX11_coupler_103 rfl ?_
    refine w_bipush (v := 99) dX11_coupler_104 rfl ?_
    refine w_op (pc' := 107) dX11_coupler_106 rfl ?_
    refine w_op (pc' := 108) dX11_coupler_107 rfl ?_
    refine t_new dX11_coupler_108 rfl (show c.1 + 1 < e_xb by omega) (fun c9 hc9 => ?_)
    refine w_op (pc' := 112) dX11_coupler_111 rfl ?_
    refine w_op (pc' := 113) dX11_coupler_112 rfl ?_
    refine w_op (pc' := 114) dX11_coupler_113 rfl ?_
    refine w_op (pc' := 115) dX11_coupler_114 rfl ?_
    refine w_op (pc' := 117) dX11_coupler_115 rfl ?_
    refine t_callI (As := [_, _, _, _]) dX11_coupler_117 rfl rM_X2_init (by decide) (by decide) rfl rfl rfl (Nat.le_of_ble_eq_true rfl) (c_X2_init ht ?_)
    refine ⟨rfl, ?_⟩
    refine w_ghost (S' := ((s_pv p T_COUP nk c9 0), (s_cI I nk x y z t), J, (c.1 + 2, c.2 + 12), s_rw w a9 (8, 0, s_nul))) (fun h hs => hs.pubC (hN _ (by decide)) (hN _ (by decide)) hc9.1 ⟨rfl, rfl, rfl, rfl⟩) ?_
    refine t_callI (As := [_, _, _, _]) dX11_coupler_120 rfl rM_X4_init (by decide) (by decide) rfl rfl rfl (Nat.le_of_ble_eq_true rfl) (c_X4_initC (e := c9) (by decide +kernel) ?_)
    refine ⟨rfl, ?_⟩
    refine w_ghost (S' := ((s_pv (s_pv p T_COUP nk c9 0) T_KNOB nk a9 0), (s_kI (s_cI I nk x y z t) nk 99 x), J, (c.1 + 2, c.2 + 12), w)) (fun h hs => hs.pubK ((s_pv_nv (fun z => absurd z.1 (by decide))).trans (hN _ (by decide))) ha9.1 ⟨rfl, rfl, rfl, rfl, rfl, rfl⟩ (by rw [if_neg (by rw [s_pv_nv (fun z => absurd z.1 (by decide)), hN _ (by decide)]; decide)]; rfl) (by rw [if_pos s_pv_v, s_pv_s]; rfl)) ?_
    have hxk : s_xv (s_Nk nk) p (s_pv (s_pv p T_COUP nk c9 0) T_KNOB nk a9 0) := (s_xv.pv (by simp [s_Nk, s_kT])).trans (s_xv.pv (by simp [s_Nk, s_kT]))
    have hD1 : s_D (s_pv (s_pv p T_COUP nk c9 0) T_KNOB nk a9 0) (s_kI (s_cI I nk x y z t) nk 99 x) nk nr := hD.xk hxk (fun F hF => by rcases hF with rfl | rfl | rfl <;> (rw [s_kI_F (by decide) (by decide) (by decide) (by decide) (by decide) (by decide)]; exact s_cI_F (by decide) (by decide) (by decide) (by decide))) (fun F k9 hF hk9 => by rw [s_kI_i hk9]; rcases hF with rfl | rfl | rfl <;> exact congrFun (s_cI_F (by decide) (by decide) (by decide) (by decide)) k9)
    have hT1 : s_Tp (s_pv (s_pv p T_COUP nk c9 0) T_KNOB nk a9 0) (s_kI (s_cI I nk x y z t) nk 99 x) (c.1 + 2, c.2 + 12) (a + 2) (b + 12) := hT.xk (x := 2) (y := 12) hxk (s_eqT.cI.trans s_eqT.kI) (by omega)
    have hL1 : s_La (s_pv (s_pv p T_COUP nk c9 0) T_KNOB nk a9 0) (s_kI (s_cI I nk x y z t) nk 99 x) 1 nk := hL.xk hxk (by rw [s_kI_F (by decide) (by decide) (by decide) (by decide) (by decide) (by decide), s_cI_F (by decide) (by decide) (by decide) (by decide)])
    have hK1 : s_Kn (s_pv (s_pv p T_COUP nk c9 0) T_KNOB nk a9 0) (s_kI (s_cI I nk x y z t) nk 99 x) nk := ⟨s_pv_v, by rw [s_pv_nv (fun z => absurd z.1 (by decide)), s_pv_nv (fun z => absurd z.1 (by decide)), hN _ (by decide), s_kI_k]; decide, by rw [s_pv_nv (fun z => absurd z.1 (by decide)), s_pv_v, s_kI_k]; decide, by rw [s_kI_d]; exact s_isdv_nI hd⟩
    have h2 := l_X11_coupler (X := X) (d := d) (p := (s_pv (s_pv p T_COUP nk c9 0) T_KNOB nk a9 0)) (I := (s_kI (s_cI I nk x y z t) nk 99 x)) (J := J) (c := (c.1 + 2, c.2 + 12)) (w := w) (Q := Q) (l1 := some (.int x)) (l2 := some (.int y)) (l3 := some (.int z)) (l4 := some (.int t)) (l5 := l5) (l6 := l6) hD1 hT1 h40 hL1 hK1 (fun z9 => by rw [s_kI_k] at z9; exact absurd z9 (by decide)) hX (show c.1 + 2 < e_xb by omega) (by omega) (fun p1 x9 y9 hx9 hy9 hv9 p' c' u1 u2 u3 u4 => by rw [s_stl.xk hxk] at u1 u3 u4 ⊢; rw [Nat.add_assoc] at u3; rw [Nat.add_assoc] at u3; exact k hd hd2 hsh hkd hft h40 p1 _ _ (by omega) (by omega) ((hxk.mono (fun t i hti => (Bool.or_eq_false_iff.mp hti).1)).trans (hv9.mono (fun t i hti => (Bool.or_eq_false_iff.mp hti).2))) ((hv9.1 T_KNOB nk rfl).2.1.trans s_pv_v) p' c' u1 u2 u3 u4)
    rw [s_pv_n (fun z => absurd z.1 (by decide)), s_pv_n (fun z => absurd z.1 (by decide)), s_pv_s] at h2
    exact h2
  · exact ⟨rfl, rfl, kx1 h40⟩
set_option maxRecDepth 100000 in
set_option maxHeartbeats 4000000 in
theorem c_X11_coupler {X : e_XT} {d : Nat} {p : e_Sp} {I : e_I} {J : e_Jt} {c : Nat × Nat} {w : e_Rw1} {Q : e_Rt → e_SS → Prop} {nk nr : Nat} (hD : s_D p I nk nr) {a b : Nat} (hT : s_Tp p I c a b) {x y z t : Int32} (hL : s_La p I 1 nk) (hX : (X 8).1 = 0) (hc : c.1 + 20 < e_xb) (ha : a + 20 ≤ 4294960000) (hN : ∀ t, t ∈ s_kT → p.2.1 t nk = false) (ht : vp_nar .char t = t) (k : s_isdv x = true → s_isdv y = true → (z = -12 ∨ z = 0 ∨ z = 12) → (t = 97 ∨ t = 109 ∨ t = 98 ∨ t = 112) → ¬ (x = y ∧ z = 0) → nk < 40 → ∀ p1 x9 y9, x9 ≤ 20 → y9 ≤ 400 → s_xv (s_NK nk) p p1 → p1.2.1 T_KNOB nk = true → ∀ p' c', s_D p' (s_stl p (nk + 1) nr (s_adI (s_kI (s_cI I nk x y z t) nk 99 x) 1 nk, J)).1 (nk + 1) nr → s_xt p1 p' → s_Tp p' (s_stl p (nk + 1) nr (s_adI (s_kI (s_cI I nk x y z t) nk 99 x) 1 nk, J)).1 c' (a + x9) (b + y9) → s_La p' (s_stl p (nk + 1) nr (s_adI (s_kI (s_cI I nk x y z t) nk 99 x) 1 nk, J)).1 1 (nk + 1) → Q (.inl (some (.int (nI nk)))) (p', (s_stl p (nk + 1) nr (s_adI (s_kI (s_cI I nk x y z t) nk 99 x) 1 nk, J)).1, (s_stl p (nk + 1) nr (s_adI (s_kI (s_cI I nk x y z t) nk 99 x) 1 nk, J)).2, c', w)) (kx : s_isdv x = false → Q (.inr 2) (p, I, J, (c.1 + 1, c.2 + 6), w)) (kx2 : s_isdv x = true → s_isdv y = false → Q (.inr 2) (p, I, J, (c.1 + 1, c.2 + 6), w)) (kx0 : s_isdv x = true → s_isdv y = true → ¬ ((z = -12 ∨ z = 0 ∨ z = 12) ∧ (t = 97 ∨ t = 109 ∨ t = 98 ∨ t = 112) ∧ ¬ (x = y ∧ z = 0)) → Q (.inr 0) (p, I, J, (c.1 + 1, c.2 + 6), w)) (kx1 : s_isdv x = true → s_isdv y = true → (z = -12 ∨ z = 0 ∨ z = 12) → (t = 97 ∨ t = 109 ∨ t = 98 ∨ t = 112) → ¬ (x = y ∧ z = 0) → ¬ nk < 40 → Q (.inr 1) (p, I, J, (c.1 + 1, c.2 + 6), w)) : s_c X (d + 8) 154 [.ref (p.1 T_HALL 0), .int x, .int y, .int z, .int t] (p, I, J, c, w) Q := by
  have hC := hD.1
  have hp := hC.1
  refine m_X11_coupler (Nat.le_of_ble_eq_true rfl) ?_
  show s_w _ _ _ 0 _ _ _ _
  refine w_op (pc' := 1) dX11_coupler_0 rfl ?_
  refine t_callS (As := [_]) dX11_coupler_1 rfl rM_X11_needDivision (by decide) rfl rfl (by decide) (Nat.le_of_ble_eq_true rfl) (c_X11_needDivision (fun hd => ?_) (fun hd => ?_))
  · show s_w _ _ _ 4 _ _ _ _
    refine w_op (pc' := 5) dX11_coupler_4 rfl ?_
    refine t_callS (As := [_]) dX11_coupler_5 rfl rM_X11_needDivision (by decide) rfl rfl (by decide) (Nat.le_of_ble_eq_true rfl) (c_X11_needDivision (fun hd2 => ?_) (fun hd2 => ?_))
    · show s_w _ _ _ 8 _ _ _ _
      refine w_op (pc' := 9) dX11_coupler_8 rfl ?_
      refine w_bipush (v := (-12)) dX11_coupler_9 rfl ?_
      refine w_icmpeq (t := 24) dX11_coupler_11 (by decide) (fun c11 => ?_) (fun c11 => ?_)
      · refine w_iconst (v := 1) dX11_coupler_24 rfl ?_
        refine w_goto (t := 29) dX11_coupler_25 (by decide) ?_
        refine w_op (pc' := 31) (ll' := [_, _, _, _, _, _, _]) dX11_coupler_29 rfl ?_
        refine w_op (pc' := 33) dX11_coupler_31 rfl ?_
        refine w_bipush (v := 97) dX11_coupler_33 rfl ?_
        refine w_icmpeq (t := 59) dX11_coupler_35 (by decide) (fun c35 => ?_) (fun c35 => ?_)
        · refine w_iconst (v := 1) dX11_coupler_59 rfl ?_
          refine w_goto (t := 64) dX11_coupler_60 (by decide) ?_
          refine w_op (pc' := 66) (ll' := [_, _, _, _, _, _, _]) dX11_coupler_64 rfl ?_
          refine w_op (pc' := 68) dX11_coupler_66 rfl ?_
          refine w_ifeq (t := 85) dX11_coupler_68 (by decide) (fun c68 => ?_) (fun c68 => ?_)
          · exact absurd c68 (by decide)
          · refine w_op (pc' := 73) dX11_coupler_71 rfl ?_
            refine w_ifeq (t := 85) dX11_coupler_73 (by decide) (fun c73 => ?_) (fun c73 => ?_)
            · exact absurd c73 (by decide)
            · refine w_op (pc' := 77) dX11_coupler_76 rfl ?_
              refine w_op (pc' := 78) dX11_coupler_77 rfl ?_
              refine w_icmpne (t := 95) dX11_coupler_78 (by decide) (fun c78 => ?_) (fun c78 => ?_)
              · exact l2_X11_coupler hD hT hL hX hc ha hN ht hd hd2 (Or.inl c11) (Or.inl c35) (fun u => c78 u.1) (k) (kx1 hd hd2 (Or.inl c11) (Or.inl c35) (fun u => c78 u.1))
              · refine w_op (pc' := 82) dX11_coupler_81 rfl ?_
                refine w_ifne (t := 95) dX11_coupler_82 (by decide) (fun c82 => ?_) (fun c82 => ?_)
                · exact l2_X11_coupler hD hT hL hX hc ha hN ht hd hd2 (Or.inl c11) (Or.inl c35) (fun u => c82 u.2) (k) (kx1 hd hd2 (Or.inl c11) (Or.inl c35) (fun u => c82 u.2))
                · exact w_thr0 (is := 142) (sp := 1036) (tx := "no such coupler") (by decide) rfl rfl (by simp) dX11_coupler_85 dX11_coupler_88 (Or.inl ⟨dX11_coupler_89, dX11_coupler_91, dX11_coupler_94⟩) ⟨rfl, kx0 hd hd2 (fun u => u.2.2 ⟨c78, c82⟩)⟩
        · refine w_op (pc' := 40) dX11_coupler_38 rfl ?_
          refine w_bipush (v := 109) dX11_coupler_40 rfl ?_
          refine w_icmpeq (t := 59) dX11_coupler_42 (by decide) (fun c42 => ?_) (fun c42 => ?_)
          · refine w_iconst (v := 1) dX11_coupler_59 rfl ?_
            refine w_goto (t := 64) dX11_coupler_60 (by decide) ?_
            refine w_op (pc' := 66) (ll' := [_, _, _, _, _, _, _]) dX11_coupler_64 rfl ?_
            refine w_op (pc' := 68) dX11_coupler_66 rfl ?_
            refine w_ifeq (t := 85) dX11_coupler_68 (by decide) (fun c68 => ?_) (fun c68 => ?_)
            · exact absurd c68 (by decide)
            · refine w_op (pc' := 73) dX11_coupler_71 rfl ?_
              refine w_ifeq (t := 85) dX11_coupler_73 (by decide) (fun c73 => ?_) (fun c73 => ?_)
              · exact absurd c73 (by decide)
              · refine w_op (pc' := 77) dX11_coupler_76 rfl ?_
                refine w_op (pc' := 78) dX11_coupler_77 rfl ?_
                refine w_icmpne (t := 95) dX11_coupler_78 (by decide) (fun c78 => ?_) (fun c78 => ?_)
                · exact l2_X11_coupler hD hT hL hX hc ha hN ht hd hd2 (Or.inl c11) (Or.inr (Or.inl c42)) (fun u => c78 u.1) (k) (kx1 hd hd2 (Or.inl c11) (Or.inr (Or.inl c42)) (fun u => c78 u.1))
                · refine w_op (pc' := 82) dX11_coupler_81 rfl ?_
                  refine w_ifne (t := 95) dX11_coupler_82 (by decide) (fun c82 => ?_) (fun c82 => ?_)
                  · exact l2_X11_coupler hD hT hL hX hc ha hN ht hd hd2 (Or.inl c11) (Or.inr (Or.inl c42)) (fun u => c82 u.2) (k) (kx1 hd hd2 (Or.inl c11) (Or.inr (Or.inl c42)) (fun u => c82 u.2))
                  · exact w_thr0 (is := 142) (sp := 1036) (tx := "no such coupler") (by decide) rfl rfl (by simp) dX11_coupler_85 dX11_coupler_88 (Or.inl ⟨dX11_coupler_89, dX11_coupler_91, dX11_coupler_94⟩) ⟨rfl, kx0 hd hd2 (fun u => u.2.2 ⟨c78, c82⟩)⟩
          · refine w_op (pc' := 47) dX11_coupler_45 rfl ?_
            refine w_bipush (v := 98) dX11_coupler_47 rfl ?_
            refine w_icmpeq (t := 59) dX11_coupler_49 (by decide) (fun c49 => ?_) (fun c49 => ?_)
            · refine w_iconst (v := 1) dX11_coupler_59 rfl ?_
              refine w_goto (t := 64) dX11_coupler_60 (by decide) ?_
              refine w_op (pc' := 66) (ll' := [_, _, _, _, _, _, _]) dX11_coupler_64 rfl ?_
              refine w_op (pc' := 68) dX11_coupler_66 rfl ?_
              refine w_ifeq (t := 85) dX11_coupler_68 (by decide) (fun c68 => ?_) (fun c68 => ?_)
              · exact absurd c68 (by decide)
              · refine w_op (pc' := 73) dX11_coupler_71 rfl ?_
                refine w_ifeq (t := 85) dX11_coupler_73 (by decide) (fun c73 => ?_) (fun c73 => ?_)
                · exact absurd c73 (by decide)
                · refine w_op (pc' := 77) dX11_coupler_76 rfl ?_
                  refine w_op (pc' := 78) dX11_coupler_77 rfl ?_
                  refine w_icmpne (t := 95) dX11_coupler_78 (by decide) (fun c78 => ?_) (fun c78 => ?_)
                  · exact l2_X11_coupler hD hT hL hX hc ha hN ht hd hd2 (Or.inl c11) (Or.inr (Or.inr (Or.inl c49))) (fun u => c78 u.1) (k) (kx1 hd hd2 (Or.inl c11) (Or.inr (Or.inr (Or.inl c49))) (fun u => c78 u.1))
                  · refine w_op (pc' := 82) dX11_coupler_81 rfl ?_
                    refine w_ifne (t := 95) dX11_coupler_82 (by decide) (fun c82 => ?_) (fun c82 => ?_)
                    · exact l2_X11_coupler hD hT hL hX hc ha hN ht hd hd2 (Or.inl c11) (Or.inr (Or.inr (Or.inl c49))) (fun u => c82 u.2) (k) (kx1 hd hd2 (Or.inl c11) (Or.inr (Or.inr (Or.inl c49))) (fun u => c82 u.2))
                    · exact w_thr0 (is := 142) (sp := 1036) (tx := "no such coupler") (by decide) rfl rfl (by simp) dX11_coupler_85 dX11_coupler_88 (Or.inl ⟨dX11_coupler_89, dX11_coupler_91, dX11_coupler_94⟩) ⟨rfl, kx0 hd hd2 (fun u => u.2.2 ⟨c78, c82⟩)⟩
            · refine w_op (pc' := 54) dX11_coupler_52 rfl ?_
              refine w_bipush (v := 112) dX11_coupler_54 rfl ?_
              refine w_icmpne (t := 63) dX11_coupler_56 (by decide) (fun c56 => ?_) (fun c56 => ?_)
              · refine w_iconst (v := 0) dX11_coupler_63 rfl ?_
                refine w_op (pc' := 66) (ll' := [_, _, _, _, _, _, _]) dX11_coupler_64 rfl ?_
                refine w_op (pc' := 68) dX11_coupler_66 rfl ?_
                refine w_ifeq (t := 85) dX11_coupler_68 (by decide) (fun c68 => ?_) (fun c68 => ?_)
                · exact absurd c68 (by decide)
                · refine w_op (pc' := 73) dX11_coupler_71 rfl ?_
                  refine w_ifeq (t := 85) dX11_coupler_73 (by decide) (fun c73 => ?_) (fun c73 => ?_)
                  · exact w_thr0 (is := 142) (sp := 1036) (tx := "no such coupler") (by decide) rfl rfl (by simp) dX11_coupler_85 dX11_coupler_88 (Or.inl ⟨dX11_coupler_89, dX11_coupler_91, dX11_coupler_94⟩) ⟨rfl, kx0 hd hd2 (fun u => u.2.1.elim c35 (fun u => u.elim c42 (fun u => u.elim c49 c56)))⟩
                  · exact absurd c73 (by decide)
              · refine w_iconst (v := 1) dX11_coupler_59 rfl ?_
                refine w_goto (t := 64) dX11_coupler_60 (by decide) ?_
                refine w_op (pc' := 66) (ll' := [_, _, _, _, _, _, _]) dX11_coupler_64 rfl ?_
                refine w_op (pc' := 68) dX11_coupler_66 rfl ?_
                refine w_ifeq (t := 85) dX11_coupler_68 (by decide) (fun c68 => ?_) (fun c68 => ?_)
                · exact absurd c68 (by decide)
                · refine w_op (pc' := 73) dX11_coupler_71 rfl ?_
                  refine w_ifeq (t := 85) dX11_coupler_73 (by decide) (fun c73 => ?_) (fun c73 => ?_)
                  · exact absurd c73 (by decide)
                  · refine w_op (pc' := 77) dX11_coupler_76 rfl ?_
                    refine w_op (pc' := 78) dX11_coupler_77 rfl ?_
                    refine w_icmpne (t := 95) dX11_coupler_78 (by decide) (fun c78 => ?_) (fun c78 => ?_)
                    · exact l2_X11_coupler hD hT hL hX hc ha hN ht hd hd2 (Or.inl c11) (Or.inr (Or.inr (Or.inr c56))) (fun u => c78 u.1) (k) (kx1 hd hd2 (Or.inl c11) (Or.inr (Or.inr (Or.inr c56))) (fun u => c78 u.1))
                    · refine w_op (pc' := 82) dX11_coupler_81 rfl ?_
                      refine w_ifne (t := 95) dX11_coupler_82 (by decide) (fun c82 => ?_) (fun c82 => ?_)
                      · exact l2_X11_coupler hD hT hL hX hc ha hN ht hd hd2 (Or.inl c11) (Or.inr (Or.inr (Or.inr c56))) (fun u => c82 u.2) (k) (kx1 hd hd2 (Or.inl c11) (Or.inr (Or.inr (Or.inr c56))) (fun u => c82 u.2))
                      · exact w_thr0 (is := 142) (sp := 1036) (tx := "no such coupler") (by decide) rfl rfl (by simp) dX11_coupler_85 dX11_coupler_88 (Or.inl ⟨dX11_coupler_89, dX11_coupler_91, dX11_coupler_94⟩) ⟨rfl, kx0 hd hd2 (fun u => u.2.2 ⟨c78, c82⟩)⟩
      · refine w_op (pc' := 15) dX11_coupler_14 rfl ?_
        refine w_ifeq (t := 24) dX11_coupler_15 (by decide) (fun c15 => ?_) (fun c15 => ?_)
        · refine w_iconst (v := 1) dX11_coupler_24 rfl ?_
          refine w_goto (t := 29) dX11_coupler_25 (by decide) ?_
          refine w_op (pc' := 31) (ll' := [_, _, _, _, _, _, _]) dX11_coupler_29 rfl ?_
          refine w_op (pc' := 33) dX11_coupler_31 rfl ?_
          refine w_bipush (v := 97) dX11_coupler_33 rfl ?_
          refine w_icmpeq (t := 59) dX11_coupler_35 (by decide) (fun c35 => ?_) (fun c35 => ?_)
          · refine w_iconst (v := 1) dX11_coupler_59 rfl ?_
            refine w_goto (t := 64) dX11_coupler_60 (by decide) ?_
            refine w_op (pc' := 66) (ll' := [_, _, _, _, _, _, _]) dX11_coupler_64 rfl ?_
            refine w_op (pc' := 68) dX11_coupler_66 rfl ?_
            refine w_ifeq (t := 85) dX11_coupler_68 (by decide) (fun c68 => ?_) (fun c68 => ?_)
            · exact absurd c68 (by decide)
            · refine w_op (pc' := 73) dX11_coupler_71 rfl ?_
              refine w_ifeq (t := 85) dX11_coupler_73 (by decide) (fun c73 => ?_) (fun c73 => ?_)
              · exact absurd c73 (by decide)
              · refine w_op (pc' := 77) dX11_coupler_76 rfl ?_
                refine w_op (pc' := 78) dX11_coupler_77 rfl ?_
                refine w_icmpne (t := 95) dX11_coupler_78 (by decide) (fun c78 => ?_) (fun c78 => ?_)
                · exact l2_X11_coupler hD hT hL hX hc ha hN ht hd hd2 (Or.inr (Or.inl c15)) (Or.inl c35) (fun u => c78 u.1) (k) (kx1 hd hd2 (Or.inr (Or.inl c15)) (Or.inl c35) (fun u => c78 u.1))
                · refine w_op (pc' := 82) dX11_coupler_81 rfl ?_
                  refine w_ifne (t := 95) dX11_coupler_82 (by decide) (fun c82 => ?_) (fun c82 => ?_)
                  · exact l2_X11_coupler hD hT hL hX hc ha hN ht hd hd2 (Or.inr (Or.inl c15)) (Or.inl c35) (fun u => c82 u.2) (k) (kx1 hd hd2 (Or.inr (Or.inl c15)) (Or.inl c35) (fun u => c82 u.2))
                  · exact w_thr0 (is := 142) (sp := 1036) (tx := "no such coupler") (by decide) rfl rfl (by simp) dX11_coupler_85 dX11_coupler_88 (Or.inl ⟨dX11_coupler_89, dX11_coupler_91, dX11_coupler_94⟩) ⟨rfl, kx0 hd hd2 (fun u => u.2.2 ⟨c78, c82⟩)⟩
          · refine w_op (pc' := 40) dX11_coupler_38 rfl ?_
            refine w_bipush (v := 109) dX11_coupler_40 rfl ?_
            refine w_icmpeq (t := 59) dX11_coupler_42 (by decide) (fun c42 => ?_) (fun c42 => ?_)
            · refine w_iconst (v := 1) dX11_coupler_59 rfl ?_
              refine w_goto (t := 64) dX11_coupler_60 (by decide) ?_
              refine w_op (pc' := 66) (ll' := [_, _, _, _, _, _, _]) dX11_coupler_64 rfl ?_
              refine w_op (pc' := 68) dX11_coupler_66 rfl ?_
              refine w_ifeq (t := 85) dX11_coupler_68 (by decide) (fun c68 => ?_) (fun c68 => ?_)
              · exact absurd c68 (by decide)
              · refine w_op (pc' := 73) dX11_coupler_71 rfl ?_
                refine w_ifeq (t := 85) dX11_coupler_73 (by decide) (fun c73 => ?_) (fun c73 => ?_)
                · exact absurd c73 (by decide)
                · refine w_op (pc' := 77) dX11_coupler_76 rfl ?_
                  refine w_op (pc' := 78) dX11_coupler_77 rfl ?_
                  refine w_icmpne (t := 95) dX11_coupler_78 (by decide) (fun c78 => ?_) (fun c78 => ?_)
                  · exact l2_X11_coupler hD hT hL hX hc ha hN ht hd hd2 (Or.inr (Or.inl c15)) (Or.inr (Or.inl c42)) (fun u => c78 u.1) (k) (kx1 hd hd2 (Or.inr (Or.inl c15)) (Or.inr (Or.inl c42)) (fun u => c78 u.1))
                  · refine w_op (pc' := 82) dX11_coupler_81 rfl ?_
                    refine w_ifne (t := 95) dX11_coupler_82 (by decide) (fun c82 => ?_) (fun c82 => ?_)
                    · exact l2_X11_coupler hD hT hL hX hc ha hN ht hd hd2 (Or.inr (Or.inl c15)) (Or.inr (Or.inl c42)) (fun u => c82 u.2) (k) (kx1 hd hd2 (Or.inr (Or.inl c15)) (Or.inr (Or.inl c42)) (fun u => c82 u.2))
                    · exact w_thr0 (is := 142) (sp := 1036) (tx := "no such coupler") (by decide) rfl rfl (by simp) dX11_coupler_85 dX11_coupler_88 (Or.inl ⟨dX11_coupler_89, dX11_coupler_91, dX11_coupler_94⟩) ⟨rfl, kx0 hd hd2 (fun u => u.2.2 ⟨c78, c82⟩)⟩
            · refine w_op (pc' := 47) dX11_coupler_45 rfl ?_
              refine w_bipush (v := 98) dX11_coupler_47 rfl ?_
              refine w_icmpeq (t := 59) dX11_coupler_49 (by decide) (fun c49 => ?_) (fun c49 => ?_)
              · refine w_iconst (v := 1) dX11_coupler_59 rfl ?_
                refine w_goto (t := 64) dX11_coupler_60 (by decide) ?_
                refine w_op (pc' := 66) (ll' := [_, _, _, _, _, _, _]) dX11_coupler_64 rfl ?_
                refine w_op (pc' := 68) dX11_coupler_66 rfl ?_
                refine w_ifeq (t := 85) dX11_coupler_68 (by decide) (fun c68 => ?_) (fun c68 => ?_)
                · exact absurd c68 (by decide)
                · refine w_op (pc' := 73) dX11_coupler_71 rfl ?_
                  refine w_ifeq (t := 85) dX11_coupler_73 (by decide) (fun c73 => ?_) (fun c73 => ?_)
                  · exact absurd c73 (by decide)
                  · refine w_op (pc' := 77) dX11_coupler_76 rfl ?_
                    refine w_op (pc' := 78) dX11_coupler_77 rfl ?_
                    refine w_icmpne (t := 95) dX11_coupler_78 (by decide) (fun c78 => ?_) (fun c78 => ?_)
                    · exact l2_X11_coupler hD hT hL hX hc ha hN ht hd hd2 (Or.inr (Or.inl c15)) (Or.inr (Or.inr (Or.inl c49))) (fun u => c78 u.1) (k) (kx1 hd hd2 (Or.inr (Or.inl c15)) (Or.inr (Or.inr (Or.inl c49))) (fun u => c78 u.1))
                    · refine w_op (pc' := 82) dX11_coupler_81 rfl ?_
                      refine w_ifne (t := 95) dX11_coupler_82 (by decide) (fun c82 => ?_) (fun c82 => ?_)
                      · exact l2_X11_coupler hD hT hL hX hc ha hN ht hd hd2 (Or.inr (Or.inl c15)) (Or.inr (Or.inr (Or.inl c49))) (fun u => c82 u.2) (k) (kx1 hd hd2 (Or.inr (Or.inl c15)) (Or.inr (Or.inr (Or.inl c49))) (fun u => c82 u.2))
                      · exact w_thr0 (is := 142) (sp := 1036) (tx := "no such coupler") (by decide) rfl rfl (by simp) dX11_coupler_85 dX11_coupler_88 (Or.inl ⟨dX11_coupler_89, dX11_coupler_91, dX11_coupler_94⟩) ⟨rfl, kx0 hd hd2 (fun u => u.2.2 ⟨c78, c82⟩)⟩
              · refine w_op (pc' := 54) dX11_coupler_52 rfl ?_
                refine w_bipush (v := 112) dX11_coupler_54 rfl ?_
                refine w_icmpne (t := 63) dX11_coupler_56 (by decide) (fun c56 => ?_) (fun c56 => ?_)
                · refine w_iconst (v := 0) dX11_coupler_63 rfl ?_
                  refine w_op (pc' := 66) (ll' := [_, _, _, _, _, _, _]) dX11_coupler_64 rfl ?_
                  refine w_op (pc' := 68) dX11_coupler_66 rfl ?_
                  refine w_ifeq (t := 85) dX11_coupler_68 (by decide) (fun c68 => ?_) (fun c68 => ?_)
                  · exact absurd c68 (by decide)
                  · refine w_op (pc' := 73) dX11_coupler_71 rfl ?_
                    refine w_ifeq (t := 85) dX11_coupler_73 (by decide) (fun c73 => ?_) (fun c73 => ?_)
                    · exact w_thr0 (is := 142) (sp := 1036) (tx := "no such coupler") (by decide) rfl rfl (by simp) dX11_coupler_85 dX11_coupler_88 (Or.inl ⟨dX11_coupler_89, dX11_coupler_91, dX11_coupler_94⟩) ⟨rfl, kx0 hd hd2 (fun u => u.2.1.elim c35 (fun u => u.elim c42 (fun u => u.elim c49 c56)))⟩
                    · exact absurd c73 (by decide)
                · refine w_iconst (v := 1) dX11_coupler_59 rfl ?_
                  refine w_goto (t := 64) dX11_coupler_60 (by decide) ?_
                  refine w_op (pc' := 66) (ll' := [_, _, _, _, _, _, _]) dX11_coupler_64 rfl ?_
                  refine w_op (pc' := 68) dX11_coupler_66 rfl ?_
                  refine w_ifeq (t := 85) dX11_coupler_68 (by decide) (fun c68 => ?_) (fun c68 => ?_)
                  · exact absurd c68 (by decide)
                  · refine w_op (pc' := 73) dX11_coupler_71 rfl ?_
                    refine w_ifeq (t := 85) dX11_coupler_73 (by decide) (fun c73 => ?_) (fun c73 => ?_)
                    · exact absurd c73 (by decide)
                    · refine w_op (pc' := 77) dX11_coupler_76 rfl ?_
                      refine w_op (pc' := 78) dX11_coupler_77 rfl ?_
                      refine w_icmpne (t := 95) dX11_coupler_78 (by decide) (fun c78 => ?_) (fun c78 => ?_)
                      · exact l2_X11_coupler hD hT hL hX hc ha hN ht hd hd2 (Or.inr (Or.inl c15)) (Or.inr (Or.inr (Or.inr c56))) (fun u => c78 u.1) (k) (kx1 hd hd2 (Or.inr (Or.inl c15)) (Or.inr (Or.inr (Or.inr c56))) (fun u => c78 u.1))
                      · refine w_op (pc' := 82) dX11_coupler_81 rfl ?_
                        refine w_ifne (t := 95) dX11_coupler_82 (by decide) (fun c82 => ?_) (fun c82 => ?_)
                        · exact l2_X11_coupler hD hT hL hX hc ha hN ht hd hd2 (Or.inr (Or.inl c15)) (Or.inr (Or.inr (Or.inr c56))) (fun u => c82 u.2) (k) (kx1 hd hd2 (Or.inr (Or.inl c15)) (Or.inr (Or.inr (Or.inr c56))) (fun u => c82 u.2))
                        · exact w_thr0 (is := 142) (sp := 1036) (tx := "no such coupler") (by decide) rfl rfl (by simp) dX11_coupler_85 dX11_coupler_88 (Or.inl ⟨dX11_coupler_89, dX11_coupler_91, dX11_coupler_94⟩) ⟨rfl, kx0 hd hd2 (fun u => u.2.2 ⟨c78, c82⟩)⟩
        · refine w_op (pc' := 19) dX11_coupler_18 rfl ?_
          refine w_bipush (v := 12) dX11_coupler_19 rfl ?_
          refine w_icmpne (t := 28) dX11_coupler_21 (by decide) (fun c21 => ?_) (fun c21 => ?_)
          · refine w_iconst (v := 0) dX11_coupler_28 rfl ?_
            refine w_op (pc' := 31) (ll' := [_, _, _, _, _, _, _]) dX11_coupler_29 rfl ?_
            refine w_op (pc' := 33) dX11_coupler_31 rfl ?_
            refine w_bipush (v := 97) dX11_coupler_33 rfl ?_
            refine w_icmpeq (t := 59) dX11_coupler_35 (by decide) (fun c35 => ?_) (fun c35 => ?_)
            · refine w_iconst (v := 1) dX11_coupler_59 rfl ?_
              refine w_goto (t := 64) dX11_coupler_60 (by decide) ?_
              refine w_op (pc' := 66) (ll' := [_, _, _, _, _, _, _]) dX11_coupler_64 rfl ?_
              refine w_op (pc' := 68) dX11_coupler_66 rfl ?_
              refine w_ifeq (t := 85) dX11_coupler_68 (by decide) (fun c68 => ?_) (fun c68 => ?_)
              · exact w_thr0 (is := 142) (sp := 1036) (tx := "no such coupler") (by decide) rfl rfl (by simp) dX11_coupler_85 dX11_coupler_88 (Or.inl ⟨dX11_coupler_89, dX11_coupler_91, dX11_coupler_94⟩) ⟨rfl, kx0 hd hd2 (fun u => u.1.elim c11 (fun u => u.elim c15 c21))⟩
              · exact absurd c68 (by decide)
            · refine w_op (pc' := 40) dX11_coupler_38 rfl ?_
              refine w_bipush (v := 109) dX11_coupler_40 rfl ?_
              refine w_icmpeq (t := 59) dX11_coupler_42 (by decide) (fun c42 => ?_) (fun c42 => ?_)
              · refine w_iconst (v := 1) dX11_coupler_59 rfl ?_
                refine w_goto (t := 64) dX11_coupler_60 (by decide) ?_
                refine w_op (pc' := 66) (ll' := [_, _, _, _, _, _, _]) dX11_coupler_64 rfl ?_
                refine w_op (pc' := 68) dX11_coupler_66 rfl ?_
                refine w_ifeq (t := 85) dX11_coupler_68 (by decide) (fun c68 => ?_) (fun c68 => ?_)
                · exact w_thr0 (is := 142) (sp := 1036) (tx := "no such coupler") (by decide) rfl rfl (by simp) dX11_coupler_85 dX11_coupler_88 (Or.inl ⟨dX11_coupler_89, dX11_coupler_91, dX11_coupler_94⟩) ⟨rfl, kx0 hd hd2 (fun u => u.1.elim c11 (fun u => u.elim c15 c21))⟩
                · exact absurd c68 (by decide)
              · refine w_op (pc' := 47) dX11_coupler_45 rfl ?_
                refine w_bipush (v := 98) dX11_coupler_47 rfl ?_
                refine w_icmpeq (t := 59) dX11_coupler_49 (by decide) (fun c49 => ?_) (fun c49 => ?_)
                · refine w_iconst (v := 1) dX11_coupler_59 rfl ?_
                  refine w_goto (t := 64) dX11_coupler_60 (by decide) ?_
                  refine w_op (pc' := 66) (ll' := [_, _, _, _, _, _, _]) dX11_coupler_64 rfl ?_
                  refine w_op (pc' := 68) dX11_coupler_66 rfl ?_
                  refine w_ifeq (t := 85) dX11_coupler_68 (by decide) (fun c68 => ?_) (fun c68 => ?_)
                  · exact w_thr0 (is := 142) (sp := 1036) (tx := "no such coupler") (by decide) rfl rfl (by simp) dX11_coupler_85 dX11_coupler_88 (Or.inl ⟨dX11_coupler_89, dX11_coupler_91, dX11_coupler_94⟩) ⟨rfl, kx0 hd hd2 (fun u => u.1.elim c11 (fun u => u.elim c15 c21))⟩
                  · exact absurd c68 (by decide)
                · refine w_op (pc' := 54) dX11_coupler_52 rfl ?_
                  refine w_bipush (v := 112) dX11_coupler_54 rfl ?_
                  refine w_icmpne (t := 63) dX11_coupler_56 (by decide) (fun c56 => ?_) (fun c56 => ?_)
                  · refine w_iconst (v := 0) dX11_coupler_63 rfl ?_
                    refine w_op (pc' := 66) (ll' := [_, _, _, _, _, _, _]) dX11_coupler_64 rfl ?_
                    refine w_op (pc' := 68) dX11_coupler_66 rfl ?_
                    refine w_ifeq (t := 85) dX11_coupler_68 (by decide) (fun c68 => ?_) (fun c68 => ?_)
                    · exact w_thr0 (is := 142) (sp := 1036) (tx := "no such coupler") (by decide) rfl rfl (by simp) dX11_coupler_85 dX11_coupler_88 (Or.inl ⟨dX11_coupler_89, dX11_coupler_91, dX11_coupler_94⟩) ⟨rfl, kx0 hd hd2 (fun u => u.1.elim c11 (fun u => u.elim c15 c21))⟩
                    · exact absurd c68 (by decide)
                  · refine w_iconst (v := 1) dX11_coupler_59 rfl ?_
                    refine w_goto (t := 64) dX11_coupler_60 (by decide) ?_
                    refine w_op (pc' := 66) (ll' := [_, _, _, _, _, _, _]) dX11_coupler_64 rfl ?_
                    refine w_op (pc' := 68) dX11_coupler_66 rfl ?_
                    refine w_ifeq (t := 85) dX11_coupler_68 (by decide) (fun c68 => ?_) (fun c68 => ?_)
                    · exact w_thr0 (is := 142) (sp := 1036) (tx := "no such coupler") (by decide) rfl rfl (by simp) dX11_coupler_85 dX11_coupler_88 (Or.inl ⟨dX11_coupler_89, dX11_coupler_91, dX11_coupler_94⟩) ⟨rfl, kx0 hd hd2 (fun u => u.1.elim c11 (fun u => u.elim c15 c21))⟩
                    · exact absurd c68 (by decide)
          · refine w_iconst (v := 1) dX11_coupler_24 rfl ?_
            refine w_goto (t := 29) dX11_coupler_25 (by decide) ?_
            refine w_op (pc' := 31) (ll' := [_, _, _, _, _, _, _]) dX11_coupler_29 rfl ?_
            refine w_op (pc' := 33) dX11_coupler_31 rfl ?_
            refine w_bipush (v := 97) dX11_coupler_33 rfl ?_
            refine w_icmpeq (t := 59) dX11_coupler_35 (by decide) (fun c35 => ?_) (fun c35 => ?_)
            · refine w_iconst (v := 1) dX11_coupler_59 rfl ?_
              refine w_goto (t := 64) dX11_coupler_60 (by decide) ?_
              refine w_op (pc' := 66) (ll' := [_, _, _, _, _, _, _]) dX11_coupler_64 rfl ?_
              refine w_op (pc' := 68) dX11_coupler_66 rfl ?_
              refine w_ifeq (t := 85) dX11_coupler_68 (by decide) (fun c68 => ?_) (fun c68 => ?_)
              · exact absurd c68 (by decide)
              · refine w_op (pc' := 73) dX11_coupler_71 rfl ?_
                refine w_ifeq (t := 85) dX11_coupler_73 (by decide) (fun c73 => ?_) (fun c73 => ?_)
                · exact absurd c73 (by decide)
                · refine w_op (pc' := 77) dX11_coupler_76 rfl ?_
                  refine w_op (pc' := 78) dX11_coupler_77 rfl ?_
                  refine w_icmpne (t := 95) dX11_coupler_78 (by decide) (fun c78 => ?_) (fun c78 => ?_)
                  · exact l2_X11_coupler hD hT hL hX hc ha hN ht hd hd2 (Or.inr (Or.inr c21)) (Or.inl c35) (fun u => c78 u.1) (k) (kx1 hd hd2 (Or.inr (Or.inr c21)) (Or.inl c35) (fun u => c78 u.1))
                  · refine w_op (pc' := 82) dX11_coupler_81 rfl ?_
                    refine w_ifne (t := 95) dX11_coupler_82 (by decide) (fun c82 => ?_) (fun c82 => ?_)
                    · exact l2_X11_coupler hD hT hL hX hc ha hN ht hd hd2 (Or.inr (Or.inr c21)) (Or.inl c35) (fun u => c82 u.2) (k) (kx1 hd hd2 (Or.inr (Or.inr c21)) (Or.inl c35) (fun u => c82 u.2))
                    · exact w_thr0 (is := 142) (sp := 1036) (tx := "no such coupler") (by decide) rfl rfl (by simp) dX11_coupler_85 dX11_coupler_88 (Or.inl ⟨dX11_coupler_89, dX11_coupler_91, dX11_coupler_94⟩) ⟨rfl, kx0 hd hd2 (fun u => u.2.2 ⟨c78, c82⟩)⟩
            · refine w_op (pc' := 40) dX11_coupler_38 rfl ?_
              refine w_bipush (v := 109) dX11_coupler_40 rfl ?_
              refine w_icmpeq (t := 59) dX11_coupler_42 (by decide) (fun c42 => ?_) (fun c42 => ?_)
              · refine w_iconst (v := 1) dX11_coupler_59 rfl ?_
                refine w_goto (t := 64) dX11_coupler_60 (by decide) ?_
                refine w_op (pc' := 66) (ll' := [_, _, _, _, _, _, _]) dX11_coupler_64 rfl ?_
                refine w_op (pc' := 68) dX11_coupler_66 rfl ?_
                refine w_ifeq (t := 85) dX11_coupler_68 (by decide) (fun c68 => ?_) (fun c68 => ?_)
                · exact absurd c68 (by decide)
                · refine w_op (pc' := 73) dX11_coupler_71 rfl ?_
                  refine w_ifeq (t := 85) dX11_coupler_73 (by decide) (fun c73 => ?_) (fun c73 => ?_)
                  · exact absurd c73 (by decide)
                  · refine w_op (pc' := 77) dX11_coupler_76 rfl ?_
                    refine w_op (pc' := 78) dX11_coupler_77 rfl ?_
                    refine w_icmpne (t := 95) dX11_coupler_78 (by decide) (fun c78 => ?_) (fun c78 => ?_)
                    · exact l2_X11_coupler hD hT hL hX hc ha hN ht hd hd2 (Or.inr (Or.inr c21)) (Or.inr (Or.inl c42)) (fun u => c78 u.1) (k) (kx1 hd hd2 (Or.inr (Or.inr c21)) (Or.inr (Or.inl c42)) (fun u => c78 u.1))
                    · refine w_op (pc' := 82) dX11_coupler_81 rfl ?_
                      refine w_ifne (t := 95) dX11_coupler_82 (by decide) (fun c82 => ?_) (fun c82 => ?_)
                      · exact l2_X11_coupler hD hT hL hX hc ha hN ht hd hd2 (Or.inr (Or.inr c21)) (Or.inr (Or.inl c42)) (fun u => c82 u.2) (k) (kx1 hd hd2 (Or.inr (Or.inr c21)) (Or.inr (Or.inl c42)) (fun u => c82 u.2))
                      · exact w_thr0 (is := 142) (sp := 1036) (tx := "no such coupler") (by decide) rfl rfl (by simp) dX11_coupler_85 dX11_coupler_88 (Or.inl ⟨dX11_coupler_89, dX11_coupler_91, dX11_coupler_94⟩) ⟨rfl, kx0 hd hd2 (fun u => u.2.2 ⟨c78, c82⟩)⟩
              · refine w_op (pc' := 47) dX11_coupler_45 rfl ?_
                refine w_bipush (v := 98) dX11_coupler_47 rfl ?_
                refine w_icmpeq (t := 59) dX11_coupler_49 (by decide) (fun c49 => ?_) (fun c49 => ?_)
                · refine w_iconst (v := 1) dX11_coupler_59 rfl ?_
                  refine w_goto (t := 64) dX11_coupler_60 (by decide) ?_
                  refine w_op (pc' := 66) (ll' := [_, _, _, _, _, _, _]) dX11_coupler_64 rfl ?_
                  refine w_op (pc' := 68) dX11_coupler_66 rfl ?_
                  refine w_ifeq (t := 85) dX11_coupler_68 (by decide) (fun c68 => ?_) (fun c68 => ?_)
                  · exact absurd c68 (by decide)
                  · refine w_op (pc' := 73) dX11_coupler_71 rfl ?_
                    refine w_ifeq (t := 85) dX11_coupler_73 (by decide) (fun c73 => ?_) (fun c73 => ?_)
                    · exact absurd c73 (by decide)
                    · refine w_op (pc' := 77) dX11_coupler_76 rfl ?_
                      refine w_op (pc' := 78) dX11_coupler_77 rfl ?_
                      refine w_icmpne (t := 95) dX11_coupler_78 (by decide) (fun c78 => ?_) (fun c78 => ?_)
                      · exact l2_X11_coupler hD hT hL hX hc ha hN ht hd hd2 (Or.inr (Or.inr c21)) (Or.inr (Or.inr (Or.inl c49))) (fun u => c78 u.1) (k) (kx1 hd hd2 (Or.inr (Or.inr c21)) (Or.inr (Or.inr (Or.inl c49))) (fun u => c78 u.1))
                      · refine w_op (pc' := 82) dX11_coupler_81 rfl ?_
                        refine w_ifne (t := 95) dX11_coupler_82 (by decide) (fun c82 => ?_) (fun c82 => ?_)
                        · exact l2_X11_coupler hD hT hL hX hc ha hN ht hd hd2 (Or.inr (Or.inr c21)) (Or.inr (Or.inr (Or.inl c49))) (fun u => c82 u.2) (k) (kx1 hd hd2 (Or.inr (Or.inr c21)) (Or.inr (Or.inr (Or.inl c49))) (fun u => c82 u.2))
                        · exact w_thr0 (is := 142) (sp := 1036) (tx := "no such coupler") (by decide) rfl rfl (by simp) dX11_coupler_85 dX11_coupler_88 (Or.inl ⟨dX11_coupler_89, dX11_coupler_91, dX11_coupler_94⟩) ⟨rfl, kx0 hd hd2 (fun u => u.2.2 ⟨c78, c82⟩)⟩
                · refine w_op (pc' := 54) dX11_coupler_52 rfl ?_
                  refine w_bipush (v := 112) dX11_coupler_54 rfl ?_
                  refine w_icmpne (t := 63) dX11_coupler_56 (by decide) (fun c56 => ?_) (fun c56 => ?_)
                  · refine w_iconst (v := 0) dX11_coupler_63 rfl ?_
                    refine w_op (pc' := 66) (ll' := [_, _, _, _, _, _, _]) dX11_coupler_64 rfl ?_
                    refine w_op (pc' := 68) dX11_coupler_66 rfl ?_
                    refine w_ifeq (t := 85) dX11_coupler_68 (by decide) (fun c68 => ?_) (fun c68 => ?_)
                    · exact absurd c68 (by decide)
                    · refine w_op (pc' := 73) dX11_coupler_71 rfl ?_
                      refine w_ifeq (t := 85) dX11_coupler_73 (by decide) (fun c73 => ?_) (fun c73 => ?_)
                      · exact w_thr0 (is := 142) (sp := 1036) (tx := "no such coupler") (by decide) rfl rfl (by simp) dX11_coupler_85 dX11_coupler_88 (Or.inl ⟨dX11_coupler_89, dX11_coupler_91, dX11_coupler_94⟩) ⟨rfl, kx0 hd hd2 (fun u => u.2.1.elim c35 (fun u => u.elim c42 (fun u => u.elim c49 c56)))⟩
                      · exact absurd c73 (by decide)
                  · refine w_iconst (v := 1) dX11_coupler_59 rfl ?_
                    refine w_goto (t := 64) dX11_coupler_60 (by decide) ?_
                    refine w_op (pc' := 66) (ll' := [_, _, _, _, _, _, _]) dX11_coupler_64 rfl ?_
                    refine w_op (pc' := 68) dX11_coupler_66 rfl ?_
                    refine w_ifeq (t := 85) dX11_coupler_68 (by decide) (fun c68 => ?_) (fun c68 => ?_)
                    · exact absurd c68 (by decide)
                    · refine w_op (pc' := 73) dX11_coupler_71 rfl ?_
                      refine w_ifeq (t := 85) dX11_coupler_73 (by decide) (fun c73 => ?_) (fun c73 => ?_)
                      · exact absurd c73 (by decide)
                      · refine w_op (pc' := 77) dX11_coupler_76 rfl ?_
                        refine w_op (pc' := 78) dX11_coupler_77 rfl ?_
                        refine w_icmpne (t := 95) dX11_coupler_78 (by decide) (fun c78 => ?_) (fun c78 => ?_)
                        · exact l2_X11_coupler hD hT hL hX hc ha hN ht hd hd2 (Or.inr (Or.inr c21)) (Or.inr (Or.inr (Or.inr c56))) (fun u => c78 u.1) (k) (kx1 hd hd2 (Or.inr (Or.inr c21)) (Or.inr (Or.inr (Or.inr c56))) (fun u => c78 u.1))
                        · refine w_op (pc' := 82) dX11_coupler_81 rfl ?_
                          refine w_ifne (t := 95) dX11_coupler_82 (by decide) (fun c82 => ?_) (fun c82 => ?_)
                          · exact l2_X11_coupler hD hT hL hX hc ha hN ht hd hd2 (Or.inr (Or.inr c21)) (Or.inr (Or.inr (Or.inr c56))) (fun u => c82 u.2) (k) (kx1 hd hd2 (Or.inr (Or.inr c21)) (Or.inr (Or.inr (Or.inr c56))) (fun u => c82 u.2))
                          · exact w_thr0 (is := 142) (sp := 1036) (tx := "no such coupler") (by decide) rfl rfl (by simp) dX11_coupler_85 dX11_coupler_88 (Or.inl ⟨dX11_coupler_89, dX11_coupler_91, dX11_coupler_94⟩) ⟨rfl, kx0 hd hd2 (fun u => u.2.2 ⟨c78, c82⟩)⟩
    · exact ⟨rfl, rfl, kx2 hd hd2⟩
  · exact ⟨rfl, rfl, kx hd⟩
set_option maxRecDepth 100000 in
set_option maxHeartbeats 4000000 in
theorem c_X11_stop {X : e_XT} {d : Nat} {p : e_Sp} {I : e_I} {J : e_Jt} {c : Nat × Nat} {w : e_Rw1} {Q : e_Rt → e_SS → Prop} {nk nr : Nat} (hD : s_D p I nk nr) {a b : Nat} (hT : s_Tp p I c a b) {x : Int32} (hL : s_La p I 1 nk) (hX : (X 8).1 = 0) (hc : c.1 + 20 < e_xb) (ha : a + 20 ≤ 4294960000) (hN : ∀ t, t ∈ s_kT → p.2.1 t nk = false) (k : s_isdv x = true → nk < 40 → ∀ p1 x9 y9, x9 ≤ 20 → y9 ≤ 400 → s_xv (s_NK nk) p p1 → p1.2.1 T_KNOB nk = true → ∀ p' c', s_D p' (s_stl p (nk + 1) nr (s_adI (s_kI (s_sI (s_sti I nk 61) nk) nk 115 x) 1 nk, J)).1 (nk + 1) nr → s_xt p1 p' → s_Tp p' (s_stl p (nk + 1) nr (s_adI (s_kI (s_sI (s_sti I nk 61) nk) nk 115 x) 1 nk, J)).1 c' (a + x9) (b + y9) → s_La p' (s_stl p (nk + 1) nr (s_adI (s_kI (s_sI (s_sti I nk 61) nk) nk 115 x) 1 nk, J)).1 1 (nk + 1) → Q (.inl (some (.int (nI nk)))) (p', (s_stl p (nk + 1) nr (s_adI (s_kI (s_sI (s_sti I nk 61) nk) nk 115 x) 1 nk, J)).1, (s_stl p (nk + 1) nr (s_adI (s_kI (s_sI (s_sti I nk 61) nk) nk 115 x) 1 nk, J)).2, c', w)) (kx : s_isdv x = false → Q (.inr 2) (p, I, J, (c.1 + 1, c.2 + 6), w)) (kx1 : s_isdv x = true → ¬ nk < 40 → Q (.inr 1) (p, I, J, (c.1 + 1, c.2 + 6), w)) : s_c X (d + 8) 145 [.ref (p.1 T_HALL 0), .int x] (p, I, J, c, w) Q := by
  have hC := hD.1
  have hp := hC.1
  refine m_X11_stop (Nat.le_of_ble_eq_true rfl) ?_
  show s_w _ _ _ 0 _ _ _ _
  refine w_op (pc' := 1) dX11_stop_0 rfl ?_
  refine t_callS (As := [_]) dX11_stop_1 rfl rM_X11_needDivision (by decide) rfl rfl (by decide) (Nat.le_of_ble_eq_true rfl) (c_X11_needDivision (fun hd => ?_) (fun hd => ?_))
  · show s_w _ _ _ 4 _ _ _ _
    refine w_op (pc' := 5) dX11_stop_4 rfl ?_
    refine t_callV (t := T_HALL) (As := []) dX11_stop_5 rfl rM_X11_needRoomForKnob (by decide) rfl rfl (by decide) (by decide) (Nat.le_of_ble_eq_true rfl) rfl (hp.1 _ rfl) (c_X11_needRoomForKnob hC (fun h40 => ?_) (fun h40 => ?_))
    · show s_w _ _ _ 8 _ _ _ _
      refine w_op (pc' := 9) dX11_stop_8 rfl ?_
      refine t_new dX11_stop_9 rfl (show c.1 < e_xb by omega) (fun a9 ha9 => ?_)
      refine w_op (pc' := 13) dX11_stop_12 rfl ?_
      refine w_bipush (v := 115) dX11_stop_13 rfl ?_
      refine w_op (pc' := 16) dX11_stop_15 rfl ?_
      refine t_new dX11_stop_16 rfl (show c.1 + 1 < e_xb by omega) (fun c9 hc9 => ?_)
      refine w_op (pc' := 20) dX11_stop_19 rfl ?_
      refine t_callI (As := []) dX11_stop_20 rfl rM_X8_init (by decide) (by decide) rfl rfl rfl (Nat.le_of_ble_eq_true rfl) (c_X8_init (j := nk) (fun t ht => hN t (s_sTk ht)) (hN _ (by decide)) (show c.1 + 2 + 6 < e_xb by omega) (fun p6 hx6 hv6 => ?_))
      refine ⟨rfl, ?_⟩
      refine w_ghost (S' := ((s_pv p6 T_STOP nk c9 0), (s_sI (s_sti I nk 61) nk), J, (c.1 + 8, c.2 + 154), s_rw w a9 (8, 0, s_nul))) (fun h hs => hs.pubS ((hx6.1 T_STOP nk rfl).2.1.trans (hN _ (by decide))) ((hx6.1 T_KNOB nk rfl).2.1.trans (hN _ (by decide))) hc9.1) ?_
      refine w_op (pc' := 24) dX11_stop_23 rfl ?_
      refine t_callI (As := [_, _, _, _]) dX11_stop_24 rfl rM_X4_init (by decide) (by decide) rfl rfl rfl (Nat.le_of_ble_eq_true rfl) (c_X4_initS (e := c9) (by decide +kernel) ?_)
      refine ⟨rfl, ?_⟩
      refine w_ghost (S' := ((s_pv (s_pv p6 T_STOP nk c9 0) T_KNOB nk a9 0), (s_kI (s_sI (s_sti I nk 61) nk) nk 115 x), J, (c.1 + 8, c.2 + 154), w)) (fun h hs => hs.pubK ((s_pv_nv (fun z => absurd z.1 (by decide))).trans ((hx6.1 T_KNOB nk rfl).2.1.trans (hN _ (by decide)))) ha9.1 ⟨rfl, rfl, rfl, rfl, rfl, rfl⟩ (by rw [if_pos s_pv_v, s_pv_s]; rfl) (by rw [if_neg (by rw [s_pv_nv (fun z => absurd z.1 (by decide)), (hx6.1 T_COUP nk rfl).2.1, hN _ (by decide)]; decide)]; rfl)) ?_
      have hxk : s_xv (s_Nk nk) p (s_pv (s_pv p6 T_STOP nk c9 0) T_KNOB nk a9 0) := (hx6.N6.trans (s_xv.pv (by simp [s_Nk, s_kT]))).trans (s_xv.pv (by simp [s_Nk, s_kT]))
      have hD1 : s_D (s_pv (s_pv p6 T_STOP nk c9 0) T_KNOB nk a9 0) (s_kI (s_sI (s_sti I nk 61) nk) nk 115 x) nk nr := hD.xk hxk (fun F hF => by rcases hF with rfl | rfl | rfl <;> (rw [s_kI_F (by decide) (by decide) (by decide) (by decide) (by decide) (by decide), s_sI_F (by decide) (by decide)]; exact s_sti_F (by decide) (by decide) (by decide) (by decide) (by decide) (by decide))) (fun F k9 hF hk9 => by rw [s_kI_i hk9, s_sI_i hk9]; rcases hF with rfl | rfl | rfl <;> exact congrFun (s_sti_F (by decide) (by decide) (by decide) (by decide) (by decide) (by decide)) k9)
      have hT1 : s_Tp (s_pv (s_pv p6 T_STOP nk c9 0) T_KNOB nk a9 0) (s_kI (s_sI (s_sti I nk 61) nk) nk 115 x) (c.1 + 8, c.2 + 154) (a + 8) (b + 154) := hT.xk (x := 8) (y := 154) hxk ((s_eqT.sti.trans s_eqT.sI).trans s_eqT.kI) (by omega)
      have hL1 : s_La (s_pv (s_pv p6 T_STOP nk c9 0) T_KNOB nk a9 0) (s_kI (s_sI (s_sti I nk 61) nk) nk 115 x) 1 nk := hL.xk hxk (by rw [s_kI_F (by decide) (by decide) (by decide) (by decide) (by decide) (by decide), s_sI_F (by decide) (by decide), s_sti_F (by decide) (by decide) (by decide) (by decide) (by decide) (by decide)])
      have hK1 : s_Kn (s_pv (s_pv p6 T_STOP nk c9 0) T_KNOB nk a9 0) (s_kI (s_sI (s_sti I nk 61) nk) nk 115 x) nk := ⟨s_pv_v, by rw [s_pv_nv (fun z => absurd z.1 (by decide)), s_pv_v, s_kI_k]; decide, by rw [s_pv_nv (fun z => absurd z.1 (by decide)), s_pv_nv (fun z => absurd z.1 (by decide)), (hx6.1 T_COUP nk rfl).2.1, hN _ (by decide), s_kI_k]; decide, by rw [s_kI_d]; exact s_isdv_nI hd⟩
      have h2 := l_X11_stop (X := X) (d := d) (p := (s_pv (s_pv p6 T_STOP nk c9 0) T_KNOB nk a9 0)) (I := (s_kI (s_sI (s_sti I nk 61) nk) nk 115 x)) (J := J) (c := (c.1 + 8, c.2 + 154)) (w := w) (Q := Q) (l1 := some (.int x)) hD1 hT1 h40 hL1 hK1 (fun _ => ⟨fun t ht => s_pv_k (s_pv_k (hv6 t ht)), 0, by omega, by rw [s_kI_F (by decide) (by decide) (by decide) (by decide) (by decide) (by decide)]; exact s_up_s⟩) hX (show c.1 + 8 < e_xb by omega) (by omega) (fun p1 x9 y9 hx9 hy9 hv9 p' c' u1 u2 u3 u4 => by rw [s_stl.xk hxk] at u1 u3 u4 ⊢; rw [Nat.add_assoc] at u3; rw [Nat.add_assoc] at u3; exact k hd h40 p1 _ _ (by omega) (by omega) ((hxk.mono (fun t i hti => (Bool.or_eq_false_iff.mp hti).1)).trans (hv9.mono (fun t i hti => (Bool.or_eq_false_iff.mp hti).2))) ((hv9.1 T_KNOB nk rfl).2.1.trans s_pv_v) p' c' u1 u2 u3 u4)
      rw [s_pv_n (fun z => absurd z.1 (by decide)), s_pv_n (fun z => absurd z.1 (by decide)), (hx6.1 T_HALL 0 rfl).1, s_pv_s] at h2
      exact h2
    · exact ⟨rfl, rfl, kx1 hd h40⟩
  · exact ⟨rfl, rfl, kx hd⟩
