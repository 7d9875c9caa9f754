/-! 80: a knob more (printed by wip/whole/p80.py) -/
def s_adI (I : e_I) (l n : Nat) : e_I := s_up (s_up I f_l_modCount l (I f_l_modCount l + 1)) f_l_size l (nI (n + 1))
theorem s_adI_F {I : e_I} {l n F : Nat} (h1 : F ≠ f_l_size) (h2 : F ≠ f_l_modCount) : s_adI I l n F = I F := by
  funext i
  unfold s_adI
  rw [s_up_F h1, s_up_F h2]
theorem s_adI_s {I : e_I} {l n : Nat} : s_adI I l n f_l_size l = nI (n + 1) := s_up_s
theorem s_adI_n {I : e_I} {l n l' : Nat} (h : l' ≠ l) : s_adI I l n f_l_size l' = I f_l_size l' := by
  unfold s_adI
  rw [s_up_i h, s_up_F (by decide)]
/-- a knob of the console -/
def s_Kn (p : e_Sp) (I : e_I) (k : Nat) : Prop := p.2.1 T_KNOB k = true ∧ (p.2.1 T_STOP k = true ↔ I f_k_kind k = 115) ∧ (p.2.1 T_COUP k = true ↔ (I f_k_kind k = 117 ∨ I f_k_kind k = 99)) ∧ ∃ dv, dv < 3 ∧ I f_k_division k = nI dv
theorem s_D.addK {p : e_Sp} {I : e_I} {nk nr : Nat} (h : s_D p I nk nr) (h40 : nk < 40) (hK : s_Kn p I nk) (hS : I f_k_kind nk = 115 → s_St p I nk) : s_D p (s_adI I 1 nk) (nk + 1) nr := by
  obtain ⟨⟨a, ⟨b1, b2⟩, ⟨b3, b4⟩, b5, b6⟩, c1, c2, c3⟩ := h
  have e : ∀ F, F ≠ f_l_size → F ≠ f_l_modCount → s_adI I 1 nk F = I F := fun F h1 h2 => s_adI_F h1 h2
  refine ⟨⟨a, ⟨by omega, s_adI_s⟩, ⟨b3, (s_adI_n (by decide)).trans b4⟩, fun k hk => ?_, b6⟩, fun r hr => ?_, c2, fun k hk h9 => ?_⟩
  · rw [e f_k_kind (by decide) (by decide), e f_k_division (by decide) (by decide)]
    by_cases z : k = nk
    · subst z; exact hK
    · exact b5 k (by omega)
  · have := c1 r hr
    unfold s_Rk at this ⊢
    rw [e f_r_lowest (by decide) (by decide), e f_r_division (by decide) (by decide)]
    exact this
  · rw [e f_k_kind (by decide) (by decide)] at h9
    unfold s_St
    rw [e f_s_rows (by decide) (by decide)]
    by_cases z : k = nk
    · subst z; exact hS h9
    · exact c3 k (by omega) h9
theorem s_eqT.adI {I : e_I} {l n : Nat} : s_eqT I (s_adI I l n) := ⟨by rw [s_adI_F (by decide) (by decide)], fun i => by rw [s_adI_F (by decide) (by decide)]⟩
theorem s_La.xt {p p' : e_Sp} {I I' : e_I} {l n : Nat} (h : s_La p I l n) (x : s_xt p p') (e : I' f_l_size l = I f_l_size l) : s_La p' I' l n := by
  unfold s_La at h ⊢
  rw [e, (x.1 T_LIST rfl).2.1, (x.1 T_LARR rfl).1, (x.1 T_LARR rfl).2.1, (x.1 T_LARR rfl).2.2]
  exact h
theorem s_cap_le {n : Nat} (h : n < 39999999) : n + 1 ≤ s_cap n ∧ 10 ≤ s_cap n ∨ n < 10 ∧ ¬ n = 0 := by
  unfold s_cap
  split <;> omega
def s_NL (l t i : Nat) : Bool := decide (t = T_LARR) && decide (i = l)
/-- a list of n and one more, its row perhaps another -/
theorem s_La.add0 {p : e_Sp} {I : e_I} {l n : Nat} (h : s_La p I l n) (hA : p.2.1 T_LARR l = true) (h10 : 10 ≤ p.2.2.1 T_LARR l) (hlt : n < p.2.2.1 T_LARR l) (hle : p.2.2.1 T_LARR l ≤ 60000000) (hn : n < 39999999) : s_La p (s_adI I l n) l (n + 1) := ⟨h.1, s_adI_s, by omega, Or.inr ⟨hA, h10, hlt, hle⟩⟩
theorem s_La.add1 {p : e_Sp} {I : e_I} {l n b : Nat} (h : s_La p I l n) (hAB : (n = 0 ∧ p.1 T_LARR l = e_xb + 8) ∨ (10 ≤ n ∧ p.2.1 T_LARR l = true ∧ p.2.2.1 T_LARR l = n)) (hn : n < 39999999) : s_La (s_pv p T_LARR l b (s_cap n)) (s_adI I l n) l (n + 1) := by
  have hc : n + 1 ≤ s_cap n ∧ 10 ≤ s_cap n ∧ s_cap n ≤ 60000000 := by
    unfold s_cap
    rcases hAB with h | h
    · rw [if_pos h.1]; omega
    · rw [if_neg (by omega)]; omega
  refine ⟨s_pv_k h.1, s_adI_s, by omega, Or.inr ⟨s_pv_v, ?_, ?_, ?_⟩⟩
  · rw [show (s_pv p T_LARR l b (s_cap n)).2.2.1 T_LARR l = s_cap n from if_pos ⟨rfl, rfl⟩]; exact hc.2.1
  · rw [show (s_pv p T_LARR l b (s_cap n)).2.2.1 T_LARR l = s_cap n from if_pos ⟨rfl, rfl⟩]; exact hc.1
  · rw [show (s_pv p T_LARR l b (s_cap n)).2.2.1 T_LARR l = s_cap n from if_pos ⟨rfl, rfl⟩]; exact hc.2.2
theorem s_xt.xv {p p' : e_Sp} (x : s_xt p p') : s_xv (fun t _ => decide (t = T_ENTR)) p p' := ⟨fun t i h => by
  obtain ⟨a, b, c⟩ := x.1 t h
  exact ⟨by rw [a], by rw [b], by rw [c]⟩, x.2.2.1⟩
set_option maxRecDepth 100000 in
set_option maxHeartbeats 4000000 in
theorem l_X11_addKnob {X : e_XT} {d : Nat} {p : e_Sp} {I : e_I} {J : e_Jt} {c : Nat × Nat} {w : e_Rw1} {Q : e_Rt → e_SS → Prop} {nk nr a b : Nat} {x : Int32} {o1 : Option Value} (hD : s_D p (s_adI I 1 nk) (nk + 1) nr) (hT : s_Tp p (s_adI I 1 nk) c a b) (hL : s_La p (s_adI I 1 nk) 1 (nk + 1)) (k : ∀ p' c', s_D p' (s_stl p (nk + 1) nr (s_adI I 1 nk, J)).1 (nk + 1) nr → s_xt p p' → s_Tp p' (s_stl p (nk + 1) nr (s_adI I 1 nk, J)).1 c' a b → s_La p' (s_stl p (nk + 1) nr (s_adI I 1 nk, J)).1 1 (nk + 1) → Q (.inl (some (.int (nI nk)))) (p', (s_stl p (nk + 1) nr (s_adI I 1 nk, J)).1, (s_stl p (nk + 1) nr (s_adI I 1 nk, J)).2, c', w)) : s_w X (d + 7) K_X11_addKnob 11 [some (.ref (p.1 T_HALL 0)), o1] [.int x] (p, s_adI I 1 nk, J, c, w) (fun r S' => e_rcr (some FieldType.int) r = true ∧ Q r S') := by
  have hp := hD.1.1
  refine w_op (pc' := 12) dX11_addKnob_11 rfl ?_
  refine w_op (pc' := 13) dX11_addKnob_12 rfl ?_
  refine t_getG0 (G := g_h_WORKS) dX11_addKnob_13 rfl rfl (by decide) rfl (fun _ => rfl) (hp.1 _ rfl) ?_
  refine t_callV (t := T_WORKS) (As := []) dX11_addKnob_16 rfl rM_X10_settle (by decide) rfl rfl (by decide) (by decide) (Nat.le_of_ble_eq_true rfl) rfl (hp.1 _ rfl) (c_X10_settle hD hT (fun p1 c1 hD1 hx1 hT1 => ?_))
  show s_w _ _ _ 19 _ _ _ _
  rw [show p.1 T_HALL = p1.1 T_HALL from (hx1.1 T_HALL rfl).1.symm]
  have hp := hD1.1.1
  have e9 : (s_stl p (nk + 1) nr (s_adI I 1 nk, J)).1 f_l_size 1 = nI (nk + 1) := hD1.1.2.1.2
  refine w_op (pc' := 20) dX11_addKnob_19 rfl ?_
  refine t_getG0 (G := g_h_CONS) dX11_addKnob_20 rfl rfl (by decide) rfl (fun _ => rfl) (hp.1 _ rfl) ?_
  refine t_getG0 (G := g_n_knobs) dX11_addKnob_23 rfl rfl (by decide) rfl (fun _ => rfl) (hp.1 _ rfl) ?_
  refine t_callV (t := T_LIST) (As := []) dX11_addKnob_26 rfl rM_Jx4a65c_size_8abf5 (by decide) rfl rfl (by decide) (by decide) (Nat.le_of_ble_eq_true rfl) rfl (hp.2 _ (by decide)) (c_size (hp.2 _ (by decide)) ?_)
  show s_w _ _ _ 29 _ _ _ _
  rw [e9]
  refine w_iconst (v := 1) dX11_addKnob_29 rfl ?_
  refine w_op (pc' := 31) dX11_addKnob_30 rfl ?_
  rw [show nI (nk + 1) - 1 = nI nk from nI_pred nk]
  exact w_ireturn dX11_addKnob_31 ⟨rfl, k p1 c1 hD1 hx1 hT1 (hL.xt hx1 (e9.trans s_adI_s.symm))⟩
set_option maxRecDepth 100000 in
set_option maxHeartbeats 4000000 in
theorem c_X11_addKnob {X : e_XT} {d : Nat} {p : e_Sp} {I : e_I} {J : e_Jt} {c : Nat × Nat} {w : e_Rw1} {Q : e_Rt → e_SS → Prop} {nk nr : Nat} (hD : s_D p I nk nr) {a b : Nat} (hT : s_Tp p I c a b) (h40 : nk < 40) (hL : s_La p I 1 nk) (hK : s_Kn p I nk) (hS : I f_k_kind nk = 115 → s_St p I nk) (hX : (X 8).1 = 0) (hc : c.1 < e_xb) (ha : a + 1 ≤ 4294960000) (k : ∀ p1 x y, x ≤ 1 → y ≤ 60 → s_xv (s_NL 1) p p1 → ∀ p' c', s_D p' (s_stl p (nk + 1) nr (s_adI I 1 nk, J)).1 (nk + 1) nr → s_xt p1 p' → s_Tp p' (s_stl p (nk + 1) nr (s_adI I 1 nk, J)).1 c' (a + x) (b + y) → s_La p' (s_stl p (nk + 1) nr (s_adI I 1 nk, J)).1 1 (nk + 1) → Q (.inl (some (.int (nI nk)))) (p', (s_stl p (nk + 1) nr (s_adI I 1 nk, J)).1, (s_stl p (nk + 1) nr (s_adI I 1 nk, J)).2, c', w)) : s_c X (d + 7) 148 [.ref (p.1 T_HALL 0), .ref (p.1 T_KNOB nk)] (p, I, J, c, w) Q := by
  have hC := hD.1
  have hp := hC.1
  refine m_X11_addKnob (Nat.le_of_ble_eq_true rfl) ?_
  show s_w _ _ _ 0 _ _ _ _
  refine w_op (pc' := 1) dX11_addKnob_0 rfl ?_
  refine t_getG0 (G := g_h_CONS) dX11_addKnob_1 rfl rfl (by decide) rfl (fun _ => rfl) (hp.1 _ rfl) ?_
  refine t_getG0 (G := g_n_knobs) dX11_addKnob_4 rfl rfl (by decide) rfl (fun _ => rfl) (hp.1 _ rfl) ?_
  refine w_op (pc' := 8) dX11_addKnob_7 rfl ?_
  refine t_callV (t := T_LIST) (As := [_]) dX11_addKnob_8 rfl rM_Jx4a65c_add_9ea2d (by decide) rfl rfl (by decide) (by decide) (Nat.le_of_ble_eq_true rfl) rfl (hp.2 _ (by decide)) (c_add hL hK.1 hX hc (fun hA h10 hlt hle => ?_) (fun hAB b9 hb9 => ?_))
  · show s_w _ _ _ 11 _ _ _ _
    exact l_X11_addKnob (hD.addK h40 hK hS) (hT.eq s_eqT.adI) (hL.add0 hA h10 hlt hle (by omega)) (fun p' c' u1 u2 u3 u4 => k p 0 0 (by omega) (by omega) s_xv.rfl' p' c' u1 u2 u3 u4)
  · show s_w _ _ _ 11 _ _ _ _
    have q1 : ∀ t, t ≠ T_LARR → (s_pv p T_LARR 1 b9 (s_cap nk)).2.1 t = p.2.1 t := fun t ht => funext fun i => s_pv_nv (fun z => ht z.1)
    have q2 : (s_pv p T_LARR 1 b9 (s_cap nk)).2.2.1 T_PARR = p.2.2.1 T_PARR := funext fun i => s_pv_nl (fun z => absurd z.1 (by decide))
    have q3 : s_cap nk ≤ 60 := by (unfold s_cap; split <;> omega)
    have q4 : s_xv (s_NL 1) p (s_pv p T_LARR 1 b9 (s_cap nk)) := s_xv.pv (by simp [s_NL])
    have q5 := (hT.v (p' := (s_pv p T_LARR 1 b9 (s_cap nk))) (x := 1) (y := s_cap nk) (q1 T_TAPE (by decide) ▸ rfl) (s_pv_nl (fun z => absurd z.1 (by decide))) (s_pv_nv (fun z => absurd z.1 (by decide))) ha).eq (s_eqT.adI (l := 1) (n := nk))
    have q6 := ((hD.addK h40 hK hS).v q1 q2 rfl)
    have e9 : s_stl (s_pv p T_LARR 1 b9 (s_cap nk)) = s_stl p := s_stl.v q2 rfl
    have h2 := l_X11_addKnob (X := X) (d := d) (p := (s_pv p T_LARR 1 b9 (s_cap nk))) (I := I) (J := J) (c := (c.1 + 1, c.2 + s_cap nk)) (w := w) (Q := Q) (x := 1) (o1 := some (.ref (p.1 T_KNOB nk))) q6 q5 (hL.add1 hAB (by omega)) (fun p' c' u1 u2 u3 u4 => by rw [e9] at u1 u3 u4 ⊢; exact k (s_pv p T_LARR 1 b9 (s_cap nk)) 1 (s_cap nk) (by omega) q3 q4 p' c' u1 u2 u3 u4)
    rw [s_pv_n (fun z => absurd z.1 (by decide))] at h2
    exact h2
