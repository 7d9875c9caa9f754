/-! 84: rank (printed by wip/whole/p84.py) -/
/-- where the next rank's pipes begin -/
def s_tp (p : e_Sp) (nr : Nat) : Nat := if nr = 0 then 0 else p.2.2.2.2 (nr - 1) + p.2.2.1 T_PARR (nr - 1)
theorem s_D.addR {p : e_Sp} {I : e_I} {nk nr : Nat} (h : s_D p I nk nr) (h10 : nr < 10) (hR : s_Rk p I nr) (hb : p.2.2.2.2 nr = s_tp p nr) : s_D p (s_adI I 0 nr) nk (nr + 1) := by
  obtain ⟨⟨a, ⟨b1, b2⟩, ⟨b3, b4⟩, b5, b6⟩, c1, ⟨c2, c4⟩, c3⟩ := h
  have e : ∀ F, F ≠ f_l_size → F ≠ f_l_modCount → s_adI I 0 nr F = I F := fun F h1 h2 => s_adI_F h1 h2
  have b0 : p.2.2.2.2 0 = 0 := c2
  refine ⟨⟨a, ⟨b1, (s_adI_n (by decide)).trans b2⟩, ⟨by omega, s_adI_s⟩, fun k hk => ?_, fun r hr => ?_⟩, fun r hr => ?_, ⟨c2, fun r hr => ?_⟩, fun k hk h9 => ?_⟩
  · rw [e f_k_kind (by decide) (by decide), e f_k_division (by decide) (by decide)]
    exact b5 k hk
  · by_cases z : r = nr
    · subst z; exact hR.1
    · exact b6 r (by omega)
  · unfold s_Rk
    rw [e f_r_lowest (by decide) (by decide), e f_r_division (by decide) (by decide)]
    by_cases z : r = nr
    · subst z; exact hR
    · exact c1 r (by omega)
  · by_cases z : r + 1 = nr
    · rw [z, hb]
      unfold s_tp
      rw [if_neg (by omega), show nr - 1 = r by omega]
    · exact c4 r (by omega)
  · rw [e f_k_kind (by decide) (by decide)] at h9
    unfold s_St
    rw [e f_s_rows (by decide) (by decide)]
    exact c3 k hk h9
/-- places of a rank -/
def s_Nr (bs n r t i : Nat) : Bool := s_Np bs n t i || ((decide (t = T_RANK) || decide (t = T_PARR)) && decide (i = r))
/-- but for these places, and the base of the rank r, the shapes are the same -/
def s_xw (N : Nat → Nat → Bool) (r : Nat) (p p' : e_Sp) : Prop := (∀ t i, N t i = false → p'.1 t i = p.1 t i ∧ p'.2.1 t i = p.2.1 t i ∧ p'.2.2.1 t i = p.2.2.1 t i) ∧ ∀ r', r' ≠ r → p'.2.2.2.2 r' = p.2.2.2.2 r'
theorem s_xw.trans {N : Nat → Nat → Bool} {r : Nat} {p p' p'' : e_Sp} (h : s_xw N r p p') (h' : s_xw N r p' p'') : s_xw N r p p'' := ⟨fun t i hN => ⟨(h'.1 t i hN).1.trans (h.1 t i hN).1, (h'.1 t i hN).2.1.trans (h.1 t i hN).2.1, (h'.1 t i hN).2.2.trans (h.1 t i hN).2.2⟩, fun r' hr => (h'.2 r' hr).trans (h.2 r' hr)⟩
theorem s_xw.mono {N N' : Nat → Nat → Bool} {r : Nat} {p p' : e_Sp} (h : s_xw N r p p') (hN : ∀ t i, N' t i = false → N t i = false) : s_xw N' r p p' := ⟨fun t i hi => h.1 t i (hN t i hi), h.2⟩
theorem s_xv.xw {N : Nat → Nat → Bool} {r : Nat} {p p' : e_Sp} (h : s_xv N p p') : s_xw N r p p' := ⟨h.1, fun r' _ => by rw [h.2]⟩
theorem s_xw.pr {p : e_Sp} {r b q n bs n9 b9 : Nat} : s_xw (s_Nr b9 n9 r) r p (s_pr p r b q n bs) := by
  refine ⟨fun t i hN => ?_, fun r' hr => if_neg hr⟩
  unfold s_Nr at hN
  rw [Bool.or_eq_false_iff] at hN
  have e1 : ¬ (t = T_RANK ∧ i = r) := fun z => by rw [z.1, z.2] at hN; simp at hN
  have e2 : ¬ (t = T_PARR ∧ i = r) := fun z => by rw [z.1, z.2] at hN; simp at hN
  refine ⟨?_, ?_, ?_⟩
  · show (s_pv (s_pv (s_bp p r bs) T_PARR r q n) T_RANK r b 0).1 t i = _
    rw [s_pv_n e1, s_pv_n e2]; rfl
  · show (s_pv (s_pv (s_bp p r bs) T_PARR r q n) T_RANK r b 0).2.1 t i = _
    rw [s_pv_nv e1, s_pv_nv e2]; rfl
  · show (s_pv (s_pv (s_bp p r bs) T_PARR r q n) T_RANK r b 0).2.2.1 t i = _
    rw [s_pv_nl e1, s_pv_nl e2]; rfl
theorem s_D.xr {p p' : e_Sp} {I I' : e_I} {nk nr bs n : Nat} (h : s_D p I nk nr) (x : s_xw (s_Nr bs n nr) nr p p') (hN : ∀ k, k < n → p.2.1 T_PIPE (bs + k) = false) (hb0 : nr = 0 → p'.2.2.2.2 0 = 0) (e1 : ∀ F, F = f_l_size ∨ F = f_k_kind ∨ F = f_k_division ∨ F = f_s_rows → I' F = I F) (e2 : ∀ F r, F = f_r_lowest ∨ F = f_r_division → r ≠ nr → I' F r = I F r) : s_D p' I' nk nr := by
  have n1 : ∀ t, t ≠ T_PIPE → t ≠ T_RANK → t ≠ T_PARR → ∀ i, s_Nr bs n nr t i = false := fun t h1 h2 h3 i => by
    unfold s_Nr s_Np
    rw [decide_eq_false h1, decide_eq_false h2, decide_eq_false h3]; rfl
  have v1 : ∀ t, t ≠ T_PIPE → t ≠ T_RANK → t ≠ T_PARR → p'.2.1 t = p.2.1 t := fun t h1 h2 h3 => funext fun i => (x.1 t i (n1 t h1 h2 h3 i)).2.1
  have n2 : ∀ t r, t ≠ T_PIPE → r < nr → s_Nr bs n nr t r = false := fun t r ht hr => by
    unfold s_Nr s_Np
    rw [decide_eq_false ht, decide_eq_false (by omega : ¬ r = nr), Bool.and_false]; rfl
  have v2 : ∀ i, p.2.1 T_PIPE i = true → p'.2.1 T_PIPE i = true := fun i hi => by
    have : s_Nr bs n nr T_PIPE i = false := by
      unfold s_Nr s_Np
      by_cases z : bs ≤ i ∧ i < bs + n
      · exfalso
        have := hN (i - bs) (by omega)
        rw [show bs + (i - bs) = i by omega, hi] at this
        cases this
      · show (_ || ((decide (T_PIPE = T_RANK) || decide (T_PIPE = T_PARR)) && _)) = false
        rw [show (decide (bs ≤ i) && decide (i < bs + n)) = false by (rw [← Bool.decide_and]; exact decide_eq_false z), Bool.and_false]
        rfl
    rw [(x.1 _ _ this).2.1]; exact hi
  obtain ⟨⟨⟨a1, a2⟩, b1, b2, b3, b4⟩, c1, ⟨c2, c4⟩, c3⟩ := h
  refine ⟨⟨⟨fun t ht => ?_, fun l hl => by rw [v1 _ (by decide) (by decide) (by decide)]; exact a2 l hl⟩, by rw [e1 _ (Or.inl rfl)]; exact b1, by rw [e1 _ (Or.inl rfl)]; exact b2, fun k hk => ?_, fun r hr => ?_⟩, fun r hr => ?_, ⟨?_, fun r hr => ?_⟩, fun k hk h9 => ?_⟩
  · rw [v1 t (fun z => by rw [z] at ht; revert ht; decide) (fun z => by rw [z] at ht; revert ht; decide) (fun z => by rw [z] at ht; revert ht; decide)]
    exact a1 t ht
  · rw [v1 T_KNOB (by decide) (by decide) (by decide), v1 T_STOP (by decide) (by decide) (by decide), v1 T_COUP (by decide) (by decide) (by decide), e1 _ (Or.inr (Or.inl rfl)), e1 _ (Or.inr (Or.inr (Or.inl rfl)))]
    exact b3 k hk
  · rw [(x.1 T_RANK r (n2 _ r (by decide) hr)).2.1]; exact b4 r hr
  · obtain ⟨d1, d2, d3, d4, d5⟩ := c1 r hr
    have eb := x.2 r (by omega)
    have el := (x.1 T_PARR r (n2 _ r (by decide) hr)).2.2
    refine ⟨by rw [(x.1 T_RANK r (n2 _ r (by decide) hr)).2.1]; exact d1, by rw [(x.1 T_PARR r (n2 _ r (by decide) hr)).2.1]; exact d2, fun m hm => ?_, ?_, ?_⟩
    · rw [el] at hm
      rw [eb]; exact v2 _ (d3 m hm)
    · rw [el, e2 _ _ (Or.inl rfl) (by omega)]; exact d4
    · rw [e2 _ _ (Or.inr rfl) (by omega)]; exact d5
  · by_cases z : nr = 0
    · exact hb0 z
    · rw [x.2 0 (by omega)]; exact c2
  · rw [x.2 _ (by omega), x.2 _ (by omega), (x.1 T_PARR r (n2 _ r (by decide) (by omega))).2.2]
    exact c4 r hr
  · rw [e1 _ (Or.inr (Or.inl rfl))] at h9
    obtain ⟨d1, d2⟩ := c3 k hk h9
    unfold s_St
    rw [e1 _ (Or.inr (Or.inr (Or.inr rfl)))]
    exact ⟨fun t ht => by rw [v1 t (fun z => by rw [z] at ht; revert ht; decide) (fun z => by rw [z] at ht; revert ht; decide) (fun z => by rw [z] at ht; revert ht; decide)]; exact d1 t ht, d2⟩
theorem s_ok.xv {N : Nat → Nat → Bool} {p p' : e_Sp} (h : s_ok p) (x : s_xv N p p') (hN : ∀ t i, t ≠ T_PIPE → N t i = false) : s_ok p' := ⟨fun t ht => by
  rw [(x.1 t 0 (hN t 0 (fun z => by rw [z] at ht; revert ht; decide))).2.1]
  exact h.1 t ht, fun l hl => by
  rw [(x.1 T_LIST l (hN _ l (by decide))).2.1]
  exact h.2 l hl⟩
theorem s_tp.xw {p p' : e_Sp} {nr bs n : Nat} (x : s_xw (s_Nr bs n nr) nr p p') : s_tp p' nr = s_tp p nr := by
  unfold s_tp
  by_cases z : nr = 0
  · rw [if_pos z, if_pos z]
  · rw [if_neg z, if_neg z, x.2 (nr - 1) (by omega), (x.1 T_PARR (nr - 1) (by unfold s_Nr s_Np; rw [decide_eq_false (by omega : ¬ nr - 1 = nr), Bool.and_false]; rfl)).2.2]
theorem s_Np_n {bs n t i : Nat} (h : t ≠ T_PIPE) : s_Np bs n t i = false := by
  unfold s_Np
  rw [decide_eq_false h]; rfl
theorem s_rkI_F {I : e_I} {r F : Nat} {lo dv use dl rs pw : Int32} (h1 : F ≠ f_r_lowest) (h2 : F ≠ f_r_division) (h3 : F ≠ f_r_use) (h4 : F ≠ f_r_delay) (h5 : F ≠ f_r_rest) (h6 : F ≠ f_r_power) (h7 : F ≠ f_r_heatNumber) : s_rkI I r lo dv use dl rs pw F = I F := by
  funext i
  unfold s_rkI
  rw [s_up_F h7, s_up_F h6, s_up_F h5, s_up_F h4, s_up_F h3, s_up_F h2, s_up_F h1]
theorem s_rkI_i {I : e_I} {r F i : Nat} {lo dv use dl rs pw : Int32} (h : i ≠ r) : s_rkI I r lo dv use dl rs pw F i = I F i := by
  unfold s_rkI
  rw [s_up_i h, s_up_i h, s_up_i h, s_up_i h, s_up_i h, s_up_i h, s_up_i h]
theorem s_rkI_l {I : e_I} {r : Nat} {lo dv use dl rs pw : Int32} : s_rkI I r lo dv use dl rs pw f_r_lowest r = lo := by
  unfold s_rkI
  repeat (first | rw [s_up_s] | rw [s_up_F (by decide)])
theorem s_rkI_d {I : e_I} {r : Nat} {lo dv use dl rs pw : Int32} : s_rkI I r lo dv use dl rs pw f_r_division r = dv := by
  unfold s_rkI
  repeat (first | rw [s_up_s] | rw [s_up_F (by decide)])
theorem s_eqT.rkI {I : e_I} {r : Nat} {lo dv use dl rs pw : Int32} : s_eqT I (s_rkI I r lo dv use dl rs pw) := ⟨by rw [s_rkI_F (by decide) (by decide) (by decide) (by decide) (by decide) (by decide) (by decide)], fun i => by rw [s_rkI_F (by decide) (by decide) (by decide) (by decide) (by decide) (by decide) (by decide)]⟩
theorem s_eqT.pkI {I : e_I} {bs n : Nat} : s_eqT I (s_pkI I bs n) := ⟨by rw [s_pkI_F (by decide)], fun i => by rw [s_pkI_F (by decide)]⟩
set_option maxRecDepth 100000 in
set_option maxHeartbeats 4000000 in
theorem l2_X11_rank {X : e_XT} {d : Nat} {p : e_Sp} {I : e_I} {J : e_Jt} {c : Nat × Nat} {w : e_Rw1} {Q : e_Rt → e_SS → Prop} {nk nr a b : Nat} {x : Int32} {v1 v2 v3 v4 v5 v6 v7 v8 : Option Value} (hD : s_D p (s_adI I 0 nr) nk (nr + 1)) (hT : s_Tp p (s_adI I 0 nr) c a b) (hL : s_La p (s_adI I 0 nr) 0 (nr + 1)) (k : ∀ p' c', s_D p' (s_stl p nk (nr + 1) (s_adI I 0 nr, J)).1 nk (nr + 1) → s_xt p p' → s_Tp p' (s_stl p nk (nr + 1) (s_adI I 0 nr, J)).1 c' a b → s_La p' (s_stl p nk (nr + 1) (s_adI I 0 nr, J)).1 0 (nr + 1) → Q (.inl (some (.int (nI nr)))) (p', (s_stl p nk (nr + 1) (s_adI I 0 nr, J)).1, (s_stl p nk (nr + 1) (s_adI I 0 nr, J)).2, c', w)) : s_w X (d + 7) K_X11_rank 127 [some (.ref (p.1 T_HALL 0)), v1, v2, v3, v4, v5, v6, v7, v8] [.int x] (p, s_adI I 0 nr, J, c, w) (fun r S' => e_rcr (some FieldType.int) r = true ∧ Q r S') := by
  have hp := hD.1.1
  refine w_op (pc' := 128) dX11_rank_127 rfl ?_
  refine w_op (pc' := 129) dX11_rank_128 rfl ?_
  refine t_getG0 (G := g_h_WORKS) dX11_rank_129 rfl rfl (by decide) rfl (fun _ => rfl) (hp.1 _ rfl) ?_
  refine t_callV (t := T_WORKS) (As := []) dX11_rank_132 rfl rM_X10_settle (by decide) rfl rfl (by decide) (by decide) (Nat.le_of_ble_eq_true rfl) rfl (hp.1 _ rfl) (c_X10_settle hD hT (fun p1 c1 hD1 hx1 hT1 => ?_))
  show s_w _ _ _ 135 _ _ _ _
  rw [show p.1 T_HALL = p1.1 T_HALL from (hx1.1 T_HALL rfl).1.symm]
  have hp := hD1.1.1
  have e9 : (s_stl p nk (nr + 1) (s_adI I 0 nr, J)).1 f_l_size 0 = nI (nr + 1) := hD1.1.2.2.1.2
  refine w_op (pc' := 136) dX11_rank_135 rfl ?_
  refine t_getG0 (G := g_h_WORKS) dX11_rank_136 rfl rfl (by decide) rfl (fun _ => rfl) (hp.1 _ rfl) ?_
  refine t_getG0 (G := g_w_ranks) dX11_rank_139 rfl rfl (by decide) rfl (fun _ => rfl) (hp.1 _ rfl) ?_
  refine t_callV (t := T_LIST) (As := []) dX11_rank_142 rfl rM_Jx4a65c_size_8abf5 (by decide) rfl rfl (by decide) (by decide) (Nat.le_of_ble_eq_true rfl) rfl (hp.2 _ (by decide)) (c_size (hp.2 _ (by decide)) ?_)
  show s_w _ _ _ 145 _ _ _ _
  rw [e9]
  refine w_iconst (v := 1) dX11_rank_145 rfl ?_
  refine w_op (pc' := 147) dX11_rank_146 rfl ?_
  rw [show nI (nr + 1) - 1 = nI nr from nI_pred nr]
  exact w_ireturn dX11_rank_147 ⟨rfl, k p1 c1 hD1 hx1 hT1 (hL.xt hx1 (e9.trans s_adI_s.symm))⟩
set_option maxRecDepth 100000 in
set_option maxHeartbeats 4000000 in
theorem l_X11_rank {X : e_XT} {d : Nat} {p : e_Sp} {I : e_I} {J : e_Jt} {c : Nat × Nat} {w : e_Rw1} {Q : e_Rt → e_SS → Prop} {v1 v2 v3 v4 v5 v6 v7 v8 : Option Value} {nk nr : Nat} (hD : s_D p I nk nr) {a b : Nat} (hT : s_Tp p I c a b) (h10 : nr < 10) (hL : s_La p I 0 nr) (hR : s_Rk p I nr) (hb : p.2.2.2.2 nr = s_tp p nr) (hX : (X 8).1 = 0) (hc : c.1 < e_xb) (ha : a + 1 ≤ 4294960000) (k : ∀ p1 x y, x ≤ 1 → y ≤ 60 → s_xv (s_NL 0) p p1 → ∀ p' c', s_D p' (s_stl p nk (nr + 1) (s_adI I 0 nr, J)).1 nk (nr + 1) → s_xt p1 p' → s_Tp p' (s_stl p nk (nr + 1) (s_adI I 0 nr, J)).1 c' (a + x) (b + y) → s_La p' (s_stl p nk (nr + 1) (s_adI I 0 nr, J)).1 0 (nr + 1) → Q (.inl (some (.int (nI nr)))) (p', (s_stl p nk (nr + 1) (s_adI I 0 nr, J)).1, (s_stl p nk (nr + 1) (s_adI I 0 nr, J)).2, c', w)) : s_w X (d + 7) K_X11_rank 124 [some (.ref (p.1 T_HALL 0)), v1, v2, v3, v4, v5, v6, v7, v8] [.ref (p.1 T_RANK nr), .ref (p.1 T_LIST 0)] (p, I, J, c, w) (fun r S' => e_rcr (some FieldType.int) r = true ∧ Q r S') := by
  have hC := hD.1
  have hp := hC.1
  refine t_callV (t := T_LIST) (As := [_]) dX11_rank_124 rfl rM_Jx4a65c_add_9ea2d (by decide) rfl rfl (by decide) (by decide) (Nat.le_of_ble_eq_true rfl) rfl (hp.2 _ (by decide)) (c_add hL hR.1 hX hc (fun hA hA10 hlt hle => ?_) (fun hAB b9 hb9 => ?_))
  · show s_w _ _ _ 127 _ _ _ _
    exact l2_X11_rank (hD.addR h10 hR hb) (hT.eq s_eqT.adI) (hL.add0 hA hA10 hlt hle (by omega)) (fun p' c' u1 u2 u3 u4 => k p 0 0 (by omega) (by omega) s_xv.rfl' p' c' u1 u2 u3 u4)
  · show s_w _ _ _ 127 _ _ _ _
    have q1 : ∀ t, t ≠ T_LARR → (s_pv p T_LARR 0 b9 (s_cap nr)).2.1 t = p.2.1 t := fun t ht => funext fun i => s_pv_nv (fun z => ht z.1)
    have q2 : (s_pv p T_LARR 0 b9 (s_cap nr)).2.2.1 T_PARR = p.2.2.1 T_PARR := funext fun i => s_pv_nl (fun z => absurd z.1 (by decide))
    have q3 : s_cap nr ≤ 60 := by (unfold s_cap; split <;> omega)
    have q4 : s_xv (s_NL 0) p (s_pv p T_LARR 0 b9 (s_cap nr)) := s_xv.pv (by simp [s_NL])
    have q5 := (hT.v (p' := (s_pv p T_LARR 0 b9 (s_cap nr))) (x := 1) (y := s_cap nr) (q1 T_TAPE (by decide) ▸ rfl) (s_pv_nl (fun z => absurd z.1 (by decide))) (s_pv_nv (fun z => absurd z.1 (by decide))) ha).eq (s_eqT.adI (l := 0) (n := nr))
    have q6 := ((hD.addR h10 hR hb).v q1 q2 rfl)
    have e9 : s_stl (s_pv p T_LARR 0 b9 (s_cap nr)) = s_stl p := s_stl.v q2 rfl
    have h2 := l2_X11_rank (X := X) (d := d) (p := (s_pv p T_LARR 0 b9 (s_cap nr))) (I := I) (J := J) (c := (c.1 + 1, c.2 + s_cap nr)) (w := w) (Q := Q) (x := 1) (v1 := v1) (v2 := v2) (v3 := v3) (v4 := v4) (v5 := v5) (v6 := v6) (v7 := v7) (v8 := v8) q6 q5 (hL.add1 hAB (by omega)) (fun p' c' u1 u2 u3 u4 => by rw [e9] at u1 u3 u4 ⊢; exact k (s_pv p T_LARR 0 b9 (s_cap nr)) 1 (s_cap nr) (by omega) q3 q4 p' c' u1 u2 u3 u4)
    rw [s_pv_n (fun z => absurd z.1 (by decide))] at h2
    exact h2
set_option maxRecDepth 100000 in
set_option maxHeartbeats 4000000 in
theorem c_X11_rank {X : e_XT} {d : Nat} {p : e_Sp} {I : e_I} {J : e_Jt} {c : Nat × Nat} {w : e_Rw1} {Q : e_Rt → e_SS → Prop} {nk nr : Nat} (hD : s_D p I nk nr) {a b : Nat} (hT : s_Tp p I c a b) {x1 x2 x3 x4 x5 x6 x7 : Int32} (hL : s_La p I 0 nr) (hX : (X 8).1 = 0) (hc : c.1 + 150 < e_xb) (ha : a + 150 ≤ 4294960000) (hN1 : p.2.1 T_RANK nr = false) (hN2 : p.2.1 T_PARR nr = false) (hN3 : ∀ k, p.2.1 T_PIPE (s_tp p nr + k) = false) (k : ∀ lo hi dv, lo ≤ hi → hi ≤ 127 → dv < 3 → x1 = nI lo → x2 = nI hi → x4 = nI dv → ((0 ≤ x1 ∧ x1 ≤ 127) ∧ (x1 ≤ x2 ∧ x2 ≤ 127) ∧ (1 ≤ x3 ∧ x3 ≤ 9) ∧ (0 ≤ x4 ∧ x4 ≤ 2) ∧ (0 ≤ x5 ∧ x5 ≤ 5) ∧ (0 ≤ x6 ∧ x6 ≤ 5) ∧ (1 ≤ x7 ∧ x7 ≤ 99)) → nr < 10 → ∀ p1 x9 y9, x9 ≤ 140 → y9 ≤ 2000 → s_xw (fun t i => s_Nr (s_tp p nr) (hi - lo + 1) nr t i || s_NL 0 t i) nr p p1 → p1.2.2.1 T_PARR nr = (hi - lo + 1) → p1.2.2.2.2 nr = s_tp p nr → ∀ p' c', s_D p' (s_stl p1 nk (nr + 1) (s_adI (s_rkI (s_pkI I (s_tp p nr) (hi - lo + 1)) nr (nI lo) (nI dv) x3 x5 x6 x7) 0 nr, J)).1 nk (nr + 1) → s_xt p1 p' → s_Tp p' (s_stl p1 nk (nr + 1) (s_adI (s_rkI (s_pkI I (s_tp p nr) (hi - lo + 1)) nr (nI lo) (nI dv) x3 x5 x6 x7) 0 nr, J)).1 c' (a + x9) (b + y9) → s_La p' (s_stl p1 nk (nr + 1) (s_adI (s_rkI (s_pkI I (s_tp p nr) (hi - lo + 1)) nr (nI lo) (nI dv) x3 x5 x6 x7) 0 nr, J)).1 0 (nr + 1) → Q (.inl (some (.int (nI nr)))) (p', (s_stl p1 nk (nr + 1) (s_adI (s_rkI (s_pkI I (s_tp p nr) (hi - lo + 1)) nr (nI lo) (nI dv) x3 x5 x6 x7) 0 nr, J)).1, (s_stl p1 nk (nr + 1) (s_adI (s_rkI (s_pkI I (s_tp p nr) (hi - lo + 1)) nr (nI lo) (nI dv) x3 x5 x6 x7) 0 nr, J)).2, c', w)) (kx0 : ¬ ((0 ≤ x1 ∧ x1 ≤ 127) ∧ (x1 ≤ x2 ∧ x2 ≤ 127) ∧ (1 ≤ x3 ∧ x3 ≤ 9) ∧ (0 ≤ x4 ∧ x4 ≤ 2) ∧ (0 ≤ x5 ∧ x5 ≤ 5) ∧ (0 ≤ x6 ∧ x6 ≤ 5) ∧ (1 ≤ x7 ∧ x7 ≤ 99)) → Q (.inr 0) (p, I, J, (c.1 + 1, c.2 + 6), w)) (kx1 : ((0 ≤ x1 ∧ x1 ≤ 127) ∧ (x1 ≤ x2 ∧ x2 ≤ 127) ∧ (1 ≤ x3 ∧ x3 ≤ 9) ∧ (0 ≤ x4 ∧ x4 ≤ 2) ∧ (0 ≤ x5 ∧ x5 ≤ 5) ∧ (0 ≤ x6 ∧ x6 ≤ 5) ∧ (1 ≤ x7 ∧ x7 ≤ 99)) → ¬ nr < 10 → Q (.inr 1) (p, I, J, (c.1 + 1, c.2 + 6), w)) : s_c X (d + 7) 143 [.ref (p.1 T_HALL 0), .int x1, .int x2, .int x3, .int x4, .int x5, .int x6, .int x7] (p, I, J, c, w) Q := by
  have hC := hD.1
  have hp := hC.1
  have hr10 := hC.2.2.1.2
  have hn10 := hC.2.2.1.1
  have hnul : e_toI (s_nul 7) = 0 := rfl
  refine m_X11_rank (Nat.le_of_ble_eq_true rfl) ?_
  show s_w _ _ _ 0 _ _ _ _
  refine w_op (pc' := 1) dX11_rank_0 rfl ?_
  refine w_iconst (v := 0) dX11_rank_1 rfl ?_
  refine w_bipush (v := 127) dX11_rank_2 rfl ?_
  refine t_callS (As := [_, _, _]) dX11_rank_4 rfl rM_X11_needRange (by decide) rfl rfl (by decide) (Nat.le_of_ble_eq_true rfl) (c_X11_needRange (fun h1 => ?_) (fun h1 => ?_))
  · show s_w _ _ _ 7 _ _ _ _
    refine w_op (pc' := 8) dX11_rank_7 rfl ?_
    refine w_op (pc' := 9) dX11_rank_8 rfl ?_
    refine w_bipush (v := 127) dX11_rank_9 rfl ?_
    refine t_callS (As := [_, _, _]) dX11_rank_11 rfl rM_X11_needRange (by decide) rfl rfl (by decide) (Nat.le_of_ble_eq_true rfl) (c_X11_needRange (fun h2 => ?_) (fun h2 => ?_))
    · show s_w _ _ _ 14 _ _ _ _
      refine w_op (pc' := 15) dX11_rank_14 rfl ?_
      refine w_iconst (v := 1) dX11_rank_15 rfl ?_
      refine w_bipush (v := 9) dX11_rank_16 rfl ?_
      refine t_callS (As := [_, _, _]) dX11_rank_18 rfl rM_X11_needRange (by decide) rfl rfl (by decide) (Nat.le_of_ble_eq_true rfl) (c_X11_needRange (fun h3 => ?_) (fun h3 => ?_))
      · show s_w _ _ _ 21 _ _ _ _
        refine w_op (pc' := 23) dX11_rank_21 rfl ?_
        refine w_iconst (v := 0) dX11_rank_23 rfl ?_
        refine w_iconst (v := 2) dX11_rank_24 rfl ?_
        refine t_callS (As := [_, _, _]) dX11_rank_25 rfl rM_X11_needRange (by decide) rfl rfl (by decide) (Nat.le_of_ble_eq_true rfl) (c_X11_needRange (fun h4 => ?_) (fun h4 => ?_))
        · show s_w _ _ _ 28 _ _ _ _
          refine w_op (pc' := 30) dX11_rank_28 rfl ?_
          refine w_iconst (v := 0) dX11_rank_30 rfl ?_
          refine w_iconst (v := 5) dX11_rank_31 rfl ?_
          refine t_callS (As := [_, _, _]) dX11_rank_32 rfl rM_X11_needRange (by decide) rfl rfl (by decide) (Nat.le_of_ble_eq_true rfl) (c_X11_needRange (fun h5 => ?_) (fun h5 => ?_))
          · show s_w _ _ _ 35 _ _ _ _
            refine w_op (pc' := 37) dX11_rank_35 rfl ?_
            refine w_iconst (v := 0) dX11_rank_37 rfl ?_
            refine w_iconst (v := 5) dX11_rank_38 rfl ?_
            refine t_callS (As := [_, _, _]) dX11_rank_39 rfl rM_X11_needRange (by decide) rfl rfl (by decide) (Nat.le_of_ble_eq_true rfl) (c_X11_needRange (fun h6 => ?_) (fun h6 => ?_))
            · show s_w _ _ _ 42 _ _ _ _
              refine w_op (pc' := 44) dX11_rank_42 rfl ?_
              refine w_iconst (v := 1) dX11_rank_44 rfl ?_
              refine w_bipush (v := 99) dX11_rank_45 rfl ?_
              refine t_callS (As := [_, _, _]) dX11_rank_47 rfl rM_X11_needRange (by decide) rfl rfl (by decide) (Nat.le_of_ble_eq_true rfl) (c_X11_needRange (fun h7 => ?_) (fun h7 => ?_))
              · show s_w _ _ _ 50 _ _ _ _
                refine w_op (pc' := 51) dX11_rank_50 rfl ?_
                refine t_getG0 (G := g_h_WORKS) dX11_rank_51 rfl rfl (by decide) rfl (fun _ => rfl) (hp.1 _ rfl) ?_
                refine t_getG0 (G := g_w_ranks) dX11_rank_54 rfl rfl (by decide) rfl (fun _ => rfl) (hp.1 _ rfl) ?_
                refine t_callV (t := T_LIST) (As := []) dX11_rank_57 rfl rM_Jx4a65c_size_8abf5 (by decide) rfl rfl (by decide) (by decide) (Nat.le_of_ble_eq_true rfl) rfl (hp.2 _ (by decide)) (c_size (hp.2 _ (by decide)) ?_)
                show s_w _ _ _ 60 _ _ _ _
                rw [hr10]
                refine w_bipush (v := 10) dX11_rank_60 rfl ?_
                refine w_icmplt (t := 75) dX11_rank_62 (by decide) (fun c62 => ?_) (fun c62 => ?_)
                · have h10 : nr < 10 := (nI_ltI (b := 10) (by omega) (by omega)).mp c62
                  have hall : ((0 ≤ x1 ∧ x1 ≤ 127) ∧ (x1 ≤ x2 ∧ x2 ≤ 127) ∧ (1 ≤ x3 ∧ x3 ≤ 9) ∧ (0 ≤ x4 ∧ x4 ≤ 2) ∧ (0 ≤ x5 ∧ x5 ≤ 5) ∧ (0 ≤ x6 ∧ x6 ≤ 5) ∧ (1 ≤ x7 ∧ x7 ≤ 99)) := ⟨h1, h2, h3, h4, h5, h6, h7⟩
                  obtain ⟨lo, hlo, elo⟩ := nI_of2 (x := x1) (M := 127) (n := 127) rfl (Int32.not_lt.mpr h1.1) h1.2
                  obtain ⟨hi, hhi, ehi⟩ := nI_of2 (x := x2) (M := 127) (n := 127) rfl (Int32.not_lt.mpr (Int32.le_trans h1.1 h2.1)) h2.2
                  obtain ⟨dv, hdv, edv⟩ := nI_of2 (x := x4) (M := 2) (n := 2) rfl (Int32.not_lt.mpr h4.1) h4.2
                  have hlh : lo ≤ hi := by (have := h2.1; rw [elo, ehi] at this; exact (nI_leI (by omega) (by omega)).mp this)
                  rw [elo, ehi, edv]
                  refine t_new dX11_rank_75 rfl (show c.1 < e_xb by omega) (fun b9 hb9 => ?_)
                  refine w_op (pc' := 79) dX11_rank_78 rfl ?_
                  refine w_op (pc' := 80) dX11_rank_79 rfl ?_
                  refine w_op (pc' := 81) dX11_rank_80 rfl ?_
                  refine w_op (pc' := 83) dX11_rank_81 rfl ?_
                  refine t_callI (As := [_, _, _]) dX11_rank_83 rfl rM_X7_init (by decide) (by decide) rfl rfl rfl (Nat.le_of_ble_eq_true rfl) (c_X7_init (bs := s_tp p nr) hlh hhi (by omega) (fun k9 _ => hN3 k9) (show c.1 + 1 + 130 < e_xb by omega) (fun p7 q9 g9 hx7 hg7 hqb hwq => ?_))
                  refine ⟨rfl, ?_⟩
                  refine w_op (pc' := 88) (ll' := [_, _, _, _, _, _, _, _, _]) dX11_rank_86 rfl ?_
                  refine w_op (pc' := 90) dX11_rank_88 rfl ?_
                  refine w_op (pc' := 91) dX11_rank_90 rfl ?_
                  refine t_putR dX11_rank_91 rfl rfl (Or.inl rfl) ?_
                  refine w_op (pc' := 96) dX11_rank_94 rfl ?_
                  refine w_op (pc' := 98) dX11_rank_96 rfl ?_
                  refine t_putR dX11_rank_98 rfl rfl (Or.inl rfl) ?_
                  refine w_op (pc' := 103) dX11_rank_101 rfl ?_
                  refine w_op (pc' := 105) dX11_rank_103 rfl ?_
                  refine t_putR dX11_rank_105 rfl rfl (Or.inl rfl) ?_
                  refine w_op (pc' := 110) dX11_rank_108 rfl ?_
                  refine w_op (pc' := 112) dX11_rank_110 rfl ?_
                  refine t_putR dX11_rank_112 rfl rfl (Or.inl rfl) ?_
                  rw [show p.1 T_HALL 0 = p7.1 T_HALL 0 from (hx7.1 T_HALL 0 rfl).1.symm]
                  have hp := hp.xv hx7 (fun t i ht => s_Np_n ht)
                  refine w_op (pc' := 116) dX11_rank_115 rfl ?_
                  refine t_getG0 (G := g_h_WORKS) dX11_rank_116 rfl rfl (by decide) rfl (fun _ => rfl) (hp.1 _ rfl) ?_
                  refine t_getG0 (G := g_w_ranks) dX11_rank_119 rfl rfl (by decide) rfl (fun _ => rfl) (hp.1 _ rfl) ?_
                  refine w_op (pc' := 124) dX11_rank_122 rfl ?_
                  refine w_ghost (S' := ((s_pr p7 nr b9 q9 (hi - lo + 1) (s_tp p nr)), (s_rkI (s_pkI I (s_tp p nr) (hi - lo + 1)) nr (nI lo) (nI dv) x3 x5 x6 x7), J, (c.1 + 1 + 1 + (hi - lo + 1), c.2 + 8 + (hi - lo + 1) + 11 * (hi - lo + 1)), w)) (fun h hs => hs.pubR ((hx7.1 T_RANK nr rfl).2.1.trans hN1) ((hx7.1 T_PARR nr rfl).2.1.trans hN2) hqb hwq hb9.1 ⟨rfl, rfl, rfl, rfl, rfl, rfl, hnul⟩ rfl hg7) ?_
                  have hxr : s_xw (s_Nr (s_tp p nr) (hi - lo + 1) nr) nr p (s_pr p7 nr b9 q9 (hi - lo + 1) (s_tp p nr)) := ((s_xv.xw hx7).mono (fun t i hti => (Bool.or_eq_false_iff.mp hti).1)).trans s_xw.pr
                  have hlen : (s_pr p7 nr b9 q9 (hi - lo + 1) (s_tp p nr)).2.2.1 T_PARR nr = (hi - lo + 1) := (s_pv_nl (fun z => absurd z.1 (by decide))).trans (if_pos ⟨rfl, rfl⟩)
                  have hbas : (s_pr p7 nr b9 q9 (hi - lo + 1) (s_tp p nr)).2.2.2.2 nr = s_tp p nr := if_pos rfl
                  have hpip : ∀ k, k < (hi - lo + 1) → (s_pr p7 nr b9 q9 (hi - lo + 1) (s_tp p nr)).2.1 T_PIPE (s_tp p nr + k) = true := fun k9 hk9 => s_pv_k (s_pv_k (hg7 k9 hk9).1)
                  have hD1 : s_D (s_pr p7 nr b9 q9 (hi - lo + 1) (s_tp p nr)) (s_rkI (s_pkI I (s_tp p nr) (hi - lo + 1)) nr (nI lo) (nI dv) x3 x5 x6 x7) nk nr := hD.xr hxr (fun k9 _ => hN3 k9) (fun z => by subst z; exact hbas) (fun F hF => by rcases hF with rfl | rfl | rfl | rfl <;> (rw [s_rkI_F (by decide) (by decide) (by decide) (by decide) (by decide) (by decide) (by decide)]; exact s_pkI_F (by decide))) (fun F r hF hr => by rw [s_rkI_i hr]; rcases hF with rfl | rfl <;> exact congrFun (s_pkI_F (by decide)) r)
                  have hT1 : s_Tp (s_pr p7 nr b9 q9 (hi - lo + 1) (s_tp p nr)) (s_rkI (s_pkI I (s_tp p nr) (hi - lo + 1)) nr (nI lo) (nI dv) x3 x5 x6 x7) (c.1 + 1 + 1 + (hi - lo + 1), c.2 + 8 + (hi - lo + 1) + 11 * (hi - lo + 1)) (a + (1 + 1 + (hi - lo + 1))) (b + (8 + (hi - lo + 1) + 11 * (hi - lo + 1))) := by
                    have n1 : ∀ t, t ≠ T_PIPE → t ≠ T_RANK → t ≠ T_PARR → ∀ i, s_Nr (s_tp p nr) (hi - lo + 1) nr t i = false := fun t h1 h2 h3 i => by (unfold s_Nr s_Np; rw [decide_eq_false h1, decide_eq_false h2, decide_eq_false h3]; rfl)
                    have : s_Tp (s_pr p7 nr b9 q9 (hi - lo + 1) (s_tp p nr)) (s_rkI (s_pkI I (s_tp p nr) (hi - lo + 1)) nr (nI lo) (nI dv) x3 x5 x6 x7) (c.1 + (1 + 1 + (hi - lo + 1)), c.2 + (8 + (hi - lo + 1) + 11 * (hi - lo + 1))) (a + (1 + 1 + (hi - lo + 1))) (b + (8 + (hi - lo + 1) + 11 * (hi - lo + 1))) := (hT.v (p' := (s_pr p7 nr b9 q9 (hi - lo + 1) (s_tp p nr))) (x := 1 + 1 + (hi - lo + 1)) (y := 8 + (hi - lo + 1) + 11 * (hi - lo + 1)) (funext fun i => (hxr.1 T_TAPE i (n1 _ (by decide) (by decide) (by decide) i)).2.1) (hxr.1 T_ENTR 0 (n1 _ (by decide) (by decide) (by decide) 0)).2.2 (hxr.1 T_ENTR 0 (n1 _ (by decide) (by decide) (by decide) 0)).2.1 (by omega)).eq (s_eqT.pkI.trans s_eqT.rkI)
                    rw [show c.1 + (1 + 1 + (hi - lo + 1)) = c.1 + 1 + 1 + (hi - lo + 1) by omega, show c.2 + (8 + (hi - lo + 1) + 11 * (hi - lo + 1)) = c.2 + 8 + (hi - lo + 1) + 11 * (hi - lo + 1) by omega] at this
                    exact this
                  have hL1 : s_La (s_pr p7 nr b9 q9 (hi - lo + 1) (s_tp p nr)) (s_rkI (s_pkI I (s_tp p nr) (hi - lo + 1)) nr (nI lo) (nI dv) x3 x5 x6 x7) 0 nr := by
                    unfold s_La at hL ⊢
                    have n1 : ∀ t, t ≠ T_PIPE → t ≠ T_RANK → t ≠ T_PARR → ∀ i, s_Nr (s_tp p nr) (hi - lo + 1) nr t i = false := fun t h1 h2 h3 i => by (unfold s_Nr s_Np; rw [decide_eq_false h1, decide_eq_false h2, decide_eq_false h3]; rfl)
                    rw [(hxr.1 T_LIST 0 (n1 _ (by decide) (by decide) (by decide) 0)).2.1, (hxr.1 T_LARR 0 (n1 _ (by decide) (by decide) (by decide) 0)).1, (hxr.1 T_LARR 0 (n1 _ (by decide) (by decide) (by decide) 0)).2.1, (hxr.1 T_LARR 0 (n1 _ (by decide) (by decide) (by decide) 0)).2.2, s_rkI_F (by decide) (by decide) (by decide) (by decide) (by decide) (by decide) (by decide), s_pkI_F (by decide)]
                    exact hL
                  have hR1 : s_Rk (s_pr p7 nr b9 q9 (hi - lo + 1) (s_tp p nr)) (s_rkI (s_pkI I (s_tp p nr) (hi - lo + 1)) nr (nI lo) (nI dv) x3 x5 x6 x7) nr := ⟨s_pv_v, s_pv_k s_pv_v, fun m9 hm9 => by rw [hlen] at hm9; rw [hbas]; exact hpip m9 hm9, ⟨lo, s_rkI_l, by rw [hlen]; omega⟩, ⟨dv, by omega, s_rkI_d⟩⟩
                  have hb1 : (s_pr p7 nr b9 q9 (hi - lo + 1) (s_tp p nr)).2.2.2.2 nr = s_tp (s_pr p7 nr b9 q9 (hi - lo + 1) (s_tp p nr)) nr := hbas.trans (s_tp.xw hxr).symm
                  have h2 := fun kk9 => l_X11_rank (X := X) (d := d) (p := (s_pr p7 nr b9 q9 (hi - lo + 1) (s_tp p nr))) (I := (s_rkI (s_pkI I (s_tp p nr) (hi - lo + 1)) nr (nI lo) (nI dv) x3 x5 x6 x7)) (J := J) (c := (c.1 + 1 + 1 + (hi - lo + 1), c.2 + 8 + (hi - lo + 1) + 11 * (hi - lo + 1))) (w := w) (Q := Q) (v1 := some (.int (nI lo))) (v2 := some (.int (nI hi))) (v3 := some (.int x3)) (v4 := some (.int (nI dv))) (v5 := some (.int x5)) (v6 := some (.int x6)) (v7 := some (.int x7)) (v8 := some (.ref b9)) hD1 hT1 h10 hL1 hR1 hb1 hX (show c.1 + 1 + 1 + (hi - lo + 1) < e_xb by omega) (by omega) kk9
                  have h3 := h2 (fun p1 x9 y9 hx9 hy9 hv9 p' c' u1 u2 u3 u4 => ?_)
                  · unfold s_pr at h3
                    rw [s_pv_n (fun z => absurd z.1 (by decide)), s_pv_n (fun z => absurd z.1 (by decide)), s_pv_s] at h3
                    rw [s_pv_n (fun z => absurd z.1 (by decide)), s_pv_n (fun z => absurd z.1 (by decide))] at h3
                    exact h3
                  · have q2 : s_stl p1 = s_stl (s_pr p7 nr b9 q9 (hi - lo + 1) (s_tp p nr)) := s_stl.v (funext fun i => (hv9.1 T_PARR i rfl).2.2) hv9.2
                    rw [← q2] at u1 u3 u4 ⊢
                    rw [Nat.add_assoc a, Nat.add_assoc b] at u3
                    exact k lo hi dv hlh hhi (by omega) elo ehi edv hall h10 p1 (1 + 1 + (hi - lo + 1) + x9) (8 + (hi - lo + 1) + 11 * (hi - lo + 1) + y9) (by omega) (by omega) ((hxr.mono (fun t i hti => (Bool.or_eq_false_iff.mp hti).1)).trans ((s_xv.xw hv9).mono (fun t i hti => (Bool.or_eq_false_iff.mp hti).2))) ((hv9.1 T_PARR nr rfl).2.2.trans hlen) ((congrFun hv9.2 nr).trans hbas) p' c' u1 u2 u3 u4
                · exact w_thr1 (is := 61) (sp := 686) (tx := "there are 10 ranks") (by decide) rfl rfl (by simp) dX11_rank_65 dX11_rank_68 (Or.inl ⟨dX11_rank_69, dX11_rank_71, dX11_rank_74⟩) ⟨rfl, kx1 ⟨h1, h2, h3, h4, h5, h6, h7⟩ (fun z => c62 ((nI_ltI (b := 10) (by omega) (by omega)).mpr z))⟩
              · exact ⟨rfl, rfl, kx0 (fun u => h7 (u.2.2.2.2.2.2))⟩
            · exact ⟨rfl, rfl, kx0 (fun u => h6 (u.2.2.2.2.2.1))⟩
          · exact ⟨rfl, rfl, kx0 (fun u => h5 (u.2.2.2.2.1))⟩
        · exact ⟨rfl, rfl, kx0 (fun u => h4 (u.2.2.2.1))⟩
      · exact ⟨rfl, rfl, kx0 (fun u => h3 (u.2.2.1))⟩
    · exact ⟨rfl, rfl, kx0 (fun u => h2 (u.2.1))⟩
  · exact ⟨rfl, rfl, kx0 (fun u => h1 (u.1))⟩
