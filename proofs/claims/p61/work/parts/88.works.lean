/-! 88: the works are made (printed by wip/whole/p88.py) -/
def s_K1 : List Nat := [T_KEYS, T_A_pressed, T_A_pressedAt, T_A_lowest, T_A_highest]
def s_K2 : List Nat := T_CONS :: s_LC
def s_K3 : List Nat := [T_TAPE, T_ENTR]
def s_K5 : List Nat := [T_A_supplies, T_A_winds, T_A_openings, T_A_temperings, T_A_uses, T_A_ways]
def s_K12 : List Nat := s_K1 ++ s_K2
def s_K13 : List Nat := s_K12 ++ s_K3
def s_KW : List Nat := s_K13 ++ s_K5
/-- the single things of these types are there -/
def s_vl (L : List Nat) (p : e_Sp) : Prop := ∀ t, t ∈ L → p.2.1 t 0 = true
theorem s_vl.xv {L M l : List Nat} {p p' : e_Sp} (h : s_vl L p) (x : s_xv (s_NT M l) p p') (hd : (L.all fun t => !M.contains t && !(decide (t = T_LIST) || decide (t = T_LARR))) = true) : s_vl L p' := fun t ht => by
  have := List.all_eq_true.mp hd t ht
  rw [Bool.and_eq_true] at this
  rw [(x.1 t 0 (s_NT.n (by rw [Bool.or_eq_false_iff]; exact ⟨by simpa using this.1, by simpa using this.2⟩))).2.1]
  exact h t ht
theorem s_vl.pv {L : List Nat} {p : e_Sp} {t i a n : Nat} (h : s_vl L p) : s_vl L (s_pv p t i a n) := fun t ht => s_pv_k (h t ht)
theorem s_vl.app {L M : List Nat} {p : e_Sp} (h : s_vl L p) (h' : s_vl M p) : s_vl (L ++ M) p := fun t ht => (List.mem_append.mp ht).elim (h t) (h' t)
theorem s_vl.cons {L : List Nat} {p : e_Sp} {t : Nat} (h : p.2.1 t 0 = true) (h' : s_vl L p) : s_vl (t :: L) p := fun t' ht => (List.mem_cons.mp ht).elim (fun z => by rw [z]; exact h) (h' t')
def s_iK (I : e_I) : e_I := s_IKEYS (s_fill (s_fill (s_zKEYS I) f_a_lowest 3 (-1)) f_a_highest 3 (-1)) (-1)
def s_iC (I : e_I) : e_I := s_ICONS (s_uk 3 (s_zCONS I)) 0 0
def s_iT (I : e_I) : e_I := s_ITAPE (s_zTAPE I) 45 45 0 0
def s_iL (I : e_I) : e_I := s_ILIST I 0 0 0
def s_iW0 (I : e_I) : e_I := s_z (s_z (s_z (s_z (s_z (s_z (s_iL (s_iT (s_iC (s_iK I)))) f_a_supplies 0 3) f_a_winds 0 3) f_a_openings 0 3) f_a_temperings 0 12) f_a_uses 0 3) f_a_ways 0 183
def s_iW (I : e_I) : e_I := s_fill (s_fill (s_fill (s_iW0 I) f_a_supplies 3 50) f_a_winds 3 100) f_a_openings 3 10
def s_fW (p : e_Sp) (f : Nat → Value) : Nat → Value := s_fu (s_fu (s_fu (s_fu (s_fu (s_fu (s_fu (s_fu (s_fu (s_fu f 0 (.ref (p.1 T_KEYS 0))) 1 (.ref (p.1 T_CONS 0))) 2 (.ref (p.1 T_TAPE 0))) 3 (.ref (p.1 T_LIST 0))) 9 (.ref (p.1 T_A_supplies 0))) 10 (.ref (p.1 T_A_winds 0))) 11 (.ref (p.1 T_A_openings 0))) 12 (.ref (p.1 T_A_temperings 0))) 13 (.ref (p.1 T_A_uses 0))) 14 (.ref (p.1 T_A_ways 0))
set_option maxRecDepth 100000 in
set_option maxHeartbeats 4000000 in
theorem l_X10_init {X : e_XT} {d : Nat} {p : e_Sp} {I : e_I} {J : e_Jt} {c : Nat × Nat} {w : e_Rw1} {Q : e_Rt → e_SS → Prop} {b : Nat} {f : Nat → Value} (hv : s_vl s_K5 p) (k : Q (.inl none) (p, s_fill (s_fill (s_fill I f_a_supplies 3 50) f_a_winds 3 100) f_a_openings 3 10, J, c, s_rw w b (14, 0, s_fW p f))) : s_w X (d + 8) K_X10_init 93 [some (.ref b)] [] (p, I, J, c, s_rw w b (14, 0, s_fW p f)) (fun r S' => e_rcr (none) r = true ∧ Q r S') := by
  refine w_op (pc' := 94) dX10_init_93 rfl ?_
  refine t_getR (v := .ref (p.1 T_A_supplies 0)) dX10_init_94 rfl rfl ?_
  refine w_bipush (v := 50) dX10_init_97 rfl ?_
  refine t_callS (As := [_, _]) dX10_init_99 rfl rM_J7_fill_53178 (by decide) rfl rfl (by decide) (Nat.le_of_ble_eq_true rfl) (c_fill (F := f_a_supplies) rfl (by decide) (by decide) rfl (hv _ (by decide)) (by decide) ?_)
  show s_w _ _ _ 102 _ _ _ _
  refine w_op (pc' := 103) dX10_init_102 rfl ?_
  refine t_getR (v := .ref (p.1 T_A_winds 0)) dX10_init_103 rfl rfl ?_
  refine w_bipush (v := 100) dX10_init_106 rfl ?_
  refine t_callS (As := [_, _]) dX10_init_108 rfl rM_J7_fill_53178 (by decide) rfl rfl (by decide) (Nat.le_of_ble_eq_true rfl) (c_fill (F := f_a_winds) rfl (by decide) (by decide) rfl (hv _ (by decide)) (by decide) ?_)
  show s_w _ _ _ 111 _ _ _ _
  refine w_op (pc' := 112) dX10_init_111 rfl ?_
  refine t_getR (v := .ref (p.1 T_A_openings 0)) dX10_init_112 rfl rfl ?_
  refine w_bipush (v := 10) dX10_init_115 rfl ?_
  refine t_callS (As := [_, _]) dX10_init_117 rfl rM_J7_fill_53178 (by decide) rfl rfl (by decide) (Nat.le_of_ble_eq_true rfl) (c_fill (F := f_a_openings) rfl (by decide) (by decide) rfl (hv _ (by decide)) (by decide) ?_)
  show s_w _ _ _ 120 _ _ _ _
  exact w_return dX10_init_120 ⟨rfl, k⟩
set_option maxRecDepth 100000 in
set_option maxHeartbeats 4000000 in
theorem c_X10_init {X : e_XT} {d : Nat} {p : e_Sp} {I : e_I} {J : e_Jt} {c : Nat × Nat} {w : e_Rw1} {Q : e_Rt → e_SS → Prop} {b : Nat} {f : Nat → Value} (hN : ∀ t, t ∈ T_HALL :: T_WORKS :: T_STOP :: s_KW → ∀ i, p.2.1 t i = false) (hN0 : p.2.1 T_LIST 0 = false) (hN1 : p.2.1 T_LIST 1 = false) (hA0 : p.1 T_LARR 0 = e_xb + 8) (hA1 : p.1 T_LARR 1 = e_xb + 8) (hsgM : ∀ j, p.2.1 T_MODEL j = true → j = 0) (hX : (X 8).1 = 0) (hc : c.1 + 60 < e_xb) (k : ∀ p' c', s_xv (s_NT s_KW [0, 1]) p p' → s_vl ((s_K1 ++ [T_CONS, T_A_operations, T_A_sources, T_A_others, T_A_relaysOn]) ++ [T_TAPE, T_ENTR]) p' → s_vl s_K5 p' → p'.2.1 T_LIST 0 = true → p'.1 T_LARR 0 = e_xb + 8 → s_La p' (s_iW0 I) 1 3 → (∀ k, p'.2.1 T_KNOB k = decide (k < 3)) → (∀ k, p'.2.1 T_COUP k = decide (k < 3)) → p'.2.2.1 T_ENTR 0 = 256 → (∀ j, p'.2.1 T_CONS j = true → j = 0) → (∀ j, p'.2.1 T_TAPE j = true → j = 0) → (c'.1 ≤ c.1 + 40 ∧ c'.2 ≤ c.2 + 1000) → Q (.inl none) (p', s_iW I, J, c', s_rw w b (14, 0, s_fW p' f))) : s_c X (d + 8) 107 [.ref b] (p, I, J, c, s_rw w b (14, 0, f)) Q := by
  refine m_X10_init (Nat.le_of_ble_eq_true rfl) ?_
  show s_w _ _ _ 0 _ _ _ _
  refine w_op (pc' := 1) dX10_init_0 rfl ?_
  refine w_objinit (by decide) rfl (Nat.le_of_ble_eq_true rfl) dX10_init_1 ?_
  refine w_op (pc' := 5) dX10_init_4 rfl ?_
  refine t_new dX10_init_5 rfl (show c.1 < e_xb by omega) (fun a5 ha5 => ?_)
  refine w_op (pc' := 9) dX10_init_8 rfl ?_
  refine t_callI (As := []) dX10_init_9 rfl rM_X3_init (by decide) (by decide) rfl rfl rfl (Nat.le_of_ble_eq_true rfl) (c_X3_init (fun t ht i9 => hN t (by revert t; decide) i9) (show c.1 + 1 + 4 < e_xb by omega) (fun q1 hx1 hv1 => ?_))
  refine ⟨rfl, ?_⟩
  refine w_ghost (S' := (s_pv q1 T_KEYS 0 a5 0, s_iK I, J, (c.1 + 5, c.2 + 377), s_rw w b (14, 0, f))) (fun h hs => hs.pubKEYS ((hx1.1 T_KEYS 0 rfl).2.1.trans (hN _ (by decide) 0)) ha5.1 rfl rfl rfl rfl rfl (fun j9 => (hx1.1 T_HALL j9 (s_NT.n (by decide))).2.1.trans (hN _ (by decide) j9)) (fun j9 => (hx1.1 T_WORKS j9 (s_NT.n (by decide))).2.1.trans (hN _ (by decide) j9))) ?_
  have hxa : s_xv (s_NT s_K1 []) p (s_pv q1 T_KEYS 0 a5 0) := (hx1.mono (s_NT.mono (by decide))).trans (s_xv.pv (s_NT.y (by decide)))
  have va : s_vl s_K1 (s_pv q1 T_KEYS 0 a5 0) := s_vl.cons s_pv_v (s_vl.pv hv1)
  have ea : (s_pv q1 T_KEYS 0 a5 0).1 T_KEYS 0 = a5 := s_pv_s
  clear hx1 hv1
  generalize s_pv q1 T_KEYS 0 a5 0 = qa at hxa va ea ⊢
  refine t_putR dX10_init_12 rfl rfl (Or.inr ⟨rfl, rfl, rfl⟩) ?_
  refine w_op (pc' := 16) dX10_init_15 rfl ?_
  refine t_new dX10_init_16 rfl (show c.1 + 5 < e_xb by omega) (fun a19 ha19 => ?_)
  refine w_op (pc' := 20) dX10_init_19 rfl ?_
  refine t_callI (As := []) dX10_init_20 rfl rM_X0_init (by decide) (by decide) rfl rfl rfl (Nat.le_of_ble_eq_true rfl) (c_X0_init (fun t ht i9 => (hxa.1 t i9 (s_NT.n (by revert t; decide))).2.1.trans (hN t (by revert t; decide) i9)) ((hxa.1 T_LIST 1 rfl).2.1.trans hN1) ((hxa.1 T_LARR 1 rfl).1.trans hA1) (fun j9 hj9 => hsgM j9 (by rw [(hxa.1 T_MODEL j9 (s_NT.n (by decide))).2.1] at hj9; exact hj9)) (fun j9 hj9 => by rw [(hxa.1 T_WORKS j9 (s_NT.n (by decide))).2.1, hN _ (by decide)] at hj9; cases hj9) hX (show c.1 + 5 + 1 + 20 < e_xb by omega) (fun q2 c2 hx2 hL2 hv2 hk2 hk3 hc2 => ?_))
  refine ⟨rfl, ?_⟩
  refine w_ghost (S' := (s_pv q2 T_CONS 0 a19 0, s_iC (s_iK I), J, c2, s_rw w b (14, 0, s_fu f 0 (.ref a5)))) (fun h hs => hs.pubCONS ((hx2.1 T_CONS 0 rfl).2.1.trans ((hxa.1 T_CONS 0 rfl).2.1.trans (hN _ (by decide) 0))) ha19.1 rfl rfl rfl rfl rfl rfl rfl (fun j9 => (hx2.1 T_HALL j9 (s_NT.n (by decide))).2.1.trans ((hxa.1 T_HALL j9 (s_NT.n (by decide))).2.1.trans (hN _ (by decide) j9))) (fun j9 => (hx2.1 T_WORKS j9 (s_NT.n (by decide))).2.1.trans ((hxa.1 T_WORKS j9 (s_NT.n (by decide))).2.1.trans (hN _ (by decide) j9)))) ?_
  have hxc : s_xv (s_NT s_K12 [1]) p (s_pv q2 T_CONS 0 a19 0) := ((hxa.mono (s_NT.mono (by decide))).trans (hx2.mono (s_NT.mono (by decide)))).trans (s_xv.pv (s_NT.y (by decide)))
  have vc : s_vl (s_K1 ++ [T_CONS, T_A_operations, T_A_sources, T_A_others, T_A_relaysOn]) (s_pv q2 T_CONS 0 a19 0) := ((va.xv hx2 (by decide)).pv).app (s_vl.cons s_pv_v (s_vl.pv hv2))
  have eac : (s_pv q2 T_CONS 0 a19 0).1 T_KEYS 0 = a5 := (s_pv_n (fun z => absurd z.1 (by decide))).trans ((hx2.1 T_KEYS 0 rfl).1.trans ea)
  have ec : (s_pv q2 T_CONS 0 a19 0).1 T_CONS 0 = a19 := s_pv_s
  have hLc : s_La (s_pv q2 T_CONS 0 a19 0) (s_iC (s_iK I)) 1 3 := hL2.pv (by decide) (by unfold s_iC s_ICONS; rw [s_up_F (by decide), s_up_F (by decide)])
  have hkc : ∀ k9, (s_pv q2 T_CONS 0 a19 0).2.1 T_KNOB k9 = decide (k9 < 3) := fun k9 => (s_pv_nv (fun z => absurd z.1 (by decide))).trans (hk2 k9)
  have hcc : ∀ k9, (s_pv q2 T_CONS 0 a19 0).2.1 T_COUP k9 = decide (k9 < 3) := fun k9 => (s_pv_nv (fun z => absurd z.1 (by decide))).trans (hk3 k9)
  have hb1 : c2.1 ≤ c.1 + 18 := Nat.le_trans hc2.1 (by show c.1 + 5 + 1 + 12 ≤ _; omega)
  have hb2 : c2.2 ≤ c.2 + 510 := Nat.le_trans hc2.2 (by show c.2 + 377 + 7 + 120 ≤ _; omega)
  have hsC : ∀ j9, (s_pv q2 T_CONS 0 a19 0).2.1 T_CONS j9 = true → j9 = 0 := fun j9 hj9 => Decidable.byContradiction (fun e => by rw [s_pv_nv (fun z => e z.2), (hx2.1 T_CONS j9 (s_NT.n (by decide))).2.1, (hxa.1 T_CONS j9 (s_NT.n (by decide))).2.1, hN _ (by decide)] at hj9; cases hj9)
  clear hx2 hL2 hk2 hk3 hv2 hxa va ea
  generalize s_pv q2 T_CONS 0 a19 0 = qc at hsC hxc vc eac ec hLc hkc hcc ⊢
  refine t_putR dX10_init_23 rfl rfl (Or.inr ⟨rfl, rfl, rfl⟩) ?_
  refine w_op (pc' := 27) dX10_init_26 rfl ?_
  refine t_new dX10_init_27 rfl (show c2.1 < e_xb by omega) (fun a28 ha28 => ?_)
  refine w_op (pc' := 31) dX10_init_30 rfl ?_
  refine t_callI (As := []) dX10_init_31 rfl rM_X9_init (by decide) (by decide) rfl rfl rfl (Nat.le_of_ble_eq_true rfl) (c_X9_init (fun t ht i9 => (hxc.1 t i9 (s_NT.n (by revert t; decide))).2.1.trans (hN t (by revert t; decide) i9)) (show c2.1 + 1 + 1 < e_xb by omega) (fun q3 hx3 hv3 hlen3 => ?_))
  refine ⟨rfl, ?_⟩
  refine w_ghost (S' := (s_pv q3 T_TAPE 0 a28 0, s_iT (s_iC (s_iK I)), J, (c2.1 + 2, c2.2 + 261), s_rw w b (14, 0, s_fu (s_fu f 0 (.ref a5)) 1 (.ref a19)))) (fun h hs => hs.pubTAPE ((hx3.1 T_TAPE 0 rfl).2.1.trans ((hxc.1 T_TAPE 0 rfl).2.1.trans (hN _ (by decide) 0))) ha28.1 rfl rfl rfl rfl rfl (fun j9 => (hx3.1 T_HALL j9 (s_NT.n (by decide))).2.1.trans ((hxc.1 T_HALL j9 (s_NT.n (by decide))).2.1.trans (hN _ (by decide) j9))) (fun j9 => (hx3.1 T_WORKS j9 (s_NT.n (by decide))).2.1.trans ((hxc.1 T_WORKS j9 (s_NT.n (by decide))).2.1.trans (hN _ (by decide) j9)))) ?_
  have hxd : s_xv (s_NT s_K13 [1]) p (s_pv q3 T_TAPE 0 a28 0) := ((hxc.mono (s_NT.mono (by decide))).trans (hx3.mono (s_NT.mono (by decide)))).trans (s_xv.pv (s_NT.y (by decide)))
  have vd : s_vl ((s_K1 ++ [T_CONS, T_A_operations, T_A_sources, T_A_others, T_A_relaysOn]) ++ [T_TAPE, T_ENTR]) (s_pv q3 T_TAPE 0 a28 0) := ((vc.xv hx3 (by decide)).pv).app (s_vl.cons s_pv_v (s_vl.pv hv3))
  have ead : (s_pv q3 T_TAPE 0 a28 0).1 T_KEYS 0 = a5 := (s_pv_n (fun z => absurd z.1 (by decide))).trans ((hx3.1 T_KEYS 0 rfl).1.trans eac)
  have ecd : (s_pv q3 T_TAPE 0 a28 0).1 T_CONS 0 = a19 := (s_pv_n (fun z => absurd z.1 (by decide))).trans ((hx3.1 T_CONS 0 rfl).1.trans ec)
  have etd : (s_pv q3 T_TAPE 0 a28 0).1 T_TAPE 0 = a28 := s_pv_s
  have hLd : s_La (s_pv q3 T_TAPE 0 a28 0) (s_iT (s_iC (s_iK I))) 1 3 := by
    have h9 : s_La q3 (s_iC (s_iK I)) 1 3 := by
      unfold s_La at hLc ⊢
      rw [(hx3.1 T_LIST 1 rfl).2.1, (hx3.1 T_LARR 1 rfl).1, (hx3.1 T_LARR 1 rfl).2.1, (hx3.1 T_LARR 1 rfl).2.2]
      exact hLc
    exact h9.pv (by decide) (by unfold s_iT s_ITAPE s_zTAPE; rw [s_up_F (by decide), s_up_F (by decide), s_up_F (by decide), s_up_F (by decide), s_z_F (by decide)])
  have hkd : ∀ k9, (s_pv q3 T_TAPE 0 a28 0).2.1 T_KNOB k9 = decide (k9 < 3) := fun k9 => (s_pv_nv (fun z => absurd z.1 (by decide))).trans ((hx3.1 T_KNOB k9 (s_NT.n (by decide))).2.1.trans (hkc k9))
  have hcd : ∀ k9, (s_pv q3 T_TAPE 0 a28 0).2.1 T_COUP k9 = decide (k9 < 3) := fun k9 => (s_pv_nv (fun z => absurd z.1 (by decide))).trans ((hx3.1 T_COUP k9 (s_NT.n (by decide))).2.1.trans (hcc k9))
  have hld : (s_pv q3 T_TAPE 0 a28 0).2.2.1 T_ENTR 0 = 256 := (s_pv_nl (fun z => absurd z.1 (by decide))).trans hlen3
  have hsD : ∀ j9, (s_pv q3 T_TAPE 0 a28 0).2.1 T_CONS j9 = true → j9 = 0 := fun j9 hj9 => hsC j9 (by rw [s_pv_nv (fun z => absurd z.1 (by decide)), (hx3.1 T_CONS j9 (s_NT.n (by decide))).2.1] at hj9; exact hj9)
  have hsT : ∀ j9, (s_pv q3 T_TAPE 0 a28 0).2.1 T_TAPE j9 = true → j9 = 0 := fun j9 hj9 => Decidable.byContradiction (fun e => by rw [s_pv_nv (fun z => e z.2), (hx3.1 T_TAPE j9 (s_NT.n (by decide))).2.1, (hxc.1 T_TAPE j9 (s_NT.n (by decide))).2.1, hN _ (by decide)] at hj9; cases hj9)
  clear hx3 hv3 hlen3 hxc vc eac ec hLc hkc hcc hsC
  generalize s_pv q3 T_TAPE 0 a28 0 = qd at hsD hsT hxd vd ead ecd etd hLd hkd hcd hld ⊢
  refine t_putR dX10_init_34 rfl rfl (Or.inr ⟨rfl, rfl, rfl⟩) ?_
  refine w_op (pc' := 38) dX10_init_37 rfl ?_
  refine t_new dX10_init_38 rfl (show c2.1 + 2 < e_xb by omega) (fun a41 ha41 => ?_)
  refine w_op (pc' := 42) dX10_init_41 rfl ?_
  refine t_callI (As := []) dX10_init_42 rfl rM_Jx4a65c_init_da8c8 (by decide) (by decide) rfl rfl rfl (Nat.le_of_ble_eq_true rfl) (c_initL ?_)
  refine ⟨rfl, ?_⟩
  refine w_ghost (S' := (s_pv qd T_LIST 0 a41 0, s_iL (s_iT (s_iC (s_iK I))), J, (c2.1 + 3, c2.2 + 264), s_rw w b (14, 0, s_fu (s_fu (s_fu f 0 (.ref a5)) 1 (.ref a19)) 2 (.ref a28)))) (fun h hs => hs.pubLIST (x0 := 0) (x1 := 0) ((hxd.1 T_LIST 0 rfl).2.1.trans hN0) ha41.1 rfl rfl (by rw [(hxd.1 T_LARR 0 rfl).1, hA0]; rfl) (Or.inr (by decide)) (Or.inr ⟨by decide, by decide, by decide, by decide, by decide, by decide⟩) (Or.inl ((hxd.1 T_WORKS 0 (rfl)).2.1.trans (hN _ (by decide) 0))) rfl (fun j9 hj9 => hsD j9 hj9) (fun j9 hj9 => hsgM j9 (by rw [(hxd.1 T_MODEL j9 (s_NT.n (by decide))).2.1] at hj9; exact hj9)) (fun j9 hj9 => by rw [(hxd.1 T_WORKS j9 (s_NT.n (by decide))).2.1, hN _ (by decide)] at hj9; cases hj9)) ?_
  have hxe : s_xv (s_NT s_K13 [0, 1]) p (s_pv qd T_LIST 0 a41 0) := (hxd.mono (s_NT.mono (by decide))).trans (s_xv.pv rfl)
  refine t_putR dX10_init_45 rfl rfl (Or.inr ⟨rfl, rfl, rfl⟩) ?_
  refine w_op (pc' := 49) dX10_init_48 rfl ?_
  refine w_iconst (v := 3) dX10_init_49 rfl ?_
  refine t_newrow (t := T_A_supplies) (i := 0) (F := f_a_supplies) (G := g_w_supplies) (W := 3) (W' := 3) dX10_init_50 ⟨by decide, by decide⟩ rfl (by decide) (Or.inl rfl) rfl (by decide) (by decide) (by decide +kernel) (by decide +kernel) (by decide +kernel) (by decide +kernel) (by decide) (by decide) (by decide) ((s_pv_nv (fun z => absurd z.1 (by decide))).trans ((hxd.1 T_A_supplies 0 (s_NT.n (by decide))).2.1.trans (hN _ (by decide) 0))) (s_par0 (tt := T_WORKS) rfl (fun i9 => ((s_pv_nv (fun z => absurd z.1 (by decide))).trans ((hxd.1 T_WORKS i9 (s_NT.n (by decide))).2.1.trans (hN _ (by decide) i9))))) (show c2.1 + 3 < e_xb by omega) (fun a50 ha50 => ?_)
  refine t_putR dX10_init_52 rfl rfl (Or.inr ⟨rfl, rfl, rfl⟩) ?_
  refine w_op (pc' := 56) dX10_init_55 rfl ?_
  refine w_iconst (v := 3) dX10_init_56 rfl ?_
  refine t_newrow (t := T_A_winds) (i := 0) (F := f_a_winds) (G := g_w_winds) (W := 3) (W' := 3) dX10_init_57 ⟨by decide, by decide⟩ rfl (by decide) (Or.inl rfl) rfl (by decide) (by decide) (by decide +kernel) (by decide +kernel) (by decide +kernel) (by decide +kernel) (by decide) (by decide) (by decide) ((s_pv_nv (fun z => absurd z.1 (by decide))).trans ((s_pv_nv (fun z => absurd z.1 (by decide))).trans ((hxd.1 T_A_winds 0 (s_NT.n (by decide))).2.1.trans (hN _ (by decide) 0)))) (s_par0 (tt := T_WORKS) rfl (fun i9 => ((s_pv_nv (fun z => absurd z.1 (by decide))).trans ((s_pv_nv (fun z => absurd z.1 (by decide))).trans ((hxd.1 T_WORKS i9 (s_NT.n (by decide))).2.1.trans (hN _ (by decide) i9)))))) (show c2.1 + 3 + 1 < e_xb by omega) (fun a57 ha57 => ?_)
  refine t_putR dX10_init_59 rfl rfl (Or.inr ⟨rfl, rfl, rfl⟩) ?_
  refine w_op (pc' := 63) dX10_init_62 rfl ?_
  refine w_iconst (v := 3) dX10_init_63 rfl ?_
  refine t_newrow (t := T_A_openings) (i := 0) (F := f_a_openings) (G := g_w_openings) (W := 3) (W' := 3) dX10_init_64 ⟨by decide, by decide⟩ rfl (by decide) (Or.inl rfl) rfl (by decide) (by decide) (by decide +kernel) (by decide +kernel) (by decide +kernel) (by decide +kernel) (by decide) (by decide) (by decide) ((s_pv_nv (fun z => absurd z.1 (by decide))).trans ((s_pv_nv (fun z => absurd z.1 (by decide))).trans ((s_pv_nv (fun z => absurd z.1 (by decide))).trans ((hxd.1 T_A_openings 0 (s_NT.n (by decide))).2.1.trans (hN _ (by decide) 0))))) (s_par0 (tt := T_WORKS) rfl (fun i9 => ((s_pv_nv (fun z => absurd z.1 (by decide))).trans ((s_pv_nv (fun z => absurd z.1 (by decide))).trans ((s_pv_nv (fun z => absurd z.1 (by decide))).trans ((hxd.1 T_WORKS i9 (s_NT.n (by decide))).2.1.trans (hN _ (by decide) i9))))))) (show c2.1 + 3 + 1 + 1 < e_xb by omega) (fun a64 ha64 => ?_)
  refine t_putR dX10_init_66 rfl rfl (Or.inr ⟨rfl, rfl, rfl⟩) ?_
  refine w_op (pc' := 70) dX10_init_69 rfl ?_
  refine w_bipush (v := 12) dX10_init_70 rfl ?_
  refine t_newrow (t := T_A_temperings) (i := 0) (F := f_a_temperings) (G := g_w_temperings) (W := 12) (W' := 12) dX10_init_72 ⟨by decide, by decide⟩ rfl (by decide) (Or.inl rfl) rfl (by decide) (by decide) (by decide +kernel) (by decide +kernel) (by decide +kernel) (by decide +kernel) (by decide) (by decide) (by decide) ((s_pv_nv (fun z => absurd z.1 (by decide))).trans ((s_pv_nv (fun z => absurd z.1 (by decide))).trans ((s_pv_nv (fun z => absurd z.1 (by decide))).trans ((s_pv_nv (fun z => absurd z.1 (by decide))).trans ((hxd.1 T_A_temperings 0 (s_NT.n (by decide))).2.1.trans (hN _ (by decide) 0)))))) (s_par0 (tt := T_WORKS) rfl (fun i9 => ((s_pv_nv (fun z => absurd z.1 (by decide))).trans ((s_pv_nv (fun z => absurd z.1 (by decide))).trans ((s_pv_nv (fun z => absurd z.1 (by decide))).trans ((s_pv_nv (fun z => absurd z.1 (by decide))).trans ((hxd.1 T_WORKS i9 (s_NT.n (by decide))).2.1.trans (hN _ (by decide) i9)))))))) (show c2.1 + 3 + 1 + 1 + 1 < e_xb by omega) (fun a72 ha72 => ?_)
  refine t_putR dX10_init_74 rfl rfl (Or.inr ⟨rfl, rfl, rfl⟩) ?_
  refine w_op (pc' := 78) dX10_init_77 rfl ?_
  refine w_iconst (v := 3) dX10_init_78 rfl ?_
  refine t_newrow (t := T_A_uses) (i := 0) (F := f_a_uses) (G := g_w_uses) (W := 3) (W' := 3) dX10_init_79 ⟨by decide, by decide⟩ rfl (by decide) (Or.inl rfl) rfl (by decide) (by decide) (by decide +kernel) (by decide +kernel) (by decide +kernel) (by decide +kernel) (by decide) (by decide) (by decide) ((s_pv_nv (fun z => absurd z.1 (by decide))).trans ((s_pv_nv (fun z => absurd z.1 (by decide))).trans ((s_pv_nv (fun z => absurd z.1 (by decide))).trans ((s_pv_nv (fun z => absurd z.1 (by decide))).trans ((s_pv_nv (fun z => absurd z.1 (by decide))).trans ((hxd.1 T_A_uses 0 (s_NT.n (by decide))).2.1.trans (hN _ (by decide) 0))))))) (s_par0 (tt := T_WORKS) rfl (fun i9 => ((s_pv_nv (fun z => absurd z.1 (by decide))).trans ((s_pv_nv (fun z => absurd z.1 (by decide))).trans ((s_pv_nv (fun z => absurd z.1 (by decide))).trans ((s_pv_nv (fun z => absurd z.1 (by decide))).trans ((s_pv_nv (fun z => absurd z.1 (by decide))).trans ((hxd.1 T_WORKS i9 (s_NT.n (by decide))).2.1.trans (hN _ (by decide) i9))))))))) (show c2.1 + 3 + 1 + 1 + 1 + 1 < e_xb by omega) (fun a79 ha79 => ?_)
  refine t_putR dX10_init_81 rfl rfl (Or.inr ⟨rfl, rfl, rfl⟩) ?_
  refine w_op (pc' := 85) dX10_init_84 rfl ?_
  refine w_sipush (v := 183) dX10_init_85 rfl ?_
  refine t_newrow (t := T_A_ways) (i := 0) (F := f_a_ways) (G := g_w_ways) (W := 183) (W' := 183) dX10_init_88 ⟨by decide, by decide⟩ rfl (by decide) (Or.inl rfl) rfl (by decide) (by decide) (by decide +kernel) (by decide +kernel) (by decide +kernel) (by decide +kernel) (by decide) (by decide) (by decide) ((s_pv_nv (fun z => absurd z.1 (by decide))).trans ((s_pv_nv (fun z => absurd z.1 (by decide))).trans ((s_pv_nv (fun z => absurd z.1 (by decide))).trans ((s_pv_nv (fun z => absurd z.1 (by decide))).trans ((s_pv_nv (fun z => absurd z.1 (by decide))).trans ((s_pv_nv (fun z => absurd z.1 (by decide))).trans ((hxd.1 T_A_ways 0 (s_NT.n (by decide))).2.1.trans (hN _ (by decide) 0)))))))) (s_par0 (tt := T_WORKS) rfl (fun i9 => ((s_pv_nv (fun z => absurd z.1 (by decide))).trans ((s_pv_nv (fun z => absurd z.1 (by decide))).trans ((s_pv_nv (fun z => absurd z.1 (by decide))).trans ((s_pv_nv (fun z => absurd z.1 (by decide))).trans ((s_pv_nv (fun z => absurd z.1 (by decide))).trans ((s_pv_nv (fun z => absurd z.1 (by decide))).trans ((hxd.1 T_WORKS i9 (s_NT.n (by decide))).2.1.trans (hN _ (by decide) i9)))))))))) (show c2.1 + 3 + 1 + 1 + 1 + 1 + 1 < e_xb by omega) (fun a88 ha88 => ?_)
  refine t_putR dX10_init_90 rfl rfl (Or.inr ⟨rfl, rfl, rfl⟩) ?_
  have hxf : s_xv (s_NT s_KW [0, 1]) p (s_pv (s_pv (s_pv (s_pv (s_pv (s_pv (s_pv qd T_LIST 0 a41 0) T_A_supplies 0 a50 3) T_A_winds 0 a57 3) T_A_openings 0 a64 3) T_A_temperings 0 a72 12) T_A_uses 0 a79 3) T_A_ways 0 a88 183) := ((((((hxe.mono (s_NT.mono (by decide))).trans (s_xv.pv (s_NT.y (by decide)))).trans (s_xv.pv (s_NT.y (by decide)))).trans (s_xv.pv (s_NT.y (by decide)))).trans (s_xv.pv (s_NT.y (by decide)))).trans (s_xv.pv (s_NT.y (by decide)))).trans (s_xv.pv (s_NT.y (by decide)))
  have e0 : (s_pv (s_pv (s_pv (s_pv (s_pv (s_pv (s_pv qd T_LIST 0 a41 0) T_A_supplies 0 a50 3) T_A_winds 0 a57 3) T_A_openings 0 a64 3) T_A_temperings 0 a72 12) T_A_uses 0 a79 3) T_A_ways 0 a88 183).1 T_KEYS 0 = a5 := ((s_pv_n (fun z => absurd z.1 (by decide))).trans ((s_pv_n (fun z => absurd z.1 (by decide))).trans ((s_pv_n (fun z => absurd z.1 (by decide))).trans ((s_pv_n (fun z => absurd z.1 (by decide))).trans ((s_pv_n (fun z => absurd z.1 (by decide))).trans ((s_pv_n (fun z => absurd z.1 (by decide))).trans ((s_pv_n (fun z => absurd z.1 (by decide))).trans ead)))))))
  have e1 : (s_pv (s_pv (s_pv (s_pv (s_pv (s_pv (s_pv qd T_LIST 0 a41 0) T_A_supplies 0 a50 3) T_A_winds 0 a57 3) T_A_openings 0 a64 3) T_A_temperings 0 a72 12) T_A_uses 0 a79 3) T_A_ways 0 a88 183).1 T_CONS 0 = a19 := ((s_pv_n (fun z => absurd z.1 (by decide))).trans ((s_pv_n (fun z => absurd z.1 (by decide))).trans ((s_pv_n (fun z => absurd z.1 (by decide))).trans ((s_pv_n (fun z => absurd z.1 (by decide))).trans ((s_pv_n (fun z => absurd z.1 (by decide))).trans ((s_pv_n (fun z => absurd z.1 (by decide))).trans ((s_pv_n (fun z => absurd z.1 (by decide))).trans ecd)))))))
  have e2 : (s_pv (s_pv (s_pv (s_pv (s_pv (s_pv (s_pv qd T_LIST 0 a41 0) T_A_supplies 0 a50 3) T_A_winds 0 a57 3) T_A_openings 0 a64 3) T_A_temperings 0 a72 12) T_A_uses 0 a79 3) T_A_ways 0 a88 183).1 T_TAPE 0 = a28 := ((s_pv_n (fun z => absurd z.1 (by decide))).trans ((s_pv_n (fun z => absurd z.1 (by decide))).trans ((s_pv_n (fun z => absurd z.1 (by decide))).trans ((s_pv_n (fun z => absurd z.1 (by decide))).trans ((s_pv_n (fun z => absurd z.1 (by decide))).trans ((s_pv_n (fun z => absurd z.1 (by decide))).trans ((s_pv_n (fun z => absurd z.1 (by decide))).trans etd)))))))
  have e3 : (s_pv (s_pv (s_pv (s_pv (s_pv (s_pv (s_pv qd T_LIST 0 a41 0) T_A_supplies 0 a50 3) T_A_winds 0 a57 3) T_A_openings 0 a64 3) T_A_temperings 0 a72 12) T_A_uses 0 a79 3) T_A_ways 0 a88 183).1 T_LIST 0 = a41 := ((s_pv_n (fun z => absurd z.1 (by decide))).trans ((s_pv_n (fun z => absurd z.1 (by decide))).trans ((s_pv_n (fun z => absurd z.1 (by decide))).trans ((s_pv_n (fun z => absurd z.1 (by decide))).trans ((s_pv_n (fun z => absurd z.1 (by decide))).trans ((s_pv_n (fun z => absurd z.1 (by decide))).trans s_pv_s))))))
  have e4 : (s_pv (s_pv (s_pv (s_pv (s_pv (s_pv (s_pv qd T_LIST 0 a41 0) T_A_supplies 0 a50 3) T_A_winds 0 a57 3) T_A_openings 0 a64 3) T_A_temperings 0 a72 12) T_A_uses 0 a79 3) T_A_ways 0 a88 183).1 T_A_supplies 0 = a50 := ((s_pv_n (fun z => absurd z.1 (by decide))).trans ((s_pv_n (fun z => absurd z.1 (by decide))).trans ((s_pv_n (fun z => absurd z.1 (by decide))).trans ((s_pv_n (fun z => absurd z.1 (by decide))).trans ((s_pv_n (fun z => absurd z.1 (by decide))).trans s_pv_s)))))
  have e5 : (s_pv (s_pv (s_pv (s_pv (s_pv (s_pv (s_pv qd T_LIST 0 a41 0) T_A_supplies 0 a50 3) T_A_winds 0 a57 3) T_A_openings 0 a64 3) T_A_temperings 0 a72 12) T_A_uses 0 a79 3) T_A_ways 0 a88 183).1 T_A_winds 0 = a57 := ((s_pv_n (fun z => absurd z.1 (by decide))).trans ((s_pv_n (fun z => absurd z.1 (by decide))).trans ((s_pv_n (fun z => absurd z.1 (by decide))).trans ((s_pv_n (fun z => absurd z.1 (by decide))).trans s_pv_s))))
  have e6 : (s_pv (s_pv (s_pv (s_pv (s_pv (s_pv (s_pv qd T_LIST 0 a41 0) T_A_supplies 0 a50 3) T_A_winds 0 a57 3) T_A_openings 0 a64 3) T_A_temperings 0 a72 12) T_A_uses 0 a79 3) T_A_ways 0 a88 183).1 T_A_openings 0 = a64 := ((s_pv_n (fun z => absurd z.1 (by decide))).trans ((s_pv_n (fun z => absurd z.1 (by decide))).trans ((s_pv_n (fun z => absurd z.1 (by decide))).trans s_pv_s)))
  have e7 : (s_pv (s_pv (s_pv (s_pv (s_pv (s_pv (s_pv qd T_LIST 0 a41 0) T_A_supplies 0 a50 3) T_A_winds 0 a57 3) T_A_openings 0 a64 3) T_A_temperings 0 a72 12) T_A_uses 0 a79 3) T_A_ways 0 a88 183).1 T_A_temperings 0 = a72 := ((s_pv_n (fun z => absurd z.1 (by decide))).trans ((s_pv_n (fun z => absurd z.1 (by decide))).trans s_pv_s))
  have e8 : (s_pv (s_pv (s_pv (s_pv (s_pv (s_pv (s_pv qd T_LIST 0 a41 0) T_A_supplies 0 a50 3) T_A_winds 0 a57 3) T_A_openings 0 a64 3) T_A_temperings 0 a72 12) T_A_uses 0 a79 3) T_A_ways 0 a88 183).1 T_A_uses 0 = a79 := ((s_pv_n (fun z => absurd z.1 (by decide))).trans s_pv_s)
  have e9 : (s_pv (s_pv (s_pv (s_pv (s_pv (s_pv (s_pv qd T_LIST 0 a41 0) T_A_supplies 0 a50 3) T_A_winds 0 a57 3) T_A_openings 0 a64 3) T_A_temperings 0 a72 12) T_A_uses 0 a79 3) T_A_ways 0 a88 183).1 T_A_ways 0 = a88 := s_pv_s
  have v5 : s_vl s_K5 (s_pv (s_pv (s_pv (s_pv (s_pv (s_pv (s_pv qd T_LIST 0 a41 0) T_A_supplies 0 a50 3) T_A_winds 0 a57 3) T_A_openings 0 a64 3) T_A_temperings 0 a72 12) T_A_uses 0 a79 3) T_A_ways 0 a88 183) := s_vl.cons (s_pv_k (s_pv_k (s_pv_k (s_pv_k (s_pv_k s_pv_v))))) (s_vl.cons (s_pv_k (s_pv_k (s_pv_k (s_pv_k s_pv_v)))) (s_vl.cons (s_pv_k (s_pv_k (s_pv_k s_pv_v))) (s_vl.cons (s_pv_k (s_pv_k s_pv_v)) (s_vl.cons (s_pv_k s_pv_v) (s_vl.cons s_pv_v (fun _ h9 => nomatch h9))))))
  have v6 := ((((((vd.pv (t := T_LIST) (i := 0) (a := a41) (n := 0)).pv (t := T_A_supplies) (i := 0) (a := a50) (n := 3)).pv (t := T_A_winds) (i := 0) (a := a57) (n := 3)).pv (t := T_A_openings) (i := 0) (a := a64) (n := 3)).pv (t := T_A_temperings) (i := 0) (a := a72) (n := 12)).pv (t := T_A_uses) (i := 0) (a := a79) (n := 3)).pv (t := T_A_ways) (i := 0) (a := a88) (n := 183)
  have hl0 : (s_pv (s_pv (s_pv (s_pv (s_pv (s_pv (s_pv qd T_LIST 0 a41 0) T_A_supplies 0 a50 3) T_A_winds 0 a57 3) T_A_openings 0 a64 3) T_A_temperings 0 a72 12) T_A_uses 0 a79 3) T_A_ways 0 a88 183).2.1 T_LIST 0 = true := (s_pv_k (s_pv_k (s_pv_k (s_pv_k (s_pv_k (s_pv_k s_pv_v))))))
  have hA9 : (s_pv (s_pv (s_pv (s_pv (s_pv (s_pv (s_pv qd T_LIST 0 a41 0) T_A_supplies 0 a50 3) T_A_winds 0 a57 3) T_A_openings 0 a64 3) T_A_temperings 0 a72 12) T_A_uses 0 a79 3) T_A_ways 0 a88 183).1 T_LARR 0 = e_xb + 8 := ((s_pv_n (fun z => absurd z.1 (by decide))).trans ((s_pv_n (fun z => absurd z.1 (by decide))).trans ((s_pv_n (fun z => absurd z.1 (by decide))).trans ((s_pv_n (fun z => absurd z.1 (by decide))).trans ((s_pv_n (fun z => absurd z.1 (by decide))).trans ((s_pv_n (fun z => absurd z.1 (by decide))).trans ((s_pv_n (fun z => absurd z.1 (by decide))).trans ((hxd.1 T_LARR 0 rfl).1.trans hA0))))))))
  have hL9 : s_La (s_pv (s_pv (s_pv (s_pv (s_pv (s_pv (s_pv qd T_LIST 0 a41 0) T_A_supplies 0 a50 3) T_A_winds 0 a57 3) T_A_openings 0 a64 3) T_A_temperings 0 a72 12) T_A_uses 0 a79 3) T_A_ways 0 a88 183) (s_iW0 I) 1 3 := by
    have e9 : s_iW0 I f_l_size 1 = s_iT (s_iC (s_iK I)) f_l_size 1 := by (unfold s_iW0 s_iL s_ILIST; rw [s_z_F (by decide), s_z_F (by decide), s_z_F (by decide), s_z_F (by decide), s_z_F (by decide), s_z_F (by decide), s_up_i (by decide), s_up_i (by decide)])
    exact ((((((hLd.pv (I' := s_iT (s_iC (s_iK I))) (by decide) rfl).pv (I' := s_iT (s_iC (s_iK I))) (by decide) rfl).pv (I' := s_iT (s_iC (s_iK I))) (by decide) rfl).pv (I' := s_iT (s_iC (s_iK I))) (by decide) rfl).pv (I' := s_iT (s_iC (s_iK I))) (by decide) rfl).pv (I' := s_iT (s_iC (s_iK I))) (by decide) rfl).pv (by decide) e9
  have hk9 : ∀ k9, (s_pv (s_pv (s_pv (s_pv (s_pv (s_pv (s_pv qd T_LIST 0 a41 0) T_A_supplies 0 a50 3) T_A_winds 0 a57 3) T_A_openings 0 a64 3) T_A_temperings 0 a72 12) T_A_uses 0 a79 3) T_A_ways 0 a88 183).2.1 T_KNOB k9 = decide (k9 < 3) := fun k9 => ((s_pv_nv (fun z => absurd z.1 (by decide))).trans ((s_pv_nv (fun z => absurd z.1 (by decide))).trans ((s_pv_nv (fun z => absurd z.1 (by decide))).trans ((s_pv_nv (fun z => absurd z.1 (by decide))).trans ((s_pv_nv (fun z => absurd z.1 (by decide))).trans ((s_pv_nv (fun z => absurd z.1 (by decide))).trans ((s_pv_nv (fun z => absurd z.1 (by decide))).trans (hkd k9))))))))
  have hc9 : ∀ k9, (s_pv (s_pv (s_pv (s_pv (s_pv (s_pv (s_pv qd T_LIST 0 a41 0) T_A_supplies 0 a50 3) T_A_winds 0 a57 3) T_A_openings 0 a64 3) T_A_temperings 0 a72 12) T_A_uses 0 a79 3) T_A_ways 0 a88 183).2.1 T_COUP k9 = decide (k9 < 3) := fun k9 => ((s_pv_nv (fun z => absurd z.1 (by decide))).trans ((s_pv_nv (fun z => absurd z.1 (by decide))).trans ((s_pv_nv (fun z => absurd z.1 (by decide))).trans ((s_pv_nv (fun z => absurd z.1 (by decide))).trans ((s_pv_nv (fun z => absurd z.1 (by decide))).trans ((s_pv_nv (fun z => absurd z.1 (by decide))).trans ((s_pv_nv (fun z => absurd z.1 (by decide))).trans (hcd k9))))))))
  have hl9 : (s_pv (s_pv (s_pv (s_pv (s_pv (s_pv (s_pv qd T_LIST 0 a41 0) T_A_supplies 0 a50 3) T_A_winds 0 a57 3) T_A_openings 0 a64 3) T_A_temperings 0 a72 12) T_A_uses 0 a79 3) T_A_ways 0 a88 183).2.2.1 T_ENTR 0 = 256 := ((s_pv_nl (fun z => absurd z.1 (by decide))).trans ((s_pv_nl (fun z => absurd z.1 (by decide))).trans ((s_pv_nl (fun z => absurd z.1 (by decide))).trans ((s_pv_nl (fun z => absurd z.1 (by decide))).trans ((s_pv_nl (fun z => absurd z.1 (by decide))).trans ((s_pv_nl (fun z => absurd z.1 (by decide))).trans ((s_pv_nl (fun z => absurd z.1 (by decide))).trans hld)))))))
  have hsE : ∀ j9, (s_pv (s_pv (s_pv (s_pv (s_pv (s_pv (s_pv qd T_LIST 0 a41 0) T_A_supplies 0 a50 3) T_A_winds 0 a57 3) T_A_openings 0 a64 3) T_A_temperings 0 a72 12) T_A_uses 0 a79 3) T_A_ways 0 a88 183).2.1 T_CONS j9 = true → j9 = 0 := fun j9 hj9 => hsD j9 (by rw [s_pv_nv (fun z => absurd z.1 (by decide)), s_pv_nv (fun z => absurd z.1 (by decide)), s_pv_nv (fun z => absurd z.1 (by decide)), s_pv_nv (fun z => absurd z.1 (by decide)), s_pv_nv (fun z => absurd z.1 (by decide)), s_pv_nv (fun z => absurd z.1 (by decide)), s_pv_nv (fun z => absurd z.1 (by decide))] at hj9; exact hj9)
  have hsF : ∀ j9, (s_pv (s_pv (s_pv (s_pv (s_pv (s_pv (s_pv qd T_LIST 0 a41 0) T_A_supplies 0 a50 3) T_A_winds 0 a57 3) T_A_openings 0 a64 3) T_A_temperings 0 a72 12) T_A_uses 0 a79 3) T_A_ways 0 a88 183).2.1 T_TAPE j9 = true → j9 = 0 := fun j9 hj9 => hsT j9 (by rw [s_pv_nv (fun z => absurd z.1 (by decide)), s_pv_nv (fun z => absurd z.1 (by decide)), s_pv_nv (fun z => absurd z.1 (by decide)), s_pv_nv (fun z => absurd z.1 (by decide)), s_pv_nv (fun z => absurd z.1 (by decide)), s_pv_nv (fun z => absurd z.1 (by decide)), s_pv_nv (fun z => absurd z.1 (by decide))] at hj9; exact hj9)
  clear hxd vd ead ecd etd hLd hkd hcd hld hxe hsD hsT
  generalize (s_pv (s_pv (s_pv (s_pv (s_pv (s_pv (s_pv qd T_LIST 0 a41 0) T_A_supplies 0 a50 3) T_A_winds 0 a57 3) T_A_openings 0 a64 3) T_A_temperings 0 a72 12) T_A_uses 0 a79 3) T_A_ways 0 a88 183) = pp at hsE hsF hxf e0 e1 e2 e3 e4 e5 e6 e7 e8 e9 v5 v6 hl0 hA9 hL9 hk9 hc9 hl9 ⊢
  subst e0
  subst e1
  subst e2
  subst e3
  subst e4
  subst e5
  subst e6
  subst e7
  subst e8
  subst e9
  refine w_show (S' := (pp, s_iW0 I, J, (c2.1 + 9, c2.2 + 471), s_rw w b (14, 0, s_fW pp f))) rfl ?_
  exact l_X10_init (p := pp) v5 (k pp _ hxf v6 v5 hl0 hA9 hL9 hk9 hc9 hl9 hsE hsF ⟨by show c2.1 + 9 ≤ _; omega, by show c2.2 + 471 ≤ _; omega⟩)
