/-! 89: the hall is made (printed by wip/whole/p89.py) -/
def s_KM : List Nat := [T_MEM, T_A_isSet, T_A_kept, T_A_drawn, T_A_reversibles, T_A_owners, T_A_frameCounts, T_A_frameKept, T_A_frameDrawn]
def s_KO : List Nat := [T_CONT, T_A_chord, T_A_trial, T_A_best]
def s_KH : List Nat := (T_WORKS :: s_KW) ++ (s_KM ++ s_KO)
def s_V0 : List Nat := (s_K1 ++ [T_CONS, T_A_operations, T_A_sources, T_A_others, T_A_relaysOn]) ++ [T_TAPE, T_ENTR]
def s_V1 : List Nat := T_WORKS :: (s_V0 ++ s_K5)
def s_V2 : List Nat := s_V1 ++ s_KM
def s_V3 : List Nat := s_V2 ++ s_KO
def s_iH1 (I : e_I) : e_I := s_IWORKS (s_iW I) 0 0 0 0 0
def s_iH2 (I : e_I) : e_I := s_IMEM (s_fill (s_fill (s_zMEM (s_iH1 I)) f_a_reversibles 16 (-1)) f_a_owners 4 (-1)) 0 0 0
def s_iH (I : e_I) : e_I := s_ICONT (s_zCONT (s_iH2 I)) 0 1 0 0 0
def s_jH (J : e_Jt) : e_Jt := s_zJMEM (s_JWORKS J 0)
def s_fH (p : e_Sp) (f : Nat → Value) : Nat → Value := s_fu (s_fu (s_fu (s_fu (s_fu (s_fu f 0 (.ref (p.1 T_WORKS 0))) 1 (.ref (p.1 T_KEYS 0))) 2 (.ref (p.1 T_CONS 0))) 3 (.ref (p.1 T_TAPE 0))) 4 (.ref (p.1 T_MEM 0))) 5 (.ref (p.1 T_CONT 0))
set_option maxRecDepth 100000 in
set_option maxHeartbeats 4000000 in
theorem c_X11_init {X : e_XT} {d : Nat} {p : e_Sp} {I : e_I} {J : e_Jt} {c : Nat × Nat} {w : e_Rw1} {Q : e_Rt → e_SS → Prop} {b : Nat} {f : Nat → Value} (hN : ∀ t, t ∈ T_HALL :: T_STOP :: s_KH → ∀ i, p.2.1 t i = false) (hN0 : p.2.1 T_LIST 0 = false) (hN1 : p.2.1 T_LIST 1 = false) (hA0 : p.1 T_LARR 0 = e_xb + 8) (hA1 : p.1 T_LARR 1 = e_xb + 8) (hsgM : ∀ j, p.2.1 T_MODEL j = true → j = 0) (hX : (X 8).1 = 0) (hc : c.1 + 100 < e_xb) (k : ∀ p' c', s_xv (s_NT s_KH [0, 1]) p p' → s_vl s_V3 p' → p'.2.1 T_LIST 0 = true → p'.1 T_LARR 0 = e_xb + 8 → s_La p' (s_iH I) 1 3 → (∀ k, p'.2.1 T_KNOB k = decide (k < 3)) → (∀ k, p'.2.1 T_COUP k = decide (k < 3)) → p'.2.2.1 T_ENTR 0 = 256 → (∀ t, t ∈ [T_CONS, T_TAPE, T_WORKS] → ∀ j, p'.2.1 t j = true → j = 0) → (c'.1 ≤ c.1 + 60 ∧ c'.2 ≤ c.2 + 1600) → Q (.inl none) (p', s_iH I, s_jH J, c', s_rw w b (15, 0, s_fH p' f))) : s_c X (d + 9) 132 [.ref b] (p, I, J, c, s_rw w b (15, 0, f)) Q := by
  refine m_X11_init (Nat.le_of_ble_eq_true rfl) ?_
  show s_w _ _ _ 0 _ _ _ _
  refine w_op (pc' := 1) dX11_init_0 rfl ?_
  refine w_objinit (by decide) rfl (Nat.le_of_ble_eq_true rfl) dX11_init_1 ?_
  refine w_op (pc' := 5) dX11_init_4 rfl ?_
  refine t_new dX11_init_5 rfl (show c.1 < e_xb by omega) (fun a5 ha5 => ?_)
  refine w_op (pc' := 9) dX11_init_8 rfl ?_
  refine t_callI (As := []) dX11_init_9 rfl rM_X10_init (by decide) (by decide) rfl rfl rfl (Nat.le_of_ble_eq_true rfl) (c_X10_init (fun t ht i9 => hN t (by revert t; decide) i9) hN0 hN1 hA0 hA1 hsgM hX (show c.1 + 1 + 60 < e_xb by omega) (fun q1 c1 hx1 u1 u2 u3 u4 u5 u6 u7 u8 u9 u10 u11 => ?_))
  refine ⟨rfl, ?_⟩
  refine w_ghost (S' := (s_pv q1 T_WORKS 0 a5 0, s_iH1 I, s_JWORKS J 0, c1, s_rw w b (15, 0, f))) (fun h hs => hs.pubWORKS ((hx1.1 T_WORKS 0 rfl).2.1.trans (hN _ (by decide) 0)) ha5.1 rfl rfl rfl rfl rfl rfl rfl rfl rfl rfl rfl rfl rfl rfl rfl rfl (fun j9 => (hx1.1 T_HALL j9 (s_NT.n (by decide))).2.1.trans (hN _ (by decide) j9))) ?_
  have hxa : s_xv (s_NT (T_WORKS :: s_KW) [0, 1]) p (s_pv q1 T_WORKS 0 a5 0) := (hx1.mono (s_NT.mono (by decide))).trans (s_xv.pv (s_NT.y (by decide)))
  have va : s_vl s_V1 (s_pv q1 T_WORKS 0 a5 0) := s_vl.cons s_pv_v ((u1.app u2).pv)
  have ea : (s_pv q1 T_WORKS 0 a5 0).1 T_WORKS 0 = a5 := s_pv_s
  have hl0 : (s_pv q1 T_WORKS 0 a5 0).2.1 T_LIST 0 = true := s_pv_k u3
  have hA9 : (s_pv q1 T_WORKS 0 a5 0).1 T_LARR 0 = e_xb + 8 := (s_pv_n (fun z => absurd z.1 (by decide))).trans u4
  have hL9 : s_La (s_pv q1 T_WORKS 0 a5 0) (s_iH1 I) 1 3 := u5.pv (by decide) (by unfold s_iH1 s_IWORKS s_iW; rw [s_up_F (by decide), s_up_F (by decide), s_up_F (by decide), s_up_F (by decide), s_up_F (by decide), s_fill_F (by decide), s_fill_F (by decide), s_fill_F (by decide)])
  have hk9 : ∀ k9, (s_pv q1 T_WORKS 0 a5 0).2.1 T_KNOB k9 = decide (k9 < 3) := fun k9 => (s_pv_nv (fun z => absurd z.1 (by decide))).trans (u6 k9)
  have hc9 : ∀ k9, (s_pv q1 T_WORKS 0 a5 0).2.1 T_COUP k9 = decide (k9 < 3) := fun k9 => (s_pv_nv (fun z => absurd z.1 (by decide))).trans (u7 k9)
  have hl9 : (s_pv q1 T_WORKS 0 a5 0).2.2.1 T_ENTR 0 = 256 := (s_pv_nl (fun z => absurd z.1 (by decide))).trans u8
  have hu9 : ∀ t, t ∈ [T_CONS, T_TAPE, T_WORKS] → ∀ j9, (s_pv q1 T_WORKS 0 a5 0).2.1 t j9 = true → j9 = 0 := fun t ht j9 hj9 => by
    rcases List.mem_cons.mp ht with rfl | ht
    · exact u9 j9 (by rw [s_pv_nv (fun z => absurd z.1 (by decide))] at hj9; exact hj9)
    rcases List.mem_cons.mp ht with rfl | ht
    · exact u10 j9 (by rw [s_pv_nv (fun z => absurd z.1 (by decide))] at hj9; exact hj9)
    obtain rfl := List.mem_singleton.mp ht
    exact Decidable.byContradiction (fun e => by rw [s_pv_nv (fun z => e z.2), (hx1.1 T_WORKS j9 (s_NT.n (by decide))).2.1, hN _ (by decide)] at hj9; cases hj9)
  have hb1 : c1.1 ≤ c.1 + 41 := Nat.le_trans u11.1 (by show c.1 + 1 + 40 ≤ _; omega)
  have hb2 : c1.2 ≤ c.2 + 1020 := Nat.le_trans u11.2 (by show c.2 + 16 + 1000 ≤ _; omega)
  clear hx1 u1 u2 u3 u4 u5 u6 u7 u8 u9 u10 u11
  generalize s_pv q1 T_WORKS 0 a5 0 = qw at hxa va ea hl0 hA9 hL9 hk9 hc9 hl9 hu9 ⊢
  subst ea
  refine t_putR dX11_init_12 rfl rfl (Or.inr ⟨rfl, rfl, rfl⟩) ?_
  refine w_op (pc' := 16) dX11_init_15 rfl ?_
  refine w_op (pc' := 17) dX11_init_16 rfl ?_
  refine t_getR (v := .ref (qw.1 T_WORKS 0)) dX11_init_17 rfl rfl ?_
  refine t_getG0 (G := g_w_KEYS) dX11_init_20 rfl rfl (by decide) rfl (fun _ => rfl) (va _ (by decide)) ?_
  refine t_putR dX11_init_23 rfl rfl (Or.inr ⟨rfl, rfl, rfl⟩) ?_
  refine w_op (pc' := 27) dX11_init_26 rfl ?_
  refine w_op (pc' := 28) dX11_init_27 rfl ?_
  refine t_getR (v := .ref (qw.1 T_WORKS 0)) dX11_init_28 rfl rfl ?_
  refine t_getG0 (G := g_w_CONS) dX11_init_31 rfl rfl (by decide) rfl (fun _ => rfl) (va _ (by decide)) ?_
  refine t_putR dX11_init_34 rfl rfl (Or.inr ⟨rfl, rfl, rfl⟩) ?_
  refine w_op (pc' := 38) dX11_init_37 rfl ?_
  refine w_op (pc' := 39) dX11_init_38 rfl ?_
  refine t_getR (v := .ref (qw.1 T_WORKS 0)) dX11_init_39 rfl rfl ?_
  refine t_getG0 (G := g_w_TAPE) dX11_init_42 rfl rfl (by decide) rfl (fun _ => rfl) (va _ (by decide)) ?_
  refine t_putR dX11_init_45 rfl rfl (Or.inr ⟨rfl, rfl, rfl⟩) ?_
  refine w_op (pc' := 49) dX11_init_48 rfl ?_
  refine t_new dX11_init_49 rfl (show c1.1 < e_xb by omega) (fun a49 ha49 => ?_)
  refine w_op (pc' := 53) dX11_init_52 rfl ?_
  refine t_callI (As := []) dX11_init_53 rfl rM_X5_init (by decide) (by decide) rfl rfl rfl (Nat.le_of_ble_eq_true rfl) (c_X5_init (fun t ht i9 => (hxa.1 t i9 (s_NT.n (by revert t; decide))).2.1.trans (hN t (by revert t; decide) i9)) (show c1.1 + 1 + 8 < e_xb by omega) (fun q2 hx2 hv2 => ?_))
  refine ⟨rfl, ?_⟩
  refine w_ghost (S' := ((s_pv q2 T_MEM 0 a49 0), s_iH2 I, s_jH J, (c1.1 + 9, c1.2 + 435), s_rw w b (15, 0, (s_fu (s_fu (s_fu (s_fu f 0 (.ref (qw.1 T_WORKS 0))) 1 (.ref (qw.1 T_KEYS 0))) 2 (.ref (qw.1 T_CONS 0))) 3 (.ref (qw.1 T_TAPE 0)))))) (fun h hs => hs.pubMEM ((hx2.1 T_MEM 0 rfl).2.1.trans ((hxa.1 T_MEM 0 (s_NT.n (by decide))).2.1.trans (hN _ (by decide) 0))) ha49.1 rfl rfl rfl rfl rfl rfl rfl rfl rfl rfl rfl (fun j9 => (hx2.1 T_HALL j9 (s_NT.n (by decide))).2.1.trans ((hxa.1 T_HALL j9 (s_NT.n (by decide))).2.1.trans (hN _ (by decide) j9)))) ?_
  have hxm : s_xv (s_NT ((T_WORKS :: s_KW) ++ s_KM) [0, 1]) p (s_pv q2 T_MEM 0 a49 0) := ((hxa.mono (s_NT.mono (by decide))).trans (hx2.mono (s_NT.mono (by decide)))).trans (s_xv.pv (s_NT.y (by decide)))
  have vm : s_vl s_V2 (s_pv q2 T_MEM 0 a49 0) := ((va.xv hx2 (by decide)).pv).app (s_vl.cons s_pv_v (s_vl.pv hv2))
  have emWORKS : (s_pv q2 T_MEM 0 a49 0).1 T_WORKS 0 = qw.1 T_WORKS 0 := (s_pv_n (fun z => absurd z.1 (by decide))).trans ((hx2.1 T_WORKS 0 rfl).1)
  have emKEYS : (s_pv q2 T_MEM 0 a49 0).1 T_KEYS 0 = qw.1 T_KEYS 0 := (s_pv_n (fun z => absurd z.1 (by decide))).trans ((hx2.1 T_KEYS 0 rfl).1)
  have emCONS : (s_pv q2 T_MEM 0 a49 0).1 T_CONS 0 = qw.1 T_CONS 0 := (s_pv_n (fun z => absurd z.1 (by decide))).trans ((hx2.1 T_CONS 0 rfl).1)
  have emTAPE : (s_pv q2 T_MEM 0 a49 0).1 T_TAPE 0 = qw.1 T_TAPE 0 := (s_pv_n (fun z => absurd z.1 (by decide))).trans ((hx2.1 T_TAPE 0 rfl).1)
  have emMEM : (s_pv q2 T_MEM 0 a49 0).1 T_MEM 0 = a49 := s_pv_s
  have hl0m : (s_pv q2 T_MEM 0 a49 0).2.1 T_LIST 0 = true := s_pv_k ((hx2.1 T_LIST 0 rfl).2.1.trans hl0)
  have hA9m : (s_pv q2 T_MEM 0 a49 0).1 T_LARR 0 = e_xb + 8 := (s_pv_n (fun z => absurd z.1 (by decide))).trans ((hx2.1 T_LARR 0 rfl).1.trans hA9)
  have hL9m : s_La (s_pv q2 T_MEM 0 a49 0) (s_iH2 I) 1 3 := by
    have h9 : s_La q2 (s_iH1 I) 1 3 := by
      have h8 := hL9
      unfold s_La at h8 ⊢
      rw [(hx2.1 T_LIST 1 rfl).2.1, (hx2.1 T_LARR 1 rfl).1, (hx2.1 T_LARR 1 rfl).2.1, (hx2.1 T_LARR 1 rfl).2.2]
      exact h8
    exact h9.pv (by decide) (by unfold s_iH2 s_IMEM s_zMEM; rw [s_up_F (by decide), s_up_F (by decide), s_up_F (by decide), s_fill_F (by decide), s_fill_F (by decide), s_z_F (by decide), s_z_F (by decide), s_z_F (by decide), s_z_F (by decide)])
  have hk9m : ∀ k9, (s_pv q2 T_MEM 0 a49 0).2.1 T_KNOB k9 = decide (k9 < 3) := fun k9 => (s_pv_nv (fun z => absurd z.1 (by decide))).trans ((hx2.1 T_KNOB k9 (s_NT.n (by decide))).2.1.trans (hk9 k9))
  have hc9m : ∀ k9, (s_pv q2 T_MEM 0 a49 0).2.1 T_COUP k9 = decide (k9 < 3) := fun k9 => (s_pv_nv (fun z => absurd z.1 (by decide))).trans ((hx2.1 T_COUP k9 (s_NT.n (by decide))).2.1.trans (hc9 k9))
  have hl9m : (s_pv q2 T_MEM 0 a49 0).2.2.1 T_ENTR 0 = 256 := (s_pv_nl (fun z => absurd z.1 (by decide))).trans ((hx2.1 T_ENTR 0 rfl).2.2.trans hl9)
  have hu9m : ∀ t, t ∈ [T_CONS, T_TAPE, T_WORKS] → ∀ j9, (s_pv q2 T_MEM 0 a49 0).2.1 t j9 = true → j9 = 0 := fun t ht j9 hj9 => hu9 t ht j9 (by
    have h7 : ∀ t, t ∈ [T_CONS, T_TAPE, T_WORKS] → t ≠ T_MEM ∧ (([T_A_isSet, T_A_kept, T_A_drawn, T_A_reversibles, T_A_owners, T_A_frameCounts, T_A_frameKept, T_A_frameDrawn] : List Nat).contains t || (decide (t = T_LIST) || decide (t = T_LARR))) = false := by decide
    rw [s_pv_nv (fun z => (h7 t ht).1 z.1), (hx2.1 t j9 (s_NT.n (h7 t ht).2)).2.1] at hj9
    exact hj9)
  clear hx2 hv2
  generalize (s_pv q2 T_MEM 0 a49 0) = qm at hxm vm emWORKS emKEYS emCONS emTAPE emMEM hl0m hA9m hL9m hk9m hc9m hl9m hu9m ⊢
  refine t_putR dX11_init_56 rfl rfl (Or.inr ⟨rfl, rfl, rfl⟩) ?_
  refine w_op (pc' := 60) dX11_init_59 rfl ?_
  refine t_new dX11_init_60 rfl (show c1.1 + 9 < e_xb by omega) (fun a60 ha60 => ?_)
  refine w_op (pc' := 64) dX11_init_63 rfl ?_
  refine t_callI (As := []) dX11_init_64 rfl rM_X1_init (by decide) (by decide) rfl rfl rfl (Nat.le_of_ble_eq_true rfl) (c_X1_init (fun t ht i9 => (hxm.1 t i9 (s_NT.n (by revert t; decide))).2.1.trans (hN t (by revert t; decide) i9)) (show c1.1 + 9 + 1 + 3 < e_xb by omega) (fun q3 hx3 hv3 => ?_))
  refine ⟨rfl, ?_⟩
  refine w_ghost (S' := ((s_pv q3 T_CONT 0 a60 0), s_iH I, s_jH J, (c1.1 + 13, c1.2 + 455), s_rw w b (15, 0, (s_fu (s_fu (s_fu (s_fu (s_fu f 0 (.ref (qw.1 T_WORKS 0))) 1 (.ref (qw.1 T_KEYS 0))) 2 (.ref (qw.1 T_CONS 0))) 3 (.ref (qw.1 T_TAPE 0))) 4 (.ref a49))))) (fun h hs => hs.pubCONT ((hx3.1 T_CONT 0 rfl).2.1.trans ((hxm.1 T_CONT 0 (s_NT.n (by decide))).2.1.trans (hN _ (by decide) 0))) ha60.1 rfl rfl rfl rfl rfl rfl rfl rfl (fun j9 => (hx3.1 T_HALL j9 (s_NT.n (by decide))).2.1.trans ((hxm.1 T_HALL j9 (s_NT.n (by decide))).2.1.trans (hN _ (by decide) j9)))) ?_
  have hxo : s_xv (s_NT (s_KH) [0, 1]) p (s_pv q3 T_CONT 0 a60 0) := ((hxm.mono (s_NT.mono (by decide))).trans (hx3.mono (s_NT.mono (by decide)))).trans (s_xv.pv (s_NT.y (by decide)))
  have vo : s_vl s_V3 (s_pv q3 T_CONT 0 a60 0) := ((vm.xv hx3 (by decide)).pv).app (s_vl.cons s_pv_v (s_vl.pv hv3))
  have eoWORKS : (s_pv q3 T_CONT 0 a60 0).1 T_WORKS 0 = qw.1 T_WORKS 0 := (s_pv_n (fun z => absurd z.1 (by decide))).trans ((hx3.1 T_WORKS 0 rfl).1.trans emWORKS)
  have eoKEYS : (s_pv q3 T_CONT 0 a60 0).1 T_KEYS 0 = qw.1 T_KEYS 0 := (s_pv_n (fun z => absurd z.1 (by decide))).trans ((hx3.1 T_KEYS 0 rfl).1.trans emKEYS)
  have eoCONS : (s_pv q3 T_CONT 0 a60 0).1 T_CONS 0 = qw.1 T_CONS 0 := (s_pv_n (fun z => absurd z.1 (by decide))).trans ((hx3.1 T_CONS 0 rfl).1.trans emCONS)
  have eoTAPE : (s_pv q3 T_CONT 0 a60 0).1 T_TAPE 0 = qw.1 T_TAPE 0 := (s_pv_n (fun z => absurd z.1 (by decide))).trans ((hx3.1 T_TAPE 0 rfl).1.trans emTAPE)
  have eoMEM : (s_pv q3 T_CONT 0 a60 0).1 T_MEM 0 = a49 := (s_pv_n (fun z => absurd z.1 (by decide))).trans ((hx3.1 T_MEM 0 rfl).1.trans emMEM)
  have eoCONT : (s_pv q3 T_CONT 0 a60 0).1 T_CONT 0 = a60 := s_pv_s
  have hl0o : (s_pv q3 T_CONT 0 a60 0).2.1 T_LIST 0 = true := s_pv_k ((hx3.1 T_LIST 0 rfl).2.1.trans hl0m)
  have hA9o : (s_pv q3 T_CONT 0 a60 0).1 T_LARR 0 = e_xb + 8 := (s_pv_n (fun z => absurd z.1 (by decide))).trans ((hx3.1 T_LARR 0 rfl).1.trans hA9m)
  have hL9o : s_La (s_pv q3 T_CONT 0 a60 0) (s_iH I) 1 3 := by
    have h9 : s_La q3 (s_iH2 I) 1 3 := by
      have h8 := hL9m
      unfold s_La at h8 ⊢
      rw [(hx3.1 T_LIST 1 rfl).2.1, (hx3.1 T_LARR 1 rfl).1, (hx3.1 T_LARR 1 rfl).2.1, (hx3.1 T_LARR 1 rfl).2.2]
      exact h8
    exact h9.pv (by decide) (by unfold s_iH s_ICONT s_zCONT; rw [s_up_F (by decide), s_up_F (by decide), s_up_F (by decide), s_up_F (by decide), s_up_F (by decide), s_z_F (by decide), s_z_F (by decide), s_z_F (by decide)])
  have hk9o : ∀ k9, (s_pv q3 T_CONT 0 a60 0).2.1 T_KNOB k9 = decide (k9 < 3) := fun k9 => (s_pv_nv (fun z => absurd z.1 (by decide))).trans ((hx3.1 T_KNOB k9 (s_NT.n (by decide))).2.1.trans (hk9m k9))
  have hc9o : ∀ k9, (s_pv q3 T_CONT 0 a60 0).2.1 T_COUP k9 = decide (k9 < 3) := fun k9 => (s_pv_nv (fun z => absurd z.1 (by decide))).trans ((hx3.1 T_COUP k9 (s_NT.n (by decide))).2.1.trans (hc9m k9))
  have hl9o : (s_pv q3 T_CONT 0 a60 0).2.2.1 T_ENTR 0 = 256 := (s_pv_nl (fun z => absurd z.1 (by decide))).trans ((hx3.1 T_ENTR 0 rfl).2.2.trans hl9m)
  have hu9o : ∀ t, t ∈ [T_CONS, T_TAPE, T_WORKS] → ∀ j9, (s_pv q3 T_CONT 0 a60 0).2.1 t j9 = true → j9 = 0 := fun t ht j9 hj9 => hu9m t ht j9 (by
    have h7 : ∀ t, t ∈ [T_CONS, T_TAPE, T_WORKS] → t ≠ T_CONT ∧ (([T_A_chord, T_A_trial, T_A_best] : List Nat).contains t || (decide (t = T_LIST) || decide (t = T_LARR))) = false := by decide
    rw [s_pv_nv (fun z => (h7 t ht).1 z.1), (hx3.1 t j9 (s_NT.n (h7 t ht).2)).2.1] at hj9
    exact hj9)
  clear hx3 hv3
  generalize (s_pv q3 T_CONT 0 a60 0) = qo at hxo vo eoWORKS eoKEYS eoCONS eoTAPE eoMEM eoCONT hl0o hA9o hL9o hk9o hc9o hl9o hu9o ⊢
  refine t_putR dX11_init_67 rfl rfl (Or.inr ⟨rfl, rfl, rfl⟩) ?_
  have ef : s_fu (s_fu (s_fu (s_fu (s_fu (s_fu f 0 (.ref (qw.1 T_WORKS 0))) 1 (.ref (qw.1 T_KEYS 0))) 2 (.ref (qw.1 T_CONS 0))) 3 (.ref (qw.1 T_TAPE 0))) 4 (.ref a49)) 5 (.ref a60) = s_fH qo f := by (unfold s_fH; rw [eoWORKS, eoKEYS, eoCONS, eoTAPE, eoMEM, eoCONT])
  rw [ef]
  exact w_return dX11_init_70 ⟨rfl, k qo _ hxo vo hl0o hA9o hL9o hk9o hc9o hl9o hu9o ⟨by show c1.1 + 13 ≤ _; omega, by show c1.2 + 455 ≤ _; omega⟩⟩
