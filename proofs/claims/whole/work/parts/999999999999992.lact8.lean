/-! 999999999999992: calls on both sides: ticks, playing back (printed by wip/whole/p999999999999992.py) -/
theorem h_SB.st0 {p p' : e_Sp} {I : e_I} {J : e_Jt} {nk nr np : Nat} (h : h_SB p I nk nr np) (hx : s_xv h_N p p') : h_SB p' (q_st nk nr np (I, J)).1 nk nr np := by
  have e := q_st_e (nk := nk) (nr := nr) (np := np) (a := (I, J))
  exact h.of hx e.1 (by decide) (e.2 3 (by decide)) (e.2 2 (by decide)) (fun F q hF hq => h_frst hF hq)
theorem h_SB.tc {p : e_Sp} {a : e_I × e_Jt} {nk nr np : Nat} (i : Nat) (h : h_SB p a.1 nk nr np) : h_SB p (q_tc nk nr np i a).1 nk nr np := by
  have h1 : h_SB p (s_up a.1 f_m_tick 0 (a.1 f_m_tick 0 + 1)) nk nr np := h.N s_xv.rfl' (s_eqN.up (T := [f_m_tick]) (by decide)) (by decide) (s_up_F (by decide)) (s_up_F (by decide))
  exact h1.st0 s_xv.rfl'
theorem h_SB.tcs {p : e_Sp} {a : e_I × e_Jt} {nk nr np : Nat} (h : h_SB p a.1 nk nr np) : ∀ k i, h_SB p (s_run (q_tc nk nr np) i k a).1 nk nr np
  | 0, _ => h
  | k + 1, i => by
    rw [s_run_l]
    exact h_SB.tc _ (h_SB.tcs h k i)
theorem h_tcE {nk nr np : Nat} (i : Nat) (a : e_I × e_Jt) : q_e (f_m_tick :: q_sT) a.1 (q_tc nk nr np i a).1 := by
  have e := q_st_e (nk := nk) (nr := nr) (np := np) (a := (s_up a.1 f_m_tick 0 (a.1 f_m_tick 0 + 1), a.2))
  exact (q_e.up (by decide) (by decide)).trans (e.mono (by decide))
theorem h_tcsE {nk nr np k i : Nat} {a : e_I × e_Jt} : q_e (f_m_tick :: q_sT) a.1 (s_run (q_tc nk nr np) i k a).1 := s_run_ind (P := fun a b : e_I × e_Jt => q_e (f_m_tick :: q_sT) a.1 b.1) (fun _ => q_e.rfl') (fun u v => u.trans v) h_tcE k i a
theorem h_tcJ1 {nk nr np : Nat} (i : Nat) (a : e_I × e_Jt) : v_eqJ [j_m_allBegun, j_m_ended] a.2 (q_tc nk nr np i a).2 := v_qstJ (b := (s_up a.1 f_m_tick 0 (a.1 f_m_tick 0 + 1), a.2))
theorem h_tcJ {nk nr np k i : Nat} {a : e_I × e_Jt} : v_eqJ [j_m_allBegun, j_m_ended] a.2 (s_run (q_tc nk nr np) i k a).2 := v_eqJ.run h_tcJ1 k i a

set_option maxRecDepth 100000 in
set_option maxHeartbeats 400000 in
theorem lp_pass {X : e_XT} {d T ax am ao ad : Nat} {p : e_Sp} {I : e_I} {J : e_Jt} {c : Nat × Nat} {w : e_Rw1} {Q : e_Rt → e_SS → Prop} {x : Int32} (hX : (X 8).1 = 0) (hT : T < 512) (h : h_L T ax am ao ad (p, I, J, c, w)) (k : ∀ k' S1, l_BI X T ax am ao ad (d + 12) 261 [.ref am, .int x] k' S1 → Q (.inl (some (.int k'))) S1) : s_c X (d + 12) 337 [.ref ax, .int x, .ref ao] (p, I, J, c, w) Q := by
  obtain ⟨⟨nk, nr, np, n, t, s, m, od, ob, hQ⟩, ex, em, ⟨f, hf⟩, hd9, hne⟩ := h
  dsimp only at hQ ex em hf hd9
  have hN := hQ.nums (by omega)
  obtain ⟨a1, b1, hTp, ha1, hb1⟩ := hQ.2.2.2.2.2.1.tp (by omega)
  have hD := hQ.2.1
  have hC := hD.1
  have hp := hC.1
  have hKn := hQ.1.1.1.1.2.1
  have h5 := hQ.1.2.2.2.2.2.1
  rw [← ex]
  refine c_L_pass (d := d + 11) hp (c_X11_pass (d := d + 3) hD hTp (fun h1 p1 c1 hD1 x1 hT1 => l_Wi.ok hf (k 0 _ (fun Q2 k2 => ?_))) (fun h1 => l_Wi.ex (n := 1) (by decide) (k 1 _ (fun Q2 k2 => ?_))))
  · obtain ⟨g0, hg0, rfl⟩ := s_nat (x := x) (by have := h1.1; grind) (show x < nI 41 from Int32.lt_of_le_of_lt h1.2 (by decide)) (by omega)
    have hg1 : 1 ≤ g0 := by
      have q := h1.1
      rw [show (1 : Int32) = nI 1 by decide] at q
      exact (nI_leI (by omega) (by omega)).mp q
    obtain ⟨g, rfl⟩ : ∃ g, g0 = g + 1 := ⟨g0 - 1, by omega⟩
    have ec : (nI (g + 1)).toNatClampNeg = g + 1 := nI_clamp (by omega)
    rw [ec] at hD1 hT1 ⊢
    have eA : s_eqN (f_now :: s_tST) I (s_run (s_tick p nk nr) 0 (g + 1) (I, J)).1 := s_eqN.runP s_eqN.tick _ _ _
    have hM := h_mid hQ x1 eA (by decide) (fun F hF => (v_eqJ.run v_tickJ _ _ _ : v_eqJ [j_allEnds] J (s_run (s_tick p nk nr) 0 (g + 1) (I, J)).2) F (v_dj.o (L := h_JM) (T := [j_allEnds]) (by decide) hF)) hD1 (v_Wd.ticks hQ.2.2.1 _ _) (hb1 p1 _ c1 0 0 (h_x4.xt x1) (by rw [eA _ (by decide)]) hT1) hQ.2.2.2.2.2.2
    have em1 : p1.1 T_MODEL 0 = am := by rw [(x1.1 T_MODEL rfl).1]; exact em
    have ex1 : p1.1 T_HALL 0 = ax := by rw [(x1.1 T_HALL rfl).1]; exact ex
    obtain ⟨a2, b2, hG, ha2, hc2, hb2⟩ := hM.G (by omega)
    have hSM := hM.1.p x1.2.2.1.symm x1.hN.PARR.symm
    refine ⟨l_fG hG em1, ?_⟩
    rw [← em1]
    refine c_X16_pass (d := d + 2) hG hX (fun m9 hm9 _ i hi => ?_) (fun m9 hm1 hm9 hx9 p2 c2 n2 x2 hL2 => k2 _ _ ?_ l_th (fun _ => ⟨_, if_pos rfl, ?_⟩)) (fun w => absurd h1 w)
    · obtain ⟨⟨n', t', q1, q2, q3⟩, -⟩ := a_pass (k := i) hSM (by omega) (by omega) (by omega) (by omega)
      have q4 : i * np ≤ 40 * 1280 := Nat.mul_le_mul (by omega) (by omega)
      exact ⟨n', q3.1.1.2.2.1.2.1.1.2.1, by omega, by omega⟩
    · obtain rfl : g + 1 = m9 := (nI_eq (by omega) (by omega)).mp hx9
      obtain ⟨⟨n', t', n1, t1, q0, q1, q2, q3, q4⟩, -⟩ := a_pass1 (k := g) hSM (by omega) (by omega) (by omega) (by omega)
      subst q0
      have q5 := v_tick1 hSM q3 q2 (by omega) (by omega)
      dsimp only at q5
      have e9 := h_tcsE (nk := nk) (nr := nr) (np := np) (k := g + 1) (i := 0) (a := ((s_run (s_tick p nk nr) 0 (g + 1) (I, J)).1, (s_run (s_tick p nk nr) 0 (g + 1) (I, J)).2))
      have hn2 : n2 = n' := by
        have z := q4.1.1.2.2.1.2.1.1.2.1
        rw [hL2.n] at z
        have z2 := hL2.1.2.2.1
        exact (nI_eq (by omega) (by omega)).mp z
      have eT : s_eqN (f_m_thrown :: f_l_size :: f_m_tick :: q_sT) (s_run (s_tick p nk nr) 0 (g + 1) (I, J)).1 (s_up (s_run (q_tc nk nr np) 0 (g + 1) ((s_run (s_tick p nk nr) 0 (g + 1) (I, J)).1, (s_run (s_tick p nk nr) 0 (g + 1) (I, J)).2)).1 f_m_thrown 0 0) := (e9.1.mono (by decide)).trans (s_eqN.up (by decide))
      have hR := hb2 p2 (s_up (s_run (q_tc nk nr np) 0 (g + 1) ((s_run (s_tick p nk nr) 0 (g + 1) (I, J)).1, (s_run (s_tick p nk nr) 0 (g + 1) (I, J)).2)).1 f_m_thrown 0 0) c2 n2 0 0 (h_xT.qX x2) (eT _ (by decide)) (eT _ (by decide)) (hL2.eq (s_up_F (by decide)))
      have hSB : h_SB p2 (s_up (s_run (q_tc nk nr np) 0 (g + 1) ((s_run (s_tick p nk nr) 0 (g + 1) (I, J)).1, (s_run (s_tick p nk nr) 0 (g + 1) (I, J)).2)).1 f_m_thrown 0 0) nk nr np := (h_SB.tcs (a := ((s_run (s_tick p nk nr) 0 (g + 1) (I, J)).1, (s_run (s_tick p nk nr) 0 (g + 1) (I, J)).2)) hM.2.2.2.2.1 (g + 1) 0).N x2.hN (s_eqN.up (T := [f_m_thrown]) (by decide)) (by decide) (s_up_F (by decide)) (s_up_F (by decide))
      refine h_L.of (w := w) (h_end2 hM x2.hN eT (by decide) (fun l hl => (s_up_F (by decide)).trans (e9.2 l hl)) (fun F hF => h_tcJ F (v_dj.o (L := h_JC) (T := [j_m_allBegun, j_m_ended]) (by decide) hF)) hSB ((q4.thrown (x := 0)).p x1.2.2.1 x1.hN.PARR) (Nat.le_refl _) ((s_up_F (by decide)).trans hL2.n) ⟨by omega, by omega⟩ hR ?_) ((x2.a (by decide)).trans ex1) ((x2.a (by decide)).trans em1) ⟨_, if_pos rfl⟩ (l_wd hne hd9) hne
      exact hM.2.2.2.2.2.2.q (by omega) (by omega) (by omega)
    · obtain rfl : g + 1 = m9 := (nI_eq (by omega) (by omega)).mp hx9
      exact l_aI (a_pass (k := g + 1) hSM (by omega) (by omega) (by omega) (by omega)).2
  · obtain ⟨a2, b2, hG, ha2⟩ := hQ.Gx (by omega)
    refine ⟨l_fG hG em, ?_⟩
    rw [← em]
    refine c_X16_pass (d := d + 2) hG hX (fun m9 hm9 hx9 i hi => ?_) (fun m9 hm1 hm9 hx9 _ _ _ _ _ => absurd (show 1 ≤ x ∧ x ≤ 40 from ?_) h1) (fun _ => k2 _ _ (h_refL hQ ex em ⟨f, hf⟩ hd9 hne) l_th (fun z => absurd z (by decide)))
    · obtain ⟨⟨n', t', q1, q2, q3⟩, -⟩ := a_pass (k := i) hQ.1 (by omega) (by omega) (by omega) (by omega)
      have q4 : i * np ≤ 40 * 1280 := Nat.mul_le_mul (by omega) (by omega)
      exact ⟨n', q3.1.1.2.2.1.2.1.1.2.1, by omega, by omega⟩
    · subst hx9
      exact ⟨by rw [show (1 : Int32) = nI 1 by decide]; exact (nI_leI (by omega) (by omega)).mpr (by omega), by rw [show (40 : Int32) = nI 40 by decide]; exact (nI_leI (by omega) (by omega)).mpr (by omega)⟩
