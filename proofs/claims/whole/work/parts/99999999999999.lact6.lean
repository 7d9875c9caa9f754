/-! 99999999999999: calls on both sides: keys (printed by wip/whole/p99999999999999.py) -/
theorem h_end2 {T : Nat} {p p2 : e_Sp} {R I2 : e_I} {RJ J2 : e_Jt} {a : e_I × e_Jt} {c c2 : Nat × Nat} {nk nr np n n2 n' : Nat} {t t' : Nat → Nat} {s s' m m' od ob od' ob' L : Nat} {TE : List Nat} (h : h_Q T p a R RJ c nk nr np n t s m od ob) (hx : s_xv h_N p p2) (e : s_eqN TE R I2) (hTE : v_dj (f_mk_kind :: f_mk_rows :: h_tM) TE = true) (el : ∀ l, l ≠ 4 → I2 f_l_size l = R f_l_size l) (ej : ∀ F, h_JC.contains F = true → J2 F = RJ F) (hSB : h_SB p2 I2 nk nr np) (hs : v_Sim p nk nr np n' t' s' m' L (R, RJ) (I2, J2)) (hL : L ≤ T + 1) (hn2 : I2 f_l_size 4 = nI n2) (hn9 : n2 < 2147483648 ∧ n' < 2147483648) (hR : h_R p2 I2 c2 od' ob' n2) (hB : h_B (T + 1) nk nr (v_Wn R nk) od' ob' n2 m') : h_Q (T + 1) p2 (I2, J2) I2 J2 c2 nk nr np n2 t' s' m' od' ob' := by
  obtain ⟨h1, h2, h3, h4, h5, h6, h7⟩ := h
  have hnn : n2 = n' := by
    have g := hs.1.1.2.2.1.2.1.1.2.1
    dsimp only at g
    rw [hn2] at g
    exact (nI_eq hn9.1 hn9.2).mp g
  rw [← hnn] at hs
  have hM' : v_dj h_tM TE = true := h_sub hTE (by decide)
  have hcs : v_dj s_cs TE = true := h_sub hTE (by decide)
  refine ⟨((hs.L hL).mv (T' := []) e s_eqN.rfl' (h_sub hTE (by decide)) (by decide) (fun _ _ => rfl) ej (fun _ _ => rfl)).p hx.2 hx.PARR, (h2.hN hx).eq ⟨fun l hl => el l (by omega), fun F hF i => by rw [e F (v_dj.o hcs (List.contains_iff_mem.mpr hF))]⟩, h3.N e (h_sub hTE (by decide)), h4.x hx el, hSB, hR, ?_⟩
  rw [h_Wn.N e (h_sub hTE (by decide))]
  exact hB
/-- how long the list of what is recorded is -/
def h_sz (n : Nat) (I : e_I) : Prop := ∃ v, v ≤ n ∧ I f_l_size 4 = nI v
theorem h_sz.le {n m : Nat} {I : e_I} (h : h_sz n I) (hm : n ≤ m) : h_sz m I := by
  obtain ⟨v, h1, h2⟩ := h
  exact ⟨v, by omega, h2⟩
theorem h_sz.N {n : Nat} {T : List Nat} {I I1 : e_I} (h : h_sz n I) (e : s_eqN T I I1) (hT : T.contains f_l_size = false) : h_sz n I1 := by
  obtain ⟨v, h1, h2⟩ := h
  exact ⟨v, h1, by rw [e _ hT]; exact h2⟩
theorem h_sz.mdv {n : Nat} {I : e_I} {x y z : Int32} (h : h_sz n I) (hn : n < 2147483000) : h_sz (n + 1) (q_mdv I x y z) := by
  unfold q_mdv
  split
  · exact h.le (by omega)
  split
  · obtain ⟨v, h1, h2⟩ := h
    rw [h2, nI_clamp (by omega)]
    exact ⟨v + 1, by omega, s_adI_s⟩
  · exact (h.N s_eqN.qmd1 (by decide)).le (by omega)
theorem h_sz.run {f : Nat → e_I → e_I} (hf : ∀ i I n, n < 2147483000 → h_sz n I → h_sz (n + 1) (f i I)) : ∀ k i n I, n + k < 2147483000 → h_sz n I → h_sz (n + k) (s_run f i k I)
  | 0, _, _, _, _, h => h
  | k + 1, i, n, I, hn, h => by
    rw [s_run_l]
    exact hf _ _ (n + k) (by omega) (h_sz.run hf k i n I (by omega) h)
theorem h_finK {T ax am ao ad : Nat} {p p1 p2 : e_Sp} {R B : e_I} {RJ : e_Jt} {a : e_I × e_Jt} {c1 c2 : Nat × Nat} {w1 : e_Rw1} {nk nr np n n2 a2 b2 : Nat} {t : Nat → Nat} {s m od ob : Nat} {TB : List Nat} {v : Int32} (hT : T < 512) (h : h_Q T p1 a R RJ c1 nk nr np n t s m od ob) (x1 : s_xt p p1) (x2 : q_X p1 p2) (e : s_eqN TB R B) (hTB : v_dj (f_m_recording :: f_mk_kind :: f_mk_rows :: (h_sbF ++ h_frF)) TB = true) (hTB2 : v_dj h_tM TB = true) (el : ∀ l, l ≠ 4 → B f_l_size l = R f_l_size l) (hoff : ¬ R f_m_recording 0 = 107 → B f_l_size 4 = R f_l_size 4) (hT0 : v_dj (f_m_isCalled :: v_covM) TB = true) (hsz : h_sz (n + 183) B) (sim : ∃ n' t', n' ≤ n + 183 + np ∧ v_Sim p nk nr np n' t' s m T (R, RJ) (q_st nk nr np (B, RJ))) (hL : q_L p2 (q_st nk nr np (B, RJ)).1 c2 a2 b2 n2) (hn2 : n2 ≤ n + 183 + np) (hb2 : ∀ p' I' c' n' x y, h_xT p1 p' → I' f_tsize = R f_tsize → I' f_entries = R f_entries → q_L p' I' c' (a2 + x) (b2 + y) n' → h_R p' I' c' (od + x) (ob + y) n') (ex : p1.1 T_HALL 0 = ax) (em : p1.1 T_MODEL 0 = am) (hw : ∃ f, w1 ao = some (103, 1, f)) (hd : ∃ f, w1 ad = some (104, 1, f)) (hne : ao ≠ ad) : h_L (T + 1) ax am ao ad (p2, s_up (q_st nk nr np (B, RJ)).1 f_m_thrown 0 v, (q_st nk nr np (B, RJ)).2, c2, w1) := by
  have hN := h.nums (by omega)
  obtain ⟨n', t', h1, h3⟩ := sim
  have e0 := q_st_e (nk := nk) (nr := nr) (np := np) (a := (B, RJ))
  have hk : ∀ F, (f_tsize :: f_entries :: []).contains F = true → s_up (q_st nk nr np (B, RJ)).1 f_m_thrown 0 v F = R F := fun F hF => by
    have q1 : s_up (q_st nk nr np (B, RJ)).1 f_m_thrown 0 v F = (q_st nk nr np (B, RJ)).1 F := (s_eqN.up (T := [f_m_thrown]) (by decide)) F (v_dj.o (L := [f_tsize, f_entries]) (by decide) hF)
    rw [q1, e0.1 F (v_dj.o (L := [f_tsize, f_entries]) (by decide) hF)]
    exact e F (v_dj.o (L := [f_tsize, f_entries]) (h_sub hTB2 (by decide)) hF)
  have hR := hb2 p2 (s_up (q_st nk nr np (B, RJ)).1 f_m_thrown 0 v) c2 n2 0 0 (h_xT.qX x2) (hk _ (by decide)) (hk _ (by decide)) (hL.eq (s_up_F (by decide)))
  have hnn : n2 = n' := by
    have g := h3.1.1.2.2.1.2.1.1.2.1
    rw [hL.n] at g
    exact (nI_eq (by omega) (by omega)).mp g
  have hSB : h_SB p1 B nk nr np := h.2.2.2.2.1.N s_xv.rfl' e (h_sub hTB (by decide)) (el _ (by decide)) (el _ (by decide))
  have er : B f_m_recording = R f_m_recording := e _ (v_dj.o hTB (by decide))
  have hle : n2 ≤ n + max 183 (v_Bd nr (v_Wn R nk)) := by
    by_cases c : R f_m_recording 0 = 114
    · have hoff := hoff (by rw [c]; decide)
      have := v_Sim.nle h.1 (h3.p x1.2.2.1 x1.hN.PARR) e hT0 hoff (fun z => absurd (by rw [er]; exact c) z) (by omega) (by omega)
      omega
    · obtain ⟨u, hu, hu2⟩ := hsz
      have g := hL.n
      rw [q_st_off (a := (B, RJ)) (show ¬ B f_m_recording 0 = 114 by rw [er]; exact c) _ (by decide)] at g
      dsimp only at g
      rw [hu2] at g
      have := (nI_eq (by omega) (by omega)).mp g
      omega
  refine h_L.of (w := w1) (h_end h x2.hN e hTB2 el (fun _ _ => rfl) hSB (h3.p x1.2.2.1 x1.hN.PARR) (Nat.le_succ T) hL.n ⟨by omega, by omega⟩ hR ?_) ((x2.a (by decide)).trans ex) ((x2.a (by decide)).trans em) hw hd hne
  rw [h_Wn.N e (h_sub hTB (by decide))]
  exact h.2.2.2.2.2.2.q (by omega) (by omega) (by omega)

set_option maxRecDepth 100000 in
set_option maxHeartbeats 400000 in
theorem lp_key {X : e_XT} {d T ax am ao ad : Nat} {p : e_Sp} {I : e_I} {J : e_Jt} {c : Nat × Nat} {w : e_Rw1} {Q : e_Rt → e_SS → Prop} {x y z : Int32} (hX : (X 8).1 = 0) (hz : z = 0 ∨ z = 1) (hT : T < 512) (h : h_L T ax am ao ad (p, I, J, c, w)) (k : ∀ k' S1, l_BB X T ax am ao ad (d + 12) 257 [.ref am, .int x, .int y, .int z] k' S1 → Q (.inl (some (.int k'))) S1) : s_c X (d + 12) 335 [.ref ax, .int x, .int y, .int z, .ref ao] (p, I, J, c, w) Q := by
  obtain ⟨⟨nk, nr, np, n, t, s, m, od, ob, hQ⟩, ex, em, ⟨f, hf⟩, hd9, hne⟩ := h
  dsimp only at hQ ex em hf hd9
  have hN := hQ.nums (by omega)
  obtain ⟨a1, b1, hTp, ha1, hb1⟩ := hQ.2.2.2.2.2.1.tp (by omega)
  have hD := hQ.2.1
  have hC := hD.1
  have hp := hC.1
  have hKn := hQ.1.1.1.1.2.1
  have h5 := hQ.1.2.2.2.2.2.1
  rw [← ex]
  refine c_L_key (d := d + 11) hp (c_X11_key (d := d + 4) hD hTp hz (fun h1 p1 c1 hD1 x1 hT1 => l_Wb.ok hf (k 0 _ (fun Q2 k2 => ?_))) (fun h1 => l_Wb.ex (n := 1) (by decide) (k 1 _ (fun Q2 k2 => ?_))))
  · skip
    have hM := h_stl (TC := s_tPK) hQ s_eqN.prk (by decide) x1 hD1 hT1 hb1
    have em1 : p1.1 T_MODEL 0 = am := by rw [(x1.1 T_MODEL rfl).1]; exact em
    have ex1 : p1.1 T_HALL 0 = ax := by rw [(x1.1 T_HALL rfl).1]; exact ex
    obtain ⟨a2, b2, hG, ha2, hc2, hb2⟩ := hM.G (by omega)
    have h5' := hM.1.2.2.2.2.2.1
    have hK' := hM.1.1.1.1.2.1
    have hSM := hM.1.p x1.2.2.1.symm x1.hN.PARR.symm
    refine ⟨l_fG hG em1, ?_⟩
    rw [← em1]
    refine c_X16_key (d := d + 2) hG hX (by omega) (by omega) hz (fun _ p2 c2 n2 x2 hL2 hn2 => k2 _ _ ?_ l_th (fun _ => ⟨_, if_pos rfl, ?_⟩)) (fun w => absurd h1 w)
    · skip
      refine h_finK (p := p) (TB := (f_l_size :: q_mT)) hT hM x1 x2 q_mdv_e.1 (by decide) (by decide) q_mdv_e.2 (fun w => by rw [q_mdv_off w _ (by decide)]) (by decide) ((h_sz.mdv (⟨n, Nat.le_refl _, hM.1.1.1.2.2.1.2.1.1.2.1⟩ : h_sz n _) (by omega)).le (by omega)) ?_ hL2 (by omega) hb2 ex1 em1 ⟨_, if_pos rfl⟩ (l_wd hne hd9) hne
      obtain ⟨⟨n', t', q1, -, q3⟩, -⟩ := a_key hSM h1 hz (by omega) (by omega)
      exact ⟨n', t', by omega, q3⟩
    · have ed : (s_stl p nk nr (s_prk I x y z, J)).1 f_m_isDown = I f_m_isDown := (s_eqN.stl _ (by decide)).trans (s_eqN.prk _ (by decide))
      rw [ed]
      exact l_aB (a_key hQ.1 h1 hz (by omega) (by omega)).2
  · obtain ⟨a2, b2, hG, ha2⟩ := hQ.Gx (by omega)
    have hM := hG.1
    refine ⟨l_fG hG em, ?_⟩
    rw [← em]
    refine c_X16_key (d := d + 2) hG hX (by omega) (by omega) hz (fun w _ _ _ _ _ _ => absurd w h1) (fun _ => k2 _ _ (h_refL hQ ex em ⟨f, hf⟩ hd9 hne) l_th (fun z => absurd z (by decide)))
set_option maxRecDepth 100000 in
set_option maxHeartbeats 400000 in
theorem lp_lift {X : e_XT} {d T ax am ao ad : Nat} {p : e_Sp} {I : e_I} {J : e_Jt} {c : Nat × Nat} {w : e_Rw1} {Q : e_Rt → e_SS → Prop} (hX : (X 8).1 = 0) (hT : T < 512) (h : h_L T ax am ao ad (p, I, J, c, w)) (k : ∀ v S1, l_BV X T ax am ao ad (d + 12) 260 [.ref am] (.int v) S1 → Q (.inl (some (.int v))) S1) : s_c X (d + 12) 134 [.ref ax] (p, I, J, c, w) Q := by
  obtain ⟨⟨nk, nr, np, n, t, s, m, od, ob, hQ⟩, ex, em, ⟨f, hf⟩, hd9, hne⟩ := h
  dsimp only at hQ ex em hf hd9
  have hN := hQ.nums (by omega)
  obtain ⟨a1, b1, hTp, ha1, hb1⟩ := hQ.2.2.2.2.2.1.tp (by omega)
  have hD := hQ.2.1
  have hC := hD.1
  have hp := hC.1
  have hKn := hQ.1.1.1.1.2.1
  have h5 := hQ.1.2.2.2.2.2.1
  rw [← ex]
  refine c_X11_lift (d := d + 4) hD hTp (fun p1 c1 hD1 x1 hT1 => k _ _ (fun Q2 k2 => ?_))
  have hM := h_stl (TC := s_tPK) hQ s_eqN.rla (by decide) x1 hD1 hT1 hb1
  have em1 : p1.1 T_MODEL 0 = am := by rw [(x1.1 T_MODEL rfl).1]; exact em
  have ex1 : p1.1 T_HALL 0 = ax := by rw [(x1.1 T_HALL rfl).1]; exact ex
  obtain ⟨a2, b2, hG, ha2, hc2, hb2⟩ := hM.G (by omega)
  have h5' := hM.1.2.2.2.2.2.1
  have hK' := hM.1.1.1.1.2.1
  have hSM := hM.1.p x1.2.2.1.symm x1.hN.PARR.symm
  have hl := a_lift hSM (by omega) (by omega)
  obtain ⟨n1, t9, r1, r2, r3, r4, r5, r6, r7⟩ := hl.1
  refine ⟨l_fG hG em1, ?_⟩
  rw [← em1]
  refine c_X16_lift (d := d + 2) hG hX (by omega) (by omega) (fun  p2 c2 n2 x2 hL2 hn2 => l_ev (congrArg Value.int hl.2) (k2 _ ?_))
  refine h_finK (p := p) (TB := (f_l_size :: q_mT)) hT hM x1 x2 r6.1 (by decide) (by decide) r6.2 (fun w => by rw [q_lf_off w _ (by decide)]) (by decide) ⟨n1, r1, r3.2.2.1.2.1.1.2.1⟩ ?_ hL2 (by omega) hb2 ex1 em1 ⟨f, hf⟩ hd9 hne
  obtain ⟨n', t', q1, -, q3⟩ := v_keyS hSM hl.1 (by omega) (by omega)
  exact ⟨n', t', by omega, q3⟩
def h_off (I I' : e_I) : Prop := ¬ I f_m_recording 0 = 107 → I' f_m_recording 0 = I f_m_recording 0 ∧ I' f_l_size 4 = I f_l_size 4
theorem h_off.trans {I I' I'' : e_I} (h : h_off I I') (h' : h_off I' I'') : h_off I I'' := fun z => by
  obtain ⟨a, b⟩ := h z
  obtain ⟨c, d⟩ := h' (by rw [a]; exact z)
  exact ⟨c.trans a, d.trans b⟩
theorem h_off.rfl' {I : e_I} : h_off I I := fun _ => ⟨rfl, rfl⟩
theorem h_off.N {T : List Nat} {I I' : e_I} (e : s_eqN T I I') (hT : v_dj [f_m_recording, f_l_size] T = true) : h_off I I' := fun _ => ⟨by rw [e _ (v_dj.o hT (by decide))], by rw [e _ (v_dj.o hT (by decide))]⟩
theorem h_off.mdv {I : e_I} {x y z : Int32} : h_off I (q_mdv I x y z) := fun w => ⟨by rw [q_mdv_off w _ (by decide)], by rw [q_mdv_off w _ (by decide)]⟩
theorem h_off.run {f : Nat → e_I → e_I} (h : ∀ i I, h_off I (f i I)) (k i : Nat) (I : e_I) : h_off I (s_run f i k I) := s_run_ind (P := h_off) (fun _ => h_off.rfl') (fun a b => a.trans b) h k i I
def h_rzT : List Nat := f_m_best :: f_m_chord :: f_m_hasChord :: q_mT
theorem h_rz0 {u : Int32} (i : Nat) (I : e_I) : h_off I (q_rz0 u i I) ∧ q_e h_rzT I (q_rz0 u i I) ∧ ∀ n, n < 2147483000 → h_sz n I → h_sz (n + 1) (q_rz0 u i I) := by
  unfold q_rz0
  split
  · exact ⟨h_off.rfl', q_e.rfl', fun n _ h => h.le (by omega)⟩
  · exact ⟨h_off.mdv, q_mdv_e.mono (by decide), fun n hn h => h.mdv hn⟩
theorem h_rz1 (i : Nat) (I : e_I) : h_off I (q_rz1 i I) ∧ q_e h_rzT I (q_rz1 i I) ∧ ∀ n, n < 2147483000 → h_sz n I → h_sz (n + 1) (q_rz1 i I) := by
  unfold q_rz1
  split
  · exact ⟨h_off.rfl', q_e.rfl', fun n _ h => h.le (by omega)⟩
  · exact ⟨h_off.mdv, q_mdv_e.mono (by decide), fun n hn h => h.mdv hn⟩
theorem h_rz2 (i : Nat) (I : e_I) : h_off I (q_rz2 i I) ∧ q_e h_rzT I (q_rz2 i I) ∧ ∀ n, n < 2147483000 → h_sz n I → h_sz (n + 1) (q_rz2 i I) := by
  unfold q_rz2
  exact ⟨h_off.mdv.trans (h_off.N (s_eqN.up (T := [f_m_chord]) (by decide)) (by decide)), (q_mdv_e.mono (by decide)).trans (q_e.up (by decide) (by decide)), fun n hn h => (h.mdv hn).N (s_eqN.up (T := [f_m_chord]) (by decide)) (by decide)⟩
theorem h_rz {u : Int32} {I : e_I} : h_off I (q_rz I u) ∧ q_e h_rzT I (q_rz I u) ∧ ∀ n, n < 2147482000 → h_sz n I → h_sz (n + 97) (q_rz I u) := by
  unfold q_rz
  refine ⟨?_, ?_, fun n hn h => ?_⟩
  · exact ((((h_off.run (fun i I => (h_rz0 i I).1) 32 0 I).trans (h_off.run (fun i I => (h_rz1 i I).1) 61 0 _)).trans h_off.mdv).trans (h_off.run (fun i I => (h_rz2 i I).1) 3 0 _)).trans (h_off.N (T := [f_m_chord, f_m_hasChord]) ((s_eqN.up (by decide)).trans (s_eqN.up (by decide))) (by decide))
  · exact ((((q_e.run (fun i I => (h_rz0 i I).2.1) 32 0 I).trans (q_e.run (fun i I => (h_rz1 i I).2.1) 61 0 _)).trans (q_mdv_e.mono (by decide))).trans (q_e.run (fun i I => (h_rz2 i I).2.1) 3 0 _)).trans ((q_e.up (by decide) (by decide)).trans (q_e.up (by decide) (by decide)))
  · have h1 := h_sz.run (fun i I n hn h => (h_rz0 (u := u) i I).2.2 n hn h) 32 0 n I (by omega) h
    have h2 := h_sz.run (fun i I n hn h => (h_rz1 i I).2.2 n hn h) 61 0 _ _ (by omega) h1
    have h3 := h2.mdv (x := 0) (y := u) (z := 1) (by omega)
    have h4 := h_sz.run (fun i I n hn h => (h_rz2 i I).2.2 n hn h) 3 0 _ _ (by omega) h3
    exact (h4.N (T := [f_m_chord, f_m_hasChord]) ((s_eqN.up (by decide)).trans (s_eqN.up (by decide))) (by decide)).le (by omega)
