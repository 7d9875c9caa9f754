/-! 999999999999991: calls on both sides: steps, recording, frames (printed by wip/whole/p999999999999991.py) -/
theorem h_qt2 {T : Nat} {p : e_Sp} {a : e_I × e_Jt} {I A : e_I} {J : e_Jt} {c : Nat × Nat} {nk nr np n : Nat} {t : Nat → Nat} {s m od ob : Nat} {TC : List Nat} (h : h_Q T p a I J c nk nr np n t s m od ob) (e : s_eqN TC I A) (hTC : v_dj (f_tsize :: f_entries :: (h_tC ++ (f_a_winds :: (v_wdF ++ s_cs)))) TC = true) : h_Q T p a A J c nk nr np n t s m od ob := by
  obtain ⟨h1, h2, h3, h4, h5, h6, h7⟩ := h
  have el : A f_l_size = I f_l_size := e _ (v_dj.o hTC (by decide))
  have h0 : v_dj s_cs TC = true := h_sub hTC (by decide)
  refine ⟨h1.mv (I := a.1) (J := a.2) (T := []) s_eqN.rfl' e (by decide) (h_sub hTC (by decide)) (fun l _ => by rw [el]) (fun _ _ => rfl) (fun _ _ => rfl), h2.eq ⟨fun l hl => by rw [el], fun F hF i => by rw [e F (v_dj.o h0 (List.contains_iff_mem.mpr hF))]⟩, h3.N e (h_sub hTC (by decide)), h4.x s_xv.rfl' (fun l _ => by rw [el]), h5.N s_xv.rfl' e (h_sub hTC (by decide)) (by rw [el]) (by rw [el]), h6.N (e _ (v_dj.o hTC (by decide))) (e _ (v_dj.o hTC (by decide))) (by rw [el]), ?_⟩
  rw [h_Wn.N e (h_sub hTC (by decide))]
  exact h7
theorem h_finE {T ax am ao ad : Nat} {p1 p2 : e_Sp} {R B : e_I} {RJ BJ : e_Jt} {a : e_I × e_Jt} {c1 c2 : Nat × Nat} {w1 : e_Rw1} {nk nr np n n2 n' a2 b2 x y L : Nat} {t t' : Nat → Nat} {s s' m m' od ob : Nat} {TB : List Nat} {v : Int32} (hT : T < 512) (h : h_Q T p1 a R RJ c1 nk nr np n t s m od ob) (hx : s_xv h_N p1 p2) (hxT : h_xT p1 p2) (e : s_eqN TB R B) (hTB : v_dj h_tM TB = true) (hTB3 : v_dj [f_mk_kind, f_mk_rows] TB = true) (el : ∀ l, l ≠ 4 → B f_l_size l = R f_l_size l) (ej : ∀ F, h_JC.contains F = true → BJ F = RJ F) (hSB : h_SB p1 B nk nr np) (hs : v_Sim p1 nk nr np n' t' s' m' L (R, RJ) (q_st nk nr np (B, BJ))) (hL1 : L ≤ T + 1) (hL : q_L p2 (q_st nk nr np (B, BJ)).1 c2 (a2 + x) (b2 + y) n2) (hn : n2 ≤ 1000000 ∧ n' ≤ 1000000) (hU : n' + x ≤ n + max 183 (v_Bd nr (v_Wn R nk)) + 2) (hV : 4 * n' + y ≤ 4 * n + 4 * max 183 (v_Bd nr (v_Wn R nk)) + 40) (hm : m' ≤ m + 100040) (hb2 : ∀ p' I' c' n' x y, h_xT p1 p' → I' f_tsize = R f_tsize → I' f_entries = R f_entries → q_L p' I' c' (a2 + x) (b2 + y) n' → h_R p' I' c' (od + x) (ob + y) n') (ex : p2.1 T_HALL 0 = ax) (em : p2.1 T_MODEL 0 = am) (hw : ∃ f, w1 ao = some (103, 1, f)) (hd : ∃ f, w1 ad = some (104, 1, f)) (hne : ao ≠ ad) : h_L (T + 1) ax am ao ad (p2, s_up (q_st nk nr np (B, BJ)).1 f_m_thrown 0 v, (q_st nk nr np (B, BJ)).2, c2, w1) := by
  have e0 := q_st_e (nk := nk) (nr := nr) (np := np) (a := (B, BJ))
  have hk : ∀ F, (f_tsize :: f_entries :: []).contains F = true → s_up (q_st nk nr np (B, BJ)).1 f_m_thrown 0 v F = R F := fun F hF => by
    have q1 : s_up (q_st nk nr np (B, BJ)).1 f_m_thrown 0 v F = (q_st nk nr np (B, BJ)).1 F := (s_eqN.up (T := [f_m_thrown]) (by decide)) F (v_dj.o (L := [f_tsize, f_entries]) (by decide) hF)
    rw [q1, e0.1 F (v_dj.o (L := [f_tsize, f_entries]) (by decide) hF)]
    exact e F (v_dj.o (L := [f_tsize, f_entries]) (h_sub hTB (by decide)) hF)
  have hR := hb2 p2 (s_up (q_st nk nr np (B, BJ)).1 f_m_thrown 0 v) c2 n2 x y hxT (hk _ (by decide)) (hk _ (by decide)) (hL.eq (s_up_F (by decide)))
  have hnn : n2 = n' := by
    have g := hs.1.1.2.2.1.2.1.1.2.1
    rw [hL.n] at g
    exact (nI_eq (by omega) (by omega)).mp g
  refine h_L.of (w := w1) (h_end h hx e hTB el ej hSB hs hL1 hL.n ⟨by omega, by omega⟩ hR ?_) ex em hw hd hne
  rw [h_Wn.N e hTB3]
  exact h.2.2.2.2.2.2.q (by omega) (by omega) (by omega)
theorem h_Rts {p : e_Sp} {I I' : e_I} {c : Nat × Nat} {od ob n : Nat} (h : h_R p I c od ob n) (h1 : I' f_tsize 0 = 0) (h2 : I' f_entries = I f_entries) (h3 : I' f_l_size 4 = I f_l_size 4) : h_R p I' c od ob n := by
  obtain ⟨k, g, ⟨t1, t2, t4, t5, t6⟩, ⟨l1, l2⟩, e⟩ := h
  exact ⟨k, g, ⟨t1, t2, ⟨0, h1, Nat.zero_le _⟩, by rw [h2]; exact t5, t6⟩, ⟨l1.x4 rfl ⟨rfl, rfl, rfl⟩ h3, l2⟩, e⟩
theorem h_fgt {p : e_Sp} : s_xv h_N p (q_fgt p) ∧ h_xT p (q_fgt p) := by
  have h : ∀ t i, t ≠ T_MKEPT → (q_fgt p).2.1 t i = p.2.1 t i := fun t i ht => if_neg (fun z => ht z.1)
  refine ⟨⟨fun t i hN => ⟨rfl, h t i (fun z => ?_), rfl⟩, rfl⟩, fun i => h _ i (by decide), rfl, h _ 0 (by decide)⟩
  rw [z] at hN
  exact absurd hN (by unfold h_N q_N; simp)

set_option maxRecDepth 100000 in
set_option maxHeartbeats 400000 in
theorem lp_step {X : e_XT} {d T ax am ao ad : Nat} {p : e_Sp} {I : e_I} {J : e_Jt} {c : Nat × Nat} {w : e_Rw1} {Q : e_Rt → e_SS → Prop} (hX : (X 8).1 = 0) (hT : T < 512) (h : h_L T ax am ao ad (p, I, J, c, w)) (k : ∀ v S1, l_BV X T ax am ao ad (d + 12) 299 [.ref am] (.int v) S1 → Q (.inl (some (.int v))) S1) : s_c X (d + 12) 138 [.ref ax] (p, I, J, c, w) Q := by
  obtain ⟨⟨nk, nr, np, n, t, s, m, od, ob, hQ⟩, ex, em, ⟨f, hf⟩, hd9, hne⟩ := h
  dsimp only at hQ ex em hf hd9
  have hN := hQ.nums (by omega)
  obtain ⟨a1, b1, hTp, ha1, hb1⟩ := hQ.2.2.2.2.2.1.tp (by omega)
  have hD := hQ.2.1
  have hC := hD.1
  have hp := hC.1
  have hKn := hQ.1.1.1.1.2.1
  have h5 := hQ.1.2.2.2.2.2.1
  have hMe := h_Me hQ.1.2.2.1 hQ.1.2.2.2.2.2.2
  rw [← ex]
  obtain ⟨x0, hx0, nx1, nx2⟩ := hQ.1.2.2.1.2.2.1
  dsimp only at nx1 nx2
  have hps : q_ps (-1) (nI x0) = true := by
    unfold q_ps
    rw [if_pos rfl]
    exact decide_eq_true ⟨nI_pos' (by omega), by rw [show (7 : Int32) = nI 7 by decide]; exact (nI_leI (by omega) (by omega)).mpr (by omega)⟩
  have n7 : ∀ v, v < 8 → ∃ g, g < 8 ∧ s_r8 (nI v + 1) = nI g ∧ nI v + 1 - (nI v + 1) / 8 * 8 = nI g := by decide
  refine c_X11_step (d := d + 4) hD hTp hMe (fun h1 p1 c1 hD1 x1 hT1 => k _ _ (fun Q2 k2 => ?_)) (fun h1 => k _ _ (fun Q2 k2 => ?_))
  · have hM0 := h_stl (TC := [f_k_isOut]) hQ s_eqN.mt (by decide) x1 hD1 hT1 hb1
    have hM := h_qt2 (TC := [f_next]) hM0 (s_eqN.up (i := 0) (x := s_nxt (s_stl p nk nr ((s_mt nk (s_kby j_a_kept I J (s_plo (-1) (I f_next 0))) (s_kby j_a_drawn I J (s_plo (-1) (I f_next 0))) I).1, J)).1) (show [f_next].contains f_next = true by decide)) (by decide)
    have em1 : p1.1 T_MODEL 0 = am := by rw [(x1.1 T_MODEL rfl).1]; exact em
    have ex1 : p1.1 T_HALL 0 = ax := by rw [(x1.1 T_HALL rfl).1]; exact ex
    obtain ⟨a2, b2, hG, ha2, hc2, hb2⟩ := hM.G (by omega)
    have hSM := hM.1.p x1.2.2.1.symm x1.hN.PARR.symm
    have eA : s_eqN (f_next :: (f_k_isOut :: s_tST)) I (s_up (s_stl p nk nr ((s_mt nk (s_kby j_a_kept I J (s_plo (-1) (I f_next 0))) (s_kby j_a_drawn I J (s_plo (-1) (I f_next 0))) I).1, J)).1 f_next 0 (s_nxt (s_stl p nk nr ((s_mt nk (s_kby j_a_kept I J (s_plo (-1) (I f_next 0))) (s_kby j_a_drawn I J (s_plo (-1) (I f_next 0))) I).1, J)).1)) := ((s_eqN.mt.mono (by decide)).trans (s_eqN.stl.mono (by decide))).trans (s_eqN.up (by decide))
    have en : (s_up (s_stl p nk nr ((s_mt nk (s_kby j_a_kept I J (s_plo (-1) (I f_next 0))) (s_kby j_a_drawn I J (s_plo (-1) (I f_next 0))) I).1, J)).1 f_next 0 (s_nxt (s_stl p nk nr ((s_mt nk (s_kby j_a_kept I J (s_plo (-1) (I f_next 0))) (s_kby j_a_drawn I J (s_plo (-1) (I f_next 0))) I).1, J)).1)) f_m_next 0 = nI x0 := (congrFun (eA _ (by decide)) 0).trans nx2
    have hv := v_pushed hM.1 hps
    dsimp only at hv
    rw [← nx1] at hv
    refine ⟨l_fG hG em1, ?_⟩
    rw [← em1]
    refine c_X16_step (d := d + 2) hG hX (h_QM hM) (by rw [en]; exact hps) (fun hq9 p2 c2 n2 x2 hL2 hn2 => l_ev (congrArg Value.int ?_) (k2 _ ?_)) (fun hq9 => absurd hq9 (by rw [en, ← nx1]; exact hv.1.mp h1))
    · rw [en, ← nx1, ← hv.2.1, ← hv.2.2]
      exact (a_step1 hSM (by omega) (by omega)).2
    · refine h_fin (p := p) (TB := [f_mk_isDrawn, f_m_next]) hT hM x1 x2 ((s_eqN.qmt.mono (by decide)).trans (s_eqN.up (by decide))) (by decide) (fun _ _ => rfl) (hM.2.2.2.2.1.N s_xv.rfl' (show s_eqN [f_mk_isDrawn, f_m_next] _ _ from (s_eqN.qmt.mono (by decide)).trans (s_eqN.up (by decide))) (by decide) (by rw [s_up_F (by decide), s_eqN.qmt _ (by decide)]) (by rw [s_up_F (by decide), s_eqN.qmt _ (by decide)])) ?_ hL2 hn2 hb2 ex1 em1 ⟨f, hf⟩ hd9 hne
      rw [en, ← nx1, ← hv.2.1, ← hv.2.2]
      have h9 := (a_step1 (y := s_kby j_a_kept I J (s_plo (-1) (I f_next 0))) (z := s_kby j_a_drawn I J (s_plo (-1) (I f_next 0))) hSM (by omega) (by omega)).1
      exact h9
  · obtain ⟨g8, hg8, r1, r2⟩ := n7 x0 hx0
    have es : s_nxt I = nI g8 := by
      unfold s_nxt
      rw [nx1]
      exact r1
    rw [es]
    have hM := h_qt (A := s_up I f_next 0 (nI g8)) (AJ := J) (TC := [f_next]) hQ (s_eqN.up (by decide)) (by decide) (fun _ _ => rfl)
    have eA : s_eqN [f_next] I (s_up I f_next 0 (nI g8)) := s_eqN.up (by decide)
    have en : (s_up I f_next 0 (nI g8)) f_m_next 0 = nI x0 := (congrFun (eA _ (by decide)) 0).trans nx2
    have eq9 : q_nx (s_up I f_next 0 (nI g8)) = nI g8 := by
      unfold q_nx
      rw [en]
      exact r2
    obtain ⟨a2, b2, hG, ha2, hc2, hb2⟩ := hM.G (by omega)
    have hv := v_pushed hM.1 hps
    dsimp only at hv
    rw [← nx1] at hv
    refine ⟨l_fG hG em, ?_⟩
    rw [← em]
    refine c_X16_step (d := d + 2) hG hX (h_QM hM) (by rw [en]; exact hps) (fun hq9 => absurd (h1.symm.trans (hv.1.mpr (by rw [nx1, ← en]; exact hq9))) (by decide)) (fun hq9 p2 c2 n2 x2 hL2 hn2 => l_ev (congrArg Value.int (es.trans eq9.symm)) (k2 _ ?_))
    refine h_fin (p := p) (TB := [f_m_next]) hT hM s_xt.rfl' x2 (s_eqN.up (by decide)) (by decide) (fun _ _ => rfl) (hM.2.2.2.2.1.N s_xv.rfl' (show s_eqN [f_m_next] _ _ from s_eqN.up (by decide)) (by decide) (s_up_F (by decide)) (s_up_F (by decide))) ?_ hL2 hn2 hb2 ex em ⟨f, hf⟩ hd9 hne
    rw [eq9]
    exact ⟨n, t, by omega, fun _ => rfl, a_next hg8 hM.1⟩
theorem h_xT.trans {p p' p'' : e_Sp} (h : h_xT p p') (h' : h_xT p' p'') : h_xT p p'' := ⟨fun i => (h'.1 i).trans (h.1 i), h'.2.1.trans h.2.1, h'.2.2.trans h.2.2⟩
set_option maxRecDepth 100000 in
set_option maxHeartbeats 400000 in
theorem lp_record {X : e_XT} {d T ax am ao ad : Nat} {p : e_Sp} {I : e_I} {J : e_Jt} {c : Nat × Nat} {w : e_Rw1} {Q : e_Rt → e_SS → Prop} {x : Int32} (hX : (X 8).1 = 0) (hx : vp_nar .char x = x) (hT : T < 512) (h : h_L T ax am ao ad (p, I, J, c, w)) (k : ∀ k' S1, l_BI X T ax am ao ad (d + 12) 307 [.ref am, .int x] k' S1 → Q (.inl (some (.int k'))) S1) : s_c X (d + 12) 367 [.ref ax, .int x, .ref ao] (p, I, J, c, w) Q := by
  obtain ⟨⟨nk, nr, np, n, t, s, m, od, ob, hQ⟩, ex, em, ⟨f, hf⟩, hd9, hne⟩ := h
  dsimp only at hQ ex em hf hd9
  have hN := hQ.nums (by omega)
  obtain ⟨a1, b1, hTp, ha1, hb1⟩ := hQ.2.2.2.2.2.1.tp (by omega)
  have hD := hQ.2.1
  have hC := hD.1
  have hp := hC.1
  have hKn := hQ.1.1.1.1.2.1
  have h5 := hQ.1.2.2.2.2.2.1
  rw [← ex]
  refine c_L_record (d := d + 11) hp (c_X11_record (d := d + 10) hp (h5.2.2.2.2.1 0) (fun e45 => l_Wi.ok hf (k 0 _ (fun Q2 k2 => ?_))) (fun eK => l_Wi.ok hf (k 0 _ (fun Q2 k2 => ?_))) (fun hx9 => l_Wi.ex (n := 1) (by decide) (k 1 _ (fun Q2 k2 => ?_))))
  · subst e45
    have hM := h_qt (A := s_up I f_recording 0 45) (AJ := J) (TC := [f_recording]) hQ (s_eqN.up (by decide)) (by decide) (fun _ _ => rfl)
    obtain ⟨a2, b2, hG, ha2, hc2, hb2⟩ := hM.G (by omega)
    have eB : (q_st nk nr np (q_re0 (s_up I f_recording 0 45) 45, J)).1 f_m_thrown 0 = 0 := by
      rw [(q_st_e (nk := nk) (nr := nr) (np := np)).1 f_m_thrown (by decide)]
      show q_re0 (s_up I f_recording 0 45) 45 f_m_thrown 0 = 0
      unfold q_re0
      rw [s_up_F (by decide)]
      exact s_up_s
    have key : (q_st nk nr np (q_re0 (s_up I f_recording 0 45) 45, J)).1 = s_up (q_st nk nr np (q_re0 (s_up I f_recording 0 45) 45, J)).1 f_m_thrown 0 0 := (v_upid eB).symm
    have el : ∀ l, q_re0 (s_up I f_recording 0 45) 45 f_l_size l = (s_up I f_recording 0 45) f_l_size l := fun l => by
      unfold q_re0
      rw [s_up_F (by decide), s_up_F (by decide)]
    have e9 : s_eqN [f_m_thrown, f_m_recording] (s_up I f_recording 0 45) (q_re0 (s_up I f_recording 0 45) 45) := (s_eqN.up (by decide)).trans (s_eqN.up (by decide))
    refine ⟨l_fG hG em, ?_⟩
    rw [← em]
    refine c_X16_record (d := d + 3) hG hX hx (hM.1.2.2.2.2.2.1.2.2.2.2.2 0) (fun _ p2 c2 n2 x2 hL2 hn2 => k2 _ _ ?_ eB (fun _ => ⟨_, if_pos rfl, ?_⟩)) (fun w => absurd w (by decide)) (fun w => absurd (.inr (.inr rfl)) w)
    · rw [key]
      exact h_finE (x := 0) (y := 0) hT hM x2.hN (h_xT.qX x2) e9 (by decide) (by decide) (fun l _ => el l) (fun _ _ => rfl) (hM.2.2.2.2.1.N s_xv.rfl' e9 (by decide) (el 3) (el 2)) (a_record0 hM.1) (Nat.le_succ T) hL2 ⟨by omega, by omega⟩ (by omega) (by omega) (by omega) hb2 ((x2.a (by decide)).trans ex) ((x2.a (by decide)).trans em) ⟨_, if_pos rfl⟩ (l_wd hne hd9) hne
    · exact l_aI hM.1.1.1.2.2.1.2.2.1
  · have eA : s_eqN [f_recording, f_tkind, f_tsize, f_startedAt] I (s_up (s_up (s_up (s_up I f_recording 0 x) f_tkind 0 x) f_tsize 0 0) f_startedAt 0 (I f_now 0)) := (((s_eqN.up (by decide)).trans (s_eqN.up (by decide))).trans (s_eqN.up (by decide))).trans (s_eqN.up (by decide))
    have hM := h_mid (RJ := J) hQ s_xt.rfl' eA (by decide) (fun _ _ => rfl) (hD.eq ⟨fun l _ => by rw [eA _ (by decide)], fun F hF i => by rw [eA F (v_dj.o (L := s_cs) (by decide) (List.contains_iff_mem.mpr hF))]⟩) (hQ.2.2.1.N eA (by decide)) (h_Rts hQ.2.2.2.2.2.1 (by rw [s_up_F (by decide)]; exact s_up_s) (eA _ (by decide)) (by rw [eA _ (by decide)])) hQ.2.2.2.2.2.2
    obtain ⟨a2, b2, hG, ha2, hc2, hb2⟩ := hM.G (by omega)
    have eB : (q_st nk nr np (q_reK (s_up (s_up (s_up (s_up I f_recording 0 x) f_tkind 0 x) f_tsize 0 0) f_startedAt 0 (I f_now 0)) x, J)).1 f_m_thrown 0 = 0 := by
      rw [(q_st_e (nk := nk) (nr := nr) (np := np)).1 f_m_thrown (by decide)]
      show q_reK (s_up (s_up (s_up (s_up I f_recording 0 x) f_tkind 0 x) f_tsize 0 0) f_startedAt 0 (I f_now 0)) x f_m_thrown 0 = 0
      unfold q_reK q_re0
      rw [s_up_F (by decide), s_up_F (by decide), s_up_F (by decide), s_up_F (by decide)]
      exact s_up_s
    have key : (q_st nk nr np (q_reK (s_up (s_up (s_up (s_up I f_recording 0 x) f_tkind 0 x) f_tsize 0 0) f_startedAt 0 (I f_now 0)) x, J)).1 = s_up (q_st nk nr np (q_reK (s_up (s_up (s_up (s_up I f_recording 0 x) f_tkind 0 x) f_tsize 0 0) f_startedAt 0 (I f_now 0)) x, J)).1 f_m_thrown 0 0 := (v_upid eB).symm
    have e9 : s_eqN [f_m_thrown, f_m_recording, f_l_modCount, f_l_size, f_m_kindKept] (s_up (s_up (s_up (s_up I f_recording 0 x) f_tkind 0 x) f_tsize 0 0) f_startedAt 0 (I f_now 0)) (q_reK (s_up (s_up (s_up (s_up I f_recording 0 x) f_tkind 0 x) f_tsize 0 0) f_startedAt 0 (I f_now 0)) x) := ((((s_eqN.up (by decide)).trans (s_eqN.up (by decide))).trans (s_eqN.up (by decide))).trans (s_eqN.up (by decide))).trans (s_eqN.up (by decide))
    have el : ∀ l, l ≠ 4 → q_reK (s_up (s_up (s_up (s_up I f_recording 0 x) f_tkind 0 x) f_tsize 0 0) f_startedAt 0 (I f_now 0)) x f_l_size l = (s_up (s_up (s_up (s_up I f_recording 0 x) f_tkind 0 x) f_tsize 0 0) f_startedAt 0 (I f_now 0)) f_l_size l := fun l hl => by
      unfold q_reK q_re0
      rw [s_up_F (by decide)]
      refine (if_neg (fun z => hl z.2)).trans ?_
      rw [s_up_F (by decide), s_up_F (by decide), s_up_F (by decide)]
    refine ⟨l_fG hG em, ?_⟩
    rw [← em]
    refine c_X16_record (d := d + 3) hG hX hx (hM.1.2.2.2.2.2.1.2.2.2.2.2 0) (fun w => absurd eK (by rw [w]; decide)) (fun _ p2 c2 n2 x2 hL2 hn2 => k2 _ _ ?_ eB (fun _ => ⟨_, if_pos rfl, ?_⟩)) (fun w => absurd (eK.imp id (fun z => .inl z)) w)
    · rw [key]
      exact h_finE (x := n) (y := 4 * n) hT hM (h_fgt.1.trans x2.hN) (h_fgt.2.trans (h_xT.qX x2)) e9 (by decide) (by decide) el (fun _ _ => rfl) (hM.2.2.2.2.1.N s_xv.rfl' e9 (by decide) (el 3 (by decide)) (el 2 (by decide))) (a_recordK hM.1 eK) (Nat.le_succ T) hL2 ⟨by omega, by omega⟩ (by omega) (by omega) (by omega) hb2 ((x2.a (by decide)).trans ex) ((x2.a (by decide)).trans em) ⟨_, if_pos rfl⟩ (l_wd hne hd9) hne
    · exact l_aI hM.1.1.1.2.2.1.2.2.1
  · obtain ⟨a2, b2, hG, ha2⟩ := hQ.Gx (by omega)
    refine ⟨l_fG hG em, ?_⟩
    rw [← em]
    refine c_X16_record (d := d + 3) hG hX hx (h5.2.2.2.2.2 0) (fun w => absurd (.inr (.inr w)) hx9) (fun w => absurd (w.imp id (fun z => .inl z)) hx9) (fun _ => k2 _ _ (h_refL hQ ex em ⟨f, hf⟩ hd9 hne) l_th (fun z => absurd z (by decide)))
