/-! 99999999999993: halves of calls -/
/-- the class has changed a little and settled -/
theorem h_stl {T : Nat} {p p1 : e_Sp} {I A : e_I} {J : e_Jt} {c c1 : Nat × Nat} {nk nr np n a b : Nat} {t : Nat → Nat} {s m od ob : Nat} {TC : List Nat} (h : h_Q T p (I, J) I J c nk nr np n t s m od ob) (e : s_eqN TC I A) (hTC : v_dj h_tC TC = true) (x1 : s_xt p p1) (hD1 : s_D p1 (s_stl p nk nr (A, J)).1 nk nr) (hT1 : s_Tp p1 (s_stl p nk nr (A, J)).1 c1 a b) (hb : ∀ p' I' c' x y, h_x4 p p' → I' f_l_size 4 = I f_l_size 4 → s_Tp p' I' c' (a + x) (b + y) → h_R p' I' c' (od + x) (ob + y) n) : h_Q T p1 (I, J) (s_stl p nk nr (A, J)).1 (s_stl p nk nr (A, J)).2 c1 nk nr np n t s m od ob := by
  have e1 : s_eqN (TC ++ s_tST) I (s_stl p nk nr (A, J)).1 := (e.mono (by
    unfold s_sub
    rw [List.all_eq_true]
    intro F hF
    rw [List.contains_iff_mem]
    exact List.mem_append_left _ hF)).trans (s_eqN.stl.mono (by
    unfold s_sub
    rw [List.all_eq_true]
    intro F hF
    rw [List.contains_iff_mem]
    exact List.mem_append_right _ hF))
  have h1 : v_dj h_tC (TC ++ s_tST) = true := by
    unfold v_dj
    rw [List.all_eq_true]
    intro F hF
    have hF' := List.contains_iff_mem.mpr hF
    rw [List.contains_append, v_dj.o hTC hF', v_dj.o (L := h_tC) (T := s_tST) (by decide) hF']
    rfl
  exact h_mid h x1 e1 h1 (fun F hF => v_stlJ F (v_dj.o (L := h_JM) (T := [j_allEnds]) (by decide) hF)) hD1 v_Wd.stl (hb p1 _ c1 0 0 (h_x4.xt x1) (by rw [e1 _ (v_dj.o h1 (by decide))]) hT1) h.2.2.2.2.2.2
/-- the class has changed a little and does not settle -/
theorem h_qt {T : Nat} {p : e_Sp} {I A : e_I} {J AJ : e_Jt} {c : Nat × Nat} {nk nr np n : Nat} {t : Nat → Nat} {s m od ob : Nat} {TC : List Nat} (h : h_Q T p (I, J) I J c nk nr np n t s m od ob) (e : s_eqN TC I A) (hTC : v_dj (f_tsize :: f_entries :: (h_tC ++ (f_a_winds :: (v_wdF ++ s_cs)))) TC = true) (ej : ∀ F, h_JM.contains F = true → AJ F = J F) : h_Q T p (I, J) A AJ c nk nr np n t s m od ob := by
  refine h_mid h s_xt.rfl' e (h_sub hTC (by decide)) ej (h.2.1.eq ⟨fun l hl => by rw [e _ (v_dj.o hTC (by decide))], fun F hF i => ?_⟩) (h.2.2.1.N e (h_sub hTC (by decide))) (h.2.2.2.2.2.1.N (e _ (v_dj.o hTC (by decide))) (e _ (v_dj.o hTC (by decide))) (by rw [e _ (v_dj.o hTC (by decide))])) h.2.2.2.2.2.2
  have h0 : v_dj s_cs TC = true := h_sub hTC (by decide)
  rw [e F (v_dj.o h0 (List.contains_iff_mem.mpr hF))]
/-- the reference has changed a little and settled: the loop's head again -/
theorem h_fin {T ax am ao ad : Nat} {p p1 p2 : e_Sp} {R B : e_I} {RJ BJ : e_Jt} {a : e_I × e_Jt} {c1 c2 : Nat × Nat} {w1 : e_Rw1} {nk nr np n n2 a2 b2 : Nat} {t : Nat → Nat} {s m od ob : Nat} {TB : List Nat} {v : Int32} (hT : T < 512) (h : h_Q T p1 a R RJ c1 nk nr np n t s m od ob) (x1 : s_xt p p1) (x2 : q_X p1 p2) (e : s_eqN TB R B) (hTB : v_dj (f_l_size :: f_m_recording :: f_m_isCalled :: f_mk_kind :: f_mk_rows :: (v_covM ++ h_tM)) TB = true) (ej : ∀ F, h_JC.contains F = true → BJ F = RJ F) (hSB : h_SB p1 B nk nr np) (sim : ∃ n' t', n' ≤ n + np ∧ (¬ R f_m_recording 0 = 114 → n' = n) ∧ v_Sim p nk nr np n' t' s m T (R, RJ) (q_st nk nr np (B, BJ))) (hL : q_L p2 (q_st nk nr np (B, BJ)).1 c2 a2 b2 n2) (hn2 : n2 ≤ n + np) (hb2 : ∀ p' I' c' n' x y, h_xT p1 p' → I' f_tsize = R f_tsize → I' f_entries = R f_entries → q_L p' I' c' (a2 + x) (b2 + y) n' → h_R p' I' c' (od + x) (ob + y) n') (ex : p1.1 T_HALL 0 = ax) (em : p1.1 T_MODEL 0 = am) (hw : ∃ f, w1 ao = some (103, 1, f)) (hd : ∃ f, w1 ad = some (104, 1, f)) (hne : ao ≠ ad) : h_L (T + 1) ax am ao ad (p2, s_up (q_st nk nr np (B, BJ)).1 f_m_thrown 0 v, (q_st nk nr np (B, BJ)).2, c2, w1) := by
  have hN := h.nums (by omega)
  obtain ⟨n', t', h1, h2, h3⟩ := sim
  have e0 := q_st_e (nk := nk) (nr := nr) (np := np) (a := (B, BJ))
  have hk : ∀ F, (f_tsize :: f_entries :: []).contains F = true → s_up (q_st nk nr np (B, BJ)).1 f_m_thrown 0 v F = R F := fun F hF => by
    have q1 : s_up (q_st nk nr np (B, BJ)).1 f_m_thrown 0 v F = (q_st nk nr np (B, BJ)).1 F := (s_eqN.up (T := [f_m_thrown]) (by decide)) F (v_dj.o (L := [f_tsize, f_entries]) (by decide) hF)
    rw [q1, e0.1 F (v_dj.o (L := [f_tsize, f_entries]) (by decide) hF)]
    exact e F (v_dj.o (L := [f_tsize, f_entries]) (h_sub hTB (by decide)) hF)
  have hR := hb2 p2 (s_up (q_st nk nr np (B, BJ)).1 f_m_thrown 0 v) c2 n2 0 0 (h_xT.qX x2) (hk _ (by decide)) (hk _ (by decide)) (hL.eq (s_up_F (by decide)))
  exact h_L.of (w := w1) (h_act (a := a) hT h x2 e (h_sub hTB (by decide)) (h_sub hTB (by decide)) ej hSB h2 (by omega) (h3.p x1.2.2.1 x1.hN.PARR) hL.n (by omega) hR (by omega) (by omega)) ((x2.a (by decide)).trans ex) ((x2.a (by decide)).trans em) hw hd hne
theorem h_refL {T ax am ao ad : Nat} {p : e_Sp} {I : e_I} {J : e_Jt} {c : Nat × Nat} {w : e_Rw1} {nk nr np n : Nat} {t : Nat → Nat} {s m od ob : Nat} {v : Int32} (h : h_Q T p (I, J) I J c nk nr np n t s m od ob) (ex : p.1 T_HALL 0 = ax) (em : p.1 T_MODEL 0 = am) (hw : ∃ f, w ao = some (103, 1, f)) (hd : ∃ f, w ad = some (104, 1, f)) (hne : ao ≠ ad) : h_L (T + 1) ax am ao ad (p, s_up I f_m_thrown 0 v, J, (c.1 + 1, c.2 + 6), w) := h_L.of (w := w) (h_ref h) ex em hw hd hne
theorem h_qryL {T ax am ao ad : Nat} {p : e_Sp} {I : e_I} {J : e_Jt} {c : Nat × Nat} {w : e_Rw1} {nk nr np n : Nat} {t : Nat → Nat} {s m od ob : Nat} {v : Int32} (h : h_Q T p (I, J) I J c nk nr np n t s m od ob) (ex : p.1 T_HALL 0 = ax) (em : p.1 T_MODEL 0 = am) (hw : ∃ f, w ao = some (103, 1, f)) (hd : ∃ f, w ad = some (104, 1, f)) (hne : ao ≠ ad) : h_L (T + 1) ax am ao ad (p, s_up I f_m_thrown 0 v, J, c, w) := h_L.of (w := w) (h_qry h) ex em hw hd hne
theorem h_Q.Gx {T : Nat} {p : e_Sp} {a : e_I × e_Jt} {I : e_I} {J : e_Jt} {c : Nat × Nat} {nk nr np n : Nat} {t : Nat → Nat} {s m od ob : Nat} (h : h_Q T p a I J c nk nr np n t s m od ob) (hT : T ≤ 512) : ∃ a' b', q_G p I (c.1 + 1, c.2 + 6) nk nr np a' b' n ∧ a' ≤ 800000 := by
  have hN := h.nums hT
  obtain ⟨h1, h2, h3, h4, h5, h6, h7⟩ := h
  obtain ⟨a', b', hL, ha, hc, hb⟩ := (h6.add 1 6).ql (by omega)
  exact ⟨a', b', ⟨h5.1, hN.2.1.1, h1.1.1.2.1.2.2.2.1, h1.2.2.2.2.2.1.2.1 _ (by decide), h1.2.2.2.2.2.1.2.1 _ (by decide), hL, by omega, by omega⟩, ha⟩
theorem h_kx {x : Int32} {nk : Nat} (h : x < 0 ∨ nI nk ≤ x) : ¬ (0 ≤ x ∧ x < nI nk) := fun z => by
  rcases h with h | h
  · exact Int32.not_lt.mpr z.1 h
  · exact Int32.not_le.mpr z.2 h
theorem h_kj {j nk : Nat} (h : j < nk) (hk : nk ≤ 2147483647) : 0 ≤ nI j ∧ nI j < nI nk := ⟨nI_pos' (by omega), (nI_ltI (by omega) (by omega)).mpr h⟩
theorem h_kE {kk j nk : Nat} (h1 : kk < nk) (h2 : j < nk) (hk : nk ≤ 40) (e : nI j = nI kk) : kk = j := ((nI_eq (by omega) (by omega)).mp e).symm
theorem l_th {p : e_Sp} {I : e_I} {J : e_Jt} {c : Nat × Nat} {w : e_Rw1} {v : Int32} : ((p, s_up I f_m_thrown 0 v, J, c, w) : e_SS).2.1 f_m_thrown 0 = v := by
  show s_up I f_m_thrown 0 v f_m_thrown 0 = v
  exact s_up_s
theorem l_aB {x b : Int32} {f : Nat → Value} (e : x = b) : (fun s' => if s' = 0 then Value.long (if x = 0 then 0 else 1) else f s') 0 = Value.long (if b = 0 then 0 else 1) := by rw [e]; rfl
theorem l_aI {x b : Int32} {f : Nat → Value} (e : x = b) : (fun s' => if s' = 0 then Value.long x.toInt64 else f s') 0 = Value.long b.toInt64 := by rw [e]; rfl

set_option maxHeartbeats 4000000 in
theorem lp_draw {X : e_XT} {d T ax am ao ad : Nat} {p : e_Sp} {I : e_I} {J : e_Jt} {c : Nat × Nat} {w : e_Rw1} {Q : e_Rt → e_SS → Prop} {x y : Int32} (hX : (X 8).1 = 0) (hT : T < 512) (hy : y = 0 ∨ y = 1) (h : h_L T ax am ao ad (p, I, J, c, w)) (k : ∀ k' S1, l_BB X T ax am ao ad (d + 12) 247 [.ref am, .int x, .int y] k' S1 → Q (.inl (some (.int k'))) S1) : s_c X (d + 12) 329 [.ref ax, .int x, .int y, .ref ao] (p, I, J, c, w) Q := by
  obtain ⟨⟨nk, nr, np, n, t, s, m, od, ob, hQ⟩, ex, em, ⟨f, hf⟩, hd9, hne⟩ := h
  dsimp only at hQ ex em hf hd9
  have hN := hQ.nums (by omega)
  obtain ⟨a1, b1, hTp, ha1, hb1⟩ := hQ.2.2.2.2.2.1.tp (by omega)
  have hD := hQ.2.1
  have hKn := hQ.1.1.1.1.2.1
  have h5 := hQ.1.2.2.2.2.2.1
  rw [← ex]
  refine c_L_draw (d := d + 11) hD.1.1 (c_X11_draw (d := d + 4) hD hTp hy (fun j hj => (h5.1 f_k_isOut rfl) j) (fun j hj hx p1 c1 hD1 x1 hT1 => l_Wb.ok hf (k 0 _ (fun Q2 k2 => ?_))) (fun hx => l_Wb.ex (n := 1) (by decide) (k 1 _ (fun Q2 k2 => ?_))))
  · subst hx
    have e1 : s_eqN [f_k_isOut] I (s_up I f_k_isOut j y) := s_eqN.up (by decide)
    have hM := h_stl hQ e1 (by decide) x1 hD1 hT1 hb1
    have em1 : p1.1 T_MODEL 0 = am := by rw [(x1.1 T_MODEL rfl).1]; exact em
    have ex1 : p1.1 T_HALL 0 = ax := by rw [(x1.1 T_HALL rfl).1]; exact ex
    obtain ⟨a2, b2, hG, ha2, hc2, hb2⟩ := hM.G (by omega)
    have h5' := hM.1.2.2.2.2.2.1
    refine ⟨l_fG hG em1, ?_⟩
    rw [← em1]
    refine c_X16_draw (d := d + 2) hG hX hy (h5'.2.1 f_mk_isDrawn rfl) (fun kk hkk hx2 p2 c2 n2 x2 hL2 hn2 => k2 _ _ ?_ l_th (fun _ => ⟨_, if_pos rfl, ?_⟩)) (fun z => absurd (h_kj hj (by omega)) z)
    · refine h_fin (TB := [f_mk_isDrawn]) hT hM x1 x2 (s_eqN.up (by decide)) (by decide) (fun _ _ => rfl) (hM.2.2.2.2.1.N s_xv.rfl' (s_eqN.up (T := [f_mk_isDrawn]) (by decide)) (by decide) (s_up_F (by decide)) (s_up_F (by decide))) ?_ hL2 hn2 hb2 ex1 em1 ⟨_, if_pos rfl⟩ (l_wd hne hd9) hne
      obtain rfl := h_kE hkk hj (by omega) hx2
      exact a_draw hy (hM.1.p x1.2.2.1.symm x1.hN.PARR.symm) (by omega) (by omega)
    · obtain rfl := h_kE hkk hj (by omega) hx2
      exact l_aB (hM.1.1.1.1.2.1.2 kk hkk).1.2.2.1
  · obtain ⟨a2, b2, hG, ha2⟩ := hQ.Gx (by omega)
    refine ⟨l_fG hG em, ?_⟩
    rw [← em]
    refine c_X16_draw (d := d + 2) hG hX hy (h5.2.1 f_mk_isDrawn rfl) (fun kk hkk hx2 p2 c2 n2 x2 hL2 hn2 => absurd (h_kj hkk (by omega)) (hx2 ▸ h_kx hx)) (fun z => k2 _ _ (h_refL hQ ex em ⟨f, hf⟩ hd9 hne) l_th (fun z => absurd z (by decide)))
