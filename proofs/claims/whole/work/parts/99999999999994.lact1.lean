/-! 99999999999994: calls on both sides: knobs, numbers (printed by wip/whole/p99999999999994.py) -/
theorem v_eq_at {n F G g i : Nat} {I I' : e_I} (h : v_eq n F G I I') (hg : g < n) (e : i = g) : I F i = I' G i := by rw [e]; exact h g hg
theorem h_dv {x : Int32} : s_isdv x = true ↔ (0 ≤ x ∧ x ≤ 2) := by
  unfold s_isdv
  rw [Bool.and_eq_true, decide_eq_true_iff, decide_eq_true_iff]
  constructor
  · intro h; exact ⟨h.1, by have := h.2; grind⟩
  · intro h; exact ⟨h.1, by have := h.2; grind⟩
theorem h_dvN {x : Int32} (h : s_isdv x = false) : ¬ (0 ≤ x ∧ x ≤ 2) := fun z => by
  rw [h_dv.mpr z] at h; cases h
theorem h_rg2 {x : Int32} (h : 0 ≤ x ∧ x ≤ 2) : ∃ g, g < 3 ∧ x = nI g := s_nat h.1 (show x < nI 3 from Int32.lt_of_le_of_lt h.2 (by decide)) (by omega)
theorem h_rg3 {x : Int32} (h : 0 ≤ x ∧ x ≤ 3) : ∃ g, g < 4 ∧ x = nI g := s_nat h.1 (show x < nI 4 from Int32.lt_of_le_of_lt h.2 (by decide)) (by omega)
theorem h_rg11 {x : Int32} (h : 0 ≤ x ∧ x ≤ 11) : ∃ g, g < 12 ∧ x = nI g := s_nat h.1 (show x < nI 12 from Int32.lt_of_le_of_lt h.2 (by decide)) (by omega)
theorem h_in {y lo hi : Int32} (h : lo ≤ y ∧ y ≤ hi) : v_in y lo.toInt hi.toInt := ⟨Int32.le_iff_toInt_le.mp h.1, Int32.le_iff_toInt_le.mp h.2⟩
theorem h_in50 {y : Int32} (h : -50 ≤ y ∧ y ≤ 50) : v_in y (-50) 50 := by
  have := h_in h
  rw [show (-50 : Int32).toInt = -50 by decide, show (50 : Int32).toInt = 50 by decide] at this
  exact this
theorem h_in20 {y : Int32} (h : -20 ≤ y ∧ y ≤ 20) : v_in y (-20) 20 := by
  have := h_in h
  rw [show (-20 : Int32).toInt = -20 by decide, show (20 : Int32).toInt = 20 by decide] at this
  exact this
theorem h_in9 {y : Int32} (h : -9 ≤ y ∧ y ≤ 9) : v_in y (-9) 9 := by
  have := h_in h
  rw [show (-9 : Int32).toInt = -9 by decide, show (9 : Int32).toInt = 9 by decide] at this
  exact this
theorem h_in999 {y : Int32} (h : 0 ≤ y ∧ y ≤ 999) : v_in y 0 999 := by
  have := h_in h
  rw [show (0 : Int32).toInt = 0 by decide, show (999 : Int32).toInt = 999 by decide] at this
  exact this
theorem h_inU {I : e_I} {F i F0 j : Nat} {x : Int32} {lo hi : Int} (h : v_in (I F i) lo hi) (hx : F0 = F → v_in x lo hi) : v_in (s_up I F0 j x F i) lo hi := by
  unfold s_up
  split
  · rename_i z; exact hx z.1.symm
  · exact h
theorem v_Rg.up {nr np F0 j : Nat} {I : e_I} {x : Int32} (h : v_Rg nr np I) (h1 : F0 = f_m_tuning → v_in x (-50) 50) (h2 : F0 = f_m_temper → v_in x (-50) 50) (h3 : F0 = f_m_heat → v_in x (-20) 20) (h4 : F0 = f_mr_heat → v_in x (-9) 9) (h5 : F0 = f_mr_wind → v_in x 0 9) (h6 : F0 = f_m_supply → v_in x 0 999) : v_Rg nr np (s_up I F0 j x) := by
  obtain ⟨a, b, c, d, e⟩ := h
  exact ⟨fun q hq => h_inU (a q hq) h1, fun q hq => h_inU (b q hq) h2, h_inU c h3, fun r hr => ⟨h_inU (d r hr).1 h4, h_inU (d r hr).2 h5⟩, fun r hr => h_inU (e r hr) h6⟩
/-- the reference stands, one bundle changed -/
theorem h_SB.rg {p : e_Sp} {I I1 : e_I} {nk nr np : Nat} {T : List Nat} (h : h_SB p I nk nr np) (e : s_eqN T I I1) (hT : v_dj (f_l_size :: (h_frF ++ (q_ms2 ++ [f_mk_kind, f_mk_rows, f_mk_ranks]))) T = true) (hg : v_Rg nr np I1) : h_SB p I1 nk nr np := by
  obtain ⟨a, b, c, d, f⟩ := h
  have h0 : v_dj h_frF T = true := h_sub hT (by decide)
  have h1 : v_dj q_ms2 T = true := h_sub hT (by decide)
  refine ⟨a.w (fun _ _ _ => rfl) (fun F hF => e F (v_dj.o h1 (List.contains_iff_mem.mpr hF))) (by rw [e _ (v_dj.o hT (by decide))]) (by rw [e _ (v_dj.o hT (by decide))]), b.of (fun F q hF _ => by rw [e F (v_dj.o h0 hF)]), hg, d.N e (h_sub hT (by decide)), fun k hk => ?_⟩
  rw [e f_mk_kind (v_dj.o hT (by decide))]
  exact f k hk
theorem h_SB.D {p : e_Sp} {I I1 : e_I} {nk nr np : Nat} {T : List Nat} (h : h_SB p I nk nr np) (hD : q_D p I1 nk nr np) (e : s_eqN T I I1) (hT : v_dj (h_frF ++ (v_RgM ++ [f_mk_kind, f_mk_rows, f_mk_ranks])) T = true) : h_SB p I1 nk nr np := by
  obtain ⟨a, b, c, d, f⟩ := h
  have h0 : v_dj h_frF T = true := h_sub hT (by decide)
  refine ⟨hD, b.of (fun F q hF _ => by rw [e F (v_dj.o h0 hF)]), c.N e (h_sub hT (by decide)), d.N e (h_sub hT (by decide)), fun k hk => ?_⟩
  rw [e f_mk_kind (v_dj.o hT (by decide))]
  exact f k hk

set_option maxRecDepth 100000 in
set_option maxHeartbeats 400000 in
theorem lp_lock {X : e_XT} {d T ax am ao ad : Nat} {p : e_Sp} {I : e_I} {J : e_Jt} {c : Nat × Nat} {w : e_Rw1} {Q : e_Rt → e_SS → Prop} {x y : Int32} (hX : (X 8).1 = 0) (hy : y = 0 ∨ y = 1) (hT : T < 512) (h : h_L T ax am ao ad (p, I, J, c, w)) (k : ∀ k' S1, l_BB X T ax am ao ad (d + 12) 253 [.ref am, .int x, .int y] k' S1 → Q (.inl (some (.int k'))) S1) : s_c X (d + 12) 332 [.ref ax, .int x, .int y, .ref ao] (p, I, J, c, w) Q := by
  obtain ⟨⟨nk, nr, np, n, t, s, m, od, ob, hQ⟩, ex, em, ⟨f, hf⟩, hd9, hne⟩ := h
  dsimp only at hQ ex em hf hd9
  have hN := hQ.nums (by omega)
  obtain ⟨a1, b1, hTp, ha1, hb1⟩ := hQ.2.2.2.2.2.1.tp (by omega)
  have hD := hQ.2.1
  have hC := hD.1
  have hp := hC.1
  have hKn := hQ.1.1.1.1.2.1
  have h5 := hQ.1.2.2.2.2.2.1
  rw [← ex]
  refine c_L_lock (d := d + 11) hp (c_X11_lock (d := d + 6) hC hy (fun j hj => (h5.1 f_k_isLocked rfl) j) (fun j hj hx => l_Wb.ok hf (k 0 _ (fun Q2 k2 => ?_))) (fun hx => l_Wb.ex (n := 1) (by decide) (k 1 _ (fun Q2 k2 => ?_))))
  · subst hx
    have hM := h_qt (A := s_up I f_k_isLocked j y) (AJ := J) (TC := [f_k_isLocked]) hQ (s_eqN.up (by decide)) (by decide) (fun _ _ => rfl)
    have x1 : s_xt p p := s_xt.rfl'
    have em1 := em
    have ex1 := ex
    obtain ⟨a2, b2, hG, ha2, hc2, hb2⟩ := hM.G (by omega)
    have h5' := hM.1.2.2.2.2.2.1
    have hK' := hM.1.1.1.1.2.1
    have hSM := hM.1.p x1.2.2.1.symm x1.hN.PARR.symm
    refine ⟨l_fG hG em1, ?_⟩
    rw [← em1]
    refine c_X16_lock (d := d + 2) hG hX hy (h5'.2.1 f_mk_isLocked rfl) (fun kk hkk hx2 p2 c2 n2 x2 hL2 hn2 => k2 _ _ ?_ l_th (fun _ => ⟨_, if_pos rfl, ?_⟩)) (fun z => absurd (h_kj hj (by omega)) z)
    · obtain rfl := h_kE hkk hj (by omega) hx2
      refine h_fin (p := p) (TB := [f_mk_isLocked]) hT hM x1 x2 (s_eqN.up (by decide)) (by decide) (fun _ _ => rfl) (hM.2.2.2.2.1.N s_xv.rfl' (show s_eqN [f_mk_isLocked] _ _ from (s_eqN.up (by decide))) (by decide) (s_up_F (by decide)) (s_up_F (by decide))) ?_ hL2 hn2 hb2 ex1 em1 ⟨_, if_pos rfl⟩ (l_wd hne hd9) hne
      exact ⟨n, t, by omega, fun _ => rfl, a_lock hy hSM⟩
    · obtain rfl := h_kE hkk hj (by omega) hx2
      exact l_aB (hM.1.2.1.2.2.2.2.2.1 kk hkk)
  · obtain ⟨a2, b2, hG, ha2⟩ := hQ.Gx (by omega)
    have hM := hG.1
    refine ⟨l_fG hG em, ?_⟩
    rw [← em]
    refine c_X16_lock (d := d + 2) hG hX hy (h5.2.1 f_mk_isLocked rfl) (fun kk hkk hx2 _ _ _ _ _ _ => absurd (h_kj hkk (by omega)) (hx2 ▸ h_kx hx)) (fun z => k2 _ _ (h_refL hQ ex em ⟨f, hf⟩ hd9 hne) l_th (fun z => absurd z (by decide)))
set_option maxRecDepth 100000 in
set_option maxHeartbeats 400000 in
theorem lp_scope {X : e_XT} {d T ax am ao ad : Nat} {p : e_Sp} {I : e_I} {J : e_Jt} {c : Nat × Nat} {w : e_Rw1} {Q : e_Rt → e_SS → Prop} {x y : Int32} (hX : (X 8).1 = 0) (hy : y = 0 ∨ y = 1) (hT : T < 512) (h : h_L T ax am ao ad (p, I, J, c, w)) (k : ∀ k' S1, l_BB X T ax am ao ad (d + 12) 290 [.ref am, .int x, .int y] k' S1 → Q (.inl (some (.int k'))) S1) : s_c X (d + 12) 356 [.ref ax, .int x, .int y, .ref ao] (p, I, J, c, w) Q := by
  obtain ⟨⟨nk, nr, np, n, t, s, m, od, ob, hQ⟩, ex, em, ⟨f, hf⟩, hd9, hne⟩ := h
  dsimp only at hQ ex em hf hd9
  have hN := hQ.nums (by omega)
  obtain ⟨a1, b1, hTp, ha1, hb1⟩ := hQ.2.2.2.2.2.1.tp (by omega)
  have hD := hQ.2.1
  have hC := hD.1
  have hp := hC.1
  have hKn := hQ.1.1.1.1.2.1
  have h5 := hQ.1.2.2.2.2.2.1
  rw [← ex]
  refine c_L_scope (d := d + 11) hp (c_X11_scope (d := d + 6) hC hy (fun j hj => (h5.1 f_k_isInScope rfl) j) (fun j hj hx => l_Wb.ok hf (k 0 _ (fun Q2 k2 => ?_))) (fun hx => l_Wb.ex (n := 1) (by decide) (k 1 _ (fun Q2 k2 => ?_))))
  · subst hx
    have hM := h_qt (A := s_up I f_k_isInScope j y) (AJ := J) (TC := [f_k_isInScope]) hQ (s_eqN.up (by decide)) (by decide) (fun _ _ => rfl)
    have x1 : s_xt p p := s_xt.rfl'
    have em1 := em
    have ex1 := ex
    obtain ⟨a2, b2, hG, ha2, hc2, hb2⟩ := hM.G (by omega)
    have h5' := hM.1.2.2.2.2.2.1
    have hK' := hM.1.1.1.1.2.1
    have hSM := hM.1.p x1.2.2.1.symm x1.hN.PARR.symm
    refine ⟨l_fG hG em1, ?_⟩
    rw [← em1]
    refine c_X16_scope (d := d + 2) hG hX hy (h5'.2.1 f_mk_isIn rfl) (fun kk hkk hx2 p2 c2 n2 x2 hL2 hn2 => k2 _ _ ?_ l_th (fun _ => ⟨_, if_pos rfl, ?_⟩)) (fun z => absurd (h_kj hj (by omega)) z)
    · obtain rfl := h_kE hkk hj (by omega) hx2
      refine h_fin (p := p) (TB := [f_mk_isIn]) hT hM x1 x2 (s_eqN.up (by decide)) (by decide) (fun _ _ => rfl) (hM.2.2.2.2.1.N s_xv.rfl' (show s_eqN [f_mk_isIn] _ _ from (s_eqN.up (by decide))) (by decide) (s_up_F (by decide)) (s_up_F (by decide))) ?_ hL2 hn2 hb2 ex1 em1 ⟨_, if_pos rfl⟩ (l_wd hne hd9) hne
      exact ⟨n, t, by omega, fun _ => rfl, a_scope hy hSM⟩
    · obtain rfl := h_kE hkk hj (by omega) hx2
      exact l_aB (hM.1.2.1.2.2.2.2.2.2 kk hkk)
  · obtain ⟨a2, b2, hG, ha2⟩ := hQ.Gx (by omega)
    have hM := hG.1
    refine ⟨l_fG hG em, ?_⟩
    rw [← em]
    refine c_X16_scope (d := d + 2) hG hX hy (h5.2.1 f_mk_isIn rfl) (fun kk hkk hx2 _ _ _ _ _ _ => absurd (h_kj hkk (by omega)) (hx2 ▸ h_kx hx)) (fun z => k2 _ _ (h_refL hQ ex em ⟨f, hf⟩ hd9 hne) l_th (fun z => absurd z (by decide)))
set_option maxRecDepth 100000 in
set_option maxHeartbeats 400000 in
theorem lp_stage {X : e_XT} {d T ax am ao ad : Nat} {p : e_Sp} {I : e_I} {J : e_Jt} {c : Nat × Nat} {w : e_Rw1} {Q : e_Rt → e_SS → Prop} {x y : Int32} (hX : (X 8).1 = 0) (hT : T < 512) (h : h_L T ax am ao ad (p, I, J, c, w)) (k : ∀ k' S1, l_BI X T ax am ao ad (d + 12) 254 [.ref am, .int x, .int y] k' S1 → Q (.inl (some (.int k'))) S1) : s_c X (d + 12) 333 [.ref ax, .int x, .int y, .ref ao] (p, I, J, c, w) Q := by
  obtain ⟨⟨nk, nr, np, n, t, s, m, od, ob, hQ⟩, ex, em, ⟨f, hf⟩, hd9, hne⟩ := h
  dsimp only at hQ ex em hf hd9
  have hN := hQ.nums (by omega)
  obtain ⟨a1, b1, hTp, ha1, hb1⟩ := hQ.2.2.2.2.2.1.tp (by omega)
  have hD := hQ.2.1
  have hC := hD.1
  have hp := hC.1
  have hKn := hQ.1.1.1.1.2.1
  have h5 := hQ.1.2.2.2.2.2.1
  rw [← ex]
  refine c_L_stage (d := d + 11) hp (c_X11_stage (d := d + 4) hD hTp (fun j hj hx hy hs p1 c1 hD1 x1 hT1 => l_Wi.ok hf (k 0 _ (fun Q2 k2 => ?_))) (fun hx => l_Wi.ex (n := 1) (by decide) (k 1 _ (fun Q2 k2 => ?_))) (fun j hj hx hy => l_Wi.ex (n := 2) (by decide) (k 2 _ (fun Q2 k2 => ?_))) (fun j hj hx hy hs => l_Wi.ex (n := 3) (by decide) (k 3 _ (fun Q2 k2 => ?_))))
  · subst hx
    have hM := h_stl (TC := [f_s_stage]) hQ (s_eqN.up (by decide)) (by decide) x1 hD1 hT1 hb1
    have em1 : p1.1 T_MODEL 0 = am := by rw [(x1.1 T_MODEL rfl).1]; exact em
    have ex1 : p1.1 T_HALL 0 = ax := by rw [(x1.1 T_HALL rfl).1]; exact ex
    obtain ⟨a2, b2, hG, ha2, hc2, hb2⟩ := hM.G (by omega)
    have h5' := hM.1.2.2.2.2.2.1
    have hK' := hM.1.1.1.1.2.1
    have hSM := hM.1.p x1.2.2.1.symm x1.hN.PARR.symm
    refine ⟨l_fG hG em1, ?_⟩
    rw [← em1]
    refine c_X16_stage (d := d + 2) hG hX (fun kk hkk hx2 hy2 hs2 p2 c2 n2 x2 hL2 hn2 => k2 _ _ ?_ l_th (fun _ => ⟨_, if_pos rfl, ?_⟩)) (fun z => absurd (h_kj hj (by omega)) z) (fun _ z => absurd hy z) (fun kk hkk hx2 _ z => absurd ((hK'.2 kk hkk).1.1.symm.trans (by obtain rfl := h_kE hkk hj (by omega) hx2; exact hs)) z)
    · obtain rfl := h_kE hkk hj (by omega) hx2
      refine h_fin (p := p) (TB := [f_mk_stage]) hT hM x1 x2 (s_eqN.up (by decide)) (by decide) (fun _ _ => rfl) (hM.2.2.2.2.1.N s_xv.rfl' (show s_eqN [f_mk_stage] _ _ from (s_eqN.up (by decide))) (by decide) (s_up_F (by decide)) (s_up_F (by decide))) ?_ hL2 hn2 hb2 ex1 em1 ⟨_, if_pos rfl⟩ (l_wd hne hd9) hne
      exact a_stage hSM (by omega) (by omega)
    · obtain rfl := h_kE hkk hj (by omega) hx2
      exact l_aI (hK'.stop hkk hs).1
  · obtain ⟨a2, b2, hG, ha2⟩ := hQ.Gx (by omega)
    have hM := hG.1
    refine ⟨l_fG hG em, ?_⟩
    rw [← em]
    refine c_X16_stage (d := d + 2) hG hX (fun kk hkk hx2 _ _ _ _ _ _ _ _ => absurd (h_kj hkk (by omega)) (hx2 ▸ h_kx hx)) (fun z => k2 _ _ (h_refL hQ ex em ⟨f, hf⟩ hd9 hne) l_th (fun z => absurd z (by decide))) (fun z _ => absurd z (h_kx hx)) (fun kk hkk hx2 _ _ => absurd (h_kj hkk (by omega)) (hx2 ▸ h_kx hx))
  · obtain ⟨a2, b2, hG, ha2⟩ := hQ.Gx (by omega)
    have hM := hG.1
    subst hx
    refine ⟨l_fG hG em, ?_⟩
    rw [← em]
    refine c_X16_stage (d := d + 2) hG hX (fun kk hkk hx2 z _ _ _ _ _ _ _ => absurd z hy) (fun z => absurd (h_kj hj (by omega)) z) (fun _ _ => k2 _ _ (h_refL hQ ex em ⟨f, hf⟩ hd9 hne) l_th (fun z => absurd z (by decide))) (fun kk hkk hx2 z _ => absurd z hy)
  · obtain ⟨a2, b2, hG, ha2⟩ := hQ.Gx (by omega)
    have hM := hG.1
    subst hx
    refine ⟨l_fG hG em, ?_⟩
    rw [← em]
    refine c_X16_stage (d := d + 2) hG hX (fun kk hkk hx2 _ z _ _ _ _ _ _ => absurd ((hKn.2 kk hkk).1.1.trans z) (by obtain rfl := h_kE hkk hj (by omega) hx2; exact hs)) (fun z => absurd (h_kj hj (by omega)) z) (fun _ z => absurd hy z) (fun _ _ _ _ _ => k2 _ _ (h_refL hQ ex em ⟨f, hf⟩ hd9 hne) l_th (fun z => absurd z (by decide)))
set_option maxRecDepth 100000 in
set_option maxHeartbeats 400000 in
theorem lp_crescendo {X : e_XT} {d T ax am ao ad : Nat} {p : e_Sp} {I : e_I} {J : e_Jt} {c : Nat × Nat} {w : e_Rw1} {Q : e_Rt → e_SS → Prop} {x : Int32} (hX : (X 8).1 = 0) (hT : T < 512) (h : h_L T ax am ao ad (p, I, J, c, w)) (k : ∀ k' S1, l_BI X T ax am ao ad (d + 12) 255 [.ref am, .int x] k' S1 → Q (.inl (some (.int k'))) S1) : s_c X (d + 12) 334 [.ref ax, .int x, .ref ao] (p, I, J, c, w) Q := by
  obtain ⟨⟨nk, nr, np, n, t, s, m, od, ob, hQ⟩, ex, em, ⟨f, hf⟩, hd9, hne⟩ := h
  dsimp only at hQ ex em hf hd9
  have hN := hQ.nums (by omega)
  obtain ⟨a1, b1, hTp, ha1, hb1⟩ := hQ.2.2.2.2.2.1.tp (by omega)
  have hD := hQ.2.1
  have hC := hD.1
  have hp := hC.1
  have hKn := hQ.1.1.1.1.2.1
  have h5 := hQ.1.2.2.2.2.2.1
  rw [← ex]
  refine c_L_crescendo (d := d + 11) hp (c_X11_crescendo (d := d + 4) hD hTp (fun hy p1 c1 hD1 x1 hT1 => l_Wi.ok hf (k 0 _ (fun Q2 k2 => ?_))) (fun hy => l_Wi.ex (n := 1) (by decide) (k 1 _ (fun Q2 k2 => ?_))))
  · skip
    have hM := h_stl (TC := [f_crescendo]) hQ (s_eqN.up (by decide)) (by decide) x1 hD1 hT1 hb1
    have em1 : p1.1 T_MODEL 0 = am := by rw [(x1.1 T_MODEL rfl).1]; exact em
    have ex1 : p1.1 T_HALL 0 = ax := by rw [(x1.1 T_HALL rfl).1]; exact ex
    obtain ⟨a2, b2, hG, ha2, hc2, hb2⟩ := hM.G (by omega)
    have h5' := hM.1.2.2.2.2.2.1
    have hK' := hM.1.1.1.1.2.1
    have hSM := hM.1.p x1.2.2.1.symm x1.hN.PARR.symm
    refine ⟨l_fG hG em1, ?_⟩
    rw [← em1]
    refine c_X16_crescendo (d := d + 2) hG hX (fun _ p2 c2 n2 x2 hL2 hn2 => k2 _ _ ?_ l_th (fun _ => ⟨_, if_pos rfl, ?_⟩)) (fun z => absurd hy z)
    · skip
      refine h_fin (p := p) (TB := [f_m_crescendo]) hT hM x1 x2 (s_eqN.up (by decide)) (by decide) (fun _ _ => rfl) (hM.2.2.2.2.1.N s_xv.rfl' (show s_eqN [f_m_crescendo] _ _ from (s_eqN.up (by decide))) (by decide) (s_up_F (by decide)) (s_up_F (by decide))) ?_ hL2 hn2 hb2 ex1 em1 ⟨_, if_pos rfl⟩ (l_wd hne hd9) hne
      exact a_crescendo hSM (by omega) (by omega)
    · exact l_aI (hM.1.1.1.1.2.2.2.2.2.2.2)
  · obtain ⟨a2, b2, hG, ha2⟩ := hQ.Gx (by omega)
    have hM := hG.1
    refine ⟨l_fG hG em, ?_⟩
    rw [← em]
    refine c_X16_crescendo (d := d + 2) hG hX (fun z _ _ _ _ _ _ => absurd z hy) (fun _ => k2 _ _ (h_refL hQ ex em ⟨f, hf⟩ hd9 hne) l_th (fun z => absurd z (by decide)))
set_option maxRecDepth 100000 in
set_option maxHeartbeats 400000 in
theorem lp_supply {X : e_XT} {d T ax am ao ad : Nat} {p : e_Sp} {I : e_I} {J : e_Jt} {c : Nat × Nat} {w : e_Rw1} {Q : e_Rt → e_SS → Prop} {x y : Int32} (hX : (X 8).1 = 0) (hT : T < 512) (h : h_L T ax am ao ad (p, I, J, c, w)) (k : ∀ k' S1, l_BI X T ax am ao ad (d + 12) 272 [.ref am, .int x, .int y] k' S1 → Q (.inl (some (.int k'))) S1) : s_c X (d + 12) 343 [.ref ax, .int x, .int y, .ref ao] (p, I, J, c, w) Q := by
  obtain ⟨⟨nk, nr, np, n, t, s, m, od, ob, hQ⟩, ex, em, ⟨f, hf⟩, hd9, hne⟩ := h
  dsimp only at hQ ex em hf hd9
  have hN := hQ.nums (by omega)
  obtain ⟨a1, b1, hTp, ha1, hb1⟩ := hQ.2.2.2.2.2.1.tp (by omega)
  have hD := hQ.2.1
  have hC := hD.1
  have hp := hC.1
  have hKn := hQ.1.1.1.1.2.1
  have h5 := hQ.1.2.2.2.2.2.1
  rw [← ex]
  refine c_L_supply (d := d + 11) hp (c_X11_supply (d := d + 4) hD hTp (fun hv hy p1 c1 hD1 x1 hT1 => l_Wi.ok hf (k 0 _ (fun Q2 k2 => ?_))) (fun hv => l_Wi.ex (n := 1) (by decide) (k 1 _ (fun Q2 k2 => ?_))) (fun hv hy => l_Wi.ex (n := 2) (by decide) (k 2 _ (fun Q2 k2 => ?_))))
  · have hv2 := h_dv.mp hv
    obtain ⟨g, hg, rfl⟩ := h_rg2 hv2
    have ec : (nI g).toNatClampNeg = g := nI_clamp (by omega)
    have hM := h_stl (TC := [f_a_supplies]) hQ (s_eqN.up (by decide)) (by decide) x1 hD1 hT1 hb1
    have em1 : p1.1 T_MODEL 0 = am := by rw [(x1.1 T_MODEL rfl).1]; exact em
    have ex1 : p1.1 T_HALL 0 = ax := by rw [(x1.1 T_HALL rfl).1]; exact ex
    obtain ⟨a2, b2, hG, ha2, hc2, hb2⟩ := hM.G (by omega)
    have h5' := hM.1.2.2.2.2.2.1
    have hK' := hM.1.1.1.1.2.1
    have hSM := hM.1.p x1.2.2.1.symm x1.hN.PARR.symm
    have hSB : h_SB p1 (s_up (s_stl p nk nr (s_up I f_a_supplies (nI g).toNatClampNeg y, J)).1 f_m_supply (nI g).toNatClampNeg y) nk nr np := hM.2.2.2.2.1.rg (T := [f_m_supply]) (s_eqN.up (by decide)) (by decide) (hM.2.2.2.2.1.2.2.1.up (fun z => absurd z (by decide)) (fun z => absurd z (by decide)) (fun z => absurd z (by decide)) (fun z => absurd z (by decide)) (fun z => absurd z (by decide)) (fun _ => h_in999 hy))
    refine ⟨l_fG hG em1, ?_⟩
    rw [← em1]
    refine c_X16_supply (d := d + 2) hG hX (fun _ _ p2 c2 n2 x2 hL2 hn2 => k2 _ _ ?_ l_th (fun _ => ⟨_, if_pos rfl, ?_⟩)) (fun z => absurd hv2 z) (fun _ z => absurd hy z)
    · skip
      refine h_fin (p := p) (TB := [f_m_supply]) hT hM x1 x2 (s_eqN.up (by decide)) (by decide) (fun _ _ => rfl) hSB ?_ hL2 hn2 hb2 ex1 em1 ⟨_, if_pos rfl⟩ (l_wd hne hd9) hne
      exact a_supply hSM (by omega) (by omega)
    · exact l_aI (v_eq_at hM.1.1.1.2.2.1.2.2.2 hg ec)
  · obtain ⟨a2, b2, hG, ha2⟩ := hQ.Gx (by omega)
    have hM := hG.1
    refine ⟨l_fG hG em, ?_⟩
    rw [← em]
    refine c_X16_supply (d := d + 2) hG hX (fun z _ _ _ _ _ _ _ => absurd z (h_dvN hv)) (fun _ => k2 _ _ (h_refL hQ ex em ⟨f, hf⟩ hd9 hne) l_th (fun z => absurd z (by decide))) (fun z _ => absurd z (h_dvN hv))
  · obtain ⟨a2, b2, hG, ha2⟩ := hQ.Gx (by omega)
    have hM := hG.1
    refine ⟨l_fG hG em, ?_⟩
    rw [← em]
    refine c_X16_supply (d := d + 2) hG hX (fun _ z _ _ _ _ _ _ => absurd z hy) (fun z => absurd (h_dv.mp hv) z) (fun _ _ => k2 _ _ (h_refL hQ ex em ⟨f, hf⟩ hd9 hne) l_th (fun z => absurd z (by decide)))
set_option maxRecDepth 100000 in
set_option maxHeartbeats 400000 in
theorem lp_box {X : e_XT} {d T ax am ao ad : Nat} {p : e_Sp} {I : e_I} {J : e_Jt} {c : Nat × Nat} {w : e_Rw1} {Q : e_Rt → e_SS → Prop} {x y : Int32} (hX : (X 8).1 = 0) (hT : T < 512) (h : h_L T ax am ao ad (p, I, J, c, w)) (k : ∀ k' S1, l_BI X T ax am ao ad (d + 12) 274 [.ref am, .int x, .int y] k' S1 → Q (.inl (some (.int k'))) S1) : s_c X (d + 12) 345 [.ref ax, .int x, .int y, .ref ao] (p, I, J, c, w) Q := by
  obtain ⟨⟨nk, nr, np, n, t, s, m, od, ob, hQ⟩, ex, em, ⟨f, hf⟩, hd9, hne⟩ := h
  dsimp only at hQ ex em hf hd9
  have hN := hQ.nums (by omega)
  obtain ⟨a1, b1, hTp, ha1, hb1⟩ := hQ.2.2.2.2.2.1.tp (by omega)
  have hD := hQ.2.1
  have hC := hD.1
  have hp := hC.1
  have hKn := hQ.1.1.1.1.2.1
  have h5 := hQ.1.2.2.2.2.2.1
  rw [← ex]
  refine c_L_box (d := d + 11) hp (c_X11_box (d := d + 10) hp (fun h1 h2 => l_Wi.ok hf (k 0 _ (fun Q2 k2 => ?_))) (fun h1 => l_Wi.ex (n := 1) (by decide) (k 1 _ (fun Q2 k2 => ?_))) (fun h1 h2 => l_Wi.ex (n := 1) (by decide) (k 1 _ (fun Q2 k2 => ?_))))
  · obtain ⟨g, hg, rfl⟩ := h_rg2 (x := x) ⟨by have := h1.1; grind, h1.2⟩
    have ec : (nI g).toNatClampNeg = g := nI_clamp (by omega)
    have hM := h_qt (A := s_up I f_a_openings (nI g).toNatClampNeg y) (AJ := J) (TC := [f_a_openings]) hQ (s_eqN.up (by decide)) (by decide) (fun _ _ => rfl)
    have x1 : s_xt p p := s_xt.rfl'
    have em1 := em
    have ex1 := ex
    obtain ⟨a2, b2, hG, ha2, hc2, hb2⟩ := hM.G (by omega)
    have h5' := hM.1.2.2.2.2.2.1
    have hK' := hM.1.1.1.1.2.1
    have hSM := hM.1.p x1.2.2.1.symm x1.hN.PARR.symm
    refine ⟨l_fG hG em1, ?_⟩
    rw [← em1]
    refine c_X16_box (d := d + 2) hG hX (fun _ p2 c2 n2 x2 hL2 hn2 => k2 _ _ ?_ l_th (fun _ => ⟨_, if_pos rfl, ?_⟩)) (fun z => absurd ⟨h1, h2⟩ z)
    · skip
      refine h_fin (p := p) (TB := [f_m_box]) hT hM x1 x2 (s_eqN.up (by decide)) (by decide) (fun _ _ => rfl) (hM.2.2.2.2.1.N s_xv.rfl' (show s_eqN [f_m_box] _ _ from (s_eqN.up (by decide))) (by decide) (s_up_F (by decide)) (s_up_F (by decide))) ?_ hL2 hn2 hb2 ex1 em1 ⟨_, if_pos rfl⟩ (l_wd hne hd9) hne
      exact ⟨n, t, by omega, fun _ => rfl, a_box hSM⟩
    · exact l_aI (v_eq_at hM.1.2.1.2.2.2.1 hg ec)
  · obtain ⟨a2, b2, hG, ha2⟩ := hQ.Gx (by omega)
    have hM := hG.1
    refine ⟨l_fG hG em, ?_⟩
    rw [← em]
    refine c_X16_box (d := d + 2) hG hX (fun z _ _ _ _ _ _ => absurd z.1 h1) (fun _ => k2 _ _ (h_refL hQ ex em ⟨f, hf⟩ hd9 hne) l_th (fun z => absurd z (by decide)))
  · obtain ⟨a2, b2, hG, ha2⟩ := hQ.Gx (by omega)
    have hM := hG.1
    refine ⟨l_fG hG em, ?_⟩
    rw [← em]
    refine c_X16_box (d := d + 2) hG hX (fun z _ _ _ _ _ _ => absurd z.2 h2) (fun _ => k2 _ _ (h_refL hQ ex em ⟨f, hf⟩ hd9 hne) l_th (fun z => absurd z (by decide)))
set_option maxRecDepth 100000 in
set_option maxHeartbeats 400000 in
theorem lp_temper {X : e_XT} {d T ax am ao ad : Nat} {p : e_Sp} {I : e_I} {J : e_Jt} {c : Nat × Nat} {w : e_Rw1} {Q : e_Rt → e_SS → Prop} {x y : Int32} (hX : (X 8).1 = 0) (hT : T < 512) (h : h_L T ax am ao ad (p, I, J, c, w)) (k : ∀ k' S1, l_BI X T ax am ao ad (d + 12) 276 [.ref am, .int x, .int y] k' S1 → Q (.inl (some (.int k'))) S1) : s_c X (d + 12) 346 [.ref ax, .int x, .int y, .ref ao] (p, I, J, c, w) Q := by
  obtain ⟨⟨nk, nr, np, n, t, s, m, od, ob, hQ⟩, ex, em, ⟨f, hf⟩, hd9, hne⟩ := h
  dsimp only at hQ ex em hf hd9
  have hN := hQ.nums (by omega)
  obtain ⟨a1, b1, hTp, ha1, hb1⟩ := hQ.2.2.2.2.2.1.tp (by omega)
  have hD := hQ.2.1
  have hC := hD.1
  have hp := hC.1
  have hKn := hQ.1.1.1.1.2.1
  have h5 := hQ.1.2.2.2.2.2.1
  rw [← ex]
  refine c_L_temper (d := d + 11) hp (c_X11_temper (d := d + 10) hp (fun h1 h2 => l_Wi.ok hf (k 0 _ (fun Q2 k2 => ?_))) (fun h1 => l_Wi.ex (n := 1) (by decide) (k 1 _ (fun Q2 k2 => ?_))) (fun h1 h2 => l_Wi.ex (n := 1) (by decide) (k 1 _ (fun Q2 k2 => ?_))))
  · obtain ⟨g, hg, rfl⟩ := h_rg11 h1
    have ec : (nI g).toNatClampNeg = g := nI_clamp (by omega)
    have hM := h_qt (A := s_up I f_a_temperings (nI g).toNatClampNeg y) (AJ := J) (TC := [f_a_temperings]) hQ (s_eqN.up (by decide)) (by decide) (fun _ _ => rfl)
    have x1 : s_xt p p := s_xt.rfl'
    have em1 := em
    have ex1 := ex
    obtain ⟨a2, b2, hG, ha2, hc2, hb2⟩ := hM.G (by omega)
    have h5' := hM.1.2.2.2.2.2.1
    have hK' := hM.1.1.1.1.2.1
    have hSM := hM.1.p x1.2.2.1.symm x1.hN.PARR.symm
    have hSB : h_SB p (s_up (s_up I f_a_temperings (nI g).toNatClampNeg y) f_m_temper (nI g).toNatClampNeg y) nk nr np := hM.2.2.2.2.1.rg (T := [f_m_temper]) (s_eqN.up (by decide)) (by decide) (hM.2.2.2.2.1.2.2.1.up (fun z => absurd z (by decide)) (fun _ => h_in50 h2) (fun z => absurd z (by decide)) (fun z => absurd z (by decide)) (fun z => absurd z (by decide)) (fun z => absurd z (by decide)))
    refine ⟨l_fG hG em1, ?_⟩
    rw [← em1]
    refine c_X16_temper (d := d + 2) hG hX (fun _ p2 c2 n2 x2 hL2 hn2 => k2 _ _ ?_ l_th (fun _ => ⟨_, if_pos rfl, ?_⟩)) (fun z => absurd ⟨h1, h2⟩ z)
    · skip
      refine h_fin (p := p) (TB := [f_m_temper]) hT hM x1 x2 (s_eqN.up (by decide)) (by decide) (fun _ _ => rfl) hSB ?_ hL2 hn2 hb2 ex1 em1 ⟨_, if_pos rfl⟩ (l_wd hne hd9) hne
      exact ⟨n, t, by omega, fun _ => rfl, a_temper hSM⟩
    · exact l_aI (v_eq_at hM.1.2.1.2.2.2.2.1 hg ec)
  · obtain ⟨a2, b2, hG, ha2⟩ := hQ.Gx (by omega)
    have hM := hG.1
    refine ⟨l_fG hG em, ?_⟩
    rw [← em]
    refine c_X16_temper (d := d + 2) hG hX (fun z _ _ _ _ _ _ => absurd z.1 h1) (fun _ => k2 _ _ (h_refL hQ ex em ⟨f, hf⟩ hd9 hne) l_th (fun z => absurd z (by decide)))
  · obtain ⟨a2, b2, hG, ha2⟩ := hQ.Gx (by omega)
    have hM := hG.1
    refine ⟨l_fG hG em, ?_⟩
    rw [← em]
    refine c_X16_temper (d := d + 2) hG hX (fun z _ _ _ _ _ _ => absurd z.2 h2) (fun _ => k2 _ _ (h_refL hQ ex em ⟨f, hf⟩ hd9 hne) l_th (fun z => absurd z (by decide)))
set_option maxRecDepth 100000 in
set_option maxHeartbeats 400000 in
theorem lp_heat {X : e_XT} {d T ax am ao ad : Nat} {p : e_Sp} {I : e_I} {J : e_Jt} {c : Nat × Nat} {w : e_Rw1} {Q : e_Rt → e_SS → Prop} {x y z : Int32} (hX : (X 8).1 = 0) (hT : T < 512) (h : h_L T ax am ao ad (p, I, J, c, w)) (k : ∀ k' S1, l_BI X T ax am ao ad (d + 12) 280 [.ref am, .int x, .int y, .int z] k' S1 → Q (.inl (some (.int k'))) S1) : s_c X (d + 12) 349 [.ref ax, .int x, .int y, .int z, .ref ao] (p, I, J, c, w) Q := by
  obtain ⟨⟨nk, nr, np, n, t, s, m, od, ob, hQ⟩, ex, em, ⟨f, hf⟩, hd9, hne⟩ := h
  dsimp only at hQ ex em hf hd9
  have hN := hQ.nums (by omega)
  obtain ⟨a1, b1, hTp, ha1, hb1⟩ := hQ.2.2.2.2.2.1.tp (by omega)
  have hD := hQ.2.1
  have hC := hD.1
  have hp := hC.1
  have hKn := hQ.1.1.1.1.2.1
  have h5 := hQ.1.2.2.2.2.2.1
  rw [← ex]
  refine c_L_heat (d := d + 11) hp (c_X11_heat (d := d + 6) hD (fun r hr hx h1 h2 => l_Wi.ok hf (k 0 _ (fun Q2 k2 => ?_))) (fun hx => l_Wi.ex (n := 1) (by decide) (k 1 _ (fun Q2 k2 => ?_))) (fun r hr hx h1 => l_Wi.ex (n := 2) (by decide) (k 2 _ (fun Q2 k2 => ?_))) (fun r hr hx h1 h2 => l_Wi.ex (n := 2) (by decide) (k 2 _ (fun Q2 k2 => ?_))))
  · subst hx
    have hM := h_qt (A := s_up (s_up I f_heat 0 x) f_r_heatNumber r z) (AJ := J) (TC := [f_heat, f_r_heatNumber]) hQ ((s_eqN.up (by decide)).trans (s_eqN.up (by decide))) (by decide) (fun _ _ => rfl)
    have x1 : s_xt p p := s_xt.rfl'
    have em1 := em
    have ex1 := ex
    obtain ⟨a2, b2, hG, ha2, hc2, hb2⟩ := hM.G (by omega)
    have h5' := hM.1.2.2.2.2.2.1
    have hK' := hM.1.1.1.1.2.1
    have hSM := hM.1.p x1.2.2.1.symm x1.hN.PARR.symm
    have hSB : h_SB p (s_up (s_up (s_up (s_up I f_heat 0 x) f_r_heatNumber r z) f_m_heat 0 x) f_mr_heat r z) nk nr np := hM.2.2.2.2.1.rg (T := [f_m_heat, f_mr_heat]) ((s_eqN.up (by decide)).trans (s_eqN.up (by decide))) (by decide) (((hM.2.2.2.2.1.2.2.1.up (fun z => absurd z (by decide)) (fun z => absurd z (by decide)) (fun _ => h_in20 h1) (fun z => absurd z (by decide)) (fun z => absurd z (by decide)) (fun z => absurd z (by decide)))).up (fun z => absurd z (by decide)) (fun z => absurd z (by decide)) (fun z => absurd z (by decide)) (fun _ => h_in9 h2) (fun z => absurd z (by decide)) (fun z => absurd z (by decide)))
    refine ⟨l_fG hG em1, ?_⟩
    rw [← em1]
    refine c_X16_heat (d := d + 2) hG hX (fun r2 hr2 hx2 _ p2 c2 n2 x2 hL2 hn2 => k2 _ _ ?_ l_th (fun _ => ⟨_, if_pos rfl, ?_⟩)) (fun z => absurd (h_kj hr (by omega)) z) (fun _ z => absurd ⟨h1, h2⟩ z)
    · obtain rfl := h_kE hr2 hr (by omega) hx2
      refine h_fin (p := p) (TB := [f_m_heat, f_mr_heat]) hT hM x1 x2 ((s_eqN.up (by decide)).trans (s_eqN.up (by decide))) (by decide) (fun _ _ => rfl) hSB ?_ hL2 hn2 hb2 ex1 em1 ⟨_, if_pos rfl⟩ (l_wd hne hd9) hne
      exact ⟨n, t, by omega, fun _ => rfl, a_heat hSM⟩
    · exact l_aI hM.1.2.1.2.2.1
  · obtain ⟨a2, b2, hG, ha2⟩ := hQ.Gx (by omega)
    have hM := hG.1
    refine ⟨l_fG hG em, ?_⟩
    rw [← em]
    refine c_X16_heat (d := d + 2) hG hX (fun kk hkk hx2 _ _ _ _ _ _ _ => absurd (h_kj hkk (by omega)) (hx2 ▸ h_kx hx)) (fun z => k2 _ _ (h_refL hQ ex em ⟨f, hf⟩ hd9 hne) l_th (fun z => absurd z (by decide))) (fun z _ => absurd z (h_kx hx))
  · obtain ⟨a2, b2, hG, ha2⟩ := hQ.Gx (by omega)
    have hM := hG.1
    subst hx
    refine ⟨l_fG hG em, ?_⟩
    rw [← em]
    refine c_X16_heat (d := d + 2) hG hX (fun _ _ _ z _ _ _ _ _ _ => absurd z.1 h1) (fun z => absurd (h_kj hr (by omega)) z) (fun _ _ => k2 _ _ (h_refL hQ ex em ⟨f, hf⟩ hd9 hne) l_th (fun z => absurd z (by decide)))
  · obtain ⟨a2, b2, hG, ha2⟩ := hQ.Gx (by omega)
    have hM := hG.1
    subst hx
    refine ⟨l_fG hG em, ?_⟩
    rw [← em]
    refine c_X16_heat (d := d + 2) hG hX (fun _ _ _ z _ _ _ _ _ _ => absurd z.2 h2) (fun z => absurd (h_kj hr (by omega)) z) (fun _ _ => k2 _ _ (h_refL hQ ex em ⟨f, hf⟩ hd9 hne) l_th (fun z => absurd z (by decide)))
set_option maxRecDepth 100000 in
set_option maxHeartbeats 400000 in
theorem lp_guest {X : e_XT} {d T ax am ao ad : Nat} {p : e_Sp} {I : e_I} {J : e_Jt} {c : Nat × Nat} {w : e_Rw1} {Q : e_Rt → e_SS → Prop} {x : Int32} (hX : (X 8).1 = 0) (hT : T < 512) (h : h_L T ax am ao ad (p, I, J, c, w)) (k : ∀ k' S1, l_BI X T ax am ao ad (d + 12) 286 [.ref am, .int x] k' S1 → Q (.inl (some (.int k'))) S1) : s_c X (d + 12) 353 [.ref ax, .int x, .ref ao] (p, I, J, c, w) Q := by
  obtain ⟨⟨nk, nr, np, n, t, s, m, od, ob, hQ⟩, ex, em, ⟨f, hf⟩, hd9, hne⟩ := h
  dsimp only at hQ ex em hf hd9
  have hN := hQ.nums (by omega)
  obtain ⟨a1, b1, hTp, ha1, hb1⟩ := hQ.2.2.2.2.2.1.tp (by omega)
  have hD := hQ.2.1
  have hC := hD.1
  have hp := hC.1
  have hKn := hQ.1.1.1.1.2.1
  have h5 := hQ.1.2.2.2.2.2.1
  rw [← ex]
  refine c_L_guest (d := d + 11) hp (c_X11_guest (d := d + 10) hp (fun h1 => l_Wi.ok hf (k 0 _ (fun Q2 k2 => ?_))) (fun h1 => l_Wi.ex (n := 1) (by decide) (k 1 _ (fun Q2 k2 => ?_))))
  · obtain ⟨g, hg, rfl⟩ := h_rg3 h1
    have eg : (if 0 ≤ nI g ∧ nI g < 4 then nI g else I f_guest 0) = nI g := if_pos ⟨h1.1, by have := h1.2; grind⟩
    rw [eg]
    have hM := h_qt (A := s_up I f_guest 0 (nI g)) (AJ := J) (TC := [f_guest]) hQ (s_eqN.up (by decide)) (by decide) (fun _ _ => rfl)
    have x1 : s_xt p p := s_xt.rfl'
    have em1 := em
    have ex1 := ex
    obtain ⟨a2, b2, hG, ha2, hc2, hb2⟩ := hM.G (by omega)
    have h5' := hM.1.2.2.2.2.2.1
    have hK' := hM.1.1.1.1.2.1
    have hSM := hM.1.p x1.2.2.1.symm x1.hN.PARR.symm
    refine ⟨l_fG hG em1, ?_⟩
    rw [← em1]
    refine c_X16_guest (d := d + 2) hG hX (fun _ p2 c2 n2 x2 hL2 hn2 => k2 _ _ ?_ l_th (fun _ => ⟨_, if_pos rfl, ?_⟩)) (fun z => absurd h1 z)
    · skip
      refine h_fin (p := p) (TB := [f_m_guest]) hT hM x1 x2 (s_eqN.up (by decide)) (by decide) (fun _ _ => rfl) (hM.2.2.2.2.1.N s_xv.rfl' (show s_eqN [f_m_guest] _ _ from (s_eqN.up (by decide))) (by decide) (s_up_F (by decide)) (s_up_F (by decide))) ?_ hL2 hn2 hb2 ex1 em1 ⟨_, if_pos rfl⟩ (l_wd hne hd9) hne
      exact ⟨n, t, by omega, fun _ => rfl, a_guest hg hSM⟩
    · obtain ⟨g9, -, q1, q2⟩ := hM.1.2.2.1.1
      exact l_aI (q1.trans q2.symm)
  · obtain ⟨a2, b2, hG, ha2⟩ := hQ.Gx (by omega)
    have hM := hG.1
    refine ⟨l_fG hG em, ?_⟩
    rw [← em]
    refine c_X16_guest (d := d + 2) hG hX (fun z _ _ _ _ _ _ => absurd z h1) (fun _ => k2 _ _ (h_refL hQ ex em ⟨f, hf⟩ hd9 hne) l_th (fun z => absurd z (by decide)))
set_option maxRecDepth 100000 in
set_option maxHeartbeats 400000 in
theorem lp_level {X : e_XT} {d T ax am ao ad : Nat} {p : e_Sp} {I : e_I} {J : e_Jt} {c : Nat × Nat} {w : e_Rw1} {Q : e_Rt → e_SS → Prop} {x : Int32} (hX : (X 8).1 = 0) (hT : T < 512) (h : h_L T ax am ao ad (p, I, J, c, w)) (k : ∀ k' S1, l_BI X T ax am ao ad (d + 12) 289 [.ref am, .int x] k' S1 → Q (.inl (some (.int k'))) S1) : s_c X (d + 12) 355 [.ref ax, .int x, .ref ao] (p, I, J, c, w) Q := by
  obtain ⟨⟨nk, nr, np, n, t, s, m, od, ob, hQ⟩, ex, em, ⟨f, hf⟩, hd9, hne⟩ := h
  dsimp only at hQ ex em hf hd9
  have hN := hQ.nums (by omega)
  obtain ⟨a1, b1, hTp, ha1, hb1⟩ := hQ.2.2.2.2.2.1.tp (by omega)
  have hD := hQ.2.1
  have hC := hD.1
  have hp := hC.1
  have hKn := hQ.1.1.1.1.2.1
  have h5 := hQ.1.2.2.2.2.2.1
  rw [← ex]
  refine c_L_level (d := d + 11) hp (c_X11_level (d := d + 10) hp (fun h1 => l_Wi.ok hf (k 0 _ (fun Q2 k2 => ?_))) (fun h1 => l_Wi.ex (n := 1) (by decide) (k 1 _ (fun Q2 k2 => ?_))))
  · obtain ⟨g, hg, rfl⟩ := h_rg3 h1
    have eg : (if 0 ≤ nI g ∧ nI g < 4 then nI g else I f_level 0) = nI g := if_pos ⟨h1.1, by have := h1.2; grind⟩
    rw [eg]
    have hM := h_qt (A := s_up I f_level 0 (nI g)) (AJ := J) (TC := [f_level]) hQ (s_eqN.up (by decide)) (by decide) (fun _ _ => rfl)
    have x1 : s_xt p p := s_xt.rfl'
    have em1 := em
    have ex1 := ex
    obtain ⟨a2, b2, hG, ha2, hc2, hb2⟩ := hM.G (by omega)
    have h5' := hM.1.2.2.2.2.2.1
    have hK' := hM.1.1.1.1.2.1
    have hSM := hM.1.p x1.2.2.1.symm x1.hN.PARR.symm
    refine ⟨l_fG hG em1, ?_⟩
    rw [← em1]
    refine c_X16_level (d := d + 2) hG hX (fun _ p2 c2 n2 x2 hL2 hn2 => k2 _ _ ?_ l_th (fun _ => ⟨_, if_pos rfl, ?_⟩)) (fun z => absurd h1 z)
    · skip
      refine h_fin (p := p) (TB := [f_m_level]) hT hM x1 x2 (s_eqN.up (by decide)) (by decide) (fun _ _ => rfl) (hM.2.2.2.2.1.N s_xv.rfl' (show s_eqN [f_m_level] _ _ from (s_eqN.up (by decide))) (by decide) (s_up_F (by decide)) (s_up_F (by decide))) ?_ hL2 hn2 hb2 ex1 em1 ⟨_, if_pos rfl⟩ (l_wd hne hd9) hne
      exact ⟨n, t, by omega, fun _ => rfl, a_level hg hSM⟩
    · obtain ⟨g9, -, q1, q2⟩ := hM.1.2.2.1.2.1
      exact l_aI (q1.trans q2.symm)
  · obtain ⟨a2, b2, hG, ha2⟩ := hQ.Gx (by omega)
    have hM := hG.1
    refine ⟨l_fG hG em, ?_⟩
    rw [← em]
    refine c_X16_level (d := d + 2) hG hX (fun z _ _ _ _ _ _ => absurd z h1) (fun _ => k2 _ _ (h_refL hQ ex em ⟨f, hf⟩ hd9 hne) l_th (fun z => absurd z (by decide)))
set_option maxRecDepth 100000 in
set_option maxHeartbeats 400000 in
theorem lp_scale {X : e_XT} {d T ax am ao ad : Nat} {p : e_Sp} {I : e_I} {J : e_Jt} {c : Nat × Nat} {w : e_Rw1} {Q : e_Rt → e_SS → Prop} {x y : Int32} (hX : (X 8).1 = 0) (hy : y = 0 ∨ y = 1) (hT : T < 512) (h : h_L T ax am ao ad (p, I, J, c, w)) (k : ∀ k' S1, l_BI X T ax am ao ad (d + 12) 310 [.ref am, .int x, .int y] k' S1 → Q (.inl (some (.int k'))) S1) : s_c X (d + 12) 369 [.ref ax, .int x, .int y, .ref ao] (p, I, J, c, w) Q := by
  obtain ⟨⟨nk, nr, np, n, t, s, m, od, ob, hQ⟩, ex, em, ⟨f, hf⟩, hd9, hne⟩ := h
  dsimp only at hQ ex em hf hd9
  have hN := hQ.nums (by omega)
  obtain ⟨a1, b1, hTp, ha1, hb1⟩ := hQ.2.2.2.2.2.1.tp (by omega)
  have hD := hQ.2.1
  have hC := hD.1
  have hp := hC.1
  have hKn := hQ.1.1.1.1.2.1
  have h5 := hQ.1.2.2.2.2.2.1
  rw [← ex]
  refine c_L_scale (d := d + 11) hp (c_X11_scale (d := d + 10) hp hy (fun h1 => l_Wi.ok hf (k 0 _ (fun Q2 k2 => ?_))) (fun h1 => l_Wi.ex (n := 1) (by decide) (k 1 _ (fun Q2 k2 => ?_))))
  · obtain ⟨g, hg, rfl⟩ := h_rg11 h1
    have hM := h_qt (A := s_up (s_up (s_up I f_tonic 0 (nI g)) f_isMajor 0 y) f_hasChord 0 0) (AJ := J) (TC := [f_tonic, f_isMajor, f_hasChord]) hQ ((((s_eqN.up (by decide)).trans (s_eqN.up (by decide)))).trans (s_eqN.up (by decide))) (by decide) (fun _ _ => rfl)
    have x1 : s_xt p p := s_xt.rfl'
    have em1 := em
    have ex1 := ex
    obtain ⟨a2, b2, hG, ha2, hc2, hb2⟩ := hM.G (by omega)
    have h5' := hM.1.2.2.2.2.2.1
    have hK' := hM.1.1.1.1.2.1
    have hSM := hM.1.p x1.2.2.1.symm x1.hN.PARR.symm
    refine ⟨l_fG hG em1, ?_⟩
    rw [← em1]
    refine c_X16_scale (d := d + 2) hG hX hy (fun _ p2 c2 n2 x2 hL2 hn2 => k2 _ _ ?_ l_th (fun _ => ⟨_, if_pos rfl, ?_⟩)) (fun z => absurd h1 z)
    · skip
      refine h_fin (p := p) (TB := [f_m_tonic, f_m_isMajor, f_m_hasChord]) hT hM x1 x2 ((((s_eqN.up (by decide)).trans (s_eqN.up (by decide)))).trans (s_eqN.up (by decide))) (by decide) (fun _ _ => rfl) (hM.2.2.2.2.1.N s_xv.rfl' (show s_eqN [f_m_tonic, f_m_isMajor, f_m_hasChord] _ _ from ((((s_eqN.up (by decide)).trans (s_eqN.up (by decide)))).trans (s_eqN.up (by decide)))) (by decide) (by rw [s_up_F (by decide), s_up_F (by decide), s_up_F (by decide)]) (by rw [s_up_F (by decide), s_up_F (by decide), s_up_F (by decide)])) ?_ hL2 hn2 hb2 ex1 em1 ⟨_, if_pos rfl⟩ (l_wd hne hd9) hne
      exact ⟨n, t, by omega, fun _ => rfl, a_scale hg hSM⟩
    · obtain ⟨g9, -, q1, q2⟩ := hM.1.2.2.2.2.1.1
      exact l_aI (q1.trans q2.symm)
  · obtain ⟨a2, b2, hG, ha2⟩ := hQ.Gx (by omega)
    have hM := hG.1
    refine ⟨l_fG hG em, ?_⟩
    rw [← em]
    refine c_X16_scale (d := d + 2) hG hX hy (fun z _ _ _ _ _ _ => absurd z h1) (fun _ => k2 _ _ (h_refL hQ ex em ⟨f, hf⟩ hd9 hne) l_th (fun z => absurd z (by decide)))
set_option maxRecDepth 100000 in
set_option maxHeartbeats 400000 in
theorem lp_drive {X : e_XT} {d T ax am ao ad : Nat} {p : e_Sp} {I : e_I} {J : e_Jt} {c : Nat × Nat} {w : e_Rw1} {Q : e_Rt → e_SS → Prop} {x y : Int32} (hX : (X 8).1 = 0) (hT : T < 512) (h : h_L T ax am ao ad (p, I, J, c, w)) (k : ∀ k' S1, l_BI X T ax am ao ad (d + 12) 306 [.ref am, .int x, .int y] k' S1 → Q (.inl (some (.int k'))) S1) : s_c X (d + 12) 366 [.ref ax, .int x, .int y, .ref ao] (p, I, J, c, w) Q := by
  obtain ⟨⟨nk, nr, np, n, t, s, m, od, ob, hQ⟩, ex, em, ⟨f, hf⟩, hd9, hne⟩ := h
  dsimp only at hQ ex em hf hd9
  have hN := hQ.nums (by omega)
  obtain ⟨a1, b1, hTp, ha1, hb1⟩ := hQ.2.2.2.2.2.1.tp (by omega)
  have hD := hQ.2.1
  have hC := hD.1
  have hp := hC.1
  have hKn := hQ.1.1.1.1.2.1
  have h5 := hQ.1.2.2.2.2.2.1
  rw [← ex]
  refine c_L_drive (d := d + 11) hp (c_X11_drive (d := d + 4) hD hTp (fun j hj hx hr p1 c1 hD1 x1 hT1 => l_Wi.ok hf (k 0 _ (fun Q2 k2 => ?_))) (fun hx => l_Wi.ex (n := 1) (by decide) (k 1 _ (fun Q2 k2 => ?_))) (fun j hj hx h1 h2 => l_Wi.ex (n := 1) (by decide) (k 1 _ (fun Q2 k2 => ?_))))
  · subst hx
    have hr2 : y = -1 ∨ ∃ r, r < 16 ∧ y = nI r := hr.imp id (fun z => s_nat z.1 (show y < nI 16 from z.2) (by omega))
    have hM := h_stl (TC := [f_k_relay]) hQ (s_eqN.up (by decide)) (by decide) x1 hD1 hT1 hb1
    have em1 : p1.1 T_MODEL 0 = am := by rw [(x1.1 T_MODEL rfl).1]; exact em
    have ex1 : p1.1 T_HALL 0 = ax := by rw [(x1.1 T_HALL rfl).1]; exact ex
    obtain ⟨a2, b2, hG, ha2, hc2, hb2⟩ := hM.G (by omega)
    have h5' := hM.1.2.2.2.2.2.1
    have hK' := hM.1.1.1.1.2.1
    have hSM := hM.1.p x1.2.2.1.symm x1.hN.PARR.symm
    refine ⟨l_fG hG em1, ?_⟩
    rw [← em1]
    refine c_X16_drive (d := d + 2) hG hX (fun kk hkk hx2 _ p2 c2 n2 x2 hL2 hn2 => k2 _ _ ?_ l_th (fun _ => ⟨_, if_pos rfl, ?_⟩)) (fun z => absurd ⟨h_kj hj (by omega), hr.elim (fun q => by rw [q]; decide) (fun q => ⟨by have := q.1; grind, by have := q.2; grind⟩)⟩ z)
    · obtain rfl := h_kE hkk hj (by omega) hx2
      refine h_fin (p := p) (TB := [f_mk_relay]) hT hM x1 x2 (s_eqN.up (by decide)) (by decide) (fun _ _ => rfl) (hM.2.2.2.2.1.D (T := [f_mk_relay]) (hG.upK (fun z => absurd z (by decide)) (fun _ => hr2) (.inr rfl)).1 (s_eqN.up (by decide)) (by decide)) ?_ hL2 hn2 hb2 ex1 em1 ⟨_, if_pos rfl⟩ (l_wd hne hd9) hne
      exact a_drive hr2 hSM (by omega) (by omega)
    · obtain rfl := h_kE hkk hj (by omega) hx2
      exact l_aI (hK'.2 kk hkk).1.2.2.2
  · obtain ⟨a2, b2, hG, ha2⟩ := hQ.Gx (by omega)
    have hM := hG.1
    refine ⟨l_fG hG em, ?_⟩
    rw [← em]
    refine c_X16_drive (d := d + 2) hG hX (fun kk hkk hx2 _ _ _ _ _ _ _ => absurd (h_kj hkk (by omega)) (hx2 ▸ h_kx hx)) (fun z => k2 _ _ (h_refL hQ ex em ⟨f, hf⟩ hd9 hne) l_th (fun z => absurd z (by decide)))
  · obtain ⟨a2, b2, hG, ha2⟩ := hQ.Gx (by omega)
    have hM := hG.1
    refine ⟨l_fG hG em, ?_⟩
    rw [← em]
    refine c_X16_drive (d := d + 2) hG hX (fun _ _ _ z _ _ _ _ _ _ => absurd z (fun z => h2 ⟨by have := z.1; grind, by have := z.2; grind⟩)) (fun _ => k2 _ _ (h_refL hQ ex em ⟨f, hf⟩ hd9 hne) l_th (fun z => absurd z (by decide)))
