/-! 9999999999999995: calls on both sides: tremulant, coupler, stop -/
theorem h_dvE {x : Int32} (h : s_isdv x = true) : ∃ dv, dv < 3 ∧ x = nI dv := by
  unfold s_isdv at h
  rw [Bool.and_eq_true] at h
  exact s_nat (of_decide_eq_true h.1) (of_decide_eq_true h.2) (by omega)
theorem h_kE1 {p : e_Sp} {nk nr : Nat} {I C : e_I} {J : e_Jt} {kd x : Int32} (eC : s_eqN v_cs I C) : s_eqN (v_gC ++ s_tST) I (s_stl p (nk + 1) nr (s_adI (s_kI C nk kd x) 1 nk, J)).1 := by
  have ea : s_eqN [f_l_modCount, f_l_size] (s_kI C nk kd x) (s_adI (s_kI C nk kd x) 1 nk) := v_adN
  have e1 : s_eqN v_gC I (s_adI (s_kI C nk kd x) 1 nk) := (eC.mono (by decide)).trans (v_kIN.trans (ea.mono (by decide)))
  exact (e1.mono (by decide)).trans (s_eqN.stl.mono (by decide))
theorem h_kE2 {p : e_Sp} {nk nr l : Nat} {I C : e_I} {J : e_Jt} {kd x : Int32} (eC : s_eqN v_cs I C) (hl : l ≠ 1) : (s_stl p (nk + 1) nr (s_adI (s_kI C nk kd x) 1 nk, J)).1 f_l_size l = I f_l_size l := by
  have e1 : s_eqN [f_k_kind, f_k_division, f_k_isOut, f_k_isLocked, f_k_isInScope, f_k_relay] C (s_kI C nk kd x) := (((((s_eqN.up (by decide)).trans (s_eqN.up (by decide))).trans (s_eqN.up (by decide))).trans (s_eqN.up (by decide))).trans (s_eqN.up (by decide))).trans (s_eqN.up (by decide))
  rw [s_eqN.stl _ (by decide)]
  dsimp only
  rw [s_adI_n hl, e1 _ (by decide), eC _ (by decide)]
theorem h_kJ {p : e_Sp} {nk nr : Nat} {A : e_I} {J : e_Jt} : ∀ F, h_JM.contains F = true → (s_stl p nk nr (A, J)).2 F = J F := fun F hF => v_stlJ F (v_dj.o (L := h_JM) (T := [j_allEnds]) (by decide) hF)
theorem h_40 {nk : Nat} (h : nk ≤ 40) (hn : ¬ nk < 40) : nk = 40 := by omega
theorem h_kT3 {t l i : Nat} (ht : t ∈ T_MKNOB :: q_kT) : h_G3 l t i = false := by
  have key2 : (q_kT.all fun t => !([T_ENTR, T_RANK, T_PARR, T_PIPE].contains t || s_kT.contains t) && decide (t ≠ T_LARR)) = true := by decide
  rcases List.mem_cons.mp ht with z | z
  · rw [z]; rfl
  · have k2 := List.all_eq_true.mp key2 t z
    rw [Bool.and_eq_true, Bool.not_eq_true'] at k2
    unfold h_G3 s_NL
    rw [k2.1, decide_eq_false (of_decide_eq_true k2.2)]
    rfl
theorem h_stiE {I : e_I} {nk : Nat} : s_eqN v_cs I (s_sti I nk 61) := fun F hF => by
  have h1 : ∀ G, G ∈ [f_s_places, f_s_keysAt, f_s_ranks, f_s_offsets, f_s_firsts, f_s_lasts] → F ≠ G := fun G hG z => by
    rw [z] at hF
    have : ∀ G, G ∈ [f_s_places, f_s_keysAt, f_s_ranks, f_s_offsets, f_s_firsts, f_s_lasts] → v_cs.contains G = true := by decide
    rw [this G hG] at hF
    exact absurd hF (by decide)
  funext i
  unfold s_sti
  rw [if_neg (fun w => w.1.elim (h1 _ (by decide)) (h1 _ (by decide))), if_neg (fun w => w.1.elim (h1 _ (by decide)) (fun w => w.elim (h1 _ (by decide)) (fun w => w.elim (h1 _ (by decide)) (h1 _ (by decide)))))]

set_option maxRecDepth 100000 in
set_option maxHeartbeats 800000 in
theorem lp_tremulant {X : e_XT} {d T ax am ao ad : Nat} {p : e_Sp} {I : e_I} {J : e_Jt} {c : Nat × Nat} {w : e_Rw1} {Q : e_Rt → e_SS → Prop} {x : Int32} (hX : (X 8).1 = 0) (hT : T < 512) (h : h_L T ax am ao ad (p, I, J, c, w)) (k : ∀ k' S1, l_BI X T ax am ao ad (d + 12) 246 [.ref am, .int x] k' S1 → Q (.inl (some (.int k'))) S1) : s_c X (d + 12) 328 [.ref ax, .int x, .ref ao] (p, I, J, c, w) Q := by
  obtain ⟨⟨nk, nr, np, n, t, s, m, od, ob, hQ⟩, ex, em, ⟨f, hf⟩, hd9, hne⟩ := h
  dsimp only at hQ ex em hf hd9
  have hN := hQ.nums (by omega)
  obtain ⟨a1, b1, hTp, ha1, hb1⟩ := hQ.2.2.2.2.2.1.tp (by omega)
  have hD := hQ.2.1
  have hp := hD.1.1
  have hSL := hQ.2.2.2.1
  have hxb : e_xb = 4294967296 := rfl
  rw [← ex]
  refine c_L_tremulant (d := d + 11) hp (c_X11_tremulant (d := d + 3) hD hTp hSL.1.2.1 hX (by omega) (by omega) (fun t ht => hSL.2.2.2.2.1.1 t ht nk (Nat.le_refl _)) (fun hdx h40 p1 x9 y9 hx9 hy9 hxv hkn p' c1 hD1 x1 hT1 hLa1 => l_Wi.ok hf (k 0 _ (fun Q2 k2 => ?_))) (fun hx => l_Wi.ex (n := 1) (by decide) (k 1 _ (fun Q2 k2 => ?_))) (fun hx h40 => l_Wi.ex (n := 2) (by decide) (k 2 _ (fun Q2 k2 => ?_))))
  · obtain ⟨dv, hd3, rfl⟩ := h_dvE hdx
    have eC : s_eqN v_cs I I := s_eqN.rfl'
    obtain ⟨hS1, hSB1, hR1⟩ := h_knob1 hQ hxv x1 (h_kE1 eC) (by decide) (fun l hl => h_kE2 eC hl) (h_kJ (p := p) (nk := nk + 1) (nr := nr) (A := s_adI (s_kI I nk 116 (nI dv)) 1 nk)) hT1 hb1
    have xG := (h_kC hxv x1).1
    have em1 : p'.1 T_MODEL 0 = am := (xG T_MODEL 0 (by decide)).1.trans em
    have ex1 : p'.1 T_HALL 0 = ax := (xG T_HALL 0 (by decide)).1.trans ex
    obtain ⟨a2, b2, hG, ha2, hc2, hb2⟩ := h_gG hS1 hSB1 hR1 hN.2.1.1 (by omega)
    refine ⟨l_fG hG em1, ?_⟩
    rw [← em1]
    refine c_X16_tremulant (d := d + 1) hG hX (hSL.1.2.2.2.xG xG (by decide) (by decide) (h_kE2 eC (by decide))) (by omega) (by omega) (fun t ht => ((xG t nk (h_kT3 ht)).2.1).trans (hSL.2.2.2.2.2.1 t ht nk (Nat.le_refl _))) (fun _ _ p2 x8 y8 hx8 hy8 hxv2 hkt hLa3 p4 c4 n4 x4 hL4 hn4 => k2 _ _ ?_ l_th (fun _ => ⟨_, if_pos rfl, ?_⟩)) (fun w => absurd (h_dv.mp hdx) w) (fun _ w => absurd h40 (by omega))
    · exact h_knob2 (c' := c1) hQ hT h40 hd3 hxv x1 (h_kE1 eC) (by decide) (fun l hl => h_kE2 eC hl) v_Wd.stl hD1 hLa1 hx9 hy9 hx8 hy8 hS1 hSB1 (a_tremulant hS1 h40 hd3 (by omega) (by omega)) hxv2 hkt hLa3 x4 hL4 hn4 hb2 ex1 em1 ⟨_, if_pos rfl⟩ (l_wd hne hd9) hne
    · exact l_aI rfl
  · obtain ⟨a2, b2, hG, ha2⟩ := hQ.Gx (by omega)
    refine ⟨l_fG hG em, ?_⟩
    rw [← em]
    refine c_X16_tremulant (d := d + 1) hG hX hSL.1.2.2.2 (by dsimp only; omega) (by omega) (fun t ht => hSL.2.2.2.2.2.1 t ht nk (Nat.le_refl _)) (fun w => absurd w (h_dvN hx)) (fun _ => k2 _ _ (h_refL hQ ex em ⟨f, hf⟩ hd9 hne) l_th (fun z => absurd z (by decide))) (fun w => absurd w (h_dvN hx))
  · obtain ⟨a2, b2, hG, ha2⟩ := hQ.Gx (by omega)
    refine ⟨l_fG hG em, ?_⟩
    rw [← em]
    refine c_X16_tremulant (d := d + 1) hG hX hSL.1.2.2.2 (by dsimp only; omega) (by omega) (fun t ht => hSL.2.2.2.2.2.1 t ht nk (Nat.le_refl _)) (fun _ w => absurd w h40) (fun w => absurd (h_dv.mp hx) w) (fun _ h9 p1 hxn hv9 => k2 _ _ (h_L.of (w := w) (h_deadK hQ hT h9 hxn hv9) ((hxn.1 T_HALL 0 rfl).1.trans ex) ((hxn.1 T_MODEL 0 rfl).1.trans em) ⟨f, hf⟩ hd9 hne) l_th (fun z => absurd z (by decide)))

set_option maxRecDepth 100000 in
set_option maxHeartbeats 800000 in
theorem lp_stop {X : e_XT} {d T ax am ao ad : Nat} {p : e_Sp} {I : e_I} {J : e_Jt} {c : Nat × Nat} {w : e_Rw1} {Q : e_Rt → e_SS → Prop} {x : Int32} (hX : (X 8).1 = 0) (hT : T < 512) (h : h_L T ax am ao ad (p, I, J, c, w)) (k : ∀ k' S1, l_BI X T ax am ao ad (d + 12) 240 [.ref am, .int x] k' S1 → Q (.inl (some (.int k'))) S1) : s_c X (d + 12) 324 [.ref ax, .int x, .ref ao] (p, I, J, c, w) Q := by
  obtain ⟨⟨nk, nr, np, n, t, s, m, od, ob, hQ⟩, ex, em, ⟨f, hf⟩, hd9, hne⟩ := h
  dsimp only at hQ ex em hf hd9
  have hN := hQ.nums (by omega)
  obtain ⟨a1, b1, hTp, ha1, hb1⟩ := hQ.2.2.2.2.2.1.tp (by omega)
  have hD := hQ.2.1
  have hp := hD.1.1
  have hSL := hQ.2.2.2.1
  have hxb : e_xb = 4294967296 := rfl
  rw [← ex]
  refine c_L_stop (d := d + 11) hp (c_X11_stop (d := d + 3) hD hTp hSL.1.2.1 hX (by omega) (by omega) (fun t ht => hSL.2.2.2.2.1.1 t ht nk (Nat.le_refl _)) (fun hdx h40 p1 x9 y9 hx9 hy9 hxv hkn p' c1 hD1 x1 hT1 hLa1 => l_Wi.ok hf (k 0 _ (fun Q2 k2 => ?_))) (fun hx => l_Wi.ex (n := 1) (by decide) (k 1 _ (fun Q2 k2 => ?_))) (fun hx h40 => l_Wi.ex (n := 2) (by decide) (k 2 _ (fun Q2 k2 => ?_))))
  · obtain ⟨dv, hd3, rfl⟩ := h_dvE hdx
    have eC : s_eqN v_cs I (s_sI (s_sti I nk 61) nk) := h_stiE.trans ((s_eqN.up (by decide)).trans (s_eqN.up (by decide)))
    obtain ⟨hS1, hSB1, hR1⟩ := h_knob1 hQ hxv x1 (h_kE1 eC) (by decide) (fun l hl => h_kE2 eC hl) (h_kJ (p := p) (nk := nk + 1) (nr := nr) (A := s_adI (s_kI (s_sI (s_sti I nk 61) nk) nk 115 (nI dv)) 1 nk)) hT1 hb1
    have xG := (h_kC hxv x1).1
    have em1 : p'.1 T_MODEL 0 = am := (xG T_MODEL 0 (by decide)).1.trans em
    have ex1 : p'.1 T_HALL 0 = ax := (xG T_HALL 0 (by decide)).1.trans ex
    obtain ⟨a2, b2, hG, ha2, hc2, hb2⟩ := h_gG hS1 hSB1 hR1 hN.2.1.1 (by omega)
    refine ⟨l_fG hG em1, ?_⟩
    rw [← em1]
    refine c_X16_stop (d := d + 1) hG hX (hSL.1.2.2.2.xG xG (by decide) (by decide) (h_kE2 eC (by decide))) (by omega) (by omega) (fun t ht => ((xG t nk (h_kT3 ht)).2.1).trans (hSL.2.2.2.2.2.1 t ht nk (Nat.le_refl _))) (fun _ _ p2 x8 y8 hx8 hy8 hxv2 hkt hLa3 p4 c4 n4 x4 hL4 hn4 => k2 _ _ ?_ l_th (fun _ => ⟨_, if_pos rfl, ?_⟩)) (fun w => absurd (h_dv.mp hdx) w) (fun _ w => absurd h40 (by omega))
    · exact h_knob2 (c' := c1) hQ hT h40 hd3 hxv x1 (h_kE1 eC) (by decide) (fun l hl => h_kE2 eC hl) v_Wd.stl hD1 hLa1 hx9 hy9 hx8 hy8 hS1 hSB1 (a_stop hS1 h40 hd3 (by omega) (by omega)) hxv2 hkt hLa3 x4 hL4 hn4 hb2 ex1 em1 ⟨_, if_pos rfl⟩ (l_wd hne hd9) hne
    · exact l_aI rfl
  · obtain ⟨a2, b2, hG, ha2⟩ := hQ.Gx (by omega)
    refine ⟨l_fG hG em, ?_⟩
    rw [← em]
    refine c_X16_stop (d := d + 1) hG hX hSL.1.2.2.2 (by dsimp only; omega) (by omega) (fun t ht => hSL.2.2.2.2.2.1 t ht nk (Nat.le_refl _)) (fun w => absurd w (h_dvN hx)) (fun _ => k2 _ _ (h_refL hQ ex em ⟨f, hf⟩ hd9 hne) l_th (fun z => absurd z (by decide))) (fun w => absurd w (h_dvN hx))
  · obtain ⟨a2, b2, hG, ha2⟩ := hQ.Gx (by omega)
    refine ⟨l_fG hG em, ?_⟩
    rw [← em]
    refine c_X16_stop (d := d + 1) hG hX hSL.1.2.2.2 (by dsimp only; omega) (by omega) (fun t ht => hSL.2.2.2.2.2.1 t ht nk (Nat.le_refl _)) (fun _ w => absurd w h40) (fun w => absurd (h_dv.mp hx) w) (fun _ h9 p1 hxn hv9 => k2 _ _ (h_L.of (w := w) (h_deadK hQ hT h9 hxn hv9) ((hxn.1 T_HALL 0 rfl).1.trans ex) ((hxn.1 T_MODEL 0 rfl).1.trans em) ⟨f, hf⟩ hd9 hne) l_th (fun z => absurd z (by decide)))

set_option maxRecDepth 100000 in
set_option maxHeartbeats 800000 in
theorem lp_coupler {X : e_XT} {d T ax am ao ad : Nat} {p : e_Sp} {I : e_I} {J : e_Jt} {c : Nat × Nat} {w : e_Rw1} {Q : e_Rt → e_SS → Prop} {x y z u : Int32} (hX : (X 8).1 = 0) (hu : vp_nar .char u = u) (hT : T < 512) (h : h_L T ax am ao ad (p, I, J, c, w)) (k : ∀ k' S1, l_BI X T ax am ao ad (d + 12) 245 [.ref am, .int x, .int y, .int z, .int u] k' S1 → Q (.inl (some (.int k'))) S1) : s_c X (d + 12) 327 [.ref ax, .int x, .int y, .int z, .int u, .ref ao] (p, I, J, c, w) Q := by
  obtain ⟨⟨nk, nr, np, n, t, s, m, od, ob, hQ⟩, ex, em, ⟨f, hf⟩, hd9, hne⟩ := h
  dsimp only at hQ ex em hf hd9
  have hN := hQ.nums (by omega)
  obtain ⟨a1, b1, hTp, ha1, hb1⟩ := hQ.2.2.2.2.2.1.tp (by omega)
  have hD := hQ.2.1
  have hp := hD.1.1
  have hSL := hQ.2.2.2.1
  have hxb : e_xb = 4294967296 := rfl
  rw [← ex]
  refine c_L_coupler (d := d + 11) hp (c_X11_coupler (d := d + 3) hD hTp hSL.1.2.1 hX (by omega) (by omega) (fun t ht => hSL.2.2.2.2.1.1 t ht nk (Nat.le_refl _)) hu (fun hdx hdy hz hu9 hxy h40 p1 x9 y9 hx9 hy9 hxv hkn p' c1 hD1 x1 hT1 hLa1 => l_Wi.ok hf (k 0 _ (fun Q2 k2 => ?_))) (fun hx => l_Wi.ex (n := 1) (by decide) (k 1 _ (fun Q2 k2 => ?_))) (fun hx hy => l_Wi.ex (n := 1) (by decide) (k 1 _ (fun Q2 k2 => ?_))) (fun hx hy h9 => l_Wi.ex (n := 2) (by decide) (k 2 _ (fun Q2 k2 => ?_))) (fun hx hy hz hu9 hxy h40 => l_Wi.ex (n := 3) (by decide) (k 3 _ (fun Q2 k2 => ?_))))
  · obtain ⟨dv, hd3, rfl⟩ := h_dvE hdx
    have eC : s_eqN v_cs I (s_cI I nk (nI dv) y z u) := (((s_eqN.up (by decide)).trans (s_eqN.up (by decide))).trans (s_eqN.up (by decide))).trans (s_eqN.up (by decide))
    obtain ⟨hS1, hSB1, hR1⟩ := h_knob1 hQ hxv x1 (h_kE1 eC) (by decide) (fun l hl => h_kE2 eC hl) (h_kJ (p := p) (nk := nk + 1) (nr := nr) (A := s_adI (s_kI (s_cI I nk (nI dv) y z u) nk 99 (nI dv)) 1 nk)) hT1 hb1
    have xG := (h_kC hxv x1).1
    have em1 : p'.1 T_MODEL 0 = am := (xG T_MODEL 0 (by decide)).1.trans em
    have ex1 : p'.1 T_HALL 0 = ax := (xG T_HALL 0 (by decide)).1.trans ex
    obtain ⟨a2, b2, hG, ha2, hc2, hb2⟩ := h_gG hS1 hSB1 hR1 hN.2.1.1 (by omega)
    refine ⟨l_fG hG em1, ?_⟩
    rw [← em1]
    refine c_X16_coupler (d := d + 1) hG hX (hSL.1.2.2.2.xG xG (by decide) (by decide) (h_kE2 eC (by decide))) (by omega) (by omega) (fun t ht => ((xG t nk (h_kT3 ht)).2.1).trans (hSL.2.2.2.2.2.1 t ht nk (Nat.le_refl _))) hu (fun _ _ _ _ _ _ p2 x8 y8 hx8 hy8 hxv2 hkt hLa3 p4 c4 n4 x4 hL4 hn4 => k2 _ _ ?_ l_th (fun _ => ⟨_, if_pos rfl, ?_⟩)) (fun w => absurd ⟨h_dv.mp hdx, h_dv.mp hdy⟩ w) (fun _ _ w => absurd ⟨hz, hu9, hxy⟩ w) (fun _ _ _ _ _ w => absurd h40 (by omega))
    · exact h_knob2 (c' := c1) hQ hT h40 hd3 hxv x1 (h_kE1 eC) (by decide) (fun l hl => h_kE2 eC hl) v_Wd.stl hD1 hLa1 hx9 hy9 hx8 hy8 hS1 hSB1 (a_coupler hS1 h40 hd3 (by omega) (by omega)) hxv2 hkt hLa3 x4 hL4 hn4 hb2 ex1 em1 ⟨_, if_pos rfl⟩ (l_wd hne hd9) hne
    · exact l_aI rfl
  · obtain ⟨a2, b2, hG, ha2⟩ := hQ.Gx (by omega)
    refine ⟨l_fG hG em, ?_⟩
    rw [← em]
    refine c_X16_coupler (d := d + 1) hG hX hSL.1.2.2.2 (by dsimp only; omega) (by omega) (fun t ht => hSL.2.2.2.2.2.1 t ht nk (Nat.le_refl _)) hu (fun w => absurd w (h_dvN hx)) (fun _ => k2 _ _ (h_refL hQ ex em ⟨f, hf⟩ hd9 hne) l_th (fun z => absurd z (by decide))) (fun w => absurd w (h_dvN hx)) (fun w => absurd w (h_dvN hx))
  · obtain ⟨a2, b2, hG, ha2⟩ := hQ.Gx (by omega)
    refine ⟨l_fG hG em, ?_⟩
    rw [← em]
    refine c_X16_coupler (d := d + 1) hG hX hSL.1.2.2.2 (by dsimp only; omega) (by omega) (fun t ht => hSL.2.2.2.2.2.1 t ht nk (Nat.le_refl _)) hu (fun _ w => absurd w (h_dvN hy)) (fun _ => k2 _ _ (h_refL hQ ex em ⟨f, hf⟩ hd9 hne) l_th (fun z => absurd z (by decide))) (fun _ w => absurd w (h_dvN hy)) (fun _ w => absurd w (h_dvN hy))
  · obtain ⟨a2, b2, hG, ha2⟩ := hQ.Gx (by omega)
    refine ⟨l_fG hG em, ?_⟩
    rw [← em]
    refine c_X16_coupler (d := d + 1) hG hX hSL.1.2.2.2 (by dsimp only; omega) (by omega) (fun t ht => hSL.2.2.2.2.2.1 t ht nk (Nat.le_refl _)) hu (fun _ _ z1 z2 z3 => absurd ⟨z1, z2, z3⟩ h9) (fun w => absurd ⟨h_dv.mp hx, h_dv.mp hy⟩ w) (fun _ _ _ => k2 _ _ (h_refL hQ ex em ⟨f, hf⟩ hd9 hne) l_th (fun z => absurd z (by decide))) (fun _ _ z1 z2 z3 => absurd ⟨z1, z2, z3⟩ h9)
  · obtain ⟨a2, b2, hG, ha2⟩ := hQ.Gx (by omega)
    refine ⟨l_fG hG em, ?_⟩
    rw [← em]
    refine c_X16_coupler (d := d + 1) hG hX hSL.1.2.2.2 (by dsimp only; omega) (by omega) (fun t ht => hSL.2.2.2.2.2.1 t ht nk (Nat.le_refl _)) hu (fun _ _ _ _ _ w => absurd w h40) (fun w => absurd ⟨h_dv.mp hx, h_dv.mp hy⟩ w) (fun _ _ w => absurd ⟨hz, hu9, hxy⟩ w) (fun _ _ _ _ _ h9 p1 hxn hv9 => k2 _ _ (h_L.of (w := w) (h_deadK hQ hT h9 hxn hv9) ((hxn.1 T_HALL 0 rfl).1.trans ex) ((hxn.1 T_MODEL 0 rfl).1.trans em) ⟨f, hf⟩ hd9 hne) l_th (fun z => absurd z (by decide)))
