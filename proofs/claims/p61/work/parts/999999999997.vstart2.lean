/-! 999999999997: the start: both sides agree -/
set_option maxRecDepth 100000 in
theorem w_ky1 : ∀ i, i < 183 → v_Wi f_a_pressed i = 0 ∧ v_Wi f_m_isDown i = 0 ∧ v_Wi f_a_pressedAt i = 0 ∧ v_Wi f_m_wentDown i = 0 := by decide +kernel
set_option maxRecDepth 100000 in
theorem w_ky2 : ∀ d, d < 3 → v_Wi f_a_lowest d = q_eg v_Wi (nI d) 0 ∧ v_Wi f_a_highest d = q_eg v_Wi (nI d) 1 := by decide +kernel
set_option maxRecDepth 100000 in
theorem w_rel : ∀ r, r < 16 → v_Wi f_a_relaysOn r = 0 ∧ v_Wi f_m_isRelay r = 0 ∧ v_Wi f_m_operation r = 45 ∧ v_Wi f_a_operations r = 0 ∧ v_Wi f_a_sources r = v_Wi f_m_first r ∧ v_Wi f_a_others r = v_Wi f_m_second r := by decide +kernel
set_option maxRecDepth 100000 in
theorem w_one : v_Wi f_now 0 = 0 ∧ v_Wi f_m_tick 0 = 0 ∧ v_Wi f_isTutti 0 = 0 ∧ v_Wi f_m_isTutti 0 = 0 ∧ v_Wi f_crescendo 0 = 0 ∧ v_Wi f_m_crescendo 0 = 0 ∧ v_Wi f_tsize 0 = 0 ∧ v_Wi f_l_size 4 = 0 ∧ v_Wi f_startedAt 0 = 0 ∧ v_Wi f_recording 0 = 45 ∧ v_Wi f_m_recording 0 = 45 ∧ v_Wi f_allBegins 0 = 0 ∧ v_Wi f_speakers 0 = 0 ∧ v_Wi f_heat 0 = 0 ∧ v_Wi f_m_heat 0 = 0 ∧ v_Wi f_guest 0 = 0 ∧ v_Wi f_m_guest 0 = 0 ∧ v_Wi f_level 0 = 0 ∧ v_Wi f_m_level 0 = 0 ∧ v_Wi f_next 0 = 0 ∧ v_Wi f_m_next 0 = 0 ∧ v_Wi f_tonic 0 = 0 ∧ v_Wi f_m_tonic 0 = 0 ∧ v_Wi f_isMajor 0 = 1 ∧ v_Wi f_m_isMajor 0 = 1 ∧ v_Wi f_hasChord 0 = 0 ∧ v_Wi f_m_hasChord 0 = 0 := by decide +kernel
set_option maxRecDepth 100000 in
theorem w_3 : ∀ d, d < 3 → v_Wi f_a_supplies d = 50 ∧ v_Wi f_m_supply d = 50 ∧ v_Wi f_a_uses d = 0 ∧ v_Wi f_a_openings d = 10 ∧ v_Wi f_m_box d = 10 ∧ v_Wi f_k_isLocked d = 0 ∧ v_Wi f_mk_isLocked d = 0 ∧ v_Wi f_k_isInScope d = 1 ∧ v_Wi f_mk_isIn d = 1 ∧ v_Wi f_m_best d = 0 ∧ v_Wi f_a_winds d = 100 := by decide +kernel
set_option maxRecDepth 100000 in
theorem w_12 : ∀ d, d < 12 → v_Wi f_a_temperings d = 0 ∧ v_Wi f_m_temper d = 0 := by decide +kernel
set_option maxRecDepth 100000 in
theorem w_mem : (∀ v, v < 4 → v_Wi f_a_owners v = -1 ∧ v_Wi f_m_claimed v = -1 ∧ v_Wi f_a_frameCounts v = 0 ∧ v_Wi f_l_size (8 + v) = 0) ∧ ∀ j, j < 16 → v_Wi f_a_reversibles j = -1 ∧ v_Wi f_m_reversible j = -1 := by decide +kernel
set_option maxRecDepth 100000 in
theorem w_kn : ∀ k, k < 3 → (v_Wi f_k_kind k = 117 ∧ v_Wi f_mk_kind k = 117 ∧ v_Wi f_k_division k = nI k ∧ v_Wi f_mk_division k = nI k) ∧ (v_Wi f_k_isOut k = 0 ∧ v_Wi f_mk_isDrawn k = 0 ∧ v_Wi f_k_relay k = -1 ∧ v_Wi f_mk_relay k = -1) ∧ (v_Wi f_c_from k = nI k ∧ v_Wi f_c_to k = nI k ∧ v_Wi f_c_shift k = 0 ∧ v_Wi f_c_kind k = 97) := by decide +kernel
set_option maxRecDepth 100000 in
theorem w_kq : (∀ v, v < 4 → ∀ y, y < 8 → v_Wi f_a_isSet (v * 20 + y) = v_Wi f_mg_isSet (8 * v + y) ∧ v_Wj j_a_kept (v * 20 + y) = v_Wj j_mg_knobs (8 * v + y) ∧ v_Wj j_a_drawn (v * 20 + y) = v_Wj j_mg_drawn (8 * v + y)) ∧ ∀ v, v < 4 → ∀ x, x < 3 → ∀ y, y < 4 → v_Wi f_a_isSet (v * 20 + (8 + x * 4 + y)) = v_Wi f_mg_isSet (32 + (4 * (3 * v + x) + y)) ∧ v_Wj j_a_kept (v * 20 + (8 + x * 4 + y)) = v_Wj j_mg_knobs (32 + (4 * (3 * v + x) + y)) ∧ v_Wj j_a_drawn (v * 20 + (8 + x * 4 + y)) = v_Wj j_mg_drawn (32 + (4 * (3 * v + x) + y)) := by decide +kernel
theorem w_J : v_Wj j_allEnds 0 = 0 ∧ v_Wj j_m_ended 0 = 0 ∧ v_Wj j_m_allBegun 0 = 0 := by decide +kernel
theorem w_z5 : v_Z5 v_Wi v_Wi := by
  have bo : ∀ F, (v_WiF.all fun G => !decide (G = F)) = true → ([f_recording, f_tkind, f_m_operation, f_m_fault, f_m_recording, f_m_kindKept].contains F) = false → q_bo v_Wi F := fun F h1 h2 => v_al.W (P := fun x => x = 0 ∨ x = 1) h1 (.inl rfl) (fun _ => .inr rfl) (fun z => by rw [h2] at z; cases z)
  have ch : ∀ F, (v_WiF.all fun G => !decide (G = F)) = true → ([f_k_isInScope, f_isMajor, f_mk_isIn, f_m_isMajor].contains F) = false → v_ch v_Wi F := fun F h1 h2 => v_al.W (P := fun x => vp_nar .char x = x) h1 (by decide) (fun z => by rw [h2] at z; cases z) (fun _ => by decide)
  refine ⟨fun F hF => ?_, fun F hF => ?_, ch _ (by decide) (by decide), ch _ (by decide) (by decide), ch _ (by decide) (by decide), ch _ (by decide) (by decide)⟩
  · have hF' : F = f_p_isOpened ∨ F = f_p_isSpeaking ∨ F = f_isTutti ∨ F = f_k_isOut ∨ F = f_k_isLocked ∨ F = f_k_isInScope := by simpa [v_bC] using hF
    rcases hF' with z | z | z | z | z | z <;> rw [z] <;> exact bo _ (by decide) (by decide)
  · have hF' : F = f_m_isDown ∨ F = f_m_isRelay ∨ F = f_m_isOpen ∨ F = f_m_speaks ∨ F = f_mk_isDrawn ∨ F = f_mk_isLocked ∨ F = f_mk_isIn ∨ F = f_m_isTutti := by simpa [v_bM] using hF
    rcases hF' with z | z | z | z | z | z | z | z <;> rw [z] <;> exact bo _ (by decide) (by decide)
theorem w_sim {p : e_Sp} (hb : p.2.2.2.2 0 = 0) (t : Nat → Nat) : v_Sim p 3 0 0 0 t 0 0 0 (v_Wi, v_Wj) (v_Wi, v_Wj) := by
  obtain ⟨o1, o2, o3, o4, o5, o6, o7, o8, o9, o10, o11, o12, o13, o14, o15, o16, o17, o18, o19, o20, o21, o22, o23, o24, o25, o26, o27⟩ := w_one
  obtain ⟨jj1, jj2, jj3⟩ := w_J
  have w_rel := w_rel
  have w_kn := w_kn
  have w_ky1 := w_ky1
  have w_ky2 := w_ky2
  have w_3 := w_3
  have w_12 := w_12
  have w_mem := w_mem
  have w_kq := w_kq
  have z5 := w_z5
  generalize v_Wi = W at *
  generalize v_Wj = WJ at *
  have nz : ∀ r, r < 16 → ¬ W f_m_operation r = 45 → False := fun r hr z => z (w_rel r hr).2.2.1
  have hKn : v_Kn W W 3 := ⟨⟨by omega, by omega⟩, fun k hk => by
    obtain ⟨⟨a1, a2, a3, a4⟩, ⟨b1, b2, b3, b4⟩, c1, c2, c3, c4⟩ := w_kn k hk
    exact ⟨⟨a1.trans a2.symm, a3.trans a4.symm, b1.trans b2.symm, b3.trans b4.symm⟩, ⟨k, hk, a3⟩, .inl b3, .inl ⟨hk, a1, a3, c1, c2, c3, c4⟩⟩⟩
  have hRel : v_Rel p 3 0 0 0 t 0 0 W W WJ WJ := by
    refine ⟨⟨⟨⟨hb, fun r hr => absurd hr (by omega), rfl⟩, ⟨by omega, by omega⟩, fun r hr => absurd hr (by omega)⟩, hKn, ⟨fun i hi => ?_, fun i hi => ?_, o1.trans o2.symm, w_ky2, o3.trans o4.symm, o5.trans o6.symm⟩⟩, ⟨fun r hr => ?_, ⟨fun r hr => (w_rel r hr).2.2.2.2.1, fun r hr => (w_rel r hr).2.2.2.2.2, fun r hr => ?_⟩, fun r hr _ => (w_rel r hr).2.1, fun r hr z => (nz r hr z).elim, fun r hr z => (nz r hr z).elim⟩, ⟨fun q hq => absurd hq (by omega), ⟨⟨o7, o8, o9, o2, by omega, by omega⟩, fun j hj => absurd hj (by omega), fun j hj => absurd hj (by omega), fun j hj => absurd hj (by omega), fun j hj => absurd hj (by omega)⟩, o10.trans o11.symm, fun d hd => (w_3 d hd).1.trans (w_3 d hd).2.1.symm⟩, fun q hq => absurd hq (by omega), ?_, jj1.trans jj2.symm⟩
    · exact (w_ky1 i hi).1.trans (w_ky1 i hi).2.1.symm
    · exact (w_ky1 i hi).2.2.1.trans (w_ky1 i hi).2.2.2.symm
    · exact (w_rel r hr).1.trans (w_rel r hr).2.1.symm
    · obtain ⟨a, b, c, d, _⟩ := w_rel r hr
      rw [c, d]
      exact ⟨rfl, .inl rfl⟩
    · rw [o12, jj3]; decide
  have hFin : v_Fin 0 W W := ⟨.inl rfl, o13, fun _ q hq => absurd hq (by omega), fun d hd => (w_3 d hd).2.2.1, fun q hq => absurd hq (by omega)⟩
  have hFix : v_Fix 3 0 0 W := ⟨fun r hr => .inl (w_rel r hr).2.2.1, fun q hq => absurd hq (by omega), fun q hq => absurd hq (by omega), fun q hq => absurd hq (by omega), .inl rfl, fun q hq => absurd hq (by omega)⟩
  have hKt : v_Kt 0 W W := fun i hi => ⟨0, by omega, (w_ky1 i hi).2.2.2, fun z => absurd (w_ky1 i hi).2.1 z⟩
  have z1 : v_Z1 3 0 W W := ⟨fun q hq => absurd hq (by omega), fun q hq => absurd hq (by omega), o14.trans o15.symm, fun d hd => (w_3 d hd).2.2.2.1.trans (w_3 d hd).2.2.2.2.1.symm, fun d hd => (w_12 d hd).1.trans (w_12 d hd).2.symm, fun d hd => (w_3 d hd).2.2.2.2.2.1.trans (w_3 d hd).2.2.2.2.2.2.1.symm, fun d hd => (w_3 d hd).2.2.2.2.2.2.2.1.trans (w_3 d hd).2.2.2.2.2.2.2.2.1.symm⟩
  have z2 : v_Z2 3 W W := ⟨⟨0, by omega, o16, o17⟩, ⟨0, by omega, o18, o19⟩, ⟨0, by omega, o20, o21⟩, fun v hv => ⟨(w_mem.1 v hv).1.trans (w_mem.1 v hv).2.1.symm, .inl (w_mem.1 v hv).2.1⟩, fun j hj => ⟨(w_mem.2 j hj).1.trans (w_mem.2 j hj).2.symm, .inl (w_mem.2 j hj).2⟩⟩
  have z3 : v_Z3 0 0 0 0 W W := ⟨.inl o11, .inl rfl⟩
  have z4 : v_Z4 W W := ⟨⟨0, by omega, o22, o23⟩, ⟨o24.trans o25.symm, o26.trans o27.symm⟩, fun z => absurd o27 z, fun j hj => ⟨0, by omega, (w_3 j hj).2.2.2.2.2.2.2.2.2.1⟩⟩
  have z6 : v_Z6 W W WJ WJ := ⟨fun v y hv hy => w_kq.1 v hv y hy, fun v x y hv hx hy => w_kq.2 v hv x hx y hy, fun g hg => ⟨0, by omega, (w_mem.1 g hg).2.2.1, (w_mem.1 g hg).2.2.2, fun j hj => absurd hj (by omega)⟩⟩
  exact ⟨⟨hRel, hFin, hFix, hKt⟩, z1, z2, z3, z4, z5, z6⟩
theorem w_fr : v_Fr 0 v_Wi := fun q _ hq => by
  refine ⟨fun F hF => ?_, ?_, ?_⟩
  · have hF' : F = f_m_isHeld ∨ F = f_m_isWanted ∨ F = f_m_isCalled ∨ F = f_m_isOpen ∨ F = f_m_speaks ∨ F = f_m_since ∨ F = f_m_begun ∨ F = f_m_tuning := by simpa [v_frZ] using hF
    have z0 : ∀ F, (v_WiF.all fun G => !decide (G = F)) = true → ([f_recording, f_tkind, f_m_operation, f_m_fault, f_m_recording, f_m_kindKept].contains F) = false → ([f_k_isInScope, f_isMajor, f_mk_isIn, f_m_isMajor].contains F) = false → v_Wi F q = 0 := fun F h1 h2 h3 => v_al.W (P := fun x => x = 0) h1 rfl (fun z => by rw [h3] at z; cases z) (fun z => by rw [h2] at z; cases z) q
    rcases hF' with z | z | z | z | z | z | z | z <;> rw [z] <;> exact z0 _ (by decide) (by decide) (by decide)
  · unfold v_Wi s_IMODEL v_Wi0 q_mI
    iterate 14 rw [s_up_F (by decide)]
    exact if_pos ⟨rfl, hq⟩
  · unfold v_Wi s_IMODEL v_Wi0 q_mI
    iterate 14 rw [s_up_F (by decide)]
    rw [s_fill_F (by decide)]
    exact if_pos ⟨rfl, hq⟩
