/-! 9999999999999997i: what was set comes back; a frame that was just prepared moves nothing; keys behind acts -/
theorem z_nz {x : Int32} (h : x = 0 ∨ x = 1) : bI (!decide (x = 0)) = x := by
  rcases h with rfl | rfl <;> decide
theorem z_ksb {I : e_I} {i : Nat} (hi : i < 9) : s_bt (s_kset I 9 (-1)) i = !decide (I f_k_isInScope i = 0) := by
  have e : s_kset I 9 (-1) = s_ks I 9 := rfl
  rw [e, v_ks]
  exact z_bt hi
theorem z_dab {I : e_I} {i : Nat} (hi : i < 9) : s_bt (s_da I 9 (s_kset I 9 (-1))) i = (!decide (I f_k_isOut i = 0) && !decide (I f_k_isInScope i = 0)) := by
  have e : s_kset I 9 (-1) = s_ks I 9 := rfl
  rw [e, v_ks, v_da (by decide)]
  exact z_bt hi
theorem z_alb {i : Nat} (hi : i < 9) : s_bt (s_b1 9 - 1) i = true := by
  rw [v_all (by decide)]
  exact z_bt hi
theorem z_dal {I : e_I} {i : Nat} (hi : i < 9) : s_bt (s_da I 9 (s_b1 9 - 1)) i = !decide (I f_k_isOut i = 0) := by
  rw [v_all (by decide), v_da (by decide)]
  have h : s_bt (v_OR (fun i => !decide (I f_k_isOut i = 0) && true) 9) i = (!decide (I f_k_isOut i = 0) && true) := z_bt hi
  rw [h, Bool.and_true]
/-- knobs that are moved are counted -/
theorem z_mtc {y z : Int64} {I : e_I} : ∃ q, q ≤ 9 ∧ (s_mt 9 y z I).2 = nI q := by
  obtain ⟨-, -, q, hq, e, -⟩ := z_mt (y := y) (z := z) (I := I) 9
  exact ⟨q, hq, e⟩
/-- set, drawn otherwise, pushed: it is as it was, or locked, or of no general piston -/
theorem z_back {p : e_Sp} {I0 A2 : e_I} {J0 J2 : e_Jt} {c y : Nat} {w : e_Rw1} {x : Int32} (hc : c < 9) (hy : y < 8) (h01 : I0 f_k_isOut c = 0 ∨ I0 f_k_isOut c = 1) (e2 : (A2, J2) = s_stl p 9 3 (s_up (s_kpI I0 (nI y)) f_k_isOut c x, s_kpJ I0 J0 (nI y) (s_kset I0 9 (-1)) (s_da I0 9 (s_kset I0 9 (-1))))) (hl : ∃ v, v < 4 ∧ I0 f_level 0 = nI v) : s_isk5 A2 (nI y) = true ∧ ((s_mt 9 (s_kby j_a_kept A2 J2 (nI y)) (s_kby j_a_drawn A2 J2 (nI y)) A2).1 f_k_isOut c = I0 f_k_isOut c ∨ ¬ (s_mt 9 (s_kby j_a_kept A2 J2 (nI y)) (s_kby j_a_drawn A2 J2 (nI y)) A2).1 f_k_isLocked c = 0 ∨ (s_mt 9 (s_kby j_a_kept A2 J2 (nI y)) (s_kby j_a_drawn A2 J2 (nI y)) A2).1 f_k_isInScope c = 0) := by
  obtain ⟨v, hv, el⟩ := hl
  have eS := s_eqN.stl (p := p) (nk := 9) (nr := 3) (a := (s_up (s_kpI I0 (nI y)) f_k_isOut c x, s_kpJ I0 J0 (nI y) (s_kset I0 9 (-1)) (s_da I0 9 (s_kset I0 9 (-1)))))
  have eJ := v_stlJ (p := p) (nk := 9) (nr := 3) (a := (s_up (s_kpI I0 (nI y)) f_k_isOut c x, s_kpJ I0 J0 (nI y) (s_kset I0 9 (-1)) (s_da I0 9 (s_kset I0 9 (-1)))))
  rw [← e2] at eS eJ
  dsimp only at eS eJ
  have eU : s_eqN [f_k_isOut] (s_kpI I0 (nI y)) (s_up (s_kpI I0 (nI y)) f_k_isOut c x) := s_eqN.up (by decide)
  have eK : s_eqN [f_a_isSet] I0 (s_kpI I0 (nI y)) := z_kpI
  have lvl : A2 f_level 0 = nI v := by
    rw [eS f_level (by decide), eU f_level (by decide), eK f_level (by decide)]; exact el
  have mx : ∀ A : e_I, A f_level 0 = nI v → s_mix A (nI y) = nI (v * 20 + y) := fun A hA => by
    unfold s_mix
    rw [if_neg, hA, show (20 : Int32) = nI 20 from by decide, v_nmul, nI_add]
    rintro (z | z)
    · exact nI_pos (by omega) z
    · have : (20 : Int32) = nI 20 := by decide
      rw [this] at z
      exact absurd z (Int32.not_le.mpr ((nI_ltI (by omega) (by omega)).mpr (by omega)))
  have m2 := mx A2 lvl
  have m0 := mx I0 el
  have kk : s_kby j_a_kept A2 J2 (nI y) = s_kset I0 9 (-1) := by
    unfold s_kby
    rw [m2, if_neg (nI_pos (by omega)), nI_clamp (by omega), eJ j_a_kept (by decide)]
    unfold s_kpJ
    rw [m0, if_neg (nI_pos (by omega)), nI_clamp (by omega), s_up_F (by decide), s_up_s]
  have kd : s_kby j_a_drawn A2 J2 (nI y) = s_da I0 9 (s_kset I0 9 (-1)) := by
    unfold s_kby
    rw [m2, if_neg (nI_pos (by omega)), nI_clamp (by omega), eJ j_a_drawn (by decide)]
    unfold s_kpJ
    rw [m0, if_neg (nI_pos (by omega)), nI_clamp (by omega), s_up_s]
  have hset : A2 f_a_isSet (v * 20 + y) = 1 := by
    rw [eS f_a_isSet (by decide), eU f_a_isSet (by decide)]
    unfold s_kpI
    rw [m0, if_neg (nI_pos (by omega)), nI_clamp (by omega), s_up_s]
  refine ⟨?_, ?_⟩
  · unfold s_isk5
    rw [m2, nI_clamp (by omega), hset, decide_eq_false (nI_pos (by omega))]
    rfl
  · rw [kk, kd]
    obtain ⟨z1, z2, -⟩ := z_mt (y := s_kset I0 9 (-1)) (z := s_da I0 9 (s_kset I0 9 (-1))) (I := A2) 9
    have eM := s_eqN.mt (nk := 9) (y := s_kset I0 9 (-1)) (z := s_da I0 9 (s_kset I0 9 (-1))) (I := A2)
    have sc : A2 f_k_isInScope c = I0 f_k_isInScope c := by
      rw [eS f_k_isInScope (by decide), eU f_k_isInScope (by decide), eK f_k_isInScope (by decide)]
    by_cases c1 : A2 f_k_isLocked c = 0
    · by_cases c2 : I0 f_k_isInScope c = 0
      · refine .inr (.inr ?_)
        rw [eM f_k_isInScope (by decide), sc, c2]
      · refine .inl ?_
        have := z1 c
        unfold s_mt
        rw [this, if_pos ⟨hc, by rw [z_ksb hc, decide_eq_false c2]; rfl, c1⟩, z_dab hc, decide_eq_false c2]
        show bI (!decide (I0 f_k_isOut c = 0) && true) = I0 f_k_isOut c
        rw [Bool.and_true]
        exact z_nz h01
    · refine .inr (.inl ?_)
      have := z2 c
      unfold s_mt
      rw [this]
      exact c1
/-- a frame just prepared moves nothing -/
theorem z_frm {I : e_I} {J : e_Jt} {g m9 : Nat} (hg : g < 4) (eg : I f_guest 0 = nI g) (hm : m9 < 20) (hb : ∀ i, i < 9 → I f_k_isOut i = 0 ∨ I f_k_isOut i = 1) {A : e_I} {JA : e_Jt} (eA : A = s_up I f_a_frameCounts g (nI (m9 + 1))) (eJ : JA = s_up (s_up (s_cpJ (s_cpJ J j_a_frameKept (g * 20 + 0) (g * 20 + 0 + 1) (m9 - 0)) j_a_frameDrawn (g * 20 + 0) (g * 20 + 0 + 1) (m9 - 0)) j_a_frameKept (g * 20 + 0) (s_b1 9 - 1)) j_a_frameDrawn (g * 20 + 0) (s_da I 9 (s_b1 9 - 1))) : 0 < s_frs A ∧ (s_mt 9 (s_kbf j_a_frameKept A JA 0) (s_kbf j_a_frameDrawn A JA 0) A).2 = 0 := by
  have e0 : s_eqN [f_a_frameCounts] I A := by rw [eA]; exact s_eqN.up (by decide)
  have hg2 : A f_guest 0 = nI g := by rw [e0 f_guest (by decide)]; exact eg
  have hf : s_frs A = nI (m9 + 1) := by
    unfold s_frs
    rw [hg2, nI_clamp (by omega), eA, s_up_s]
  have hf0 : 0 < s_frs A := by
    rw [hf]
    exact (nI_ltI (a := 0) (by omega) (by omega)).mpr (by omega)
  refine ⟨hf0, ?_⟩
  have hix : (A f_guest 0 * 20 + 0).toNatClampNeg = g * 20 + 0 := by
    rw [hg2, show (20 : Int32) = nI 20 from by decide, v_nmul, Int32.add_zero, nI_clamp (by omega), Nat.add_zero]
  have k1 : s_kbf j_a_frameKept A JA 0 = s_b1 9 - 1 := by
    unfold s_kbf
    rw [if_pos ⟨by decide, hf0⟩, hix, eJ, s_up_F (by decide), s_up_s]
  have k2 : s_kbf j_a_frameDrawn A JA 0 = s_da I 9 (s_b1 9 - 1) := by
    unfold s_kbf
    rw [if_pos ⟨by decide, hf0⟩, hix, eJ, s_up_s]
  rw [k1, k2]
  obtain ⟨-, -, q, hq, e, h0⟩ := z_mt (y := s_b1 9 - 1) (z := s_da I 9 (s_b1 9 - 1)) (I := A) 9
  have hq0 : q = 0 := h0 (fun i hi _ _ => by
    rw [z_dal hi, e0 f_k_isOut (by decide)]
    exact (z_nz (hb i hi)).symm)
  unfold s_mt
  rw [e, hq0]
  rfl
