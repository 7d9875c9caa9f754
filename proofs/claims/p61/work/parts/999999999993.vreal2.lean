/-! 999999999993: chords, both sides, the end -/
def v_bM1 : List Nat := [f_m_isRelay, f_m_isOpen, f_m_speaks, f_mk_isDrawn, f_mk_isLocked, f_mk_isIn, f_m_isTutti]
theorem v_Z5.kd {I I' I1 I1' : e_I} {T T' : List Nat} (h : v_Z5 I I') (e : s_eqN T I I1) (e' : s_eqN T' I' I1') (hT : v_dj (f_p_fault :: f_recording :: v_bC) T = true) (hT' : v_dj (f_m_fault :: f_m_recording :: v_bM1) T' = true) (hb : q_bo I1' f_m_isDown) : v_Z5 I1 I1' := by
  obtain ⟨h1, h2, h3, h4, h5, h6⟩ := h
  refine ⟨fun F hF => v_bo_eq (h1 F hF) (e F (v_dj.o hT (by rw [List.contains_cons, List.contains_cons, hF, Bool.or_true, Bool.or_true]))), fun F hF => ?_, ?_, ?_, ?_, ?_⟩
  · have hF' : F = f_m_isDown ∨ F = f_m_isRelay ∨ F = f_m_isOpen ∨ F = f_m_speaks ∨ F = f_mk_isDrawn ∨ F = f_mk_isLocked ∨ F = f_mk_isIn ∨ F = f_m_isTutti := by simpa [v_bM] using hF
    rcases hF' with z | z | z | z | z | z | z | z
    · rw [z]; exact hb
    all_goals
      rw [z] at hF ⊢
      exact v_bo_eq (h2 _ hF) (e' _ (v_dj.o hT' (by decide)))
  · unfold v_ch; rw [e _ (v_dj.o hT (by decide))]; exact h3
  · unfold v_ch; rw [e' _ (v_dj.o hT' (by decide))]; exact h4
  · unfold v_ch; rw [e _ (v_dj.o hT (by decide))]; exact h5
  · unfold v_ch; rw [e' _ (v_dj.o hT' (by decide))]; exact h6
theorem v_Z4.ch {I I' : e_I} (h : v_Z4 I I') : v_Ch I I' (fun v => (I' f_m_chord v).toNatClampNeg) := by
  obtain ⟨-, ⟨-, e⟩, hc, -⟩ := h
  refine ⟨e, fun z v hv => ?_⟩
  obtain ⟨⟨b, hb, h1, h2⟩, h3⟩ := hc z
  by_cases c : v = 0
  · subst c
    dsimp only
    rw [h1, h2, nI_clamp (by omega)]
    exact ⟨by omega, rfl, rfl⟩
  · obtain ⟨c, hc1, h4, h5⟩ := h3 v (by omega) hv
    dsimp only
    rw [h4, h5, nI_clamp (by omega)]
    exact ⟨hc1, rfl, rfl⟩
/-- what the class and the second implementation ask first -/
theorem v_real0 {X : e_XT} {I I' : e_I} {b : Nat} (hX : v_X X) (h : v_Z4 I I') (hb : b < 61) : q_s7 I' (nI b) 7 0 ≤ 7 ∧ (q_s7 I' (nI b) 7 0 = 7 → s_deg X I (nI b) < 0) ∧ (q_s7 I' (nI b) 7 0 < 7 → s_deg X I (nI b) = nI (q_s7 I' (nI b) 7 0)) := by
  obtain ⟨⟨x, hx, t1, t2⟩, ⟨ej, -⟩, -⟩ := h
  have e1 := v_deg (k := b) hX hx t1 (by omega)
  have e2 := v_s7 (k := b) hx t2 (by omega) 7 0 rfl
  have ej' : v_mj I f_isMajor = v_mj I' f_m_isMajor := by unfold v_mj; rw [ej]
  rw [ej', ← e2] at e1
  have l := (v_dg_s (j := v_mj I' f_m_isMajor) (x := x) (k := b) 7 0 rfl).2
  rw [← e2] at l
  refine ⟨l, fun z => ?_, fun z => ?_⟩
  · rw [e1, z, if_neg (by omega)]; decide
  · rw [e1, if_pos z]
set_option maxRecDepth 10000 in
/-- a chord is realised -/
theorem a_realise {p : e_Sp} {X : e_XT} {nk nr np n s m L b : Nat} {t : Nat → Nat} {I I' : e_I} {J J' : e_Jt} {ch : Int32} (hX : v_X X) (h : v_Sim p nk nr np n t s m L (I, J) (I', J')) (hb : b < 32) (hch : ch = 53 ∨ ch = 54 ∨ ch = 52 ∨ ch = 55) (hst : q_s7 I' (nI b) 7 0 < 7) (hL : L ≤ 2000) (hn : n + 101 + np ≤ 1000000) : (∃ n' t', n' ≤ n + 97 + np ∧ (I' f_m_recording 0 = 45 → n' = n) ∧ v_Sim p nk nr np n' t' s m L (s_stl p nk nr (s_pch (s_cho X I (s_fig ch) (nI b)), J)) (q_st nk nr np (q_rz (q_fi I' (nI b) (nI (q_s7 I' (nI b) 7 0)) ch).1 (nI b), J'))) ∧ s_ch1 X I (s_fig ch) (nI b) f_bestBad 0 = (q_fi I' (nI b) (nI (q_s7 I' (nI b) 7 0)) ch).2.1 := by
  have z4' : v_Z4 I I' := h.2.2.2.2.1
  have hch4 := z4'.ch
  obtain ⟨l7, -, hd⟩ := v_real0 (X := X) hX z4' (b := b) (by omega)
  have hd := hd hst
  obtain ⟨⟨x, hx, t1, t2⟩, ⟨ej, -⟩, -⟩ := z4'
  have ej' : v_mj I f_isMajor = v_mj I' f_m_isMajor := by unfold v_mj; rw [ej]
  have hcx : v_Cx X I I' x (q_s7 I' (nI b) 7 0) b ch (v_mj I' f_m_isMajor) (fun v => (I' f_m_chord v).toNatClampNeg) := ⟨hX, ⟨hx, t1, t2⟩, ⟨ej', rfl⟩, hst, hch, by omega, hch4⟩
  obtain ⟨f1, f2, f3, f4⟩ := v_find hcx
  have f4 := f4.resolve_right (fun z => z.1 trivial)
  unfold s_cho s_ch1
  rw [hd]
  generalize s_run (s_chU X (nI (q_s7 I' (nI b) 7 0)) (s_fig ch)) 12 37 (s_ch0 I (nI b)) = R at *
  generalize q_fi I' (nI b) (nI (q_s7 I' (nI b) 7 0)) ch = Q at *
  obtain ⟨g1, g2, g3, g4⟩ := f4
  refine ⟨?_, g1⟩
  have hc0 : ∀ j, j < 3 → ∃ c, c ≤ 48 ∧ Q.1 f_m_best j = nI c ∧ R f_a_best (j + 1) = nI (36 + c) := g4
  have hcE : ∀ j, j < 3 → (Q.1 f_m_best j).toNatClampNeg ≤ 48 ∧ Q.1 f_m_best j = nI (Q.1 f_m_best j).toNatClampNeg ∧ R f_a_best (j + 1) = nI (36 + (Q.1 f_m_best j).toNatClampNeg) := fun j hj => by
    obtain ⟨c, h1, h2, h3⟩ := hc0 j hj
    rw [h2, nI_clamp (by omega)]
    exact ⟨h1, rfl, h3⟩
  have eA : s_eqN (f_a_chord :: f_hasChord :: v_sT) I (s_up (s_cpI R f_a_best f_a_chord 4) f_hasChord 0 1) := by
    intro F hF
    have n1 : F ≠ f_a_chord := fun z => by rw [z] at hF; exact absurd hF (by decide)
    have n2 : F ≠ f_hasChord := fun z => by rw [z] at hF; exact absurd hF (by decide)
    have n3 : v_sT.contains F = false := by
      rw [List.contains_cons, List.contains_cons, Bool.or_eq_false_iff, Bool.or_eq_false_iff] at hF
      exact hF.2.2
    funext i
    rw [s_up_F n2]
    unfold s_cpI
    rw [if_neg (fun z => n1 z.1), f1 F n3]
  have hA1 : s_up (s_cpI R f_a_best f_a_chord 4) f_hasChord 0 1 f_hasChord 0 = 1 := s_up_s
  have hA2 : ∀ j, j < 4 → s_up (s_cpI R f_a_best f_a_chord 4) f_hasChord 0 1 f_a_chord j = R f_a_best j := by
    intro j hj
    rw [s_up_F (by decide)]
    exact if_pos ⟨rfl, hj⟩
  generalize s_up (s_cpI R f_a_best f_a_chord 4) f_hasChord 0 1 = A at *
  obtain ⟨A', le, ne⟩ := Q
  dsimp only at *
  have hCd : v_Cd A A' b (fun j => (A' f_m_best j).toNatClampNeg) := ⟨hb, (hA2 0 (by omega)).trans g3, fun j hj => ⟨(hcE j hj).1, (hcE j hj).2.1, (hA2 (j + 1) (by omega)).trans (hcE j hj).2.2⟩⟩
  have er : A' f_m_recording 0 = I' f_m_recording 0 := by rw [f2 _ (by decide)]
  have ek : A' f_m_kindKept 0 = I' f_m_kindKept 0 := by rw [f2 _ (by decide)]
  obtain ⟨⟨hR, hF, hFx, hK⟩, z1, z2, z3, z4, z5, z6⟩ := h
  dsimp only at hR hF hFx hK z1 z2 z3 z4 z5 z6
  have hCw := v_Cw.of hFx z1.2.1
  have hR1 := hR.re eA f2 (by decide) (by decide) (hR.1.2.2.N eA f2 (by decide) (by decide)) (hR.2.2.1.2.1.N eA f2 (by decide) (by decide)) rfl rfl rfl
  have hK1 : v_Kn2 p nk nr np n s m A A' J J' 0 A A' := ⟨n, t, by omega, fun _ => rfl, hR1, hK.N eA f2 (by decide) (by decide), s_eqN.rfl', q_e.rfl', v_bo_eq (z5.2.1 f_m_isDown (by decide)) (f2 _ (by decide))⟩
  obtain ⟨Y, eY, ⟨n', t', a1, a2, a3, a4, a5, a6, a7⟩, hY⟩ := v_pch hCd hK1 (by
    rw [er, ek]
    intro w
    rcases z3.1 with z | ⟨z, y1, y2, y3⟩
    · rw [w] at z; exact absurd z (by decide)
    · exact ⟨y1.trans w, by omega, by omega⟩)
  rw [eY]
  have b1 : s_eqN (f_m_chord :: f_m_hasChord :: f_m_best :: f_l_size :: q_mT) I' (s_up (s_up Y f_m_chord 0 (nI b)) f_m_hasChord 0 1) := (((f2.mono (by decide)).trans (a6.1.mono (by decide))).trans (s_eqN.up (by decide))).trans (s_eqN.up (by decide))
  have b2 : s_eqN [f_m_chord, f_m_hasChord] Y (s_up (s_up Y f_m_chord 0 (nI b)) f_m_hasChord 0 1) := (s_eqN.up (by decide)).trans (s_eqN.up (by decide))
  have c1 : s_up (s_up Y f_m_chord 0 (nI b)) f_m_hasChord 0 1 f_m_hasChord 0 = 1 := s_up_s
  have c2 : s_up (s_up Y f_m_chord 0 (nI b)) f_m_hasChord 0 1 f_m_chord 0 = nI b := by rw [s_up_F (by decide), s_up_s]
  have c3 : ∀ j, j < 3 → s_up (s_up Y f_m_chord 0 (nI b)) f_m_hasChord 0 1 f_m_chord (j + 1) = nI (A' f_m_best j).toNatClampNeg := fun j hj => by rw [s_up_F (by decide), s_up_i (by omega)]; exact hY j hj
  have c4 : ∀ l, 8 ≤ l → s_up (s_up Y f_m_chord 0 (nI b)) f_m_hasChord 0 1 f_l_size l = I' f_l_size l := fun l hl => by rw [b2 _ (by decide), a6.2 l (by omega), f2 _ (by decide)]
  have c5 : s_up (s_up Y f_m_chord 0 (nI b)) f_m_hasChord 0 1 f_m_best = A' f_m_best := by rw [b2 _ (by decide)]; exact a6.F (by decide)
  generalize s_up (s_up Y f_m_chord 0 (nI b)) f_m_hasChord 0 1 = Z at *
  have r0 : s_eqN [] (s_pch A) (s_pch A) := s_eqN.rfl'
  have eC : s_eqN (f_a_chord :: f_hasChord :: (v_sT ++ s_tPK)) I (s_pch A) := (eA.mono (by decide)).trans (a5.mono (by decide))
  have h45 : I' f_m_recording 0 = 45 → n' = n := fun w => a2 (by rw [er, w]; decide)
  have eZr : Z f_m_recording 0 = I' f_m_recording 0 := by rw [b1 _ (by decide)]
  have z4n : v_Z4 (s_pch A) Z := by
    refine ⟨⟨x, hx, by rw [eC _ (by decide)]; exact t1, by rw [b1 _ (by decide)]; exact t2⟩, ⟨by rw [eC _ (by decide), b1 _ (by decide)]; exact ej, by rw [a5 _ (by decide), hA1, c1]⟩, fun _ => ⟨⟨b, hb, c2, by rw [a5 _ (by decide)]; exact hCd.2.1⟩, fun v v1 v4 => ?_⟩, fun j hj => ?_⟩
    · obtain ⟨j, rfl⟩ : ∃ j, v = j + 1 := ⟨v - 1, by omega⟩
      obtain ⟨k1, k2, k3⟩ := hCd.2.2 j (by omega)
      dsimp only at k1
      exact ⟨_, by omega, c3 j (by omega), by rw [a5 _ (by decide)]; exact k3⟩
    · rw [c5]
      obtain ⟨k1, k2, k3⟩ := hCd.2.2 j hj
      dsimp only at k1 k2
      exact ⟨_, by omega, k2⟩
  have w1 := a3.re r0 b2 (by decide) (by decide) (a3.1.2.2.N r0 b2 (by decide) (by decide)) (a3.2.2.1.2.1.N r0 b2 (by decide) (by decide)) rfl rfl rfl
  have w2 := a4.N r0 b2 (by decide) (by decide)
  have w3 := z1.N eC b1 (by decide) (by decide)
  have w4 := z2.N eC b1 (by decide) (by decide)
  have w5 := (z3.n2 h45).N eC b1 (by decide) (by decide)
  have w6 := z5.kd eC b1 (by decide) (by decide) (v_bo_eq a7 (b2 _ (by decide)))
  have w7 : v_Z6 (s_pch A) Z J J' := z6.N eC b1 (by decide) (by decide) c4 v_eqJ.rfl' v_eqJ.rfl'
  generalize s_pch A = P at *
  obtain ⟨n2, t2', k1, k2, k3⟩ := v_settleS (L := L) (J := J) (J' := J') w1 w2 ⟨w3, w4, w5, z4n, w6, w7⟩ (hCw.N b1 (by decide)) hL (by omega)
  exact ⟨n2, t2', by omega, fun w => by rw [k2 (by rw [eZr, w]; decide), h45 w], k3⟩
