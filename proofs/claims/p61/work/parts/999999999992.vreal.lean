/-! 999999999992: chords are pressed, both sides -/
def v_Kn2 (p : e_Sp) (nk nr np n s m : Nat) (A A' : e_I) (J J' : e_Jt) (k : Nat) (I I' : e_I) : Prop := ∃ n' t', n' ≤ n + k ∧ (¬ A' f_m_recording 0 = 107 → n' = n) ∧ v_Rel p nk nr np n' t' s m I I' J J' ∧ v_Kt m I I' ∧ s_eqN s_tPK A I ∧ q_e (f_m_chord :: q_mT) A' I' ∧ q_bo I' f_m_isDown
theorem v_Kn2.step {p : e_Sp} {nk nr np n s m k : Nat} {A A' I I' : e_I} {J J' : e_Jt} {x y z : Int32} (h : v_Kn2 p nk nr np n s m A A' J J' k I I') (hi : s_isk x y) (hz : z = 0 ∨ z = 1) (hb : A' f_m_recording 0 = 107 → A' f_m_kindKept 0 = 107 ∧ m - s ≤ 100000 ∧ n + k < 1000000) : v_Kn2 p nk nr np n s m A A' J J' (k + 1) (s_prk I x y z) (q_mdv I' x y z) := by
  obtain ⟨n', t', a1, a2, a3, a4, a5, a6, a7⟩ := h
  have er : I' f_m_recording = A' f_m_recording := a6.F (by decide)
  have ek : I' f_m_kindKept = A' f_m_kindKept := a6.F (by decide)
  obtain ⟨n1, t1, b1, b2, b3, b4⟩ := v_prk a3 a4 hi hz (by
    rw [er, ek]
    exact fun w => ⟨(hb w).1, (hb w).2.1, by have := (hb w).2.2; omega⟩)
  exact ⟨n1, t1, by omega, fun w => by rw [b2 (by rw [er]; exact w), a2 w], b3, b4, a5.trans s_eqN.prk, a6.trans (q_mdv_e.mono (by decide)), a7.mdv hz⟩
theorem v_Kn2.mono {p : e_Sp} {nk nr np n s m k k' : Nat} {A A' I I' : e_I} {J J' : e_Jt} (h : v_Kn2 p nk nr np n s m A A' J J' k I I') (hk : k ≤ k') : v_Kn2 p nk nr np n s m A A' J J' k' I I' := by
  obtain ⟨n', t', a, b⟩ := h
  exact ⟨n', t', by omega, b⟩
theorem v_Kn2.chord {p : e_Sp} {nk nr np n s m k i : Nat} {A A' I I' : e_I} {J J' : e_Jt} {x : Int32} (h : v_Kn2 p nk nr np n s m A A' J J' k I I') : v_Kn2 p nk nr np n s m A A' J J' k I (s_up I' f_m_chord i x) := by
  obtain ⟨n', t', a1, a2, a3, a4, a5, a6, a7⟩ := h
  have e : s_eqN [] I I := s_eqN.rfl'
  have e' : s_eqN [f_m_chord] I' (s_up I' f_m_chord i x) := s_eqN.up (by decide)
  exact ⟨n', t', a1, a2, a3.re e e' (by decide) (by decide) (a3.1.2.2.N e e' (by decide) (by decide)) (a3.2.2.1.2.1.N e e' (by decide) (by decide)) rfl rfl rfl, a4.N e e' (by decide) (by decide), a5, a6.trans (q_e.up (by decide) (by decide)), v_bo_eq a7 (e' _ (by decide))⟩
/-- the keys of a chord stand: b the bass, c the others -/
def v_Cd (A A' : e_I) (b : Nat) (c : Nat → Nat) : Prop := b < 32 ∧ A f_a_chord 0 = nI (36 + b) ∧ ∀ j, j < 3 → c j ≤ 48 ∧ A' f_m_best j = nI (c j) ∧ A f_a_chord (j + 1) = nI (36 + c j)
theorem v_cky0 {A A' I : e_I} {b : Nat} {c : Nat → Nat} (h : v_Cd A A' b c) (e : s_eqN s_tPK A I) : s_cky I 0 = nI b := by
  have e1 : I f_a_chord 0 = nI (36 + b) := by rw [e _ (by decide)]; exact h.2.1
  show (if (0 : Int32) ≤ 0 ∧ (0 : Int32) < 4 then I f_a_chord 0 - 36 else -1) = nI b
  rw [if_pos (by decide), e1, show (36 : Int32) = nI 36 from by decide, nI_sub (by omega)]
  congr 1; omega
theorem v_ckyj {A A' I : e_I} {b j : Nat} {c : Nat → Nat} (h : v_Cd A A' b c) (e : s_eqN s_tPK A I) (hj : j < 3) : s_cky I (nI (j + 1)) = nI (c j) := by
  have e1 : I f_a_chord (j + 1) = nI (36 + c j) := by rw [e _ (by decide)]; exact (h.2.2 j hj).2.2
  have := (h.2.2 j hj).1
  unfold s_cky
  rw [if_pos ⟨nI_pos' (by omega), show nI (j + 1) < (4 : Int32) from nI_lt (b := 4) (by omega) (by omega)⟩, nI_clamp (by omega), e1, show (36 : Int32) = nI 36 from by decide, nI_sub (by omega)]
  congr 1; omega
theorem v_pch0 {p : e_Sp} {nk nr np n s m k i b : Nat} {c : Nat → Nat} {A A' I I' : e_I} {J J' : e_Jt} (hC : v_Cd A A' b c) (h : v_Kn2 p nk nr np n s m A A' J J' k I I') (hi : i < 32) (hb : A' f_m_recording 0 = 107 → A' f_m_kindKept 0 = 107 ∧ m - s ≤ 100000 ∧ n + k < 1000000) : v_Kn2 p nk nr np n s m A A' J J' (k + 1) (s_pcK (nI 0) i I) (q_rz0 (nI b) i I') := by
  have h' := h
  obtain ⟨n', t', a1, a2, a3, a4, a5, a6, a7⟩ := h'
  unfold s_pcK q_rz0 s_ofc
  rw [if_pos (show nI 0 = 0 from rfl), v_cky0 hC a5]
  by_cases z : nI i = nI b
  · rw [if_pos (decide_eq_true z), if_pos z]; exact h.mono (by omega)
  · rw [if_neg (by rw [decide_eq_true_iff]; exact z), if_neg z]; exact h.step (q_i0 hi) (.inl rfl) hb
theorem v_pch1 {p : e_Sp} {nk nr np n s m k i b : Nat} {c : Nat → Nat} {A A' I I' : e_I} {J J' : e_Jt} (hC : v_Cd A A' b c) (h : v_Kn2 p nk nr np n s m A A' J J' k I I') (hi : i < 61) (hb : A' f_m_recording 0 = 107 → A' f_m_kindKept 0 = 107 ∧ m - s ≤ 100000 ∧ n + k < 1000000) : v_Kn2 p nk nr np n s m A A' J J' (k + 1) (s_pcK (nI 1) i I) (q_rz1 i I') := by
  have h' := h
  obtain ⟨n', t', a1, a2, a3, a4, a5, a6, a7⟩ := h'
  have eb : I' f_m_best = A' f_m_best := a6.F (by decide)
  have k0 : s_cky I 1 = nI (c 0) := v_ckyj hC a5 (j := 0) (by omega)
  have k1 : s_cky I 2 = nI (c 1) := v_ckyj hC a5 (j := 1) (by omega)
  have k2 : s_cky I 3 = nI (c 2) := v_ckyj hC a5 (j := 2) (by omega)
  unfold s_pcK q_rz1 s_ofc
  rw [if_neg (show ¬ nI 1 = 0 from by decide), k0, k1, k2, eb, (hC.2.2 0 (by omega)).2.1, (hC.2.2 1 (by omega)).2.1, (hC.2.2 2 (by omega)).2.1]
  by_cases z : nI i = nI (c 0) ∨ nI i = nI (c 1) ∨ nI i = nI (c 2)
  · rw [if_pos (by rw [Bool.or_eq_true, Bool.or_eq_true, decide_eq_true_iff, decide_eq_true_iff, decide_eq_true_iff]; exact z), if_pos z]; exact h.mono (by omega)
  · rw [if_neg (by rw [Bool.or_eq_true, Bool.or_eq_true, decide_eq_true_iff, decide_eq_true_iff, decide_eq_true_iff]; exact z), if_neg z]; exact h.step (q_i1 hi) (.inl rfl) hb
theorem v_pchV {p : e_Sp} {nk nr np n s m k i b : Nat} {c : Nat → Nat} {A A' I I' : e_I} {J J' : e_Jt} (hC : v_Cd A A' b c) (h : v_Kn2 p nk nr np n s m A A' J J' k I I') (hi : i < 3) (hb : A' f_m_recording 0 = 107 → A' f_m_kindKept 0 = 107 ∧ m - s ≤ 100000 ∧ n + k < 1000000) (hch : ∀ j, j < i → I' f_m_chord (j + 1) = nI (c j)) : v_Kn2 p nk nr np n s m A A' J J' (k + 1) (s_pcV (i + 1) I) (q_rz2 i I') ∧ ∀ j, j < i + 1 → q_rz2 i I' f_m_chord (j + 1) = nI (c j) := by
  have h' := h
  obtain ⟨n', t', a1, a2, a3, a4, a5, a6, a7⟩ := h'
  have eb : I' f_m_best i = nI (c i) := by rw [a6.F (F := f_m_best) (by decide)]; exact (hC.2.2 i hi).2.1
  have hc := (hC.2.2 i hi).1
  have e1 : s_pcV (i + 1) I = s_prk I 1 (nI (c i)) 1 := by
    unfold s_pcV
    rw [if_neg (by omega), v_ckyj hC a5 hi]
  have e2 : q_mdv I' 1 (nI (c i)) 1 f_m_best i = nI (c i) := by
    rw [(q_mdv_e (I := I') (x := 1) (y := nI (c i)) (z := 1)).F (F := f_m_best) (by decide)]; exact eb
  have e3 : q_rz2 i I' = s_up (q_mdv I' 1 (nI (c i)) 1) f_m_chord (i + 1) (nI (c i)) := by
    unfold q_rz2
    rw [eb, e2]
  have e4 : q_mdv I' 1 (nI (c i)) 1 f_m_chord = I' f_m_chord := (q_mdv_e (I := I') (x := 1) (y := nI (c i)) (z := 1)).F (F := f_m_chord) (by decide)
  rw [e1, e3]
  refine ⟨(h.step (q_i1 (by omega)) (.inr rfl) hb).chord, fun j hj => ?_⟩
  by_cases z : j = i
  · rw [z, s_up_s]
  · rw [s_up_i (by omega), e4]; exact hch j (by omega)
/-- all keys of the chord -/
theorem v_pch {p : e_Sp} {nk nr np n s m b : Nat} {c : Nat → Nat} {A A' : e_I} {J J' : e_Jt} (hC : v_Cd A A' b c) (h : v_Kn2 p nk nr np n s m A A' J J' 0 A A') (hb : A' f_m_recording 0 = 107 → A' f_m_kindKept 0 = 107 ∧ m - s ≤ 100000 ∧ n + 100 < 1000000) : ∃ Y, q_rz A' (nI b) = s_up (s_up Y f_m_chord 0 (nI b)) f_m_hasChord 0 1 ∧ v_Kn2 p nk nr np n s m A A' J J' 97 (s_pch A) Y ∧ ∀ j, j < 3 → Y f_m_chord (j + 1) = nI (c j) := by
  have hb' : ∀ k, k < 100 → A' f_m_recording 0 = 107 → A' f_m_kindKept 0 = 107 ∧ m - s ≤ 100000 ∧ n + k < 1000000 := fun k hk w => ⟨(hb w).1, (hb w).2.1, by have := (hb w).2.2; omega⟩
  have r0 := v_run2 (f := s_pcK (nI 0)) (g := q_rz0 (nI b)) (m := 32) (R := fun i I I' => v_Kn2 p nk nr np n s m A A' J J' i I I') (fun i I I' hi hh => v_pch0 hC hh hi (hb' i (by omega))) (a := A) (b := A') h 32 (Nat.le_refl _)
  have r1 := v_run2 (f := s_pcK (nI 1)) (g := q_rz1) (m := 61) (R := fun i I I' => v_Kn2 p nk nr np n s m A A' J J' (32 + i) I I') (fun i I I' hi hh => v_pch1 hC hh hi (hb' (32 + i) (by omega))) r0 61 (Nat.le_refl _)
  have e0 : s_run s_pcD 0 2 A = s_run (s_pcK (nI 1)) 0 61 (s_run (s_pcK (nI 0)) 0 32 A) := rfl
  have e1 : s_pch A = s_pcV 3 (s_pcV 2 (s_pcV 1 (s_pcV 0 (s_run (s_pcK (nI 1)) 0 61 (s_run (s_pcK (nI 0)) 0 32 A))))) := rfl
  have e2 : q_rz A' (nI b) = s_up (s_up (q_rz2 2 (q_rz2 1 (q_rz2 0 (q_mdv (s_run q_rz1 0 61 (s_run (q_rz0 (nI b)) 0 32 A')) 0 (nI b) 1)))) f_m_chord 0 (nI b)) f_m_hasChord 0 1 := rfl
  rw [e1, e2]
  generalize s_run (s_pcK (nI 1)) 0 61 (s_run (s_pcK (nI 0)) 0 32 A) = P at *
  generalize s_run q_rz1 0 61 (s_run (q_rz0 (nI b)) 0 32 A') = P' at *
  have r2 : v_Kn2 p nk nr np n s m A A' J J' 94 (s_pcV 0 P) (q_mdv P' 0 (nI b) 1) := by
    have h' := r1
    obtain ⟨n', t', a1, a2, a3, a4, a5, a6, a7⟩ := h'
    have e3 : s_pcV 0 P = s_prk P 0 (nI b) 1 := by
      show s_prk P (if (0 : Nat) = 0 then 0 else 1) (s_cky P 0) 1 = _
      rw [if_pos rfl, v_cky0 hC a5]
    rw [e3]
    exact r1.step (q_i0 hC.1) (.inr rfl) (hb' _ (by omega))
  obtain ⟨r3, c3⟩ := v_pchV hC r2 (i := 0) (by omega) (hb' _ (by omega)) (fun j hj => by omega)
  obtain ⟨r4, c4⟩ := v_pchV hC r3 (i := 1) (by omega) (hb' _ (by omega)) c3
  obtain ⟨r5, c5⟩ := v_pchV hC r4 (i := 2) (by omega) (hb' _ (by omega)) c4
  exact ⟨_, rfl, r5, c5⟩
