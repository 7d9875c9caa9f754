/-! 9999997: ticks in a row; keys, both sides -/
def v_Rh0 (np : Nat) (I' : e_I) : Prop := I' f_m_recording 0 = 114 → I' f_m_kindKept 0 = 114 ∧ ∀ q, q < np → I' f_m_isHeld q = 0
theorem v_Rh0.N {np : Nat} {T : List Nat} {I I1 : e_I} (h : v_Rh0 np I) (e : s_eqN T I I1) (hT : v_dj [f_m_recording, f_m_kindKept, f_m_isHeld] T = true) : v_Rh0 np I1 := by
  unfold v_Rh0 at h ⊢
  simp only [e f_m_recording (v_dj.o hT (by decide)), e f_m_kindKept (v_dj.o hT (by decide)), e f_m_isHeld (v_dj.o hT (by decide))]
  exact h
theorem v_Rh0.up {nk nr np s m n : Nat} {I : e_I} (h : v_Rh0 np I) (hX : v_Fix nk nr np I) (hb : I f_m_recording 0 = 114 → m - s ≤ 100000 ∧ n + np ≤ 1000000) : v_Rh np s m n I := fun z => by
  refine ⟨(h z).1, (hb z).1, (hb z).2, fun q hq => ⟨(h z).2 q hq, ?_⟩⟩
  obtain ⟨a, b⟩ := hX.2.2.1 q hq
  rw [a, b]
  unfold v_sw q_is
  rw [(h z).2 q hq]
  by_cases c : 0 < I f_m_counts q
  · simp [c, bI]
  · simp [c, bI]
theorem v_tcN {nk nr np i : Nat} {b : e_I × e_Jt} : s_eqN (f_m_tick :: f_l_size :: q_sT) b.1 (q_tc nk nr np i b).1 := ((s_eqN.up (by decide) : s_eqN [f_m_tick] b.1 (s_up b.1 f_m_tick 0 (b.1 f_m_tick 0 + 1))).mono (by decide)).trans ((q_st_e (a := (s_up b.1 f_m_tick 0 (b.1 f_m_tick 0 + 1), b.2))).1.mono (by decide))
theorem v_ticks {p : e_Sp} {nk nr np s : Nat} : ∀ k n t m a b i, v_B p nk nr np n t s m a b → v_Rh0 np b.1 → (b.1 f_m_recording 0 = 114 → m + k - s ≤ 100000 ∧ n + (k + 1) * np ≤ 1000000) → m + k < 1000000000 → ∃ n' t', n' ≤ n + k * np ∧ (¬ b.1 f_m_recording 0 = 114 → n' = n) ∧ v_B p nk nr np n' t' s (m + k) (s_run (s_tick p nk nr) i k a) (s_run (q_tc nk nr np) i k b) := by
  intro k
  induction k with
  | zero => intro n t m a b i h _ _ _; exact ⟨n, t, by omega, fun _ => rfl, h⟩
  | succ k ih =>
    intro n t m a b i h h0 hb hm
    have e1 : (k + 1 + 1) * np = (k + 1) * np + np := Nat.succ_mul _ _
    have e2 : (k + 1) * np = k * np + np := Nat.succ_mul _ _
    obtain ⟨n1, t1, k1, k2, k3⟩ := v_tick h (h0.up h.2.2.1 (fun z => ⟨by have := (hb z).1; omega, by have := (hb z).2; omega⟩)) (by omega) i
    have hN := v_tcN (nk := nk) (nr := nr) (np := np) (i := i) (b := b)
    have er : (q_tc nk nr np i b).1 f_m_recording 0 = b.1 f_m_recording 0 := by rw [hN _ (by decide)]
    obtain ⟨n2, t2, g1, g2, g3⟩ := ih n1 t1 (m + 1) (s_tick p nk nr i a) (q_tc nk nr np i b) (i + 1) k3 (h0.N hN (by decide)) (fun z => by
      rw [er] at z
      have := hb z
      omega) (by omega)
    refine ⟨n2, t2, by rw [Nat.succ_mul]; omega, fun z => ?_, ?_⟩
    · rw [g2 (by rw [er]; exact z), k2 z]
    · rw [show m + (k + 1) = m + 1 + k by omega]
      exact g3
/-- settling, with all that stands behind it -/
theorem v_settleB {p : e_Sp} {nk nr np n s m : Nat} {t : Nat → Nat} {I I' : e_I} {J J' : e_Jt} (h : v_Rel p nk nr np n t s m I I' J J') (hh : v_Rh np s m n I') (hK : v_Kt m I I') : ∃ n' t', n' ≤ n + np ∧ (¬ I' f_m_recording 0 = 114 → n' = n) ∧ v_B p nk nr np n' t' s m (s_stl p nk nr (I, J)) (q_st nk nr np (I', J')) := by
  obtain ⟨n', t', k1, k2, k3, k4⟩ := v_settle h hh
  exact ⟨n', t', k1, k2, k3, k4, v_fixB h.2.1.2.2.2.2 h.2.1.2.2.2.1, hK.N (s_eqN.stl (a := (I, J))) (q_st_e (a := (I', J'))).1 (by decide) (by decide)⟩
/-! keys -/
theorem v_fst0 {I I' : e_I} {d : Nat} (hd : d < 3) (h : v_eq 183 f_a_pressed f_m_isDown I I') : ∀ n j, j + n = s_kcn (nI d) → s_first I (nI d) 1 (nI j) n = s_run (q_egs I' (nI d) 0) j n (-1) := by
  have stay : ∀ n i fd, ¬ fd = -1 → s_run (q_egs I' (nI d) 0) i n fd = fd := by
    intro n
    induction n with
    | zero => intro i fd _; rfl
    | succ n ih =>
      intro i fd hfd
      show s_run (q_egs I' (nI d) 0) (i + 1) n (q_egs I' (nI d) 0 i fd) = fd
      have : q_egs I' (nI d) 0 i fd = fd := by
        unfold q_egs
        exact if_neg (fun z => z.2.elim hfd (fun z => z rfl))
      rw [this]
      exact ih _ _ hfd
  intro n
  induction n with
  | zero => intro j _; rfl
  | succ n ih =>
    intro j hj
    have hk := v_kcn d
    have hi : s_isk (nI d) (nI j) := (v_isk hd (by omega)).mpr (by omega)
    show (if s_dn I (nI d) (nI j) = true then nI j else s_first I (nI d) 1 (nI j + 1) n) = s_run (q_egs I' (nI d) 0) (j + 1) n (q_egs I' (nI d) 0 j (-1))
    rw [v_dn h hi]
    unfold q_egs
    by_cases c : I' f_m_isDown (s_kn (nI d) (nI j)) = 0
    · rw [if_neg (by rw [decide_eq_true_iff]; exact fun z => z c), if_neg (fun z => z.1 c), nI_1]
      exact ih (j + 1) (by omega)
    · rw [if_pos (decide_eq_true c), if_pos ⟨c, .inl rfl⟩]
      exact (stay n (j + 1) (nI j) (fun z => by
        have := nI_pos' (n := j) (by omega)
        rw [z] at this
        exact absurd this (by decide))).symm
theorem v_fst1 {I I' : e_I} {d : Nat} (hd : d < 3) (h : v_eq 183 f_a_pressed f_m_isDown I I') : ∀ n, n ≤ s_kcn (nI d) → s_first I (nI d) (-1) (nI n - 1) n = s_run (q_egs I' (nI d) 1) 0 n (-1) := by
  intro n
  induction n with
  | zero => intro _; rfl
  | succ n ih =>
    intro hn
    have hk := v_kcn d
    have hi : s_isk (nI d) (nI n) := (v_isk hd (by omega)).mpr (by omega)
    rw [s_run_l, Nat.zero_add, nI_pred]
    have ihn := ih (by omega)
    show (if s_dn I (nI d) (nI n) = true then nI n else s_first I (nI d) (-1) (nI n + -1) n) = _
    rw [v_dn h hi, show nI n + -1 = nI n - 1 from (Int32.sub_eq_add_neg _ _).symm, ihn]
    generalize s_run (q_egs I' (nI d) 1) 0 n (-1) = u
    unfold q_egs
    by_cases c : I' f_m_isDown (s_kn (nI d) (nI n)) = 0
    · rw [if_neg (by rw [decide_eq_true_iff]; exact fun z => z c), if_neg (fun z => z.1 c)]
    · rw [if_pos (decide_eq_true c), if_pos ⟨c, .inr (by decide)⟩]
theorem v_put {I I' : e_I} {m : Nat} {x y z : Int32} (h : v_Ky I I') (hK : v_Kt m I I') (hm : I' f_m_tick 0 = nI m) (hi : s_isk x y) (hz : z = 0 ∨ z = 1) : v_Ky (s_put I x y z (I f_now 0)) (q_md1 I' x y z) ∧ v_Kt m (s_put I x y z (I f_now 0)) (q_md1 I' x y z) := by
  obtain ⟨k1, k2, k3, k4, k5, k6⟩ := h
  obtain ⟨d, b, hd, hb, -, ex, ey, ekn⟩ := hi.nat
  have hE : s_eqN [f_a_pressed, f_a_pressedAt, f_lastPressedAt, f_a_lowest, f_a_highest] I (s_put I x y z (I f_now 0)) := s_eqN.put
  have hE' : s_eqN [f_m_isDown, f_m_wentDown] I' (q_md1 I' x y z) := s_eqN.qmd1
  have p1 : ∀ i, s_put1 I (s_kn x y) z (I f_now 0) f_a_pressed i = if i = s_kn x y then z else I f_a_pressed i := by
    intro i
    unfold s_put1
    by_cases c : z = 0
    · rw [if_pos c]
      by_cases c2 : i = s_kn x y
      · rw [if_pos c2, c2, s_up_s]
      · rw [if_neg c2, s_up_i c2]
    · rw [if_neg c, s_up_F (by decide), s_up_F (by decide)]
      by_cases c2 : i = s_kn x y
      · rw [if_pos c2, c2, s_up_s]
      · rw [if_neg c2, s_up_i c2]
  have d1 : ∀ i, q_md1 I' x y z f_m_isDown i = if i = s_kn x y then z else I' f_m_isDown i := by
    intro i
    unfold q_md1
    by_cases c : z = 0
    · rw [if_pos c]
      by_cases c2 : i = s_kn x y
      · rw [if_pos c2, c2, s_up_s]
      · rw [if_neg c2, s_up_i c2]
    · rw [if_neg c, s_up_F (by decide)]
      by_cases c2 : i = s_kn x y
      · rw [if_pos c2, c2, s_up_s]
      · rw [if_neg c2, s_up_i c2]
  have d2 : ∀ i, q_md1 I' x y z f_m_wentDown i = if i = s_kn x y ∧ ¬ z = 0 then I' f_m_tick 0 else I' f_m_wentDown i := by
    intro i
    unfold q_md1
    by_cases c : z = 0
    · rw [if_pos c, s_up_F (by decide), if_neg (fun w => w.2 c)]
    · rw [if_neg c]
      by_cases c2 : i = s_kn x y
      · rw [if_pos ⟨c2, c⟩, c2, s_up_s]
      · rw [if_neg (fun w => c2 w.1), s_up_i c2, s_up_F (by decide)]
  have q1 : ∀ i, s_put1 I (s_kn x y) z (I f_now 0) f_a_pressedAt i = if i = s_kn x y ∧ ¬ z = 0 then I f_now 0 else I f_a_pressedAt i := by
    intro i
    unfold s_put1
    by_cases c : z = 0
    · rw [if_pos c, s_up_F (by decide), if_neg (fun w => w.2 c)]
    · rw [if_neg c, s_up_F (by decide)]
      by_cases c2 : i = s_kn x y
      · rw [if_pos ⟨c2, c⟩, c2, s_up_s]
      · rw [if_neg (fun w => c2 w.1), s_up_i c2, s_up_F (by decide)]
  have g1 : v_eq 183 f_a_pressed f_m_isDown (s_put1 I (s_kn x y) z (I f_now 0)) (q_md1 I' x y z) := fun i hi => by
    rw [p1, d1]
    split
    · rfl
    · exact k1 i hi
  have pp : ∀ F, F ≠ f_a_lowest → F ≠ f_a_highest → ∀ i, s_put I x y z (I f_now 0) F i = s_put1 I (s_kn x y) z (I f_now 0) F i := fun F h1 h2 i => by
    unfold s_put s_put2
    rw [s_up_F h2, s_up_F h1]
  have g2 : v_eq 183 f_a_pressed f_m_isDown (s_put2 I x y z (I f_now 0)) (q_md1 I' x y z) := fun i hi => by
    unfold s_put2
    rw [s_up_F (by decide)]
    exact g1 i hi
  have hlow : ∀ e, e < 3 → ∀ F, (F = f_a_lowest ∨ F = f_a_highest) → ¬ e = d → s_put I x y z (I f_now 0) F e = I F e := by
    intro e _ F hF he
    have e1 : x.toNatClampNeg = d := by rw [ex, nI_clamp (by omega)]
    have e2 : s_put1 I (s_kn x y) z (I f_now 0) F e = I F e := by
      unfold s_put1
      rcases hF with hF | hF <;> rw [hF] <;> split
      · rw [s_up_F (by decide)]
      · rw [s_up_F (by decide), s_up_F (by decide), s_up_F (by decide)]
      · rw [s_up_F (by decide)]
      · rw [s_up_F (by decide), s_up_F (by decide), s_up_F (by decide)]
    unfold s_put s_put2
    rw [e1, s_up_i he, s_up_i he]
    exact e2
  have heg : ∀ e, e < 3 → ¬ e = d → ∀ w, q_eg (q_md1 I' x y z) (nI e) w = q_eg I' (nI e) w := by
    intro e he hne w
    unfold q_eg
    refine v_congr (P := fun _ => True) _ _ _ _ (fun j a hj _ => ⟨?_, True.intro⟩) True.intro
    have hk := v_kcn e
    unfold q_egs
    rw [d1, if_neg (show ¬ s_kn (nI e) (nI (0 + j)) = s_kn x y by rw [Nat.zero_add, v_kn he (by omega), ekn]; omega)]
  have ekc : s_kc (nI d) = nI (s_kcn (nI d)) := by unfold s_kc s_kcn; split <;> rfl
  refine ⟨⟨fun i hi => ?_, fun i hi => ?_, ?_, fun e he => ?_, ?_, ?_⟩, fun i hi => ?_⟩
  · rw [pp _ (by decide) (by decide)]; exact g1 i hi
  · rw [pp _ (by decide) (by decide), q1, d2, k3]
    split
    · rfl
    · exact k2 i hi
  · rw [hE _ (by decide), hE' _ (by decide)]; exact k3
  · by_cases c : e = d
    · subst c
      constructor
      · unfold s_put
        rw [s_up_F (by decide)]
        unfold s_put2
        rw [ex, nI_clamp (by omega), s_up_s]
        rw [ex] at g1
        exact v_fst0 he g1 _ 0 (by omega)
      · unfold s_put
        rw [ex, nI_clamp (by omega), s_up_s, ekc]
        rw [ex] at g2
        exact v_fst1 he g2 _ (Nat.le_refl _)
    · rw [hlow e he _ (.inl rfl) c, hlow e he _ (.inr rfl) c, heg e he c, heg e he c]
      exact k4 e he
  · rw [hE _ (by decide), hE' _ (by decide)]; exact k5
  · rw [hE _ (by decide), hE' _ (by decide)]; exact k6
  · rw [d2, d1]
    by_cases c : i = s_kn x y
    · by_cases c2 : z = 0
      · rw [if_neg (fun w => w.2 c2), if_pos c]
        obtain ⟨w, w1, w2, w3⟩ := hK i hi
        exact ⟨w, w1, w2, fun q => absurd c2 q⟩
      · rw [if_pos ⟨c, c2⟩]
        refine ⟨m, Nat.le_refl _, hm, fun _ _ => ?_⟩
        rw [pp _ (by decide) (by decide)]
        unfold s_put1
        rw [if_neg c2, s_up_s, k3, hm]
    · rw [if_neg (fun w => c w.1), if_neg c]
      obtain ⟨w, w1, w2, w3⟩ := hK i hi
      refine ⟨w, w1, w2, fun q1 q2 => ?_⟩
      rw [pp _ (by decide) (by decide)]
      unfold s_put1
      by_cases c2 : z = 0
      · rw [if_pos c2, s_up_F (by decide)]; exact w3 q1 q2
      · rw [if_neg c2, s_up_s, k3, hm]
