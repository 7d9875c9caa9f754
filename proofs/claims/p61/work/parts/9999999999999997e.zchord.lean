/-! 9999999999999997e: a chord is found, its keys are down -/
def z_Cd (b : Nat) (I : e_I) : Prop := ∃ u v t m, u < v ∧ v < t ∧ t ≤ 48 ∧ m ≤ 16 ∧ I f_bestBad 0 = nI m ∧ I f_a_best 0 = nI (36 + b) ∧ I f_a_best 1 = nI (36 + u) ∧ I f_a_best 2 = nI (36 + v) ∧ I f_a_best 3 = nI (36 + t)
theorem z_wgT {I : e_I} {u v t b : Nat} (h0 : I f_a_trial 0 = nI (36 + b)) : (s_eqN [f_a_trial] I (s_wgT I (nI u) (nI v) (nI t))) ∧ s_wgT I (nI u) (nI v) (nI t) f_a_trial 0 = nI (36 + b) ∧ s_wgT I (nI u) (nI v) (nI t) f_a_trial 1 = nI (36 + u) ∧ s_wgT I (nI u) (nI v) (nI t) f_a_trial 2 = nI (36 + v) ∧ s_wgT I (nI u) (nI v) (nI t) f_a_trial 3 = nI (36 + t) := by
  refine ⟨((s_eqN.up (by decide)).trans (s_eqN.up (by decide))).trans (s_eqN.up (by decide)), ?_, ?_, ?_, ?_⟩
  · unfold s_wgT
    rw [s_up_i (by decide), s_up_i (by decide), s_up_i (by decide)]; exact h0
  · unfold s_wgT
    rw [s_up_i (by decide), s_up_i (by decide), s_up_s, v_36]
  · unfold s_wgT
    rw [s_up_i (by decide), s_up_s, v_36]
  · unfold s_wgT
    rw [s_up_s, v_36]
theorem z_bad {I0 I0' I A : e_I} {b u v t : Nat} {c : Nat → Nat} (hC : v_Ch I0 I0' c) (hb : b < 61) (hu : u ≤ 48) (hv : v ≤ 48) (ht : t ≤ 48) (e : s_eqN v_sT I0 I) (e' : s_eqN [f_m_best] I0' A) (h0 : I f_a_trial 0 = nI (36 + b)) : (s_bds (s_wgT I (nI u) (nI v) (nI t)) = q_bs A (nI b) (nI u) (nI v) (nI t)) ∧ ∃ m, m ≤ 16 ∧ q_bs A (nI b) (nI u) (nI v) (nI t) = nI m := by
  obtain ⟨eT, t0, t1, t2, t3⟩ := z_wgT (u := u) (v := v) (t := t) h0
  have hC1 : v_Ch (s_wgT I (nI u) (nI v) (nI t)) A c := hC.N (e.trans (eT.mono (by decide))) e' (by decide) (by decide)
  refine v_bds (w := fun j => if j = 0 then b else if j = 1 then u else if j = 2 then v else t) hC1 (fun j hj => ?_)
  rcases (by omega : j = 0 ∨ j = 1 ∨ j = 2 ∨ j = 3) with z | z | z | z <;> subst z
  · exact ⟨hb, rfl, t0⟩
  · exact ⟨by show u < 61; omega, rfl, t1⟩
  · exact ⟨by show v < 61; omega, rfl, t2⟩
  · exact ⟨by show t < 61; omega, rfl, t3⟩
/-- what the search keeps, at the class -/
def z_Ci (I0 : e_I) (b : Nat) (I : e_I) : Prop := s_eqN v_sT I0 I ∧ I f_a_trial 0 = nI (36 + b) ∧ (I f_bestBad 0 = 1000000 ∨ z_Cd b I)
theorem z_chW {X : e_XT} {I0 I0' : e_I} {dg : Int32} {g b u v t : Nat} {c : Nat → Nat} (hC : v_Ch I0 I0' c) (hb : b < 61) (h1 : u < v) (h2 : v < t) (h3 : t ≤ 48) {I : e_I} (h : z_Ci I0 b I) : z_Ci I0 b (s_chW X dg g u v t I) := by
  unfold s_chW
  split
  · obtain ⟨e, h0, hd⟩ := h
    obtain ⟨eT, t0, t1, t2, t3⟩ := z_wgT (u := u) (v := v) (t := t) h0
    obtain ⟨b1, m, hm, b2⟩ := z_bad (u := u) (v := v) (t := t) hC hb (by omega) (by omega) h3 e s_eqN.rfl' h0
    generalize hT : s_wgT I (nI u) (nI v) (nI t) = T at eT t0 t1 t2 t3 b1
    unfold s_wgB
    split
    · refine ⟨e.trans ((eT.mono (by decide)).trans ((((s_eqN.up (by decide)).trans (s_eqN.up (by decide))).trans (s_eqN.cpI (by decide))))), ?_, .inr ⟨u, v, t, m, h1, h2, h3, hm, ?_, ?_, ?_, ?_, ?_⟩⟩
      · unfold s_cpI
        rw [if_neg (fun z => absurd z.1 (by decide)), s_up_F (by decide), s_up_F (by decide)]; exact t0
      · unfold s_cpI
        rw [if_neg (fun z => absurd z.1 (by decide)), s_up_F (by decide), s_up_s, b1, b2]
      · unfold s_cpI
        rw [if_pos ⟨rfl, by decide⟩, s_up_F (by decide), s_up_F (by decide)]; exact t0
      · unfold s_cpI
        rw [if_pos ⟨rfl, by decide⟩, s_up_F (by decide), s_up_F (by decide)]; exact t1
      · unfold s_cpI
        rw [if_pos ⟨rfl, by decide⟩, s_up_F (by decide), s_up_F (by decide)]; exact t2
      · unfold s_cpI
        rw [if_pos ⟨rfl, by decide⟩, s_up_F (by decide), s_up_F (by decide)]; exact t3
    · refine ⟨e.trans (eT.mono (by decide)), t0, ?_⟩
      rcases hd with hd | ⟨u', v', t', m', k1, k2, k3, k4, k5, k6, k7, k8, k9⟩
      · exact .inl (by rw [eT f_bestBad (by decide)]; exact hd)
      · exact .inr ⟨u', v', t', m', k1, k2, k3, k4, by rw [eT f_bestBad (by decide)]; exact k5, by rw [eT f_a_best (by decide)]; exact k6, by rw [eT f_a_best (by decide)]; exact k7, by rw [eT f_a_best (by decide)]; exact k8, by rw [eT f_a_best (by decide)]; exact k9⟩
  · exact h
theorem z_runP {α : Type} {P : α → Prop} {f : Nat → α → α} {i0 : Nat} : ∀ n, (∀ i a, i0 ≤ i → i < i0 + n → P a → P (f i a)) → ∀ a, P a → P (s_run f i0 n a) := by
  intro n
  induction n with
  | zero => intro _ a h; exact h
  | succ n ih =>
    intro hf a h
    rw [s_run_l]
    exact hf _ _ (by omega) (by omega) (ih (fun i a h1 h2 => hf i a h1 (by omega)) a h)
theorem z_ch1 {X : e_XT} {I I' : e_I} {dg : Int32} {g b : Nat} {c : Nat → Nat} (hC : v_Ch I I' c) (hb : b < 61) : z_Ci I b (s_run (s_chU X dg g) 12 37 (s_ch0 I (nI b))) := by
  refine z_runP 37 (fun u a h1 h2 ha => ?_) _ ?_
  · unfold s_chU
    split
    · refine z_runP _ (fun v a h3 h4 ha => ?_) _ ha
      unfold s_chV
      split
      · refine z_runP _ (fun t a h5 h6 ha => z_chW hC hb (by omega) (by omega) (by omega) ha) _ ha
      · exact ha
    · exact ha
  · refine ⟨((s_eqN.up (by decide)).trans (s_eqN.up (by decide))).trans (s_eqN.up (by decide)), ?_, .inl ?_⟩
    · unfold s_ch0
      rw [s_up_F (by decide), s_up_F (by decide), s_up_s, v_36]
    · unfold s_ch0
      rw [s_up_F (by decide), s_up_s]
theorem z_fi {I I' : e_I} {st ch : Int32} {b : Nat} {c : Nat → Nat} (hC : v_Ch I I' c) (hb : b < 61) : (q_fi I' (nI b) st ch).2.1 = 99 ∨ ∃ m, m ≤ 16 ∧ (q_fi I' (nI b) st ch).2.1 = nI m := by
  have key : (fun a : e_I × Int32 × Int32 => s_eqN [f_m_best] I' a.1 ∧ (a.2.1 = 99 ∨ ∃ m, m ≤ 16 ∧ a.2.1 = nI m)) (q_fi I' (nI b) st ch) := by
    unfold q_fi
    refine z_runP (P := fun a : e_I × Int32 × Int32 => s_eqN [f_m_best] I' a.1 ∧ (a.2.1 = 99 ∨ ∃ m, m ≤ 16 ∧ a.2.1 = nI m)) 37 (fun u a h1 h2 ha => ?_) _ ⟨s_eqN.rfl', .inl rfl⟩
    unfold q_fiA
    refine z_runP (P := fun a : e_I × Int32 × Int32 => s_eqN [f_m_best] I' a.1 ∧ (a.2.1 = 99 ∨ ∃ m, m ≤ 16 ∧ a.2.1 = nI m)) _ (fun v a h3 h4 ha => ?_) _ ha
    unfold q_fiB
    refine z_runP (P := fun a : e_I × Int32 × Int32 => s_eqN [f_m_best] I' a.1 ∧ (a.2.1 = 99 ∨ ∃ m, m ≤ 16 ∧ a.2.1 = nI m)) _ (fun t a h5 h6 ha => ?_) _ ha
    unfold q_fiC
    split
    · have h0 : s_up I f_a_trial 0 (nI (36 + b)) f_a_trial 0 = nI (36 + b) := s_up_s
      obtain ⟨-, m, hm, e⟩ := z_bad (u := u) (v := v) (t := t) hC hb (by omega) (by omega) (by omega) (s_eqN.up (by decide)) ha.1 h0
      exact ⟨ha.1.trans (((s_eqN.up (by decide)).trans (s_eqN.up (by decide))).trans (s_eqN.up (by decide))), .inr ⟨m, hm, e⟩⟩
    · exact ha
  exact key.2
/-- the class finds a chord of three keys above the bass -/
theorem z_found {X : e_XT} {I I' : e_I} {b : Nat} {ch : Int32} (hX : v_X X) (h : v_Z4 I I') (hb : b < 61) (hch : ch = 53 ∨ ch = 54 ∨ ch = 52 ∨ ch = 55) (hd : ¬ s_deg X I (nI b) < 0) : z_Cd b (s_ch1 X I (s_fig ch) (nI b)) := by
  have hC := h.ch
  obtain ⟨r1, r2, r3⟩ := v_real0 hX h hb
  have hst : q_s7 I' (nI b) 7 0 < 7 := by
    rcases Nat.lt_or_ge (q_s7 I' (nI b) 7 0) 7 with k | k
    · exact k
    · exact absurd (r2 (by omega)) hd
  have edeg := r3 hst
  obtain ⟨⟨x, hx, x1, x2⟩, ⟨m1, m2⟩, -⟩ := id h
  have hCx : v_Cx X I I' x (q_s7 I' (nI b) 7 0) b ch (v_mj I f_isMajor) (fun v => (I' f_m_chord v).toNatClampNeg) := ⟨hX, ⟨hx, x1, x2⟩, ⟨rfl, by unfold v_mj; rw [m1]⟩, hst, hch, hb, hC⟩
  have hf := v_find hCx
  obtain ⟨-, -, hi⟩ := z_ch1 (X := X) (dg := s_deg X I (nI b)) (g := s_fig ch) hC hb
  unfold s_ch1
  rw [edeg] at hi ⊢
  rcases hi with hi | hi
  · exfalso
    have hfo := hf.2.2.2.resolve_right (fun z => z.1 trivial)
    have e1 := hfo.1
    rw [hi] at e1
    rcases z_fi (st := nI (q_s7 I' (nI b) 7 0)) (ch := ch) hC hb with k | ⟨m, hm, k⟩
    · rw [k] at e1
      exact absurd e1 (by decide)
    · rw [k] at e1
      have : (1000000 : Int32) = nI 1000000 := by decide
      rw [this] at e1
      have := (nI_eq (by omega) (by omega)).mp e1
      omega
  · exact hi
theorem z_ct_m {I : e_I} {d : Nat} : ∀ n k, n ≤ k → z_ct I d n ≤ z_ct I d k := by
  intro n k
  induction k with
  | zero => intro h; rw [Nat.le_zero.mp h]; exact Nat.le_refl _
  | succ k ih =>
    intro h
    by_cases e : n = k + 1
    · rw [e]; exact Nat.le_refl _
    · exact Nat.le_trans (ih (by omega)) (Nat.le_add_right _ _)
theorem z_ct_1 {I : e_I} {d n : Nat} (h : ¬ I f_a_pressed (d * 61 + n) = 0) : z_ct I d (n + 1) = z_ct I d n + 1 := by
  show z_ct I d n + (if I f_a_pressed (d * 61 + n) = 0 then 0 else 1) = z_ct I d n + 1
  rw [if_neg h]
/-- the chord's keys are down -/
theorem z_pch {X : e_XT} {I I' : e_I} {b : Nat} {ch : Int32} (hX : v_X X) (h : v_Z4 I I') (hb : b < 32) (hch : ch = 53 ∨ ch = 54 ∨ ch = 52 ∨ ch = 55) (hd : ¬ s_deg X I (nI b) < 0) : (∃ m, m ≤ 16 ∧ s_ch1 X I (s_fig ch) (nI b) f_bestBad 0 = nI m) ∧ ¬ s_pch (s_cho X I (s_fig ch) (nI b)) f_a_pressed b = 0 ∧ 4 ≤ z_all (s_pch (s_cho X I (s_fig ch) (nI b))) := by
  obtain ⟨u, v, t, m, h1, h2, h3, hm, k1, k2, k3, k4, k5⟩ := z_found hX h (show b < 61 by omega) hch hd
  refine ⟨⟨m, hm, k1⟩, ?_⟩
  have c0 : ∀ j, j < 4 → s_cho X I (s_fig ch) (nI b) f_a_chord j = s_ch1 X I (s_fig ch) (nI b) f_a_best j := fun j hj => by
    unfold s_cho s_cpI
    rw [s_up_F (by decide), if_pos ⟨rfl, hj⟩]
  generalize s_cho X I (s_fig ch) (nI b) = A at c0
  unfold s_pch
  have eD : s_eqN s_tPK A (s_run s_pcD 0 2 A) := s_eqN.run (fun d A => s_eqN.run (fun n A => by
    unfold s_pcK
    split
    · exact s_eqN.rfl'
    · exact s_eqN.prk) _ _ _) _ _ _
  generalize s_run s_pcD 0 2 A = B at eD
  have key : ∀ (C : e_I) (v9 q : Nat) , v9 < 4 → q < 61 → (v9 = 0 → q < 32) → s_eqN s_tPK A C → s_ch1 X I (s_fig ch) (nI b) f_a_best v9 = nI (36 + q) → s_eqN s_tPK A (s_pcV v9 C) ∧ ∀ i, s_pcV v9 C f_a_pressed i = if i = (if v9 = 0 then 0 else 61) + q then 1 else C f_a_pressed i := by
    intro C v9 q hv9 hq hq0 eC e9
    have ek : s_cky C (nI v9) = nI q := by
      unfold s_cky
      rw [if_pos ⟨nI_pos' (by omega), (nI_ltI (b := 4) (by omega) (by decide)).mpr hv9⟩, nI_clamp (by omega), eC f_a_chord (by decide), c0 v9 hv9, e9]
      show nI (36 + q) - nI 36 = nI q
      rw [nI_sub (by omega)]
      rw [show 36 + q - 36 = q by omega]
    unfold s_pcV
    rw [ek]
    refine ⟨eC.trans s_eqN.prk, fun i => ?_⟩
    by_cases z : v9 = 0
    · rw [if_pos z, if_pos z]
      obtain ⟨a1, a2⟩ := z_isk (d := 0) (n := q) (by decide) hq (fun _ => hq0 z)
      have := z_prk_pr (I := C) (b := 1) (i := i) a1
      rw [a2, show (0 * 61 + q) = 0 + q by omega, show nI 0 = (0 : Int32) from rfl] at this
      exact this
    · rw [if_neg z, if_neg z]
      obtain ⟨a1, a2⟩ := z_isk (d := 1) (n := q) (by decide) hq (fun z => by cases z)
      have := z_prk_pr (I := C) (b := 1) (i := i) a1
      rw [a2, show (1 * 61 + q) = 61 + q by omega, show nI 1 = (1 : Int32) from rfl] at this
      exact this
  show ¬ s_pcV 3 (s_pcV 2 (s_pcV 1 (s_pcV 0 B))) f_a_pressed b = 0 ∧ 4 ≤ z_all (s_pcV 3 (s_pcV 2 (s_pcV 1 (s_pcV 0 B))))
  obtain ⟨e0, p0⟩ := key B 0 b (by decide) (by omega) (fun _ => hb) eD k2
  generalize s_pcV 0 B = B0 at e0 p0
  obtain ⟨e1, p1⟩ := key B0 1 u (by decide) (by omega) (fun z => by cases z) e0 k3
  generalize s_pcV 1 B0 = B1 at e1 p1
  obtain ⟨e2, p2⟩ := key B1 2 v (by decide) (by omega) (fun z => by cases z) e1 k4
  generalize s_pcV 2 B1 = B2 at e2 p2
  obtain ⟨e3, p3⟩ := key B2 3 t (by decide) (by omega) (fun z => by cases z) e2 k5
  generalize s_pcV 3 B2 = B3 at e3 p3
  simp only [if_true] at p0
  have p1' : ∀ i, B1 f_a_pressed i = if i = 61 + u then 1 else B0 f_a_pressed i := p1
  have p2' : ∀ i, B2 f_a_pressed i = if i = 61 + v then 1 else B1 f_a_pressed i := p2
  have p3' : ∀ i, B3 f_a_pressed i = if i = 61 + t then 1 else B2 f_a_pressed i := p3
  have n1 : ¬ (1 : Int32) = 0 := by decide
  have qb : ¬ B3 f_a_pressed b = 0 := by
    rw [p3', if_neg (by omega), p2', if_neg (by omega), p1', if_neg (by omega), p0, if_pos (by omega)]; exact n1
  have qt : ¬ B3 f_a_pressed (1 * 61 + t) = 0 := by rw [p3', if_pos (by omega)]; exact n1
  have qv : ¬ B3 f_a_pressed (1 * 61 + v) = 0 := by rw [p3', if_neg (by omega), p2', if_pos (by omega)]; exact n1
  have qu : ¬ B3 f_a_pressed (1 * 61 + u) = 0 := by rw [p3', if_neg (by omega), p2', if_neg (by omega), p1', if_pos (by omega)]; exact n1
  refine ⟨qb, ?_⟩
  have qb' : ¬ B3 f_a_pressed (0 * 61 + b) = 0 := by rw [show 0 * 61 + b = b by omega]; exact qb
  have a0 := z_ct_1 (d := 0) qb'
  have a1 := z_ct_1 (d := 1) qu
  have a2 := z_ct_1 (d := 1) qv
  have a3 := z_ct_1 (d := 1) qt
  have m0 := z_ct_m (I := B3) (d := 0) (b + 1) 32 (by omega)
  have m1 := z_ct_m (I := B3) (d := 1) (u + 1) v (by omega)
  have m2 := z_ct_m (I := B3) (d := 1) (v + 1) t (by omega)
  have m3 := z_ct_m (I := B3) (d := 1) (t + 1) 61 (by omega)
  unfold z_all
  omega
