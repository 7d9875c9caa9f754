/-! 99999999994: a pass adds at its first tick alone, the end -/
theorem v_Kw.N {m m' : Nat} {T : List Nat} {I I1 : e_I} (h : v_Kw m I) (e : s_eqN T I I1) (hT : v_dj [f_m_wentDown] T = true) (hm : m ≤ m') : v_Kw m' I1 := fun i hi => by
  obtain ⟨w, h1, h2⟩ := h i hi
  exact ⟨w, by omega, by rw [e _ (v_dj.o hT (by decide))]; exact h2⟩
theorem v_ticks0 {p : e_Sp} {nk nr np n s : Nat} (hn : n + np ≤ 1000000) : ∀ k t m a b i, v_B p nk nr np n t s m a b → v_Kw m b.1 → v_Rh0 np b.1 → (b.1 f_m_recording 0 = 114 → m + k - s ≤ 100000) → m + k < 1000000000 → ∃ t', v_B p nk nr np n t' s (m + k) (s_run (s_tick p nk nr) i k a) (s_run (q_tc nk nr np) i k b) := by
  intro k
  induction k with
  | zero => intro t m a b i h _ _ _ _; exact ⟨t, h⟩
  | succ k ih =>
    intro t m a b i h hq h0 hb hm
    obtain ⟨n1, t1, k1, k2, k3⟩ := v_tick h (h0.up h.2.2.1 (fun z => ⟨by have := hb z; omega, hn⟩)) (by omega) i
    have e1 : n1 = n := v_tickq h hq (by omega) (by omega) (by omega) i k3
    subst e1
    have hN := v_tcN (nk := nk) (nr := nr) (np := np) (i := i) (b := b)
    have er : (q_tc nk nr np i b).1 f_m_recording 0 = b.1 f_m_recording 0 := by rw [hN _ (by decide)]
    obtain ⟨t2, g3⟩ := ih t1 (m + 1) (s_tick p nk nr i a) (q_tc nk nr np i b) (i + 1) k3 (hq.N hN (by decide) (by omega)) (h0.N hN (by decide)) (fun z => by
      rw [er] at z
      have := hb z
      omega) (by omega)
    exact ⟨t2, by rw [show m + (k + 1) = m + 1 + k by omega]; exact g3⟩
/-- a pass: at most one pipe, one thing -/
theorem a_pass1 {p : e_Sp} {nk nr np n s m L k : Nat} {t : Nat → Nat} {a b : e_I × e_Jt} (h : v_Sim p nk nr np n t s m L a b) (hk : k < 40) (hL : L ≤ 1500) (hn : n + np + np ≤ 1000000) (hm : m + (k + 1) < 1000000000) : (∃ n' t' n1 t1, n' = n1 ∧ n1 ≤ n + np ∧ (¬ b.1 f_m_recording 0 = 114 → n' = n) ∧ v_B p nk nr np n1 t1 s (m + 1) (s_tick p nk nr 0 a) (q_tc nk nr np 0 b) ∧ v_Sim p nk nr np n' t' s (m + (k + 1)) (L + 1) (s_run (s_tick p nk nr) 0 (k + 1) a) (s_run (q_tc nk nr np) 0 (k + 1) b)) ∧ (s_run (s_tick p nk nr) 0 (k + 1) a).1 f_now 0 = (s_run (q_tc nk nr np) 0 (k + 1) b).1 f_m_tick 0 := by
  obtain ⟨n1, t1, k1, k2, k3⟩ := v_tick h.1 (h.2.rh0.up h.1.2.2.1 (fun z => ⟨by have := h.2.ms z; omega, by omega⟩)) (by omega) 0
  have hN := v_tcN (nk := nk) (nr := nr) (np := np) (i := 0) (b := b)
  have er : (q_tc nk nr np 0 b).1 f_m_recording 0 = b.1 f_m_recording 0 := by rw [hN _ (by decide)]
  have hq : v_Kw (m + 1) (q_tc nk nr np 0 b).1 := (h.1.2.2.2.kq (Nat.lt_succ_self m)).N hN (by decide) (Nat.le_refl _)
  obtain ⟨t2, g⟩ := v_ticks0 (by omega) k t1 (m + 1) (s_tick p nk nr 0 a) (q_tc nk nr np 0 b) 1 k3 hq (h.2.rh0.N hN (by decide)) (fun z => by
    rw [er] at z
    have := h.2.ms z
    omega) (by omega)
  have g' : v_B p nk nr np n1 t2 s (m + (k + 1)) (s_run (s_tick p nk nr) 0 (k + 1) a) (s_run (q_tc nk nr np) 0 (k + 1) b) := by
    rw [show m + (k + 1) = m + 1 + k by omega]
    exact g
  exact ⟨⟨n1, t2, n1, t1, rfl, k1, k2, k3, g', h.2.ticks k2 (by omega)⟩, g'.1.1.2.2.2.2.1⟩
