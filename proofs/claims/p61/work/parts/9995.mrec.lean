/-! 9995: recording begins (printed by wip/whole/p9995.py) -/
theorem q_D.w {p p' : e_Sp} {I I' : e_I} {nk nr np : Nat} (h : q_D p I nk nr np) (v : ∀ t i, [T_MKEPT, T_LARR, T_MFRAME].contains t = false → p'.2.1 t i = p.2.1 t i) (hF : ∀ F, F ∈ q_ms2 → I' F = I F) (h3 : I' f_l_size 3 = I f_l_size 3) (h2 : I' f_l_size 2 = I f_l_size 2) : q_D p' I' nk nr np := by
  obtain ⟨⟨a1, a2⟩, b1, b2, b3, b4, b5, b6⟩ := h
  have vs : ∀ t i, s_sg t = true → p'.2.1 t i = p.2.1 t i := fun t i ht => v t i (by
    cases e : [T_MKEPT, T_LARR, T_MFRAME].contains t
    · rfl
    · have e2 := List.contains_iff_mem.mp e
      rcases List.mem_cons.mp e2 with rfl | e2
      · exact absurd ht (by decide)
      rcases List.mem_cons.mp e2 with rfl | e2
      · exact absurd ht (by decide)
      obtain rfl := List.mem_singleton.mp e2
      exact absurd ht (by decide))
  refine ⟨⟨fun t ht => (vs t 0 ht).trans (a1 t ht), fun l hl => (v T_LIST l (by decide)).trans (a2 l hl)⟩, by rw [h3]; exact b1, by rw [h2]; exact b2, by rw [hF _ (by decide)]; exact b3, fun k hk => ?_, fun r hr => ?_, fun q hq => ?_⟩
  · have := b4 k hk
    unfold q_K at this ⊢
    rw [hF f_mk_division (by decide), hF f_mk_rows (by decide), hF f_mk_relay (by decide), v T_MKNOB k (by decide)]
    refine ⟨this.1, fun t ht => ?_, this.2.2⟩
    rw [v t k (by
      rcases List.mem_cons.mp ht with rfl | ht
      · decide
      rcases List.mem_cons.mp ht with rfl | ht
      · decide
      rcases List.mem_cons.mp ht with rfl | ht
      · decide
      rcases List.mem_cons.mp ht with rfl | ht
      · decide
      obtain rfl := List.mem_singleton.mp ht
      decide)]
    exact this.2.1 t ht
  · have := b5 r hr
    unfold q_R at this ⊢
    rw [hF f_mr_lowest (by decide), hF f_mr_highest (by decide), hF f_mr_base (by decide), hF f_mr_division (by decide), v T_MRANK r (by decide)]
    exact this
  · rw [hF f_m_rankOf (by decide), hF f_mr_base (by decide)]
    exact b6 q hq
theorem q_G.w {p p' : e_Sp} {I I' : e_I} {c c' : Nat × Nat} {nk nr np a b n a' b' n' : Nat} (h : q_G p I c nk nr np a b n) (v : ∀ t i, [T_MKEPT, T_LARR, T_MFRAME].contains t = false → p'.2.1 t i = p.2.1 t i) (hF : ∀ F, F ∈ q_gs2 → I' F = I F) (h3 : I' f_l_size 3 = I f_l_size 3) (h2 : I' f_l_size 2 = I f_l_size 2) (hd : I' f_m_isDown = I f_m_isDown) (hr : I' f_m_isRelay = I f_m_isRelay) (hL : q_L p' I' c' a' b' n') (ha : a' + n' + 100000000 < 4294960000) (hn : n' + 1280 < 39999999) : q_G p' I' c' nk nr np a' b' n' := by
  refine ⟨h.1.w v (fun F hf => hF F (List.mem_append_left _ hf)) h3 h2, h.2.1, ?_, by unfold q_bo; rw [hd]; exact h.2.2.2.1, by unfold q_bo; rw [hr]; exact h.2.2.2.2.1, hL, ha, hn⟩
  unfold q_S
  rw [hF f_m_operation (by decide), hF f_m_first (by decide), hF f_m_second (by decide)]
  exact h.2.2.1
def q_re0 (I : e_I) (x : Int32) : e_I := s_up (s_up I f_m_thrown 0 0) f_m_recording 0 x
def q_reK (I : e_I) (x : Int32) : e_I := s_up (s_up (s_up (q_re0 I x) f_l_modCount 4 (q_re0 I x f_l_modCount 4 + 1)) f_l_size 4 0) f_m_kindKept 0 x
