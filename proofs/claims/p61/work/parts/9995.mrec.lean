theorem q_G.w {p p' : e_Sp} {I I' : e_I} {c c' : Nat × Nat} {nk nr np a b n a' b' n' : Nat} (h : q_G p I c nk nr np a b n) (v : ∀ t i, [T_MKEPT, T_LARR, T_MFRAME].contains t = false → p'.2.1 t i = p.2.1 t i) (hF : ∀ F, F ∈ q_gs2 → I' F = I F) (h3 : I' f_l_size 3 = I f_l_size 3) (h2 : I' f_l_size 2 = I f_l_size 2) (hd : I' f_m_isDown = I f_m_isDown) (hr : I' f_m_isRelay = I f_m_isRelay) (hL : q_L p' I' c' a' b' n') (ha : a' + n' + 100000000 < 4294960000) (hn : n' + 1280 < 39999999) : q_G p' I' c' nk nr np a' b' n' := by
  refine ⟨h.1.w v (fun F hf => hF F (List.mem_append_left _ hf)) h3 h2, h.2.1, ?_, by unfold q_bo; rw [hd]; exact h.2.2.2.1, by unfold q_bo; rw [hr]; exact h.2.2.2.2.1, hL, ha, hn⟩
  unfold q_S
  rw [hF f_m_operation (by decide), hF f_m_first (by decide), hF f_m_second (by decide)]
  exact h.2.2.1
def q_re0 (I : e_I) (x : Int32) : e_I := s_up (s_up I f_m_thrown 0 0) f_m_recording 0 x
def q_reK (I : e_I) (x : Int32) : e_I := s_up (s_up (s_up (q_re0 I x) f_l_modCount 4 (q_re0 I x f_l_modCount 4 + 1)) f_l_size 4 0) f_m_kindKept 0 x
