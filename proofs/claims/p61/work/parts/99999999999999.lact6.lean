/-- how long the list of what is recorded is -/
def h_sz (n : Nat) (I : e_I) : Prop := ∃ v, v ≤ n ∧ I f_l_size 4 = nI v
theorem h_sz.le {n m : Nat} {I : e_I} (h : h_sz n I) (hm : n ≤ m) : h_sz m I := by
  obtain ⟨v, h1, h2⟩ := h
  exact ⟨v, by omega, h2⟩
theorem h_sz.N {n : Nat} {T : List Nat} {I I1 : e_I} (h : h_sz n I) (e : s_eqN T I I1) (hT : T.contains f_l_size = false) : h_sz n I1 := by
  obtain ⟨v, h1, h2⟩ := h
  exact ⟨v, h1, by rw [e _ hT]; exact h2⟩
theorem h_sz.mdv {n : Nat} {I : e_I} {x y z : Int32} (h : h_sz n I) (hn : n < 2147483000) : h_sz (n + 1) (q_mdv I x y z) := by
  unfold q_mdv
  split
  · exact h.le (by omega)
  split
  · obtain ⟨v, h1, h2⟩ := h
    rw [h2, nI_clamp (by omega)]
    exact ⟨v + 1, by omega, s_adI_s⟩
  · exact (h.N s_eqN.qmd1 (by decide)).le (by omega)
theorem h_sz.run {f : Nat → e_I → e_I} (hf : ∀ i I n, n < 2147483000 → h_sz n I → h_sz (n + 1) (f i I)) : ∀ k i n I, n + k < 2147483000 → h_sz n I → h_sz (n + k) (s_run f i k I)
  | 0, _, _, _, _, h => h
  | k + 1, i, n, I, hn, h => by
    rw [s_run_l]
    exact hf _ _ (n + k) (by omega) (h_sz.run hf k i n I (by omega) h)
def h_off (I I' : e_I) : Prop := ¬ I f_m_recording 0 = 107 → I' f_m_recording 0 = I f_m_recording 0 ∧ I' f_l_size 4 = I f_l_size 4
theorem h_off.trans {I I' I'' : e_I} (h : h_off I I') (h' : h_off I' I'') : h_off I I'' := fun z => by
  obtain ⟨a, b⟩ := h z
  obtain ⟨c, d⟩ := h' (by rw [a]; exact z)
  exact ⟨c.trans a, d.trans b⟩
theorem h_off.rfl' {I : e_I} : h_off I I := fun _ => ⟨rfl, rfl⟩
theorem h_off.N {T : List Nat} {I I' : e_I} (e : s_eqN T I I') (hT : v_dj [f_m_recording, f_l_size] T = true) : h_off I I' := fun _ => ⟨by rw [e _ (v_dj.o hT (by decide))], by rw [e _ (v_dj.o hT (by decide))]⟩
theorem h_off.mdv {I : e_I} {x y z : Int32} : h_off I (q_mdv I x y z) := fun w => ⟨by rw [q_mdv_off w _ (by decide)], by rw [q_mdv_off w _ (by decide)]⟩
theorem h_off.run {f : Nat → e_I → e_I} (h : ∀ i I, h_off I (f i I)) (k i : Nat) (I : e_I) : h_off I (s_run f i k I) := s_run_ind (P := h_off) (fun _ => h_off.rfl') (fun a b => a.trans b) h k i I
def h_rzT : List Nat := f_m_best :: f_m_chord :: f_m_hasChord :: q_mT
theorem h_rz0 {u : Int32} (i : Nat) (I : e_I) : h_off I (q_rz0 u i I) ∧ q_e h_rzT I (q_rz0 u i I) ∧ ∀ n, n < 2147483000 → h_sz n I → h_sz (n + 1) (q_rz0 u i I) := by
  unfold q_rz0
  split
  · exact ⟨h_off.rfl', q_e.rfl', fun n _ h => h.le (by omega)⟩
  · exact ⟨h_off.mdv, q_mdv_e.mono (by decide), fun n hn h => h.mdv hn⟩
theorem h_rz1 (i : Nat) (I : e_I) : h_off I (q_rz1 i I) ∧ q_e h_rzT I (q_rz1 i I) ∧ ∀ n, n < 2147483000 → h_sz n I → h_sz (n + 1) (q_rz1 i I) := by
  unfold q_rz1
  split
  · exact ⟨h_off.rfl', q_e.rfl', fun n _ h => h.le (by omega)⟩
  · exact ⟨h_off.mdv, q_mdv_e.mono (by decide), fun n hn h => h.mdv hn⟩
theorem h_rz2 (i : Nat) (I : e_I) : h_off I (q_rz2 i I) ∧ q_e h_rzT I (q_rz2 i I) ∧ ∀ n, n < 2147483000 → h_sz n I → h_sz (n + 1) (q_rz2 i I) := by
  unfold q_rz2
  exact ⟨h_off.mdv.trans (h_off.N (s_eqN.up (T := [f_m_chord]) (by decide)) (by decide)), (q_mdv_e.mono (by decide)).trans (q_e.up (by decide) (by decide)), fun n hn h => (h.mdv hn).N (s_eqN.up (T := [f_m_chord]) (by decide)) (by decide)⟩
theorem h_rz {u : Int32} {I : e_I} : h_off I (q_rz I u) ∧ q_e h_rzT I (q_rz I u) ∧ ∀ n, n < 2147482000 → h_sz n I → h_sz (n + 97) (q_rz I u) := by
  unfold q_rz
  refine ⟨?_, ?_, fun n hn h => ?_⟩
  · exact ((((h_off.run (fun i I => (h_rz0 i I).1) 32 0 I).trans (h_off.run (fun i I => (h_rz1 i I).1) 61 0 _)).trans h_off.mdv).trans (h_off.run (fun i I => (h_rz2 i I).1) 3 0 _)).trans (h_off.N (T := [f_m_chord, f_m_hasChord]) ((s_eqN.up (by decide)).trans (s_eqN.up (by decide))) (by decide))
  · exact ((((q_e.run (fun i I => (h_rz0 i I).2.1) 32 0 I).trans (q_e.run (fun i I => (h_rz1 i I).2.1) 61 0 _)).trans (q_mdv_e.mono (by decide))).trans (q_e.run (fun i I => (h_rz2 i I).2.1) 3 0 _)).trans ((q_e.up (by decide) (by decide)).trans (q_e.up (by decide) (by decide)))
  · have h1 := h_sz.run (fun i I n hn h => (h_rz0 (u := u) i I).2.2 n hn h) 32 0 n I (by omega) h
    have h2 := h_sz.run (fun i I n hn h => (h_rz1 i I).2.2 n hn h) 61 0 _ _ (by omega) h1
    have h3 := h2.mdv (x := 0) (y := u) (z := 1) (by omega)
    have h4 := h_sz.run (fun i I n hn h => (h_rz2 i I).2.2 n hn h) 3 0 _ _ (by omega) h3
    exact (h4.N (T := [f_m_chord, f_m_hasChord]) ((s_eqN.up (by decide)).trans (s_eqN.up (by decide))) (by decide)).le (by omega)
