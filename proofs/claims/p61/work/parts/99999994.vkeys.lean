/-! 99999994: keys, lifting, passing -/
theorem v_run2 {α β : Type} {f : Nat → α → α} {g : Nat → β → β} {R : Nat → α → β → Prop} {m : Nat} (h : ∀ i a b, i < m → R i a b → R (i + 1) (f i a) (g i b)) {a : α} {b : β} (h0 : R 0 a b) : ∀ n, n ≤ m → R n (s_run f 0 n a) (s_run g 0 n b) := by
  intro n
  induction n with
  | zero => exact fun _ => h0
  | succ n ih =>
    intro hn
    rw [s_run_l, s_run_l, Nat.zero_add]
    exact h n _ _ (by omega) (ih (by omega))
/-- keys are moved -/
def v_Km (p : e_Sp) (nk nr np n s m : Nat) (I0 I0' : e_I) (J J' : e_Jt) (k : Nat) (I I' : e_I) : Prop := ∃ n' t', n' ≤ n + k ∧ (¬ I0' f_m_recording 0 = 107 → n' = n) ∧ v_Rel p nk nr np n' t' s m I I' J J' ∧ v_Kt m I I' ∧ s_eqN s_tPK I0 I ∧ q_e q_mT I0' I' ∧ q_bo I' f_m_isDown
theorem v_Km.mono {p : e_Sp} {nk nr np n s m k k' : Nat} {I0 I0' I I' : e_I} {J J' : e_Jt} (h : v_Km p nk nr np n s m I0 I0' J J' k I I') (hk : k ≤ k') : v_Km p nk nr np n s m I0 I0' J J' k' I I' := by
  obtain ⟨n', t', a, b⟩ := h
  exact ⟨n', t', by omega, b⟩
theorem v_Km.step {p : e_Sp} {nk nr np n s m k : Nat} {I0 I0' I I' : e_I} {J J' : e_Jt} {x y z : Int32} (h : v_Km p nk nr np n s m I0 I0' J J' k I I') (hi : s_isk x y) (hz : z = 0 ∨ z = 1) (hb : I0' f_m_recording 0 = 107 → I0' f_m_kindKept 0 = 107 ∧ m - s ≤ 100000 ∧ n + k < 1000000) : v_Km p nk nr np n s m I0 I0' J J' (k + 1) (s_prk I x y z) (q_mdv I' x y z) := by
  obtain ⟨n', t', a1, a2, a3, a4, a5, a6, a7⟩ := h
  have er : I' f_m_recording = I0' f_m_recording := a6.F (by decide)
  have ek : I' f_m_kindKept = I0' f_m_kindKept := a6.F (by decide)
  obtain ⟨n1, t1, b1, b2, b3, b4⟩ := v_prk a3 a4 hi hz (by
    rw [er, ek]
    exact fun w => ⟨(hb w).1, (hb w).2.1, by have := (hb w).2.2; omega⟩)
  exact ⟨n1, t1, by omega, fun w => by rw [b2 (by rw [er]; exact w), a2 w], b3, b4, a5.trans s_eqN.prk, a6.trans q_mdv_e, a7.mdv hz⟩
theorem v_Z3.n2 {s m n n' L : Nat} {I I' : e_I} (h : v_Z3 s m n L I I') (hn : I' f_m_recording 0 = 45 → n' = n) : v_Z3 s m n' L I I' := by
  refine ⟨h.1, ?_⟩
  by_cases c : I' f_m_recording 0 = 45
  · rw [hn c]; exact h.2
  · rcases h.1 with z | ⟨z, z1, z2, z3⟩
    · exact absurd z c
    · exact .inr ⟨by rw [z2, z1], by rw [z1]; exact z⟩
theorem v_Z5.keys {I I' I1 I1' : e_I} (h : v_Z5 I I') (e : s_eqN s_tPK I I1) (e' : q_e q_mT I' I1') (hb : q_bo I1' f_m_isDown) : v_Z5 I1 I1' := by
  obtain ⟨h1, h2, h3, h4, h5, h6⟩ := h
  have e'' := e'.1
  refine ⟨fun F hF => v_bo_eq (h1 F hF) (e F (v_dj.o (show v_dj v_bC s_tPK = true by decide) hF)), fun F hF => ?_, ?_, ?_, ?_, ?_⟩
  · by_cases c : F = f_m_isDown
    · rw [c]; exact hb
    · refine v_bo_eq (h2 F hF) (e'' F ?_)
      have hF' : F = f_m_isDown ∨ F = f_m_isRelay ∨ F = f_m_isOpen ∨ F = f_m_speaks ∨ F = f_mk_isDrawn ∨ F = f_mk_isLocked ∨ F = f_mk_isIn ∨ F = f_m_isTutti := by simpa [v_bM] using hF
      rcases hF' with z | z | z | z | z | z | z | z
      · exact absurd z c
      all_goals rw [z]; decide
  · unfold v_ch; rw [e _ (by decide)]; exact h3
  · unfold v_ch; rw [e'' _ (by decide)]; exact h4
  · unfold v_ch; rw [e _ (by decide)]; exact h5
  · unfold v_ch; rw [e'' _ (by decide)]; exact h6
/-- keys were moved, and all settles -/
theorem v_keyS {p : e_Sp} {nk nr np n s m L k : Nat} {t : Nat → Nat} {I I' I1 I1' : e_I} {J J' : e_Jt} (h : v_Sim p nk nr np n t s m L (I, J) (I', J')) (hk : v_Km p nk nr np n s m I I' J J' k I1 I1') (hL : L ≤ 2000) (hn : n + k + np ≤ 1000000) : ∃ n' t', n' ≤ n + k + np ∧ (I' f_m_recording 0 = 45 → n' = n) ∧ v_Sim p nk nr np n' t' s m L (s_stl p nk nr (I1, J)) (q_st nk nr np (I1', J')) := by
  obtain ⟨⟨hR, hF, hX, hK⟩, z1, z2, z3, z4, z5, z6⟩ := h
  have hC := v_Cw.of hX z1.2.1
  obtain ⟨n', t', a1, a2, a3, a4, a5, a6, a7⟩ := hk
  have er : I1' f_m_recording = I' f_m_recording := a6.F (by decide)
  have h45 : I' f_m_recording 0 = 45 → n' = n := fun w => a2 (by rw [w]; decide)
  obtain ⟨n2, t2, k1, k2, k3⟩ := v_settleS (L := L) a3 a4 ⟨z1.N a5 a6.1 (by decide) (by decide), z2.N a5 a6.1 (by decide) (by decide), (z3.n2 h45).N a5 a6.1 (by decide) (by decide), z4.N a5 a6.1 (by decide) (by decide), z5.keys a5 a6 a7, z6.N a5 a6.1 (by decide) (by decide) (fun l hl => a6.2 l (by omega)) v_eqJ.rfl' v_eqJ.rfl'⟩ (hC.N a6.1 (by decide)) hL (by omega)
  exact ⟨n2, t2, by omega, fun w => by rw [k2 (by rw [er, w]; decide), h45 w], k3⟩
theorem v_Km.of {p : e_Sp} {nk nr np n s m L : Nat} {t : Nat → Nat} {I I' : e_I} {J J' : e_Jt} (h : v_Sim p nk nr np n t s m L (I, J) (I', J')) : v_Km p nk nr np n s m I I' J J' 0 I I' := ⟨n, t, by omega, fun _ => rfl, h.1.1, h.1.2.2.2, s_eqN.rfl', q_e.rfl', h.2.2.2.2.2.1.2.1 _ (by decide)⟩
theorem v_Zs.h7 {nk np s m n L : Nat} {a b : e_I × e_Jt} (h : v_Zs nk np s m n L a b) (hL : L ≤ 2000) : b.1 f_m_recording 0 = 107 → b.1 f_m_kindKept 0 = 107 ∧ m - s ≤ 100000 := fun z => by
  rcases h.2.2.1.1 with w | ⟨w, w1, w2, w3⟩
  · rw [z] at w; exact absurd w (by decide)
  · exact ⟨w1.trans z, by omega⟩
theorem v_b01 {x : Int32} (h : x = 0 ∨ x = 1) : bI (decide (¬ x = 0)) = x := by rcases h with e | e <;> rw [e] <;> decide
theorem a_key {p : e_Sp} {nk nr np n s m L : Nat} {t : Nat → Nat} {I I' : e_I} {J J' : e_Jt} {x y z : Int32} (h : v_Sim p nk nr np n t s m L (I, J) (I', J')) (hi : s_isk x y) (hz : z = 0 ∨ z = 1) (hL : L ≤ 2000) (hn : n + 1 + np ≤ 1000000) : (∃ n' t', n' ≤ n + 1 + np ∧ (I' f_m_recording 0 = 45 → n' = n) ∧ v_Sim p nk nr np n' t' s m L (s_stl p nk nr (s_prk I x y z, J)) (q_st nk nr np (q_mdv I' x y z, J'))) ∧ bI (s_dn I x y) = I' f_m_isDown (s_kn x y) := by
  refine ⟨v_keyS h ((v_Km.of h).step hi hz (fun w => ⟨(h.2.h7 hL w).1, (h.2.h7 hL w).2, by omega⟩)) hL hn, ?_⟩
  rw [v_dn h.1.1.1.2.2.1 hi]
  exact v_b01 (h.2.2.2.2.2.1.2.1 f_m_isDown (by decide) (s_kn x y))
theorem a_lift {p : e_Sp} {nk nr np n s m L : Nat} {t : Nat → Nat} {I I' : e_I} {J J' : e_Jt} (h : v_Sim p nk nr np n t s m L (I, J) (I', J')) (hL : L ≤ 2000) (hn : n + 183 + np ≤ 1000000) : v_Km p nk nr np n s m I I' J J' 183 (s_rla I).1 (q_lf I').1 ∧ (s_rla I).2 = (q_lf I').2 := by
  have hb : ∀ k, k < 183 → I' f_m_recording 0 = 107 → I' f_m_kindKept 0 = 107 ∧ m - s ≤ 100000 ∧ n + k < 1000000 := fun k hk w => ⟨(h.2.h7 hL w).1, (h.2.h7 hL w).2, by omega⟩
  have key := v_run2 (f := s_rlD) (g := q_lfD) (m := 3) (R := fun d a b => v_Km p nk nr np n s m I I' J J' (61 * d) a.1 b.1 ∧ a.2 = b.2) (fun d a b hd hab => by
    have hk := v_kcn d
    have in1 := v_run2 (f := s_rlK (nI d)) (g := q_lfK d) (m := s_kcn (nI d)) (R := fun i a b => v_Km p nk nr np n s m I I' J J' (61 * d + i) a.1 b.1 ∧ a.2 = b.2) (fun i a b hi hab => by
      obtain ⟨h1, h2⟩ := hab
      have hik : s_isk (nI d) (nI i) := (v_isk hd (by omega)).mpr hi
      have h1' := h1
      obtain ⟨n', t', -, -, a3, -, -, -, a7⟩ := h1'
      have ed := v_dn a3.1.2.2.1 hik
      unfold s_rlK q_lfK
      by_cases c : b.1 f_m_isDown (s_kn (nI d) (nI i)) = 0
      · have e1 : q_mdv b.1 (nI d) (nI i) 0 = b.1 := by unfold q_mdv; exact if_pos c
        rw [ed, if_neg (by rw [decide_eq_true_iff]; exact fun w => w c), if_pos c, e1]
        exact ⟨h1.mono (by omega), h2.trans (Int32.add_zero _).symm⟩
      · rw [ed, if_pos (decide_eq_true c), if_neg c]
        exact ⟨h1.step hik (.inl rfl) (hb _ (by omega)), by rw [h2]⟩) (a := a) (b := b) hab (s_kcn (nI d)) (Nat.le_refl _)
    exact ⟨in1.1.mono (by omega), in1.2⟩) (a := (I, (0 : Int32))) (b := (I', (0 : Int32))) ⟨v_Km.of h, rfl⟩ 3 (Nat.le_refl _)
  exact ⟨key.1.mono (by omega), key.2⟩
