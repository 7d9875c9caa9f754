/-! 999999991: rows, crossing: the acts (printed by wip/whole/p999999991.py) -/
theorem a_row {p : e_Sp} {nk nr np n s m L : Nat} {t : Nat → Nat} {I I' : e_I} {J J' : e_Jt} {k m9 : Nat} {y z f tt : Int32} (hk : k < nk) (hm : m9 < 4) (hrow : I f_s_rows k = nI m9) (hs : I f_k_kind k = 115) (h : v_Sim p nk nr np n t s m L (I, J) (I', J')) (hL : L ≤ 2000) (hn : n + np ≤ 1000000) : ∃ n' t', n' ≤ n + np ∧ (¬ I' f_m_recording 0 = 114 → n' = n) ∧ v_Sim p nk nr np n' t' s m L (s_stl p nk nr (s_addr I k y z f tt, J)) (q_st nk nr np (q_ar I' k m9 y z f tt, J')) := by
  obtain ⟨⟨hR, hF, hX, hK⟩, z1, z2, z3, z4, z5, z6⟩ := h
  have hC := v_Cw.of hX z1.2.1
  have e : s_eqN [f_s_ranks, f_s_offsets, f_s_firsts, f_s_lasts, f_s_rows] I (s_addr I k y z f tt) := ((((s_eqN.up (by decide)).trans (s_eqN.up (by decide))).trans (s_eqN.up (by decide))).trans (s_eqN.up (by decide))).trans (s_eqN.up (by decide))
  have e' : s_eqN [f_mk_ranks, f_mk_offsets, f_mk_froms, f_mk_tos, f_mk_rows] I' (q_ar I' k m9 y z f tt) := ((((s_eqN.up (by decide)).trans (s_eqN.up (by decide))).trans (s_eqN.up (by decide))).trans (s_eqN.up (by decide))).trans (s_eqN.up (by decide))
  have ht := hR.2.2.1.2.1.N e e' (by decide) (by decide)
  have hy := hR.1.2.2
  have er : (q_ar I' k m9 y z f tt) f_m_recording 0 = I' f_m_recording 0 := by rw [e' _ (by decide)]
  have hR1 : v_Rel p nk nr np n t s m (s_addr I k y z f tt) (q_ar I' k m9 y z f tt) J J' := hR.rkn e e' (by decide) (by decide) (hR.1.2.1.row hk hm hrow hs) (hy.N e e' (by decide) (by decide)) ht
  obtain ⟨n', t', k1, k2, k3⟩ := v_settleS (L := L) hR1 (hK.N e e' (by decide) (by decide)) ⟨z1.N e e' (by decide) (by decide), z2.N e e' (by decide) (by decide), z3.N e e' (by decide) (by decide), z4.N e e' (by decide) (by decide), z5.frame e e' (by decide) (by decide), z6.N e e' (by decide) (by decide) (fun l _ => by dsimp only; rw [e' _ (by decide)]) v_eqJ.rfl' v_eqJ.rfl'⟩ (hC.N e' (by decide)) hL hn
  exact ⟨n', t', k1, fun z => k2 (by rw [er]; exact z), k3⟩
theorem a_cross {p : e_Sp} {nk nr np n s m L : Nat} {t : Nat → Nat} {I I' : e_I} {J J' : e_Jt} {k a b : Nat} (hk : k < nk) (hs : I f_k_kind k = 115) (ha : a < 61) (hb : b < 61) (hab : a ≠ b) (h : v_Sim p nk nr np n t s m L (I, J) (I', J')) (hL : L ≤ 2000) (hn : n + np ≤ 1000000) : ∃ n' t', n' ≤ n + np ∧ (¬ I' f_m_recording 0 = 114 → n' = n) ∧ v_Sim p nk nr np n' t' s m L (s_stl p nk nr (s_chp I k (nI a) (nI b), J)) (q_st nk nr np (q_cr I' k (nI a) (nI b), J')) := by
  obtain ⟨⟨hR, hF, hX, hK⟩, z1, z2, z3, z4, z5, z6⟩ := h
  have hC := v_Cw.of hX z1.2.1
  obtain ⟨hk1, e, e'⟩ := hR.1.2.1.cross hk hs ha hb hab
  dsimp only at e e'
  have ht := hR.2.2.1.2.1.N e e' (by decide) (by decide)
  have hy := hR.1.2.2
  have er : (q_cr I' k (nI a) (nI b)) f_m_recording 0 = I' f_m_recording 0 := by rw [e' _ (by decide)]
  have hR1 : v_Rel p nk nr np n t s m (s_chp I k (nI a) (nI b)) (q_cr I' k (nI a) (nI b)) J J' := hR.rkn e e' (by decide) (by decide) hk1 (hy.N e e' (by decide) (by decide)) ht
  obtain ⟨n', t', k1, k2, k3⟩ := v_settleS (L := L) hR1 (hK.N e e' (by decide) (by decide)) ⟨z1.N e e' (by decide) (by decide), z2.N e e' (by decide) (by decide), z3.N e e' (by decide) (by decide), z4.N e e' (by decide) (by decide), z5.frame e e' (by decide) (by decide), z6.N e e' (by decide) (by decide) (fun l _ => by dsimp only; rw [e' _ (by decide)]) v_eqJ.rfl' v_eqJ.rfl'⟩ (hC.N e' (by decide)) hL hn
  exact ⟨n', t', k1, fun z => k2 (by rw [er]; exact z), k3⟩
theorem v_sumS {f : Nat → Nat} : ∀ n, nI (s_sum n f) = v_S n (fun i => nI (f i)) := by
  intro n
  induction n with
  | zero => rfl
  | succ n ih =>
    show nI (s_sum n f + f n) = v_S n (fun i => nI (f i)) + nI (f n)
    rw [← ih, nI_add]
/-- how many keys are displaced -/
theorem v_dsp {I I' : e_I} {k : Nat} (h : v_Stp I I' k) : nI (s_dsp I k) = q_crn I' k := by
  unfold s_dsp q_crn
  rw [v_sumS, v_sumI (f := q_crf I' k) (g := fun i => if I' f_mk_wires (k * 61 + i) = nI i then 0 else 1) (fun i u => rfl), Int32.zero_add]
  refine v_S_congr (fun i hi => ?_)
  rw [h.2.2.1 i hi]
  split
  · exact nI_0
  · rfl
theorem v_dspN {T : List Nat} {I I1 : e_I} {k : Nat} (e : s_eqN T I I1) (hT : v_dj [f_s_places] T = true) : s_dsp I1 k = s_dsp I k := by
  unfold s_dsp
  simp only [e f_s_places (v_dj.o hT (by decide))]
