/-! 9999999998: one more knob, the act (printed by wip/whole/p9999999998.py) -/
def v_gC : List Nat := [f_k_kind, f_k_division, f_k_isOut, f_k_relay, f_c_from, f_c_to, f_c_shift, f_c_kind, f_s_stage, f_s_rows, f_s_ranks, f_s_offsets, f_s_firsts, f_s_lasts, f_s_places, f_s_keysAt, f_k_isLocked, f_k_isInScope, f_l_modCount, f_l_size]
def v_gM : List Nat := [f_mk_kind, f_mk_division, f_mk_isDrawn, f_mk_relay, f_mk_to, f_mk_shift, f_mk_letter, f_mk_stage, f_mk_rows, f_mk_ranks, f_mk_offsets, f_mk_froms, f_mk_tos, f_mk_wires, f_mk_isLocked, f_mk_isIn, f_l_modCount, f_l_size]
theorem a_grow {p : e_Sp} {nk nr np n s m L : Nat} {t : Nat → Nat} {I I' A B : e_I} {J J' : e_Jt} (h : v_Sim p nk nr np n t s m L (I, J) (I', J')) (e : s_eqN v_gC I A) (e' : s_eqN v_gM I' B) (hk : v_Kn A B (nk + 1)) (hl : v_eq (nk + 1) f_k_isLocked f_mk_isLocked A B) (hs : v_eq (nk + 1) f_k_isInScope f_mk_isIn A B) (hb : ∀ F, v_bC.contains F = true → q_bo A F) (hb' : ∀ F, v_bM.contains F = true → q_bo B F) (hz : ∀ l, 4 ≤ l → B f_l_size l = I' f_l_size l) (hL : L ≤ 2000) (hn : n + np ≤ 1000000) : ∃ n' t', n' ≤ n + np ∧ (¬ I' f_m_recording 0 = 114 → n' = n) ∧ v_Sim p (nk + 1) nr np n' t' s m L (s_stl p (nk + 1) nr (A, J)) (q_st (nk + 1) nr np (B, J')) := by
  obtain ⟨⟨hR, hF, hX, hK⟩, z1, z2, z3, z4, z5, z6⟩ := h
  have hC := v_Cw.of hX z1.2.1
  dsimp only at z1 z2 z3 z4 z5 z6 hR hF hX hK hC
  have er : B f_m_recording 0 = I' f_m_recording 0 := by rw [e' _ (by decide)]
  have hR1 : v_Rel p (nk + 1) nr np n t s m A B J J' := hR.rkg e e' (by decide) (by decide) hk (hR.1.2.2.N e e' (by decide) (by decide)) (hR.2.2.1.2.1.N4 e e' (by decide) (by decide) (hz 4 (by omega)))
  have hZ : v_Zs (nk + 1) np s m n L (A, J) (B, J') := by
    refine ⟨⟨fun q hq => ?_, fun q hq => ?_, ?_, z1.2.2.2.1.N e e' (by decide) (by decide), z1.2.2.2.2.1.N e e' (by decide) (by decide), hl, hs⟩, ⟨?_, ?_, ?_, ?_, fun j hj => ?_⟩, z3.N e e' (by decide) (by decide), z4.N e e' (by decide) (by decide), ⟨hb, hb', ?_, ?_, ?_, ?_⟩, z6.N e e' (by decide) (by decide) (fun l hl8 => hz l (by omega)) v_eqJ.rfl' v_eqJ.rfl'⟩
    · dsimp only; rw [e _ (by decide), e' _ (by decide)]; exact z1.1 q hq
    · dsimp only; rw [e' _ (by decide)]; exact z1.2.1 q hq
    · dsimp only; rw [e _ (by decide), e' _ (by decide)]; exact z1.2.2.1
    · dsimp only; rw [e _ (by decide), e' _ (by decide)]; exact z2.1
    · dsimp only; rw [e _ (by decide), e' _ (by decide)]; exact z2.2.1
    · dsimp only; rw [e _ (by decide), e' _ (by decide)]; exact z2.2.2.1
    · dsimp only; rw [e _ (by decide), e' _ (by decide)]; exact z2.2.2.2.1
    · dsimp only
      rw [e _ (by decide), e' _ (by decide)]
      obtain ⟨a, b⟩ := z2.2.2.2.2 j hj
      exact ⟨a, b.imp id (fun ⟨k, hk, ek⟩ => ⟨k, by omega, ek⟩)⟩
    · unfold v_ch; dsimp only; rw [e _ (by decide)]; exact z5.2.2.1
    · unfold v_ch; dsimp only; rw [e' _ (by decide)]; exact z5.2.2.2.1
    · unfold v_ch; dsimp only; rw [e _ (by decide)]; exact z5.2.2.2.2.1
    · unfold v_ch; dsimp only; rw [e' _ (by decide)]; exact z5.2.2.2.2.2
  obtain ⟨n', t', k1, k2, k3⟩ := v_settleS (L := L) hR1 (hK.N e e' (by decide) (by decide)) hZ (hC.N e' (by decide)) hL hn
  exact ⟨n', t', k1, fun z => k2 (by rw [er]; exact z), k3⟩
