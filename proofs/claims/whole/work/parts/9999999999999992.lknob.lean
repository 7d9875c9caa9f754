/-! 9999999999999992: a knob is made: the class' half -/
theorem h_NK3 {nk t i : Nat} (h : h_G3 1 t i = false) : s_NK nk t i = false := by
  unfold h_G3 at h
  rw [Bool.or_eq_false_iff, Bool.or_eq_false_iff] at h
  unfold s_NK s_Nk
  rw [h.1.2, h.2]
  rfl
theorem h_kC {p p1 p' : e_Sp} {nk : Nat} (hxv : s_xv (s_NK nk) p p1) (x1 : s_xt p1 p') : h_xG (h_G3 1) p p' ∧ p'.2.2.2.2 = p.2.2.2.2 ∧ p'.2.2.1 T_PARR = p.2.2.1 T_PARR ∧ h_x4 p p' := by
  have hE : ∀ t, t ≠ T_ENTR → p'.1 t = p1.1 t ∧ p'.2.1 t = p1.2.1 t ∧ p'.2.2.1 t = p1.2.2.1 t := fun t ht => x1.1 t (decide_eq_false ht)
  refine ⟨fun t i h => ?_, x1.2.2.1.trans hxv.2, ?_, ?_, ⟨?_, ?_, ?_⟩, fun j => ?_, ?_⟩
  · have ht : t ≠ T_ENTR := fun z => by
      rw [z] at h
      have q : h_G3 1 T_ENTR i = true := rfl
      rw [q] at h
      cases h
    obtain ⟨a, b, c⟩ := hE t ht
    obtain ⟨a', b', c'⟩ := hxv.1 t i (h_NK3 h)
    exact ⟨by rw [a]; exact a', by rw [b]; exact b', by rw [c]; exact c'⟩
  · funext i
    rw [(hE T_PARR (by decide)).2.2]
    exact (hxv.1 _ i rfl).2.2
  · rw [(hE T_LIST (by decide)).2.1]; exact (hxv.1 _ _ rfl).2.1
  · rw [(hE T_LARR (by decide)).1]; exact (hxv.1 _ _ rfl).1
  · rw [(hE T_LARR (by decide)).2.1]; exact (hxv.1 _ _ rfl).2.1
  · rw [(hE T_LARR (by decide)).2.2]; exact (hxv.1 _ _ rfl).2.2
  · rw [(hE T_MKEPT (by decide)).2.1]; exact (hxv.1 _ _ rfl).2.1
  · exact Nat.le_trans (Nat.le_of_eq (hxv.1 T_ENTR 0 rfl).2.2.symm) x1.2.2.2
theorem h_knob1 {T : Nat} {p p1 p' : e_Sp} {I R : e_I} {J RJ : e_Jt} {c c' : Nat × Nat} {nk nr np n a b x9 y9 : Nat} {t : Nat → Nat} {s m od ob : Nat} {TC : List Nat} (hQ : h_Q T p (I, J) I J c nk nr np n t s m od ob) (hxv : s_xv (s_NK nk) p p1) (x1 : s_xt p1 p') (e : s_eqN TC I R) (hTC : v_dj (h_M ++ (h_frF ++ h_sbF)) TC = true) (el : ∀ l, l ≠ 1 → R f_l_size l = I f_l_size l) (ej : ∀ F, h_JM.contains F = true → RJ F = J F) (hT1 : s_Tp p' R c' (a + x9) (b + y9)) (hb : ∀ p' I' c' x y, h_x4 p p' → I' f_l_size 4 = I f_l_size 4 → s_Tp p' I' c' (a + x) (b + y) → h_R p' I' c' (od + x) (ob + y) n) : v_Sim p nk nr np n t s m T (I, J) (R, RJ) ∧ h_SB p' R nk nr np ∧ h_R p' R c' (od + x9) (ob + y9) n := by
  obtain ⟨xG, hbs, hpa, h4⟩ := h_kC hxv x1
  obtain ⟨q1, q2, q3, q4, q5, q6, q7⟩ := hQ
  have h0 : v_dj q_ms2 TC = true := h_sub hTC (by decide)
  have hfr : v_dj h_frF TC = true := h_sub hTC (by decide)
  refine ⟨q1.mv (T := []) s_eqN.rfl' e (by decide) (h_sub hTC (by decide)) (fun l hl => el l (by omega)) (fun _ _ => rfl) ej, ⟨(q5.1.v3 xG).w (fun _ _ _ => rfl) (fun F hF => e F (v_dj.o h0 (List.contains_iff_mem.mpr hF))) (el 3 (by omega)) (el 2 (by omega)), q5.2.1.of (fun F q hF _ => by rw [e F (v_dj.o hfr hF)]), q5.2.2.1.N e (h_sub hTC (by decide)), q5.2.2.2.1.N e (h_sub hTC (by decide)), fun k hk => ?_⟩, hb p' R c' x9 y9 h4 (el 4 (by omega)) hT1⟩
  rw [e f_mk_kind (v_dj.o hTC (by decide))]
  exact q5.2.2.2.2 k hk
