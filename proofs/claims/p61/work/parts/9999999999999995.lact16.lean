theorem h_kE1 {p : e_Sp} {nk nr : Nat} {I C : e_I} {J : e_Jt} {kd x : Int32} (eC : s_eqN v_cs I C) : s_eqN (v_gC ++ s_tST) I (s_stl p (nk + 1) nr (s_adI (s_kI C nk kd x) 1 nk, J)).1 := by
  have ea : s_eqN [f_l_modCount, f_l_size] (s_kI C nk kd x) (s_adI (s_kI C nk kd x) 1 nk) := v_adN
  have e1 : s_eqN v_gC I (s_adI (s_kI C nk kd x) 1 nk) := (eC.mono (by decide)).trans (v_kIN.trans (ea.mono (by decide)))
  exact (e1.mono (by decide)).trans (s_eqN.stl.mono (by decide))
theorem h_kE2 {p : e_Sp} {nk nr l : Nat} {I C : e_I} {J : e_Jt} {kd x : Int32} (eC : s_eqN v_cs I C) (hl : l ≠ 1) : (s_stl p (nk + 1) nr (s_adI (s_kI C nk kd x) 1 nk, J)).1 f_l_size l = I f_l_size l := by
  have e1 : s_eqN [f_k_kind, f_k_division, f_k_isOut, f_k_isLocked, f_k_isInScope, f_k_relay] C (s_kI C nk kd x) := (((((s_eqN.up (by decide)).trans (s_eqN.up (by decide))).trans (s_eqN.up (by decide))).trans (s_eqN.up (by decide))).trans (s_eqN.up (by decide))).trans (s_eqN.up (by decide))
  rw [s_eqN.stl _ (by decide)]
  dsimp only
  rw [s_adI_n hl, e1 _ (by decide), eC _ (by decide)]
