/-! 87: lists and the console are made (printed by wip/whole/p87.py) -/
set_option maxRecDepth 100000 in
set_option maxHeartbeats 4000000 in
theorem c_init374 {X : e_XT} {d : Nat} {p : e_Sp} {I : e_I} {J : e_Jt} {c : Nat × Nat} {w : e_Rw1} {Q : e_Rt → e_SS → Prop} {b : Nat} (k : Q (.inl none) (p, I, J, c, w)) : s_c X (d + 0) 374 [.ref b] (p, I, J, c, w) Q := by
  refine m_Jxa1e45_init_da8c8 (Nat.le_of_ble_eq_true rfl) ?_
  show s_w _ _ _ 0 _ _ _ _
  refine w_op (pc' := 1) dJxa1e45_init_da8c8_0 rfl ?_
  refine w_objinit (by decide) rfl (Nat.le_of_ble_eq_true rfl) dJxa1e45_init_da8c8_1 ?_
  exact w_return dJxa1e45_init_da8c8_4 ⟨rfl, k⟩
set_option maxRecDepth 100000 in
set_option maxHeartbeats 4000000 in
theorem c_init373 {X : e_XT} {d : Nat} {p : e_Sp} {I : e_I} {J : e_Jt} {c : Nat × Nat} {w : e_Rw1} {Q : e_Rt → e_SS → Prop} {b ln : Nat} {f : Nat → Value} (k : Q (.inl none) (p, I, J, c, s_rw w b (3, ln, s_fu f 0 (.int 0)))) : s_c X (d + 1) 373 [.ref b] (p, I, J, c, s_rw w b (3, ln, f)) Q := by
  refine m_Jxc12de_init_da8c8 (Nat.le_of_ble_eq_true rfl) ?_
  show s_w _ _ _ 0 _ _ _ _
  refine w_op (pc' := 1) dJxc12de_init_da8c8_0 rfl ?_
  refine t_callI (As := []) dJxc12de_init_da8c8_1 rfl rM_Jxa1e45_init_da8c8 (by decide) (by decide) rfl rfl rfl (Nat.le_of_ble_eq_true rfl) (c_init374 ?_)
  refine ⟨rfl, ?_⟩
  refine w_op (pc' := 5) dJxc12de_init_da8c8_4 rfl ?_
  refine w_iconst (v := 0) dJxc12de_init_da8c8_5 rfl ?_
  refine w_putMCr (S := (p, I, J, c, s_rw w b (3, ln, f))) (Or.inr ⟨rfl, rfl⟩) s_rw_s dJxc12de_init_da8c8_6 ?_
  refine w_show (S' := (p, I, J, c, s_rw (s_rw w b (3, ln, f)) b (3, ln, s_fu f 0 (.int 0)))) rfl ?_
  rw [s_rw_rw]
  exact w_return dJxc12de_init_da8c8_9 ⟨rfl, k⟩
set_option maxRecDepth 100000 in
set_option maxHeartbeats 4000000 in
theorem c_initL {X : e_XT} {d : Nat} {p : e_Sp} {I : e_I} {J : e_Jt} {c : Nat × Nat} {w : e_Rw1} {Q : e_Rt → e_SS → Prop} {b : Nat} {f : Nat → Value} (k : Q (.inl none) (p, I, J, c, s_rw w b (3, 0, s_fu (s_fu f 0 (.int 0)) 1 (.ref (e_xb + 8))))) : s_c X (d + 2) 0 [.ref b] (p, I, J, c, s_rw w b (3, 0, f)) Q := by
  refine m_Jx4a65c_init_da8c8 (Nat.le_of_ble_eq_true rfl) ?_
  show s_w _ _ _ 0 _ _ _ _
  refine w_op (pc' := 1) dJx4a65c_init_da8c8_0 rfl ?_
  refine t_callI (As := []) dJx4a65c_init_da8c8_1 rfl rM_Jxc12de_init_da8c8 (by decide) (by decide) rfl rfl rfl (Nat.le_of_ble_eq_true rfl) (c_init373 ?_)
  refine ⟨rfl, ?_⟩
  refine w_op (pc' := 5) dJx4a65c_init_da8c8_4 rfl ?_
  refine w_gets dJx4a65c_init_da8c8_5 rfl ?_
  refine t_putR dJx4a65c_init_da8c8_8 rfl rfl (Or.inl rfl) ?_
  exact w_return dJx4a65c_init_da8c8_11 ⟨rfl, k⟩
/-- one unison more -/
def s_ukS (n : Nat) (I : e_I) : e_I := s_adI (s_kI (s_cI I n (nI n) (nI n) 0 97) n 117 (nI n)) 1 n
def s_uk : Nat → e_I → e_I
  | 0, I => I
  | n + 1, I => s_ukS n (s_uk n I)
theorem s_z_F {α : Type} [OfNat α 0] {I : Nat → Nat → α} {F F' i W m : Nat} (h : F' ≠ F) : s_z I F i W F' m = I F' m := if_neg (fun z => h z.1)
def s_LC : List Nat := [T_A_operations, T_A_sources, T_A_others, T_A_relaysOn, T_KNOB, T_COUP]
theorem s_La.pv {p : e_Sp} {I I' : e_I} {l n t i a m : Nat} (h : s_La p I l n) (ht : t ≠ T_LARR) (e : I' f_l_size l = I f_l_size l) : s_La (s_pv p t i a m) I' l n := by
  obtain ⟨h1, h2, h3, h4⟩ := h
  unfold s_La
  rw [s_pv_k h1, e, s_pv_n (fun z => ht z.1.symm), s_pv_nv (fun z => ht z.1.symm), s_pv_nl (fun z => ht z.1.symm)]
  exact ⟨rfl, h2, h3, h4⟩
set_option maxRecDepth 100000 in
set_option maxHeartbeats 4000000 in
theorem l_X0_init {X : e_XT} {d : Nat} {p : e_Sp} {I : e_I} {J : e_Jt} {c : Nat × Nat} {w : e_Rw1} {Q : e_Rt → e_SS → Prop} {b A1 : Nat} {f : Nat → Value} {p0 : e_Sp} {c0 : Nat × Nat} (hX : (X 8).1 = 0) (hfl : f 0 = .ref A1) (hc0 : c0.1 + 10 < e_xb) (k : ∀ p' c', s_xv (s_NT [T_KNOB, T_COUP] [1]) p0 p' → s_La p' (s_uk 3 I) 1 3 → p'.1 T_LIST 1 = A1 → (∀ k, p'.2.1 T_KNOB k = decide (k < 3)) → (∀ k, p'.2.1 T_COUP k = decide (k < 3)) → (c'.1 ≤ c0.1 + 7 ∧ c'.2 ≤ c0.2 + 46) → Q (.inl none) (p', s_uk 3 I, J, c', s_rw w b (4, 0, f))) : ∀ (n : Nat) (i : Nat) (p : e_Sp) (I1 : e_I) (c : Nat × Nat), (h1 : i ≤ 3) → (hx : s_xv (s_NT [T_KNOB, T_COUP] [1]) p0 p) → (hL : s_La p I1 1 i) → (hl : p.1 T_LIST 1 = A1) → (hk : ∀ k, p.2.1 T_KNOB k = decide (k < i)) → (hk2 : ∀ k, p.2.1 T_COUP k = decide (k < i)) → (hS : ∀ k, p.2.1 T_STOP k = false) → (hI : I1 = s_uk i I) → (hcc : c.1 ≤ c0.1 + 2 * i + (if i = 0 then 0 else 1) ∧ c.2 ≤ c0.2 + 12 * i + (if i = 0 then 0 else 10)) → (hn : 3 - i < n) → s_w X (d + 7) K_X0_init 49 [some (.ref b), some (.int (nI i))] [] (p, I1, J, c, s_rw w b (4, 0, f)) (fun r S' => e_rcr (none) r = true ∧ Q r S') := by
  intro n
  induction n with
  | zero =>
    intro i p I1 c h1 hx hL hl hk hk2 hS hI hcc hn
    exact absurd hn (Nat.not_lt_zero _)
  | succ n ih =>
    intro i p I1 c h1 hx hL hl hk hk2 hS hI hcc hn
    refine w_op (pc' := 50) dX0_init_49 rfl ?_
    refine w_iconst (v := 3) dX0_init_50 rfl ?_
    refine w_icmpge (t := 91) dX0_init_51 (by decide) (fun c51 => ?_) (fun c51 => ?_)
    · exact w_return dX0_init_91 ⟨rfl, by have hi : 3 ≤ i := (nI_leI (a := 3) (by omega) (by omega)).mp c51; obtain rfl : i = 3 := (by omega); subst hI; exact k p c hx hL hl hk hk2 hcc⟩
    · have hi : i < 3 := Nat.lt_of_not_le (fun z => c51 ((nI_leI (a := 3) (by omega) (by omega)).mpr z))
      have hc9 : c.1 + 4 < e_xb := (by have := hcc.1; split at this <;> omega)
      refine w_op (pc' := 55) dX0_init_54 rfl ?_
      refine t_getR (v := .ref (p.1 T_LIST 1)) dX0_init_55 rfl (by rw [hfl, hl]; rfl) ?_
      refine t_new dX0_init_58 rfl (show c.1 < e_xb by omega) (fun a58 ha58 => ?_)
      refine w_op (pc' := 62) dX0_init_61 rfl ?_
      refine w_bipush (v := 117) dX0_init_62 rfl ?_
      refine w_op (pc' := 65) dX0_init_64 rfl ?_
      refine w_op (pc' := 66) dX0_init_65 rfl ?_
      refine t_new dX0_init_66 rfl (show c.1 + 1 < e_xb by omega) (fun a66 ha66 => ?_)
      refine w_op (pc' := 70) dX0_init_69 rfl ?_
      refine w_op (pc' := 71) dX0_init_70 rfl ?_
      refine w_op (pc' := 72) dX0_init_71 rfl ?_
      refine w_iconst (v := 0) dX0_init_72 rfl ?_
      refine w_bipush (v := 97) dX0_init_73 rfl ?_
      refine t_callI (As := [_, _, _, _]) dX0_init_75 rfl rM_X2_init (by decide) (by decide) rfl rfl rfl (Nat.le_of_ble_eq_true rfl) (c_X2_init (by decide +kernel) ?_)
      refine ⟨rfl, ?_⟩
      refine w_ghost (S' := ((s_pv p T_COUP i a66 0), (s_cI I1 i (nI i) (nI i) 0 97), J, (c.1 + 1 + 1, c.2 + 8 + 4), s_rw (s_rw w b (4, 0, f)) a58 (8, 0, s_nul))) (fun h hs => hs.pubC ((hk2 i).trans (decide_eq_false (Nat.lt_irrefl i))) ((hk i).trans (decide_eq_false (Nat.lt_irrefl i))) ha66.1 ⟨rfl, rfl, rfl, rfl⟩) ?_
      refine t_callI (As := [_, _, _, _]) dX0_init_78 rfl rM_X4_init (by decide) (by decide) rfl rfl rfl (Nat.le_of_ble_eq_true rfl) (c_X4_initC (e := a66) (by decide +kernel) ?_)
      refine ⟨rfl, ?_⟩
      refine w_ghost (S' := ((s_pv (s_pv p T_COUP i a66 0) T_KNOB i a58 0), (s_kI (s_cI I1 i (nI i) (nI i) 0 97) i 117 (nI i)), J, (c.1 + 1 + 1, c.2 + 8 + 4), s_rw w b (4, 0, f))) (fun h hs => hs.pubK ((s_pv_nv (fun z => absurd z.1 (by decide))).trans ((hk i).trans (decide_eq_false (Nat.lt_irrefl i)))) ha58.1 ⟨rfl, rfl, rfl, rfl, rfl, rfl⟩ (by rw [if_neg (by rw [s_pv_nv (fun z => absurd z.1 (by decide)), hS]; decide)]; rfl) (by rw [if_pos s_pv_v, s_pv_s]; rfl)) ?_
      have e6 : (s_kI (s_cI I1 i (nI i) (nI i) 0 97) i 117 (nI i)) f_l_size 1 = I1 f_l_size 1 := by rw [s_kI_F (by decide) (by decide) (by decide) (by decide) (by decide) (by decide), s_cI_F (by decide) (by decide) (by decide) (by decide)]
      have hL3 : s_La (s_pv (s_pv p T_COUP i a66 0) T_KNOB i a58 0) (s_kI (s_cI I1 i (nI i) (nI i) 0 97) i 117 (nI i)) 1 i := (hL.pv (I' := I1) (by decide) rfl).pv (by decide) e6
      have h2 : s_w X (d + 7) K_X0_init 81 [some (.ref b), some (.int (nI i))] [.ref ((s_pv (s_pv p T_COUP i a66 0) T_KNOB i a58 0).1 T_KNOB i), .ref ((s_pv (s_pv p T_COUP i a66 0) T_KNOB i a58 0).1 T_LIST 1)] ((s_pv (s_pv p T_COUP i a66 0) T_KNOB i a58 0), (s_kI (s_cI I1 i (nI i) (nI i) 0 97) i 117 (nI i)), J, (c.1 + 1 + 1, c.2 + 8 + 4), s_rw w b (4, 0, f)) (fun r S' => e_rcr (none) r = true ∧ Q r S') := by
        refine t_callV (t := T_LIST) (As := [_]) dX0_init_81 rfl rM_Jx4a65c_add_9ea2d (by decide) rfl rfl (by decide) (by decide) (Nat.le_of_ble_eq_true rfl) rfl hL3.1 (c_add hL3 s_pv_v hX (show c.1 + 1 + 1 < e_xb by omega) (fun hA hA10 hlt hle => ?_) (fun hAB b9 hb9 => ?_))
        · show s_w _ _ _ 84 _ _ _ _
          refine w_op (pc' := 85) dX0_init_84 rfl ?_
          refine w_op (pc' := 88) (ll' := [_, _]) dX0_init_85 rfl ?_
          refine w_goto (t := 49) dX0_init_88 (by decide) ?_
          rw [show nI i + Int32.ofInt 1 = nI (i + 1) from nI_1 i]
          exact ih (i + 1) (s_pv (s_pv p T_COUP i a66 0) T_KNOB i a58 0) (s_adI (s_kI (s_cI I1 i (nI i) (nI i) 0 97) i 117 (nI i)) 1 i) (c.1 + 1 + 1, c.2 + 8 + 4) (by omega) ((hx.trans (s_xv.pv (s_NT.y (by decide)))).trans (s_xv.pv (s_NT.y (by decide)))) (hL3.add0 hA hA10 hlt hle (by omega)) (by rw [s_pv_n (fun z => absurd z.1 (by decide)), s_pv_n (fun z => absurd z.1 (by decide))]; exact hl) (fun k9 => by
          by_cases e : k9 = i
          · subst e; rw [s_pv_v]; exact (decide_eq_true (Nat.lt_succ_self k9)).symm
          · rw [s_pv_nv (fun z => e z.2), s_pv_nv (fun z => absurd z.1 (by decide)), hk k9]; exact decide_eq_decide.mpr (by omega)) (fun k9 => by
          by_cases e : k9 = i
          · subst e; rw [s_pv_nv (fun z => absurd z.1 (by decide)), s_pv_v]; exact (decide_eq_true (Nat.lt_succ_self k9)).symm
          · rw [s_pv_nv (fun z => absurd z.1 (by decide)), s_pv_nv (fun z => e z.2), hk2 k9]; exact decide_eq_decide.mpr (by omega)) (fun k9 => by rw [s_pv_nv (fun z => absurd z.1 (by decide)), s_pv_nv (fun z => absurd z.1 (by decide))]; exact hS k9) (by subst hI; rfl) ⟨by (have := hcc.1; show c.1 + 1 + 1 ≤ c0.1 + 2 * (i + 1) + (if i + 1 = 0 then 0 else 1); rw [if_neg (by omega)]; split at this <;> omega), by (have := hcc.2; show c.2 + 8 + 4 ≤ c0.2 + 12 * (i + 1) + (if i + 1 = 0 then 0 else 10); rw [if_neg (by omega)]; split at this <;> omega)⟩ (by omega)
        · show s_w _ _ _ 84 _ _ _ _
          refine w_op (pc' := 85) dX0_init_84 rfl ?_
          refine w_op (pc' := 88) (ll' := [_, _]) dX0_init_85 rfl ?_
          refine w_goto (t := 49) dX0_init_88 (by decide) ?_
          rw [show nI i + Int32.ofInt 1 = nI (i + 1) from nI_1 i]
          have h10 : i = 0 ∧ s_cap i = 10 := by
            rcases hAB with h9 | h9
            · exact ⟨h9.1, if_pos h9.1⟩
            · omega
          exact ih (i + 1) (s_pv (s_pv (s_pv p T_COUP i a66 0) T_KNOB i a58 0) T_LARR 1 b9 (s_cap i)) (s_adI (s_kI (s_cI I1 i (nI i) (nI i) 0 97) i 117 (nI i)) 1 i) (c.1 + 1 + 1 + 1, c.2 + 8 + 4 + s_cap i) (by omega) (((hx.trans (s_xv.pv (s_NT.y (by decide)))).trans (s_xv.pv (s_NT.y (by decide)))).trans (s_xv.pv rfl)) (hL3.add1 hAB (by omega)) (by rw [s_pv_n (fun z => absurd z.1 (by decide)), s_pv_n (fun z => absurd z.1 (by decide)), s_pv_n (fun z => absurd z.1 (by decide))]; exact hl) (fun k9 => by
          by_cases e : k9 = i
          · subst e; rw [s_pv_nv (fun z => absurd z.1 (by decide)), s_pv_v]; exact (decide_eq_true (Nat.lt_succ_self k9)).symm
          · rw [s_pv_nv (fun z => absurd z.1 (by decide)), s_pv_nv (fun z => e z.2), s_pv_nv (fun z => absurd z.1 (by decide)), hk k9]; exact decide_eq_decide.mpr (by omega)) (fun k9 => by
          by_cases e : k9 = i
          · subst e; rw [s_pv_nv (fun z => absurd z.1 (by decide)), s_pv_nv (fun z => absurd z.1 (by decide)), s_pv_v]; exact (decide_eq_true (Nat.lt_succ_self k9)).symm
          · rw [s_pv_nv (fun z => absurd z.1 (by decide)), s_pv_nv (fun z => absurd z.1 (by decide)), s_pv_nv (fun z => e z.2), hk2 k9]; exact decide_eq_decide.mpr (by omega)) (fun k9 => by rw [s_pv_nv (fun z => absurd z.1 (by decide)), s_pv_nv (fun z => absurd z.1 (by decide)), s_pv_nv (fun z => absurd z.1 (by decide))]; exact hS k9) (by subst hI; rfl) ⟨by (have := hcc.1; show c.1 + 1 + 1 + 1 ≤ c0.1 + 2 * (i + 1) + (if i + 1 = 0 then 0 else 1); rw [if_pos h10.1] at this; rw [if_neg (by omega)]; omega), by (have := hcc.2; show c.2 + 8 + 4 + s_cap i ≤ c0.2 + 12 * (i + 1) + (if i + 1 = 0 then 0 else 10); rw [if_pos h10.1] at this; rw [if_neg (by omega), h10.2]; omega)⟩ (by omega)
      rw [s_pv_s, s_pv_n (fun z => absurd z.1 (by decide)), s_pv_n (fun z => absurd z.1 (by decide))] at h2
      exact h2
def s_zCONS (I : e_I) : e_I := (s_z (s_z (s_z (s_z (s_ILIST I 1 0 0) f_a_operations 0 16) f_a_sources 0 16) f_a_others 0 16) f_a_relaysOn 0 16)
def s_fCONS (p : e_Sp) (f : Nat → Value) : Nat → Value := (s_fu (s_fu (s_fu (s_fu (s_fu f 0 (.ref (p.1 T_LIST 1))) 3 (.ref (p.1 T_A_operations 0))) 4 (.ref (p.1 T_A_sources 0))) 5 (.ref (p.1 T_A_others 0))) 6 (.ref (p.1 T_A_relaysOn 0)))
set_option maxRecDepth 100000 in
set_option maxHeartbeats 4000000 in
theorem c_X0_init {X : e_XT} {d : Nat} {p : e_Sp} {I : e_I} {J : e_Jt} {c : Nat × Nat} {w : e_Rw1} {Q : e_Rt → e_SS → Prop} {b : Nat} {f : Nat → Value} (hN : ∀ t, t ∈ [T_CONS, T_A_operations, T_A_sources, T_A_others, T_A_relaysOn, T_KNOB, T_COUP, T_STOP] → ∀ i, p.2.1 t i = false) (hN1 : p.2.1 T_LIST 1 = false) (hA : p.1 T_LARR 1 = e_xb + 8) (hsgM : ∀ j, p.2.1 T_MODEL j = true → j = 0) (hsgW : ∀ j, p.2.1 T_WORKS j = true → j = 0) (hX : (X 8).1 = 0) (hc : c.1 + 20 < e_xb) (k : ∀ p' c', s_xv (s_NT s_LC [1]) p p' → s_La p' (s_uk 3 (s_zCONS I)) 1 3 → (∀ t, t ∈ [T_A_operations, T_A_sources, T_A_others, T_A_relaysOn] → p'.2.1 t 0 = true) → (∀ k, p'.2.1 T_KNOB k = decide (k < 3)) → (∀ k, p'.2.1 T_COUP k = decide (k < 3)) → (c'.1 ≤ c.1 + 12 ∧ c'.2 ≤ c.2 + 120) → Q (.inl none) (p', s_uk 3 (s_zCONS I), J, c', s_rw w b (4, 0, s_fCONS p' f))) : s_c X (d + 7) 15 [.ref b] (p, I, J, c, s_rw w b (4, 0, f)) Q := by
  refine m_X0_init (Nat.le_of_ble_eq_true rfl) ?_
  show s_w _ _ _ 0 _ _ _ _
  refine w_op (pc' := 1) dX0_init_0 rfl ?_
  refine w_objinit (by decide) rfl (Nat.le_of_ble_eq_true rfl) dX0_init_1 ?_
  refine w_op (pc' := 5) dX0_init_4 rfl ?_
  refine t_new dX0_init_5 rfl (show c.1 < e_xb by omega) (fun a5 ha5 => ?_)
  refine w_op (pc' := 9) dX0_init_8 rfl ?_
  refine t_callI (As := []) dX0_init_9 rfl rM_Jx4a65c_init_da8c8 (by decide) (by decide) rfl rfl rfl (Nat.le_of_ble_eq_true rfl) (c_initL ?_)
  refine ⟨rfl, ?_⟩
  refine w_ghost (S' := ((s_pv p T_LIST 1 a5 0), (s_ILIST I 1 0 0), J, (c.1 + 1, c.2 + e_cF 3), s_rw w b (4, 0, f))) (fun h hs => hs.pubLIST (x0 := 0) (x1 := 0) (hN1) ha5.1 rfl rfl (by rw [hA]; rfl) (Or.inl (hN T_CONS (by decide) 0)) (Or.inr ⟨by decide, by decide, by decide, by decide, by decide, by decide⟩) (Or.inr (by decide)) rfl (fun j9 hj9 => by rw [hN T_CONS (by decide)] at hj9; cases hj9) hsgM hsgW) ?_
  refine t_putR dX0_init_12 rfl rfl (Or.inr ⟨rfl, rfl, rfl⟩) ?_
  refine w_op (pc' := 16) dX0_init_15 rfl ?_
  refine w_bipush (v := 16) dX0_init_16 rfl ?_
  refine t_newrow (t := T_A_operations) (i := 0) (F := f_a_operations) (G := g_n_operations) (W := 16) (W' := 16) dX0_init_18 ⟨by decide, by decide⟩ rfl (by decide) (Or.inl rfl) rfl (by decide) (by decide) (by decide +kernel) (by decide +kernel) (by decide +kernel) (by decide +kernel) (by decide) (by decide) (by decide) ((s_pv_nv (fun z => absurd z.1 (by decide))).trans (hN T_A_operations (by decide) 0)) (s_par0 (tt := T_CONS) rfl (fun i9 => ((s_pv_nv (fun z => absurd z.1 (by decide))).trans (hN T_CONS (by decide) i9)))) (show c.1 + 1 < e_xb by omega) (fun a18 ha18 => ?_)
  refine t_putR dX0_init_20 rfl rfl (Or.inr ⟨rfl, rfl, rfl⟩) ?_
  refine w_op (pc' := 24) dX0_init_23 rfl ?_
  refine w_bipush (v := 16) dX0_init_24 rfl ?_
  refine t_newrow (t := T_A_sources) (i := 0) (F := f_a_sources) (G := g_n_sources) (W := 16) (W' := 16) dX0_init_26 ⟨by decide, by decide⟩ rfl (by decide) (Or.inl rfl) rfl (by decide) (by decide) (by decide +kernel) (by decide +kernel) (by decide +kernel) (by decide +kernel) (by decide) (by decide) (by decide) ((s_pv_nv (fun z => absurd z.1 (by decide))).trans ((s_pv_nv (fun z => absurd z.1 (by decide))).trans (hN T_A_sources (by decide) 0))) (s_par0 (tt := T_CONS) rfl (fun i9 => ((s_pv_nv (fun z => absurd z.1 (by decide))).trans ((s_pv_nv (fun z => absurd z.1 (by decide))).trans (hN T_CONS (by decide) i9))))) (show c.1 + 1 + 1 < e_xb by omega) (fun a26 ha26 => ?_)
  refine t_putR dX0_init_28 rfl rfl (Or.inr ⟨rfl, rfl, rfl⟩) ?_
  refine w_op (pc' := 32) dX0_init_31 rfl ?_
  refine w_bipush (v := 16) dX0_init_32 rfl ?_
  refine t_newrow (t := T_A_others) (i := 0) (F := f_a_others) (G := g_n_others) (W := 16) (W' := 16) dX0_init_34 ⟨by decide, by decide⟩ rfl (by decide) (Or.inl rfl) rfl (by decide) (by decide) (by decide +kernel) (by decide +kernel) (by decide +kernel) (by decide +kernel) (by decide) (by decide) (by decide) ((s_pv_nv (fun z => absurd z.1 (by decide))).trans ((s_pv_nv (fun z => absurd z.1 (by decide))).trans ((s_pv_nv (fun z => absurd z.1 (by decide))).trans (hN T_A_others (by decide) 0)))) (s_par0 (tt := T_CONS) rfl (fun i9 => ((s_pv_nv (fun z => absurd z.1 (by decide))).trans ((s_pv_nv (fun z => absurd z.1 (by decide))).trans ((s_pv_nv (fun z => absurd z.1 (by decide))).trans (hN T_CONS (by decide) i9)))))) (show c.1 + 1 + 1 + 1 < e_xb by omega) (fun a34 ha34 => ?_)
  refine t_putR dX0_init_36 rfl rfl (Or.inr ⟨rfl, rfl, rfl⟩) ?_
  refine w_op (pc' := 40) dX0_init_39 rfl ?_
  refine w_bipush (v := 16) dX0_init_40 rfl ?_
  refine t_newrow (t := T_A_relaysOn) (i := 0) (F := f_a_relaysOn) (G := g_n_relaysOn) (W := 16) (W' := 16) dX0_init_42 ⟨by decide, by decide⟩ rfl (by decide) (Or.inl rfl) rfl (by decide) (by decide) (by decide +kernel) (by decide +kernel) (by decide +kernel) (by decide +kernel) (by decide) (by decide) (by decide) ((s_pv_nv (fun z => absurd z.1 (by decide))).trans ((s_pv_nv (fun z => absurd z.1 (by decide))).trans ((s_pv_nv (fun z => absurd z.1 (by decide))).trans ((s_pv_nv (fun z => absurd z.1 (by decide))).trans (hN T_A_relaysOn (by decide) 0))))) (s_par0 (tt := T_CONS) rfl (fun i9 => ((s_pv_nv (fun z => absurd z.1 (by decide))).trans ((s_pv_nv (fun z => absurd z.1 (by decide))).trans ((s_pv_nv (fun z => absurd z.1 (by decide))).trans ((s_pv_nv (fun z => absurd z.1 (by decide))).trans (hN T_CONS (by decide) i9))))))) (show c.1 + 1 + 1 + 1 + 1 < e_xb by omega) (fun a42 ha42 => ?_)
  refine t_putR dX0_init_44 rfl rfl (Or.inr ⟨rfl, rfl, rfl⟩) ?_
  refine w_iconst (v := 0) dX0_init_47 rfl ?_
  refine w_op (pc' := 49) (ll' := [_, _]) dX0_init_48 rfl ?_
  have hx : s_xv (s_NT s_LC [1]) p (s_pv (s_pv (s_pv (s_pv (s_pv p T_LIST 1 a5 0) T_A_operations 0 a18 16) T_A_sources 0 a26 16) T_A_others 0 a34 16) T_A_relaysOn 0 a42 16) := ((((( s_xv.pv rfl : s_xv (s_NT s_LC [1]) p (s_pv p T_LIST 1 a5 0)).trans (s_xv.pv (s_NT.y (by decide)))).trans (s_xv.pv (s_NT.y (by decide)))).trans (s_xv.pv (s_NT.y (by decide)))).trans (s_xv.pv (s_NT.y (by decide))))
  have e0 : (s_pv (s_pv (s_pv (s_pv (s_pv p T_LIST 1 a5 0) T_A_operations 0 a18 16) T_A_sources 0 a26 16) T_A_others 0 a34 16) T_A_relaysOn 0 a42 16).1 T_LIST 1 = a5 := ((s_pv_n (fun z => absurd z.1 (by decide))).trans ((s_pv_n (fun z => absurd z.1 (by decide))).trans ((s_pv_n (fun z => absurd z.1 (by decide))).trans ((s_pv_n (fun z => absurd z.1 (by decide))).trans s_pv_s))))
  have e1 : (s_pv (s_pv (s_pv (s_pv (s_pv p T_LIST 1 a5 0) T_A_operations 0 a18 16) T_A_sources 0 a26 16) T_A_others 0 a34 16) T_A_relaysOn 0 a42 16).1 T_A_operations 0 = a18 := ((s_pv_n (fun z => absurd z.1 (by decide))).trans ((s_pv_n (fun z => absurd z.1 (by decide))).trans ((s_pv_n (fun z => absurd z.1 (by decide))).trans s_pv_s)))
  have e2 : (s_pv (s_pv (s_pv (s_pv (s_pv p T_LIST 1 a5 0) T_A_operations 0 a18 16) T_A_sources 0 a26 16) T_A_others 0 a34 16) T_A_relaysOn 0 a42 16).1 T_A_sources 0 = a26 := ((s_pv_n (fun z => absurd z.1 (by decide))).trans ((s_pv_n (fun z => absurd z.1 (by decide))).trans s_pv_s))
  have e3 : (s_pv (s_pv (s_pv (s_pv (s_pv p T_LIST 1 a5 0) T_A_operations 0 a18 16) T_A_sources 0 a26 16) T_A_others 0 a34 16) T_A_relaysOn 0 a42 16).1 T_A_others 0 = a34 := ((s_pv_n (fun z => absurd z.1 (by decide))).trans s_pv_s)
  have e4 : (s_pv (s_pv (s_pv (s_pv (s_pv p T_LIST 1 a5 0) T_A_operations 0 a18 16) T_A_sources 0 a26 16) T_A_others 0 a34 16) T_A_relaysOn 0 a42 16).1 T_A_relaysOn 0 = a42 := s_pv_s
  have v0 : (s_pv (s_pv (s_pv (s_pv (s_pv p T_LIST 1 a5 0) T_A_operations 0 a18 16) T_A_sources 0 a26 16) T_A_others 0 a34 16) T_A_relaysOn 0 a42 16).2.1 T_LIST 1 = true := (s_pv_k (s_pv_k (s_pv_k (s_pv_k s_pv_v))))
  have v1 : (s_pv (s_pv (s_pv (s_pv (s_pv p T_LIST 1 a5 0) T_A_operations 0 a18 16) T_A_sources 0 a26 16) T_A_others 0 a34 16) T_A_relaysOn 0 a42 16).2.1 T_A_operations 0 = true := (s_pv_k (s_pv_k (s_pv_k s_pv_v)))
  have v2 : (s_pv (s_pv (s_pv (s_pv (s_pv p T_LIST 1 a5 0) T_A_operations 0 a18 16) T_A_sources 0 a26 16) T_A_others 0 a34 16) T_A_relaysOn 0 a42 16).2.1 T_A_sources 0 = true := (s_pv_k (s_pv_k s_pv_v))
  have v3 : (s_pv (s_pv (s_pv (s_pv (s_pv p T_LIST 1 a5 0) T_A_operations 0 a18 16) T_A_sources 0 a26 16) T_A_others 0 a34 16) T_A_relaysOn 0 a42 16).2.1 T_A_others 0 = true := (s_pv_k s_pv_v)
  have v4 : (s_pv (s_pv (s_pv (s_pv (s_pv p T_LIST 1 a5 0) T_A_operations 0 a18 16) T_A_sources 0 a26 16) T_A_others 0 a34 16) T_A_relaysOn 0 a42 16).2.1 T_A_relaysOn 0 = true := s_pv_v
  have hkn : ∀ t, t ∈ [T_KNOB, T_COUP, T_STOP] → ∀ i9, (s_pv (s_pv (s_pv (s_pv (s_pv p T_LIST 1 a5 0) T_A_operations 0 a18 16) T_A_sources 0 a26 16) T_A_others 0 a34 16) T_A_relaysOn 0 a42 16).2.1 t i9 = false := fun t ht i9 => by
    rcases List.mem_cons.mp ht with rfl | ht
    · exact ((s_pv_nv (fun z => absurd z.1 (by decide))).trans ((s_pv_nv (fun z => absurd z.1 (by decide))).trans ((s_pv_nv (fun z => absurd z.1 (by decide))).trans ((s_pv_nv (fun z => absurd z.1 (by decide))).trans ((s_pv_nv (fun z => absurd z.1 (by decide))).trans (hN T_KNOB (by decide) i9))))))
    rcases List.mem_cons.mp ht with rfl | ht
    · exact ((s_pv_nv (fun z => absurd z.1 (by decide))).trans ((s_pv_nv (fun z => absurd z.1 (by decide))).trans ((s_pv_nv (fun z => absurd z.1 (by decide))).trans ((s_pv_nv (fun z => absurd z.1 (by decide))).trans ((s_pv_nv (fun z => absurd z.1 (by decide))).trans (hN T_COUP (by decide) i9))))))
    obtain rfl := List.mem_singleton.mp ht
    exact ((s_pv_nv (fun z => absurd z.1 (by decide))).trans ((s_pv_nv (fun z => absurd z.1 (by decide))).trans ((s_pv_nv (fun z => absurd z.1 (by decide))).trans ((s_pv_nv (fun z => absurd z.1 (by decide))).trans ((s_pv_nv (fun z => absurd z.1 (by decide))).trans (hN T_STOP (by decide) i9))))))
  have hLa : s_La (s_pv (s_pv (s_pv (s_pv (s_pv p T_LIST 1 a5 0) T_A_operations 0 a18 16) T_A_sources 0 a26 16) T_A_others 0 a34 16) T_A_relaysOn 0 a42 16) (s_zCONS I) 1 0 := ⟨v0, by unfold s_zCONS; rw [s_z_F (by decide), s_z_F (by decide), s_z_F (by decide), s_z_F (by decide)]; exact s_up_s, by decide, Or.inl ⟨rfl, by rw [s_pv_n (fun z => absurd z.1 (by decide)), s_pv_n (fun z => absurd z.1 (by decide)), s_pv_n (fun z => absurd z.1 (by decide)), s_pv_n (fun z => absurd z.1 (by decide)), s_pv_n (fun z => absurd z.1 (by decide))]; exact hA⟩⟩
  generalize (s_pv (s_pv (s_pv (s_pv (s_pv p T_LIST 1 a5 0) T_A_operations 0 a18 16) T_A_sources 0 a26 16) T_A_others 0 a34 16) T_A_relaysOn 0 a42 16) = pp at hx hkn hLa e0 e1 e2 e3 e4 v0 v1 v2 v3 v4 ⊢
  subst e0
  subst e1
  subst e2
  subst e3
  subst e4
  refine w_show (S' := (pp, s_zCONS I, J, (c.1 + 5, c.2 + 67), s_rw w b (4, 0, s_fCONS pp f))) rfl ?_
  exact l_X0_init (p := pp) (c := c) (I := s_zCONS I) (A1 := pp.1 T_LIST 1) (c0 := (c.1 + 5, c.2 + 67)) (p0 := pp) hX rfl (show c.1 + 5 + 10 < e_xb by omega) (fun p' c' h2 h3 h4 h5 h6 h7 => by
    have e9 : s_fCONS pp f = s_fCONS p' f := by
      unfold s_fCONS
      rw [h4, (h2.1 T_A_operations 0 rfl).1, (h2.1 T_A_sources 0 rfl).1, (h2.1 T_A_others 0 rfl).1, (h2.1 T_A_relaysOn 0 rfl).1]
    rw [e9]
    exact k p' c' (hx.trans (h2.mono (s_NT.mono (by decide)))) h3 (fun t ht => by
      rcases List.mem_cons.mp ht with rfl | ht
      · exact (h2.1 _ 0 rfl).2.1.trans v1
      rcases List.mem_cons.mp ht with rfl | ht
      · exact (h2.1 _ 0 rfl).2.1.trans v2
      rcases List.mem_cons.mp ht with rfl | ht
      · exact (h2.1 _ 0 rfl).2.1.trans v3
      obtain rfl := List.mem_singleton.mp ht
      exact (h2.1 _ 0 rfl).2.1.trans v4) h5 h6 ⟨by have := h7.1; show c'.1 ≤ c.1 + 12; exact Nat.le_trans this (by show c.1 + 5 + 7 ≤ _; omega), by have := h7.2; exact Nat.le_trans this (by show c.2 + 67 + 46 ≤ _; omega)⟩) 4 0 pp (s_zCONS I) (c.1 + 5, c.2 + 67) (by omega) s_xv.rfl' hLa rfl (fun k9 => (hkn _ (by decide) k9).trans (decide_eq_false (Nat.not_lt_zero k9)).symm) (fun k9 => (hkn _ (by decide) k9).trans (decide_eq_false (Nat.not_lt_zero k9)).symm) (fun k9 => hkn _ (by decide) k9) rfl ⟨by show c.1 + 5 ≤ _; rw [if_pos rfl]; omega, by show c.2 + 67 ≤ _; rw [if_pos rfl]; omega⟩ (by omega)
