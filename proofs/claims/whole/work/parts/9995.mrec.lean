/-! 9995: recording begins (printed by wip/whole/p9995.py) -/
theorem q_D.w {p p' : e_Sp} {I I' : e_I} {nk nr np : Nat} (h : q_D p I nk nr np) (v : ∀ t i, [T_MKEPT, T_LARR, T_MFRAME].contains t = false → p'.2.1 t i = p.2.1 t i) (hF : ∀ F, F ∈ q_ms2 → I' F = I F) (h3 : I' f_l_size 3 = I f_l_size 3) (h2 : I' f_l_size 2 = I f_l_size 2) : q_D p' I' nk nr np := by
  obtain ⟨⟨a1, a2⟩, b1, b2, b3, b4, b5, b6⟩ := h
  have vs : ∀ t i, s_sg t = true → p'.2.1 t i = p.2.1 t i := fun t i ht => v t i (by
    cases e : [T_MKEPT, T_LARR, T_MFRAME].contains t
    · rfl
    · have e2 := List.contains_iff_mem.mp e
      rcases List.mem_cons.mp e2 with rfl | e2
      · exact absurd ht (by decide)
      rcases List.mem_cons.mp e2 with rfl | e2
      · exact absurd ht (by decide)
      obtain rfl := List.mem_singleton.mp e2
      exact absurd ht (by decide))
  refine ⟨⟨fun t ht => (vs t 0 ht).trans (a1 t ht), fun l hl => (v T_LIST l (by decide)).trans (a2 l hl)⟩, by rw [h3]; exact b1, by rw [h2]; exact b2, by rw [hF _ (by decide)]; exact b3, fun k hk => ?_, fun r hr => ?_, fun q hq => ?_⟩
  · have := b4 k hk
    unfold q_K at this ⊢
    rw [hF f_mk_division (by decide), hF f_mk_rows (by decide), hF f_mk_relay (by decide), v T_MKNOB k (by decide)]
    refine ⟨this.1, fun t ht => ?_, this.2.2⟩
    rw [v t k (by
      rcases List.mem_cons.mp ht with rfl | ht
      · decide
      rcases List.mem_cons.mp ht with rfl | ht
      · decide
      rcases List.mem_cons.mp ht with rfl | ht
      · decide
      rcases List.mem_cons.mp ht with rfl | ht
      · decide
      obtain rfl := List.mem_singleton.mp ht
      decide)]
    exact this.2.1 t ht
  · have := b5 r hr
    unfold q_R at this ⊢
    rw [hF f_mr_lowest (by decide), hF f_mr_highest (by decide), hF f_mr_base (by decide), hF f_mr_division (by decide), v T_MRANK r (by decide)]
    exact this
  · rw [hF f_m_rankOf (by decide), hF f_mr_base (by decide)]
    exact b6 q hq
theorem q_G.w {p p' : e_Sp} {I I' : e_I} {c c' : Nat × Nat} {nk nr np a b n a' b' n' : Nat} (h : q_G p I c nk nr np a b n) (v : ∀ t i, [T_MKEPT, T_LARR, T_MFRAME].contains t = false → p'.2.1 t i = p.2.1 t i) (hF : ∀ F, F ∈ q_gs2 → I' F = I F) (h3 : I' f_l_size 3 = I f_l_size 3) (h2 : I' f_l_size 2 = I f_l_size 2) (hd : I' f_m_isDown = I f_m_isDown) (hr : I' f_m_isRelay = I f_m_isRelay) (hL : q_L p' I' c' a' b' n') (ha : a' + n' + 100000000 < 4294960000) (hn : n' + 1280 < 39999999) : q_G p' I' c' nk nr np a' b' n' := by
  refine ⟨h.1.w v (fun F hf => hF F (List.mem_append_left _ hf)) h3 h2, h.2.1, ?_, by unfold q_bo; rw [hd]; exact h.2.2.2.1, by unfold q_bo; rw [hr]; exact h.2.2.2.2.1, hL, ha, hn⟩
  unfold q_S
  rw [hF f_m_operation (by decide), hF f_m_first (by decide), hF f_m_second (by decide)]
  exact h.2.2.1
theorem s_uv_f {p : e_Sp} {t i : Nat} {U : Nat → Bool} (h : U i = true) : (s_uv p t U).2.1 t i = false := if_pos (show t = t ∧ U i = true from ⟨rfl, h⟩)
/-- what was recorded is forgotten -/
abbrev q_fgt (p : e_Sp) : e_Sp := s_uv p T_MKEPT (fun _ => true)
theorem q_L.fgt {p : e_Sp} {I I' : e_I} {c : Nat × Nat} {a b n : Nat} (h : q_L p I c a b n) (e : I' f_l_size 4 = 0) : q_L (q_fgt p) I' c (a + n) (b + 4 * n) 0 := by
  obtain ⟨⟨h1, h2, h3, h4⟩, h5, h6, g, h7, h8, h9, h10⟩ := h
  refine ⟨⟨(s_uv_n (fun z => absurd z.1 (by decide))).trans h1, e, by omega, ?_⟩, fun j => ?_, ?_, g, ?_, by rw [h8]; omega, by rw [h9]; omega, by omega⟩
  · rcases h4 with h4 | h4
    · exact Or.inl ⟨rfl, h4.2⟩
    · exact Or.inr ⟨(s_uv_n (fun z => absurd z.1 (by decide))).trans h4.1, h4.2.1, by omega, h4.2.2.2⟩
  · exact Eq.trans (s_uv_f rfl) (decide_eq_false (by omega)).symm
  · intro z
    have e9 := h6 z
    unfold q_cp at e9 ⊢
    rw [s_uv_n (fun z => absurd z.1 (by decide))]
    exact e9
  · rw [← h7]
    unfold q_cp
    rw [s_uv_n (fun z => absurd z.1 (by decide))]
    rfl

set_option maxRecDepth 100000 in
set_option maxHeartbeats 4000000 in
theorem l_Jx4a65c_clear_da8c8 {X : e_XT} {d : Nat} {p : e_Sp} {I : e_I} {J : e_Jt} {c : Nat × Nat} {w : e_Rw1} {Q : e_Rt → e_SS → Prop} {l n : Nat} (hl : p.2.1 T_LIST l = true) (hsz : I f_l_size l = 0) (hn31 : n < 2147483648) (hA : 0 < n → p.2.1 T_LARR l = true ∧ n ≤ p.2.2.1 T_LARR l ∧ p.2.2.1 T_LARR l < 2147483648) (k : Q (.inl none) (p, I, J, c, w)) : ∀ (t i : Nat), i ≤ n → n - i < t → s_w X d K_Jx4a65c_clear_da8c8 27 [some (.ref (p.1 T_LIST l)), some (.ref (p.1 T_LARR l)), some (.int (nI n)), some (.int (nI i))] [] (p, I, J, c, w) (fun r S' => e_rcr none r = true ∧ Q r S') := by
  intro t
  induction t with
  | zero =>
    intro i h1 h2
    exact absurd h2 (Nat.not_lt_zero _)
  | succ t ih =>
    intro i h1 h2
    refine w_op (pc' := 28) dJx4a65c_clear_da8c8_27 rfl ?_
    refine w_op (pc' := 29) dJx4a65c_clear_da8c8_28 rfl ?_
    refine w_icmpge (t := 42) dJx4a65c_clear_da8c8_29 (by decide) (fun _ => ?_) (fun c29 => ?_)
    · exact w_return dJx4a65c_clear_da8c8_42 ⟨rfl, k⟩
    · have hi : i < n := Nat.lt_of_not_le (fun z => c29 ((nI_leI (by omega) (by omega)).mpr z))
      obtain ⟨hA1, hA2, hA3⟩ := hA (by omega)
      refine w_op (pc' := 33) dJx4a65c_clear_da8c8_32 rfl ?_
      refine w_op (pc' := 34) dJx4a65c_clear_da8c8_33 rfl ?_
      refine w_op (pc' := 35) dJx4a65c_clear_da8c8_34 rfl ?_
      refine w_aastN (n := i) dJx4a65c_clear_da8c8_35 hl hA1 (s_ix.nI (by omega) (by omega)) (by rw [hsz]; exact Nat.zero_le _) ?_
      refine w_op (pc' := 39) (ll' := [_, _, _, _]) dJx4a65c_clear_da8c8_36 rfl ?_
      refine w_goto (t := 27) dJx4a65c_clear_da8c8_39 (by decide) ?_
      rw [show nI i + Int32.ofInt 1 = nI (i + 1) from nI_1 i]
      exact ih (i + 1) (by omega) (by omega)

set_option maxRecDepth 100000 in
set_option maxHeartbeats 4000000 in
theorem c_clear {X : e_XT} {d : Nat} {p : e_Sp} {I : e_I} {J : e_Jt} {c : Nat × Nat} {w : e_Rw1} {Q : e_Rt → e_SS → Prop} {l n : Nat} (hL : s_La p I l n) (k : Q (.inl none) (p, (s_up (s_up I f_l_modCount l (I f_l_modCount l + 1)) f_l_size l 0), J, c, w)) : s_c X (d + 0) 13 [.ref (p.1 T_LIST l)] (p, I, J, c, w) Q := by
  obtain ⟨hl, hsz, hn4, hc4⟩ := hL
  refine m_Jx4a65c_clear_da8c8 (Nat.le_of_ble_eq_true rfl) ?_
  show s_w _ _ _ 0 _ _ _ _
  refine w_op (pc' := 1) dJx4a65c_clear_da8c8_0 rfl ?_
  refine w_op (pc' := 2) dJx4a65c_clear_da8c8_1 rfl ?_
  refine w_getMC (Or.inl ⟨rfl, rfl⟩) hl dJx4a65c_clear_da8c8_2 ?_
  refine w_iconst (v := 1) dJx4a65c_clear_da8c8_5 rfl ?_
  refine w_op (pc' := 7) dJx4a65c_clear_da8c8_6 rfl ?_
  refine w_putMC (Or.inl ⟨rfl, rfl⟩) hl dJx4a65c_clear_da8c8_7 ?_
  refine w_op (pc' := 11) dJx4a65c_clear_da8c8_10 rfl ?_
  refine t_getG1 (G := g_l_arr) dJx4a65c_clear_da8c8_11 rfl rfl (by decide) rfl (fun _ => rfl) hl ?_
  refine w_op (pc' := 15) (ll' := [_, _, _, _]) dJx4a65c_clear_da8c8_14 rfl ?_
  refine w_op (pc' := 16) dJx4a65c_clear_da8c8_15 rfl ?_
  refine t_getI (F := f_l_size) dJx4a65c_clear_da8c8_16 rfl rfl (by decide) rfl ⟨rfl, fun _ => rfl⟩ hl ?_
  rw [show s_up I f_l_modCount l (I f_l_modCount l + 1) f_l_size l = nI n from (s_up_F (by decide)).trans hsz]
  refine w_op (pc' := 20) (ll' := [_, _, _, _]) dJx4a65c_clear_da8c8_19 rfl ?_
  refine w_op (pc' := 21) dJx4a65c_clear_da8c8_20 rfl ?_
  refine w_iconst (v := 0) dJx4a65c_clear_da8c8_21 rfl ?_
  refine w_op (pc' := 23) dJx4a65c_clear_da8c8_22 rfl ?_
  refine w_putSz0 dJx4a65c_clear_da8c8_23 rfl hl ?_
  refine w_op (pc' := 27) (ll' := [_, _, _, _]) dJx4a65c_clear_da8c8_26 rfl ?_
  exact l_Jx4a65c_clear_da8c8 (l := l) (n := n) hl s_up_s (by omega) (fun z => by
    rcases hc4 with h | h
    · omega
    · exact ⟨h.1, h.2.2.1, by omega⟩) k (n + 1) 0 (Nat.zero_le _) (by omega)

def q_re0 (I : e_I) (x : Int32) : e_I := s_up (s_up I f_m_thrown 0 0) f_m_recording 0 x
def q_reK (I : e_I) (x : Int32) : e_I := s_up (s_up (s_up (q_re0 I x) f_l_modCount 4 (q_re0 I x f_l_modCount 4 + 1)) f_l_size 4 0) f_m_kindKept 0 x
theorem q_G.re0 {p : e_Sp} {I : e_I} {c : Nat × Nat} {nk nr np a b n : Nat} {x : Int32} (h : q_G p I c nk nr np a b n) : q_G p (q_re0 I x) c nk nr np a b n := (h.up (F := f_m_thrown) (by decide)).up (F := f_m_recording) (by decide)
theorem q_G.reK {p : e_Sp} {I : e_I} {c : Nat × Nat} {nk nr np a b n : Nat} {x : Int32} (h : q_G p I c nk nr np a b n) : q_G (q_fgt p) (q_reK I x) c nk nr np (a + n) (b + 4 * n) 0 := by
  have h7 := h.2.2.2.2.2.2
  have e4 : q_reK I x f_l_size 4 = 0 := by unfold q_reK; rw [s_up_F (by decide), s_up_s]
  have e : ∀ F, ([f_m_thrown, f_m_recording, f_l_modCount, f_l_size, f_m_kindKept].contains F = false) → q_reK I x F = I F := by
    have : s_eqN [f_m_thrown, f_m_recording, f_l_modCount, f_l_size, f_m_kindKept] I (q_reK I x) := ((((s_eqN.up (by decide)).trans (s_eqN.up (by decide))).trans (s_eqN.up (by decide))).trans (s_eqN.up (by decide))).trans (s_eqN.up (by decide))
    exact this
  have e3 : ∀ l, l ≠ 4 → q_reK I x f_l_size l = I f_l_size l := fun l hl => by
    unfold q_reK q_re0
    rw [s_up_F (by decide), s_up_i hl, s_up_F (by decide), s_up_F (by decide), s_up_F (by decide)]
  refine h.w (fun t i ht => s_uv_n (fun z => by rw [z.1] at ht; exact absurd ht (by decide))) (fun F hF => e F ?_) (e3 3 (by decide)) (e3 2 (by decide)) (e _ (by decide)) (e _ (by decide)) (h.2.2.2.2.2.1.fgt e4) (by omega) (by omega)
  have h9 : (q_gs2.all fun F => ![f_m_thrown, f_m_recording, f_l_modCount, f_l_size, f_m_kindKept].contains F) = true := by decide
  have := List.all_eq_true.mp h9 F hF
  simpa using this

set_option maxRecDepth 100000 in
set_option maxHeartbeats 4000000 in
theorem l0_X16_record {X : e_XT} {d : Nat} {p : e_Sp} {I : e_I} {J : e_Jt} {c : Nat × Nat} {w : e_Rw1} {Q : e_Rt → e_SS → Prop} {nk nr np a b n : Nat} (hG : q_G p I c nk nr np a b n) (hX : (X 8).1 = 0) {x : Int32} (hx : vp_nar .char x = x) (hch : vp_nar .char (I f_m_recording 0) = I f_m_recording 0) (h45 : x = 45) (k : x = 45 → ∀ p' c' n', q_X p p' → q_L p' (q_st nk nr np (q_re0 I x, J)).1 c' a b n' → n' ≤ n + np → Q (.inl (some (.int (I f_m_recording 0)))) (p', (q_st nk nr np (q_re0 I x, J)).1, (q_st nk nr np (q_re0 I x, J)).2, c', w)) : s_w X (d + 9) K_X16_record 64 [some (.ref (p.1 T_MODEL 0)), some (.int x), some (.int (I f_m_recording 0))] [] (p, (q_re0 I x), J, c, w) (fun r S' => e_rcr (some .char) r = true ∧ Q r S') := by
  have hp := hG.1.1
  have hG9 := hG.re0 (x := x)
  have hq : s_ok p := hG9.1.1
  refine w_op (pc' := 65) dX16_record_64 rfl ?_
  refine t_callV (t := T_MODEL) (As := []) dX16_record_65 rfl rM_X16_settles (by decide) rfl rfl (by decide) (by decide) (Nat.le_of_ble_eq_true rfl) rfl (hp.1 _ rfl) (c_X16_settles hG9.1 hG9.2.1 hG9.2.2.1 hG9.2.2.2.1 hG9.2.2.2.2.1 hG9.2.2.2.2.2.1 hX hG9.2.2.2.2.2.2.1 hG9.2.2.2.2.2.2.2 (fun p1 c1 n1 x1 hL1 hn1 => ?_))
  show s_w _ _ _ 68 _ _ _ _
  refine w_op (pc' := 69) dX16_record_68 rfl ?_
  exact w_ireturn dX16_record_69 ⟨s_rcc hch, k h45 p1 c1 n1 x1 hL1 hn1⟩

set_option maxRecDepth 100000 in
set_option maxHeartbeats 4000000 in
theorem lK_X16_record {X : e_XT} {d : Nat} {p : e_Sp} {I : e_I} {J : e_Jt} {c : Nat × Nat} {w : e_Rw1} {Q : e_Rt → e_SS → Prop} {nk nr np a b n : Nat} (hG : q_G p I c nk nr np a b n) (hX : (X 8).1 = 0) {x : Int32} (hx : vp_nar .char x = x) (hch : vp_nar .char (I f_m_recording 0) = I f_m_recording 0) (h45 : x = 107 ∨ x = 114) (k2 : x = 107 ∨ x = 114 → ∀ p' c' n', q_X (q_fgt p) p' → q_L p' (q_st nk nr np (q_reK I x, J)).1 c' (a + n) (b + 4 * n) n' → n' ≤ np → Q (.inl (some (.int (I f_m_recording 0)))) (p', (q_st nk nr np (q_reK I x, J)).1, (q_st nk nr np (q_reK I x, J)).2, c', w)) : s_w X (d + 9) K_X16_record 64 [some (.ref ((q_fgt p).1 T_MODEL 0)), some (.int x), some (.int (I f_m_recording 0))] [] ((q_fgt p), (q_reK I x), J, c, w) (fun r S' => e_rcr (some .char) r = true ∧ Q r S') := by
  have hp := hG.1.1
  have hG9 := hG.reK (x := x)
  have hq : s_ok (q_fgt p) := hG9.1.1
  refine w_op (pc' := 65) dX16_record_64 rfl ?_
  refine t_callV (t := T_MODEL) (As := []) dX16_record_65 rfl rM_X16_settles (by decide) rfl rfl (by decide) (by decide) (Nat.le_of_ble_eq_true rfl) rfl (hq.1 _ rfl) (c_X16_settles hG9.1 hG9.2.1 hG9.2.2.1 hG9.2.2.2.1 hG9.2.2.2.2.1 hG9.2.2.2.2.2.1 hX hG9.2.2.2.2.2.2.1 hG9.2.2.2.2.2.2.2 (fun p1 c1 n1 x1 hL1 hn1 => ?_))
  show s_w _ _ _ 68 _ _ _ _
  refine w_op (pc' := 69) dX16_record_68 rfl ?_
  exact w_ireturn dX16_record_69 ⟨s_rcc hch, k2 h45 p1 c1 n1 x1 hL1 (by omega)⟩

theorem q_elK {l : Nat} (h : e_elT l = T_MKEPT) : l = 4 := by
  unfold e_elT at h
  split at h <;> first | rfl | exact absurd h (by decide)

set_option maxRecDepth 100000 in
set_option maxHeartbeats 4000000 in
theorem lb_X16_record {X : e_XT} {d : Nat} {p : e_Sp} {I : e_I} {J : e_Jt} {c : Nat × Nat} {w : e_Rw1} {Q : e_Rt → e_SS → Prop} {nk nr np a b n : Nat} (hG : q_G p I c nk nr np a b n) (hX : (X 8).1 = 0) {x : Int32} (hx : vp_nar .char x = x) (hch : vp_nar .char (I f_m_recording 0) = I f_m_recording 0) (hn3 : x = 107 ∨ x = 114 ∨ x = 45) (k : x = 45 → ∀ p' c' n', q_X p p' → q_L p' (q_st nk nr np (q_re0 I x, J)).1 c' a b n' → n' ≤ n + np → Q (.inl (some (.int (I f_m_recording 0)))) (p', (q_st nk nr np (q_re0 I x, J)).1, (q_st nk nr np (q_re0 I x, J)).2, c', w)) (k2 : x = 107 ∨ x = 114 → ∀ p' c' n', q_X (q_fgt p) p' → q_L p' (q_st nk nr np (q_reK I x, J)).1 c' (a + n) (b + 4 * n) n' → n' ≤ np → Q (.inl (some (.int (I f_m_recording 0)))) (p', (q_st nk nr np (q_reK I x, J)).1, (q_st nk nr np (q_reK I x, J)).2, c', w)) : s_w X (d + 9) K_X16_record 36 [some (.ref (p.1 T_MODEL 0)), some (.int x), none] [] (p, s_up I f_m_thrown 0 0, J, c, w) (fun r S' => e_rcr (some .char) r = true ∧ Q r S') := by
  have hp := hG.1.1
  refine w_op (pc' := 37) dX16_record_36 rfl ?_
  refine t_getI (F := f_m_recording) dX16_record_37 rfl rfl (by decide) rfl ⟨rfl, fun _ => rfl⟩ (hp.1 _ rfl) ?_
  rw [show s_up I f_m_thrown 0 0 f_m_recording 0 = I f_m_recording 0 from s_up_F (by decide)]
  refine w_op (pc' := 41) (ll' := [_, _, _]) dX16_record_40 rfl ?_
  refine w_op (pc' := 42) dX16_record_41 rfl ?_
  refine w_op (pc' := 43) dX16_record_42 rfl ?_
  refine t_putI (F := f_m_recording) dX16_record_43 rfl rfl (by decide) (by decide) rfl (s_ckc hx) (Or.inl rfl) (hp.1 _ rfl) ?_
  refine w_op (pc' := 47) dX16_record_46 rfl ?_
  refine w_bipush (v := 45) dX16_record_47 rfl ?_
  refine w_icmpeq (t := 64) dX16_record_49 (by decide) (fun c49 => ?_) (fun c49 => ?_)
  · exact l0_X16_record hG hX hx hch c49 k
  · refine w_op (pc' := 53) dX16_record_52 rfl ?_
    refine t_getG0 (G := g_m_list2) dX16_record_53 rfl rfl (by decide) rfl (fun _ => rfl) (hp.1 _ rfl) ?_
    refine t_callV (t := T_LIST) (As := []) dX16_record_56 rfl rM_Jx4a65c_clear_da8c8 (by decide) rfl rfl (by decide) (by decide) (Nat.le_of_ble_eq_true rfl) rfl (hp.2 _ (by decide)) (c_clear (n := n) (I := q_re0 I x) (hG.re0 (x := x)).2.2.2.2.2.1.1 ?_)
    show s_w _ _ _ 59 _ _ _ _
    refine w_op (pc' := 60) dX16_record_59 rfl ?_
    refine w_op (pc' := 61) dX16_record_60 rfl ?_
    refine t_putI (F := f_m_kindKept) dX16_record_61 rfl rfl (by decide) (by decide) rfl (s_ckc hx) (Or.inl rfl) (hp.1 _ rfl) ?_
    refine s_w.unv (p := p) (t := T_MKEPT) (U := fun _ => true) (by decide) (fun l j h1 h2 h3 => ?_) (lK_X16_record hG hX hx hch (by grind) k2)
    have h4 : l = 4 := q_elK h3
    subst h4
    have h2 : j < (q_reK I x f_l_size 4).toNatClampNeg := h2
    rw [show q_reK I x f_l_size 4 = 0 from (s_up_F (by decide)).trans s_up_s] at h2
    exact absurd h2 (Nat.not_lt_zero _)

set_option maxRecDepth 100000 in
set_option maxHeartbeats 4000000 in
theorem c_X16_record {X : e_XT} {d : Nat} {p : e_Sp} {I : e_I} {J : e_Jt} {c : Nat × Nat} {w : e_Rw1} {Q : e_Rt → e_SS → Prop} {nk nr np a b n : Nat} (hG : q_G p I c nk nr np a b n) (hX : (X 8).1 = 0) {x : Int32} (hx : vp_nar .char x = x) (hch : vp_nar .char (I f_m_recording 0) = I f_m_recording 0) (k : x = 45 → ∀ p' c' n', q_X p p' → q_L p' (q_st nk nr np (q_re0 I x, J)).1 c' a b n' → n' ≤ n + np → Q (.inl (some (.int (I f_m_recording 0)))) (p', (q_st nk nr np (q_re0 I x, J)).1, (q_st nk nr np (q_re0 I x, J)).2, c', w)) (k2 : x = 107 ∨ x = 114 → ∀ p' c' n', q_X (q_fgt p) p' → q_L p' (q_st nk nr np (q_reK I x, J)).1 c' (a + n) (b + 4 * n) n' → n' ≤ np → Q (.inl (some (.int (I f_m_recording 0)))) (p', (q_st nk nr np (q_reK I x, J)).1, (q_st nk nr np (q_reK I x, J)).2, c', w)) (kx : ¬ (x = 107 ∨ x = 114 ∨ x = 45) → Q (.inl (some (.int 0))) (p, q_fl I 1, J, c, w)) : s_c X (d + 9) 307 [.ref (p.1 T_MODEL 0), .int x] (p, I, J, c, w) Q := by
  have hp := hG.1.1
  refine m_X16_record (Nat.le_of_ble_eq_true rfl) ?_
  show s_w _ _ _ 0 _ _ _ _
  refine w_op (pc' := 1) dX16_record_0 rfl ?_
  refine w_op (pc' := 2) dX16_record_1 rfl ?_
  refine w_bipush (v := 107) dX16_record_2 rfl ?_
  refine w_icmpeq (t := 19) dX16_record_4 (by decide) (fun c4 => ?_) (fun c4 => ?_)
  · refine w_iconst (v := 0) dX16_record_19 rfl ?_
    refine w_goto (t := 24) dX16_record_20 (by decide) ?_
    refine t_putI (F := f_m_thrown) dX16_record_24 rfl rfl (by decide) (by decide) rfl rfl (Or.inl rfl) (hp.1 _ rfl) ?_
    refine w_op (pc' := 28) dX16_record_27 rfl ?_
    refine t_getI (F := f_m_thrown) dX16_record_28 rfl rfl (by decide) rfl ⟨rfl, fun _ => rfl⟩ (hp.1 _ rfl) ?_
    rw [s_up_s]
    refine w_ifle (t := 36) dX16_record_31 (by decide) (fun _ => ?_) (fun c31 => absurd (by decide) c31)
    exact lb_X16_record hG hX hx hch (by grind) k k2
  · refine w_op (pc' := 8) dX16_record_7 rfl ?_
    refine w_bipush (v := 114) dX16_record_8 rfl ?_
    refine w_icmpeq (t := 19) dX16_record_10 (by decide) (fun c10 => ?_) (fun c10 => ?_)
    · refine w_iconst (v := 0) dX16_record_19 rfl ?_
      refine w_goto (t := 24) dX16_record_20 (by decide) ?_
      refine t_putI (F := f_m_thrown) dX16_record_24 rfl rfl (by decide) (by decide) rfl rfl (Or.inl rfl) (hp.1 _ rfl) ?_
      refine w_op (pc' := 28) dX16_record_27 rfl ?_
      refine t_getI (F := f_m_thrown) dX16_record_28 rfl rfl (by decide) rfl ⟨rfl, fun _ => rfl⟩ (hp.1 _ rfl) ?_
      rw [s_up_s]
      refine w_ifle (t := 36) dX16_record_31 (by decide) (fun _ => ?_) (fun c31 => absurd (by decide) c31)
      exact lb_X16_record hG hX hx hch (by grind) k k2
    · refine w_op (pc' := 14) dX16_record_13 rfl ?_
      refine w_bipush (v := 45) dX16_record_14 rfl ?_
      refine w_icmpne (t := 23) dX16_record_16 (by decide) (fun c16 => ?_) (fun c16 => ?_)
      · refine w_iconst (v := 1) dX16_record_23 rfl ?_
        refine t_putI (F := f_m_thrown) dX16_record_24 rfl rfl (by decide) (by decide) rfl rfl (Or.inl rfl) (hp.1 _ rfl) ?_
        refine w_op (pc' := 28) dX16_record_27 rfl ?_
        refine t_getI (F := f_m_thrown) dX16_record_28 rfl rfl (by decide) rfl ⟨rfl, fun _ => rfl⟩ (hp.1 _ rfl) ?_
        rw [s_up_s]
        refine w_ifle (t := 36) dX16_record_31 (by decide) (fun c31 => absurd c31 (by decide)) (fun _ => ?_)
        refine w_iconst (v := 0) dX16_record_34 rfl ?_
        exact w_ireturn dX16_record_35 ⟨s_rcc rfl, kx (by grind)⟩
      · refine w_iconst (v := 0) dX16_record_19 rfl ?_
        refine w_goto (t := 24) dX16_record_20 (by decide) ?_
        refine t_putI (F := f_m_thrown) dX16_record_24 rfl rfl (by decide) (by decide) rfl rfl (Or.inl rfl) (hp.1 _ rfl) ?_
        refine w_op (pc' := 28) dX16_record_27 rfl ?_
        refine t_getI (F := f_m_thrown) dX16_record_28 rfl rfl (by decide) rfl ⟨rfl, fun _ => rfl⟩ (hp.1 _ rfl) ?_
        rw [s_up_s]
        refine w_ifle (t := 36) dX16_record_31 (by decide) (fun _ => ?_) (fun c31 => absurd (by decide) c31)
        exact lb_X16_record hG hX hx hch (by grind) k k2

