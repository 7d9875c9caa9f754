/-! 75: add (printed by wip/whole/p75.py) -/
theorem s_ix.ein9 {x : Int32} {n N N' : Nat} (h : s_ix x n N) (hN : N ≤ N') : e_in x N' = true := s_ix.ein (n := n) ⟨h.1, h.2.1, Nat.lt_of_lt_of_le h.2.2 hN⟩
set_option maxRecDepth 100000 in
set_option maxHeartbeats 4000000 in
theorem w_addL {X : e_XT} {d : Nat} {p : e_Sp} {I : e_I} {J : e_Jt} {c : Nat × Nat} {w : e_Rw1} {Q : e_Rt → e_SS → Prop} {l n : Nat} {v1 v2 : Option Value} (hl : p.2.1 T_LIST l = true) (hA : p.2.1 T_LARR l = true) (hsz : I f_l_size l = nI n) (hn : n + 1 ≤ p.2.2.1 T_LARR l) (hn31 : n + 1 < 2147483648) (he : p.2.1 (e_elT l) (e_elI l n) = true)
    (k : s_w X d K_Jx4a65c_add_72be8 22 [some (.ref (p.1 T_LIST l)), v1, v2, some (.int (nI n))] [] (p, s_up I f_l_size l (nI (n + 1)), J, c, w) Q) : s_w X d K_Jx4a65c_add_72be8 14 [some (.ref (p.1 T_LIST l)), v1, v2, some (.int (nI n))] [.ref (p.1 (e_elT l) (e_elI l n)), .int (nI n), .ref (p.1 T_LARR l)] (p, I, J, c, w) Q := fun h hs => by
  obtain ⟨q1, q2, q3, -, -⟩ := hs.1.1 T_LIST l hl
  obtain ⟨u1, u2, u3, -, u5⟩ := hs.1.1 T_LARR l hA
  obtain ⟨v1, v2, v3, -, -⟩ := hs.1.1 _ _ he
  have e1 : nI n + Int32.ofInt 1 = nI (n + 1) := nI_1 n
  have u6 : e_ln h (p.1 T_LARR l) = p.2.2.1 T_LARR l := u5
  obtain ⟨r, h', S', q, z, j⟩ := k _ ⟨hs.1.addL hl hA hsz hn hn31 he, hs.2.1, (hs.2.2.set hA).set hl⟩
  refine ⟨r, h', S', q, z, e_J.hop (st' := []) (h1 := e_set h (p.1 T_LARR l) n (.ref (p.1 (e_elT l) (e_elI l n)))) (e_hopC rfl rfl ?_) dJx4a65c_add_72be8_14 (e_J.op (pc' := 16) rfl dJx4a65c_add_72be8_15 (e_J.op (pc' := 17) rfl dJx4a65c_add_72be8_16 (e_J.op (pc' := 18) rfl dJx4a65c_add_72be8_17 (e_J.op (pc' := 19) rfl dJx4a65c_add_72be8_18 (e_J.hop (e_hopA ?_) dJx4a65c_add_72be8_19 j)))))⟩
  · show (if p.1 T_LARR l < e_n h ∧ p.1 (e_elT l) (e_elI l n) < e_n h ∧ ((e_kd h (p.1 T_LARR l) = 106 ∧ e_kd h (p.1 (e_elT l) (e_elI l n)) = 10) ∨ (e_kd h (p.1 T_LARR l) = 105 ∧ e_kd h (p.1 (e_elT l) (e_elI l n)) < 21 ∧ e_ob (e_kd h (p.1 (e_elT l) (e_elI l n))) = true)) ∧ e_in (nI n) (e_ln h (p.1 T_LARR l)) = true then some (_, e_set h (p.1 T_LARR l) (nI n).toNatClampNeg _) else none) = _
    have v3 : e_kd h (p.1 (e_elT l) (e_elI l n)) = (e_T (e_elT l)).1 := v3
    rw [nI_clamp (by omega), v3]
    exact if_pos ⟨u2, v2, Or.inr ⟨u3, (s_elk l).1, (s_elk l).2⟩, by rw [u6]; exact (s_ix.nI (n := n) (by omega) (by omega) : s_ix (nI n) n (min (p.2.2.1 T_LARR l) 2147483647)).ein9 (Nat.min_le_left _ _)⟩
  · rw [e1]
    show (match e_fl 3 48 with
      | some r => if p.1 T_LIST l < e_n h ∧ e_kd h (p.1 T_LIST l) = r.2.1 ∧ e_ck (e_cY r.2.1 r.2.2.1) (.int (nI (n + 1))) = true ∧ ((e_cT r.2.1 r.2.2.1).2.2.2 = false ∨ (false = true ∧ r.2.1 = 3 ∧ r.2.2.2.2 = 0)) then some ([], e_set (e_set h (p.1 T_LARR l) n (.ref (p.1 (e_elT l) (e_elI l n)))) (p.1 T_LIST l) r.2.2.1 (.int (nI (n + 1)))) else none
      | none => none) = _
    exact if_pos ⟨q2, q3, rfl, Or.inl rfl⟩
set_option maxRecDepth 100000 in
set_option maxHeartbeats 4000000 in
theorem c_grow {X : e_XT} {d : Nat} {p : e_Sp} {I : e_I} {J : e_Jt} {c : Nat × Nat} {w : e_Rw1} {Q : e_Rt → e_SS → Prop} {l n : Nat} (hl : p.2.1 T_LIST l = true) (hsz : I f_l_size l = nI n) (hn4 : n < 40000000) (hX : (X 8).1 = 0) (hc : c.1 < e_xb) (hAB : (n = 0 ∧ p.1 T_LARR l = e_xb + 8) ∨ (10 ≤ n ∧ p.2.1 T_LARR l = true ∧ p.2.2.1 T_LARR l = n)) (k : ∀ b, s_fr (p, I, J, c, w) b → Q (.inl (some (.ref b))) (s_pv p T_LARR l b (s_cap n), I, J, (c.1 + 1, c.2 + s_cap n), w)) : s_c X (d + 4) 3 [.ref (p.1 T_LIST l)] (p, I, J, c, w) Q := by
  refine m_Jx4a65c_grow_d5877 (Nat.le_of_ble_eq_true rfl) ?_
  show s_w _ _ _ 0 _ _ _ _
  refine w_op (pc' := 1) dJx4a65c_grow_d5877_0 rfl ?_
  refine w_op (pc' := 2) dJx4a65c_grow_d5877_1 rfl ?_
  refine t_getI (F := f_l_size) dJx4a65c_grow_d5877_2 rfl rfl (by decide) rfl ⟨rfl, fun _ => rfl⟩ hl ?_
  rw [hsz]
  refine w_iconst (v := 1) dJx4a65c_grow_d5877_5 rfl ?_
  refine w_op (pc' := 7) dJx4a65c_grow_d5877_6 rfl ?_
  rw [nI_1]
  rcases hAB with ⟨h0, hE⟩ | ⟨h10, hA, hn⟩
  · refine t_callV (t := T_LIST) (As := [_]) dJx4a65c_grow_d5877_7 rfl rM_Jx4a65c_grow_92f84 (by decide) rfl rfl (by decide) (by decide) (Nat.le_of_ble_eq_true rfl) rfl hl (c_growA hl hsz hn4 hX hc h0 hE (fun b hb => ?_))
    show s_w _ _ _ 10 _ _ _ _
    exact w_areturn dJx4a65c_grow_d5877_10 ⟨rfl, k b hb⟩
  · refine t_callV (t := T_LIST) (As := [_]) dJx4a65c_grow_d5877_7 rfl rM_Jx4a65c_grow_92f84 (by decide) rfl rfl (by decide) (by decide) (Nat.le_of_ble_eq_true rfl) rfl hl (c_growB hl hsz hn4 hX hc h10 hA hn (fun b hb => ?_))
    show s_w _ _ _ 10 _ _ _ _
    exact w_areturn dJx4a65c_grow_d5877_10 ⟨rfl, k b hb⟩
set_option maxRecDepth 100000 in
set_option maxHeartbeats 4000000 in
theorem c_add3A {X : e_XT} {d : Nat} {p : e_Sp} {I : e_I} {J : e_Jt} {c : Nat × Nat} {w : e_Rw1} {Q : e_Rt → e_SS → Prop} {l n : Nat} (hl : p.2.1 T_LIST l = true) (hA : p.2.1 T_LARR l = true) (hsz : I f_l_size l = nI n) (hn4 : n < 40000000) (hn : n < p.2.2.1 T_LARR l) (hlen : p.2.2.1 T_LARR l < 2147483648) (he : p.2.1 (e_elT l) (e_elI l n) = true) (k : Q (.inl none) (p, s_up I f_l_size l (nI (n + 1)), J, c, w)) : s_c X (d + 5) 2 [.ref (p.1 T_LIST l), .ref (p.1 (e_elT l) (e_elI l n)), .ref (p.1 T_LARR l), .int (nI n)] (p, I, J, c, w) Q := by
  refine m_Jx4a65c_add_72be8 (Nat.le_of_ble_eq_true rfl) ?_
  show s_w _ _ _ 0 _ _ _ _
  refine w_op (pc' := 1) dJx4a65c_add_72be8_0 rfl ?_
  refine w_op (pc' := 2) dJx4a65c_add_72be8_1 rfl ?_
  refine t_alen dJx4a65c_add_72be8_2 (by decide) hA ?_
  refine w_icmpne (t := 11) dJx4a65c_add_72be8_3 (by decide) (fun c3 => ?_) (fun c3 => ?_)
  · refine w_op (pc' := 12) dJx4a65c_add_72be8_11 rfl ?_
    refine w_op (pc' := 13) dJx4a65c_add_72be8_12 rfl ?_
    refine w_op (pc' := 14) dJx4a65c_add_72be8_13 rfl ?_
    refine w_addL hl hA hsz (by omega) (by omega) he ?_
    exact w_return dJx4a65c_add_72be8_22 ⟨rfl, k⟩
  · have := (nI_eq (by omega) (by show p.2.2.1 T_LARR l < _; exact hlen)).mp c3
    have : n = p.2.2.1 T_LARR l := this
    omega
set_option maxRecDepth 100000 in
set_option maxHeartbeats 4000000 in
theorem c_add3B {X : e_XT} {d : Nat} {p : e_Sp} {I : e_I} {J : e_Jt} {c : Nat × Nat} {w : e_Rw1} {Q : e_Rt → e_SS → Prop} {l n : Nat} (hl : p.2.1 T_LIST l = true) (hsz : I f_l_size l = nI n) (hn4 : n < 40000000) (hX : (X 8).1 = 0) (hc : c.1 < e_xb) (hAB : (n = 0 ∧ p.1 T_LARR l = e_xb + 8) ∨ (10 ≤ n ∧ p.2.1 T_LARR l = true ∧ p.2.2.1 T_LARR l = n)) (he : p.2.1 (e_elT l) (e_elI l n) = true) (k : ∀ b, s_fr (p, I, J, c, w) b → Q (.inl none) (s_pv p T_LARR l b (s_cap n), s_up I f_l_size l (nI (n + 1)), J, (c.1 + 1, c.2 + s_cap n), w)) : s_c X (d + 5) 2 [.ref (p.1 T_LIST l), .ref (p.1 (e_elT l) (e_elI l n)), .ref (p.1 T_LARR l), .int (nI n)] (p, I, J, c, w) Q := by
  refine m_Jx4a65c_add_72be8 (Nat.le_of_ble_eq_true rfl) ?_
  show s_w _ _ _ 0 _ _ _ _
  refine w_op (pc' := 1) dJx4a65c_add_72be8_0 rfl ?_
  refine w_op (pc' := 2) dJx4a65c_add_72be8_1 rfl ?_
  have key : s_w X (d + 5) K_Jx4a65c_add_72be8 3 [some (.ref (p.1 T_LIST l)), some (.ref (p.1 (e_elT l) (e_elI l n))), some (.ref (p.1 T_LARR l)), some (.int (nI n))] [.int (nI n), .int (nI n)] (p, I, J, c, w) (fun r S' => e_rcr none r = true ∧ Q r S') := by
   refine w_icmpne (t := 11) dJx4a65c_add_72be8_3 (by decide) (fun c3 => absurd rfl c3) (fun c3 => ?_)
   refine w_op (pc' := 7) dJx4a65c_add_72be8_6 rfl ?_
   refine t_callV (t := T_LIST) (As := []) dJx4a65c_add_72be8_7 rfl rM_Jx4a65c_grow_d5877 (by decide) rfl rfl (by decide) (by decide) (Nat.le_of_ble_eq_true rfl) rfl hl (c_grow hl hsz hn4 hX hc hAB (fun b hb => ?_))
   show s_w _ _ _ 10 _ _ _ _
   refine w_op (pc' := 11) (ll' := [_, _, _, _]) dJx4a65c_add_72be8_10 rfl ?_
   refine w_op (pc' := 12) dJx4a65c_add_72be8_11 rfl ?_
   refine w_op (pc' := 13) dJx4a65c_add_72be8_12 rfl ?_
   refine w_op (pc' := 14) dJx4a65c_add_72be8_13 rfl ?_
   have h1 : (s_pv p T_LARR l b (s_cap n)).2.1 T_LIST l = true := s_pv_k hl
   have hcap : n + 1 ≤ s_cap n := by (unfold s_cap; split <;> omega)
   have h2 : s_w X (d + 5) K_Jx4a65c_add_72be8 14 [some (.ref ((s_pv p T_LARR l b (s_cap n)).1 T_LIST l)), some (.ref ((s_pv p T_LARR l b (s_cap n)).1 (e_elT l) (e_elI l n))), some (.ref b), some (.int (nI n))] [.ref ((s_pv p T_LARR l b (s_cap n)).1 (e_elT l) (e_elI l n)), .int (nI n), .ref ((s_pv p T_LARR l b (s_cap n)).1 T_LARR l)] (s_pv p T_LARR l b (s_cap n), I, J, (c.1 + 1, c.2 + s_cap n), w) (fun r S' => e_rcr none r = true ∧ Q r S') := by
     refine w_addL h1 s_pv_v hsz (by rw [show (s_pv p T_LARR l b (s_cap n)).2.2.1 T_LARR l = s_cap n from if_pos ⟨rfl, rfl⟩]; exact hcap) (by omega) (s_pv_k he) ?_
     exact w_return dJx4a65c_add_72be8_22 ⟨rfl, k b hb⟩
   rw [s_pv_n (fun z => absurd z.1 (by decide)), s_pv_n (fun z => e_elT_L l z.1), s_pv_s] at h2
   exact h2
  rcases hAB with ⟨h0, hE⟩ | ⟨h10, hA, hn⟩
  · rw [hE] at key ⊢
    refine t_xlen dJx4a65c_add_72be8_2 (by decide) hc ?_
    rw [hX, ← h0]
    exact key
  · refine t_alen dJx4a65c_add_72be8_2 (by decide) hA ?_
    rw [show s_ln p T_LARR l = n from hn]
    exact key
set_option maxRecDepth 100000 in
set_option maxHeartbeats 4000000 in
theorem c_add {X : e_XT} {d : Nat} {p : e_Sp} {I : e_I} {J : e_Jt} {c : Nat × Nat} {w : e_Rw1} {Q : e_Rt → e_SS → Prop} {l n : Nat} (hL : s_La p I l n) (he : p.2.1 (e_elT l) (e_elI l n) = true) (hX : (X 8).1 = 0) (hc : c.1 < e_xb)
    (k0 : p.2.1 T_LARR l = true → 10 ≤ p.2.2.1 T_LARR l → n < p.2.2.1 T_LARR l → p.2.2.1 T_LARR l ≤ 60000000 → Q (.inl (some (.int 1))) (p, (s_up (s_up I f_l_modCount l (I f_l_modCount l + 1)) f_l_size l (nI (n + 1))), J, c, w))
    (k1 : ((n = 0 ∧ p.1 T_LARR l = e_xb + 8) ∨ (10 ≤ n ∧ p.2.1 T_LARR l = true ∧ p.2.2.1 T_LARR l = n)) → ∀ b, s_fr (p, I, J, c, w) b → Q (.inl (some (.int 1))) (s_pv p T_LARR l b (s_cap n), (s_up (s_up I f_l_modCount l (I f_l_modCount l + 1)) f_l_size l (nI (n + 1))), J, (c.1 + 1, c.2 + s_cap n), w)) : s_c X (d + 6) 1 [.ref (p.1 T_LIST l), .ref (p.1 (e_elT l) (e_elI l n))] (p, I, J, c, w) Q := by
  obtain ⟨hl, hsz, hn4, hc4⟩ := hL
  have hs2 : (s_up I f_l_modCount l (I f_l_modCount l + 1)) f_l_size l = nI n := (s_up_F (by decide)).trans hsz
  refine m_Jx4a65c_add_9ea2d (Nat.le_of_ble_eq_true rfl) ?_
  show s_w _ _ _ 0 _ _ _ _
  refine w_op (pc' := 1) dJx4a65c_add_9ea2d_0 rfl ?_
  refine w_op (pc' := 2) dJx4a65c_add_9ea2d_1 rfl ?_
  refine w_getMC (Or.inl ⟨rfl, rfl⟩) hl dJx4a65c_add_9ea2d_2 ?_
  refine w_iconst (v := 1) dJx4a65c_add_9ea2d_5 rfl ?_
  refine w_op (pc' := 7) dJx4a65c_add_9ea2d_6 rfl ?_
  refine w_putMC (Or.inl ⟨rfl, rfl⟩) hl dJx4a65c_add_9ea2d_7 ?_
  refine w_op (pc' := 11) dJx4a65c_add_9ea2d_10 rfl ?_
  refine w_op (pc' := 12) dJx4a65c_add_9ea2d_11 rfl ?_
  refine w_op (pc' := 13) dJx4a65c_add_9ea2d_12 rfl ?_
  refine t_getG1 (G := g_l_arr) dJx4a65c_add_9ea2d_13 rfl rfl (by decide) rfl (fun _ => rfl) hl ?_
  refine w_op (pc' := 17) dJx4a65c_add_9ea2d_16 rfl ?_
  refine t_getI (F := f_l_size) dJx4a65c_add_9ea2d_17 rfl rfl (by decide) rfl ⟨rfl, fun _ => rfl⟩ hl ?_
  rw [hs2]
  have cs : ((n = 0 ∧ p.1 T_LARR l = e_xb + 8) ∨ (10 ≤ n ∧ p.2.1 T_LARR l = true ∧ p.2.2.1 T_LARR l = n)) ∨ (p.2.1 T_LARR l = true ∧ 10 ≤ p.2.2.1 T_LARR l ∧ n < p.2.2.1 T_LARR l ∧ p.2.2.1 T_LARR l ≤ 60000000) := by
    rcases hc4 with h | ⟨h1, h2, h3, h4⟩
    · exact Or.inl (Or.inl h)
    · by_cases e : p.2.2.1 T_LARR l = n
      · exact Or.inl (Or.inr ⟨by omega, h1, e⟩)
      · exact Or.inr ⟨h1, h2, by omega, h4⟩
  rcases cs with hAB | ⟨hA, hA10, hlt, hle⟩
  · refine t_callV (t := T_LIST) (As := [_, _, _]) dJx4a65c_add_9ea2d_20 rfl rM_Jx4a65c_add_72be8 (by decide) rfl rfl (by decide) (by decide) (Nat.le_of_ble_eq_true rfl) rfl hl (c_add3B hl hs2 hn4 hX hc hAB he (fun b hb => ?_))
    show s_w _ _ _ 23 _ _ _ _
    refine w_iconst (v := 1) dJx4a65c_add_9ea2d_23 rfl ?_
    exact w_ireturn dJx4a65c_add_9ea2d_24 ⟨s_rcb (Or.inr rfl), k1 hAB b hb⟩
  · refine t_callV (t := T_LIST) (As := [_, _, _]) dJx4a65c_add_9ea2d_20 rfl rM_Jx4a65c_add_72be8 (by decide) rfl rfl (by decide) (by decide) (Nat.le_of_ble_eq_true rfl) rfl hl (c_add3A hl hA hs2 hn4 hlt (by omega) he ?_)
    show s_w _ _ _ 23 _ _ _ _
    refine w_iconst (v := 1) dJx4a65c_add_9ea2d_23 rfl ?_
    exact w_ireturn dJx4a65c_add_9ea2d_24 ⟨s_rcb (Or.inr rfl), k0 hA hA10 hlt hle⟩
