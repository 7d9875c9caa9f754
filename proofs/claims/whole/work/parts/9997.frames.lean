/-! 9997: add at a place, remove -/
theorem e_cpyh_0 {h : e_Hp} {A i j : Nat} : e_cpyh h A i A j 0 = h := by
  show (h.1, h.2.1, fun k => if k = A then e_cpyv (e_v h A) (e_v h A) i j 0 else h.2.2 k) = (h.1, h.2.1, h.2.2)
  refine congrArg (fun z => (h.1, h.2.1, z)) (funext fun k => ?_)
  by_cases e : k = A
  · subst e
    rw [if_pos rfl]
    funext s
    unfold e_cpyv
    rw [if_neg (by omega)]
    rfl
  · rw [if_neg e]
section s_fr2
variable {X : e_XT} {d : Nat} {K : e_KT} {g t n : Nat} {ll : e_LL} {p : e_Sp} {I : e_I} {J : e_Jt} {c : Nat × Nat} {w : e_Rw1} {Q : e_Rt → e_SS → Prop}
/-- the shape after a frame left: its number is the last one's -/
abbrev s_rmp (p : e_Sp) (g t n : Nat) : e_Sp := s_uv (s_rn p (s_rj (64 * g) t n) (s_ri (64 * g) t n)) T_MFRAME (fun i => decide (i = 64 * g + n))
set_option maxRecDepth 100000 in
set_option maxHeartbeats 2000000 in
theorem s_remJ {h : e_Hp} {v2 : Option Value} (hs : s_is (p, I, J, c, w) h) (hg : g < 4) (hl : p.2.1 T_LIST (8 + g) = true) (hA : p.2.1 T_LARR (8 + g) = true) (hsz : I f_l_size (8 + g) = nI (n + 1)) (hat : t ≤ n) (hn : n + 1 ≤ p.2.2.1 T_LARR (8 + g)) (hn60 : n < 60) (hlen : p.2.2.1 T_LARR (8 + g) < 2147483648) (hO : q_O p I)
    (k : s_w X d K_Jx4a65c_fastRemove_b59b0 43 [some (.ref (p.1 T_LIST (8 + g))), some (.ref (p.1 T_LARR (8 + g))), v2, some (.int (nI n))] [] (s_rmp p g t n, s_up (s_rnI I (s_rj (64 * g) t n)) f_l_size (8 + g) (nI n), s_rnJ J (s_rj (64 * g) t n), c, w) Q) : ∃ r h' S', Q r S' ∧ s_is S' h' ∧ e_J X d K_Jx4a65c_fastRemove_b59b0 34 [some (.ref (p.1 T_LIST (8 + g))), some (.ref (p.1 T_LARR (8 + g))), v2, some (.int (nI n))] [] (e_cpyh h (p.1 T_LARR (8 + g)) (t + 1) (p.1 T_LARR (8 + g)) t (n - t)) r h' := by
  obtain ⟨q1, q2, q3, -, -⟩ := hs.1.1 T_LIST (8 + g) hl
  obtain ⟨u1, u2, u3, -, u5⟩ := hs.1.1 T_LARR (8 + g) hA
  have u6 : e_ln h (p.1 T_LARR (8 + g)) = p.2.2.1 T_LARR (8 + g) := u5
  have hAL := hs.1.1.apart hA hl (fun z => absurd z.1 (by decide))
  have ptr : ∀ j, j < n + 1 → p.2.1 T_MFRAME (64 * g + j) = true ∧ e_toO (e_v h (p.1 T_LARR (8 + g)) j) = some (p.1 T_MFRAME (64 * g + j)) := fun j hj => hs.ptrF hg hl hsz (by omega) hj
  generalize hAd : p.1 T_LARR (8 + g) = A at *
  generalize hLd : p.1 T_LIST (8 + g) = L at *
  have key : s_is (s_rn p (s_rj (64 * g) t n) (s_ri (64 * g) t n), s_up (s_rnI I (s_rj (64 * g) t n)) f_l_size (8 + g) (nI n), s_rnJ J (s_rj (64 * g) t n), c, w) (e_set (e_set (e_cpyh h A (t + 1) A t (n - t)) L 2 (.int (nI n))) A n .null) := by
    refine hs.reF (f := fun j => if j = n then .null else e_cpyv (e_v h A) (e_v h A) (t + 1) t (n - t) j) hg hl hA hO (s_ri_rj hat) (fun i hi => ?_) (by omega) (by omega) (fun j hj => ?_) rfl (fun _ => rfl) (fun _ => rfl) (fun a s => ?_) ⟨rfl, rfl⟩
    · unfold s_rj
      rw [if_neg (by omega), if_neg (by omega)]
    · rw [if_neg (by omega)]
      by_cases e2 : t ≤ j
      · rw [show s_rj (64 * g) t n (64 * g + j) = 64 * g + (j + 1) from by unfold s_rj; rw [if_neg (by omega), if_pos (by omega)]; omega]
        unfold e_cpyv
        rw [if_pos (by omega), show t + 1 + (j - t) = j + 1 by omega]
        exact ptr (j + 1) (by omega)
      · rw [show s_rj (64 * g) t n (64 * g + j) = 64 * g + j from by unfold s_rj; rw [if_neg (by omega), if_neg (by omega)]]
        unfold e_cpyv
        rw [if_neg (by omega)]
        exact ptr j (by omega)
    · rw [hAd, hLd]
      by_cases e2 : a = A
      · subst e2
        rw [e_v_ne (h := e_rowset h a _) (Or.inl hAL), e_rowset_v, e_v_set]
        show (if s = n then Value.null else e_v (e_set (e_cpyh h a (t + 1) a t (n - t)) L 2 _) a s) = _
        by_cases e3 : s = n
        · rw [if_pos e3, if_pos e3]
        · rw [if_neg e3, if_neg e3, e_v_ne (Or.inl hAL)]
          unfold e_cpyh
          rw [e_rowset_v]
      · rw [e_v_ne (Or.inl e2)]
        by_cases e1 : a = L ∧ s = 2
        · obtain ⟨rfl, rfl⟩ := e1; rw [e_v_eq, e_v_eq]
        · have e4 : a ≠ L ∨ s ≠ 2 := by
            by_cases z : a = L
            · exact Or.inr (fun y => e1 ⟨z, y⟩)
            · exact Or.inl z
          rw [e_v_ne e4, e_v_ne e4, e_rowset_ne e2]
          unfold e_cpyh
          rw [e_rowset_ne e2]
  have key2 : s_is (s_rmp p g t n, s_up (s_rnI I (s_rj (64 * g) t n)) f_l_size (8 + g) (nI n), s_rnJ J (s_rj (64 * g) t n), c, w) (e_set (e_set (e_cpyh h A (t + 1) A t (n - t)) L 2 (.int (nI n))) A n .null) := by
    refine ⟨key.1.unv (by decide) (fun l j h1 h2 h3 => ?_), key.2.1, fun a o ho => ⟨(key.2.2 a o ho).1, fun t i hv => (key.2.2 a o ho).2 t i (s_uv_v hv).2⟩⟩
    intro h4
    have h4 := of_decide_eq_true h4
    have h8 := e_elF8 h3
    have h1 : p.2.1 T_LIST l = true := (s_rn_nv (by decide)).symm.trans h1
    have h12 := hO l h1
    obtain ⟨u, hu, rfl⟩ : ∃ u, u < 4 ∧ l = 8 + u := ⟨l - 8, by omega, by omega⟩
    rw [(e_elF hu).2] at h4
    by_cases e : u = g
    · subst e
      have h2 : j < (s_up (s_rnI I (s_rj (64 * u) t n)) f_l_size (8 + u) (nI n) f_l_size (8 + u)).toNatClampNeg := h2
      rw [s_up_s, nI_clamp (by omega)] at h2
      omega
    · have h2 : j < (s_up (s_rnI I (s_rj (64 * g) t n)) f_l_size (8 + g) (nI n) f_l_size (8 + u)).toNatClampNeg := h2
      rw [s_up_i (by omega)] at h2
      have e5 : s_rnI I (s_rj (64 * g) t n) f_l_size (8 + u) = I f_l_size (8 + u) := if_neg (by decide)
      rw [e5] at h2
      have h60 := h12.2 h8
      omega
  obtain ⟨r, h', S', q, z, j⟩ := k _ key2
  refine ⟨r, h', S', q, z, ?_⟩
  refine e_J.op (pc' := 35) rfl dJx4a65c_fastRemove_b59b0_34 (e_J.op (pc' := 36) rfl dJx4a65c_fastRemove_b59b0_35 (e_J.op (pc' := 37) rfl dJx4a65c_fastRemove_b59b0_36 (e_J.op (pc' := 38) rfl dJx4a65c_fastRemove_b59b0_37 (e_J.hop (st' := [.int (nI n), .ref A]) (h1 := e_set (e_cpyh h A (t + 1) A t (n - t)) L 2 (.int (nI n))) (e_hopA ?_) dJx4a65c_fastRemove_b59b0_38 (e_J.op (pc' := 42) rfl dJx4a65c_fastRemove_b59b0_41 (e_J.hop (e_hopC rfl rfl ?_) dJx4a65c_fastRemove_b59b0_42 j))))))
  · show (match e_fl 3 48 with
      | some r => if L < e_n h ∧ e_kd h L = r.2.1 ∧ e_ck (e_cY r.2.1 r.2.2.1) (.int (nI n)) = true ∧ ((e_cT r.2.1 r.2.2.1).2.2.2 = false ∨ (false = true ∧ r.2.1 = 3 ∧ r.2.2.2.2 = 0)) then some (_, e_set (e_cpyh h A (t + 1) A t (n - t)) L r.2.2.1 (.int (nI n))) else none
      | none => none) = _
    exact if_pos ⟨q2, q3, rfl, Or.inl rfl⟩
  · show (if A < e_n h ∧ (e_kd h A = 105 ∨ e_kd h A = 106) ∧ e_in (nI n) (e_ln h A) = true then some (_, e_set (e_set (e_cpyh h A (t + 1) A t (n - t)) L 2 (.int (nI n))) A (nI n).toNatClampNeg .null) else none) = _
    rw [nI_clamp (by omega)]
    refine if_pos ⟨u2, Or.inl u3, ?_⟩
    rw [u6]
    exact (s_ix.nI (n := n) (N := p.2.2.1 T_LARR (8 + g)) (by omega) (by omega)).ein
set_option maxRecDepth 100000 in
set_option maxHeartbeats 2000000 in
theorem c_fastRemove (hg : g < 4) (hl : p.2.1 T_LIST (8 + g) = true) (hA : p.2.1 T_LARR (8 + g) = true) (hsz : I f_l_size (8 + g) = nI (n + 1)) (hat : t ≤ n) (hn : n + 1 ≤ p.2.2.1 T_LARR (8 + g)) (hn60 : n < 60) (hlen : p.2.2.1 T_LARR (8 + g) < 2147483648) (hO : q_O p I)
    (k : Q (.inl none) (s_rmp p g t n, s_up (s_rnI (s_up I f_l_modCount (8 + g) (I f_l_modCount (8 + g) + 1)) (s_rj (64 * g) t n)) f_l_size (8 + g) (nI n), s_rnJ J (s_rj (64 * g) t n), c, w)) : s_c X (d + 0) 12 [.ref (p.1 T_LIST (8 + g)), .ref (p.1 T_LARR (8 + g)), .int (nI t)] (p, I, J, c, w) Q := by
  have hs2 : s_up I f_l_modCount (8 + g) (I f_l_modCount (8 + g) + 1) f_l_size (8 + g) = nI (n + 1) := (s_up_F (by decide)).trans hsz
  have hO2 : q_O p (s_up I f_l_modCount (8 + g) (I f_l_modCount (8 + g) + 1)) := fun l hl => by rw [s_up_F (by decide)]; exact hO l hl
  refine m_Jx4a65c_fastRemove_b59b0 (Nat.le_of_ble_eq_true rfl) ?_
  show s_w _ _ _ 0 _ _ _ _
  refine w_op (pc' := 1) dJx4a65c_fastRemove_b59b0_0 rfl ?_
  refine w_op (pc' := 2) dJx4a65c_fastRemove_b59b0_1 rfl ?_
  refine w_getMC (Or.inl ⟨rfl, rfl⟩) hl dJx4a65c_fastRemove_b59b0_2 ?_
  refine w_iconst (v := 1) dJx4a65c_fastRemove_b59b0_5 rfl ?_
  refine w_op (pc' := 7) dJx4a65c_fastRemove_b59b0_6 rfl ?_
  refine w_putMC (Or.inl ⟨rfl, rfl⟩) hl dJx4a65c_fastRemove_b59b0_7 ?_
  refine w_op (pc' := 11) dJx4a65c_fastRemove_b59b0_10 rfl ?_
  refine t_getI (F := f_l_size) dJx4a65c_fastRemove_b59b0_11 rfl rfl (by decide) rfl ⟨rfl, fun _ => rfl⟩ hl ?_
  rw [hs2]
  refine w_iconst (v := 1) dJx4a65c_fastRemove_b59b0_14 rfl ?_
  refine w_op (pc' := 16) dJx4a65c_fastRemove_b59b0_15 rfl ?_
  rw [show nI (n + 1) - 1 = nI n from nI_pred n]
  refine w_op (pc' := 17) dJx4a65c_fastRemove_b59b0_16 rfl ?_
  refine w_op (pc' := 18) (ll' := [_, _, _, _]) dJx4a65c_fastRemove_b59b0_17 rfl ?_
  refine w_op (pc' := 19) dJx4a65c_fastRemove_b59b0_18 rfl ?_
  refine w_icmple (t := 34) dJx4a65c_fastRemove_b59b0_19 (by decide) (fun c19 => ?_) (fun c19 => ?_)
  · have ht : n = t := by
      have := (nI_leI (by omega) (by omega)).mp c19
      omega
    intro h hs
    have r9 := s_remJ (X := X) (d := d) (v2 := some (.int (nI t))) (t := t) (Q := fun r S' => e_rcr none r = true ∧ Q r S') hs hg hl hA hs2 hat hn hn60 hlen hO2 (w_return dJx4a65c_fastRemove_b59b0_43 ⟨rfl, k⟩)
    rw [show n - t = 0 by omega, e_cpyh_0] at r9
    exact r9
  · have ht : t < n := Nat.lt_of_not_le (fun z => c19 ((nI_leI (by omega) (by omega)).mpr z))
    refine w_op (pc' := 23) dJx4a65c_fastRemove_b59b0_22 rfl ?_
    refine w_op (pc' := 24) dJx4a65c_fastRemove_b59b0_23 rfl ?_
    refine w_iconst (v := 1) dJx4a65c_fastRemove_b59b0_24 rfl ?_
    refine w_op (pc' := 26) dJx4a65c_fastRemove_b59b0_25 rfl ?_
    refine w_op (pc' := 27) dJx4a65c_fastRemove_b59b0_26 rfl ?_
    refine w_op (pc' := 28) dJx4a65c_fastRemove_b59b0_27 rfl ?_
    refine w_op (pc' := 29) dJx4a65c_fastRemove_b59b0_28 rfl ?_
    refine w_op (pc' := 30) dJx4a65c_fastRemove_b59b0_29 rfl ?_
    refine w_op (pc' := 31) dJx4a65c_fastRemove_b59b0_30 rfl ?_
    rw [show nI t + 1 = nI (t + 1) from nI_1 t, show nI n - nI t = nI (n - t) from nI_sub hat]
    intro h hs
    obtain ⟨r, h', S', q, z, j⟩ := s_remJ (X := X) (d := d) (v2 := some (.int (nI t))) (t := t) (Q := fun r S' => e_rcr none r = true ∧ Q r S') hs hg hl hA hs2 hat hn hn60 hlen hO2 (w_return dJx4a65c_fastRemove_b59b0_43 ⟨rfl, k⟩)
    obtain ⟨u1, u2, u3, -, u5⟩ := hs.1.1 T_LARR (8 + g) hA
    have u6 : e_ln h (p.1 T_LARR (8 + g)) = p.2.2.1 T_LARR (8 + g) := u5
    have c1 : (nI t).toNatClampNeg = t := nI_clamp (by omega)
    have c2 : (nI (n - t)).toNatClampNeg = n - t := nI_clamp (by omega)
    have c3 : (nI (t + 1)).toNatClampNeg = t + 1 := nI_clamp (by omega)
    refine ⟨r, h', S', q, z, e_J.copy (kd := 105) (ci := 16) (by decide) rfl (by decide) dJx4a65c_fastRemove_b59b0_31 u2 u2 u3 u3 (nI_pos (by omega)) (nI_pos (by omega)) (nI_pos (by omega)) (by rw [c3, c2, u6]; omega) (by rw [c2, c1, u6]; omega) (Or.inr (Or.inr ⟨rfl, by decide, by decide, fun i hi y hy => ?_⟩)) ?_⟩
    · rw [c2] at hi
      rw [c3] at hy
      obtain ⟨w1, w2⟩ := hs.ptrF hg hl hs2 (by omega) (j := t + 1 + i) (by omega)
      have e8 := Option.some.inj (w2.symm.trans hy)
      obtain ⟨x1, x2, x3, -, -⟩ := hs.1.1 T_MFRAME _ w1
      rw [← e8]
      exact ⟨x2, x3⟩
    · rw [c1, c2, c3]
      exact j
set_option maxRecDepth 100000 in
set_option maxHeartbeats 2000000 in
theorem c_remove (hg : g < 4) (hl : p.2.1 T_LIST (8 + g) = true) (hA : p.2.1 T_LARR (8 + g) = true) (hsz : I f_l_size (8 + g) = nI (n + 1)) (hat : t ≤ n) (hn : n + 1 ≤ p.2.2.1 T_LARR (8 + g)) (hn60 : n < 60) (hlen : p.2.2.1 T_LARR (8 + g) < 2147483648) (hO : q_O p I)
    (k : ∀ a, Q (.inl (some (.ref a))) (s_rmp p g t n, s_up (s_rnI (s_up I f_l_modCount (8 + g) (I f_l_modCount (8 + g) + 1)) (s_rj (64 * g) t n)) f_l_size (8 + g) (nI n), s_rnJ J (s_rj (64 * g) t n), c, w)) : s_c X (d + 2) 11 [.ref (p.1 T_LIST (8 + g)), .int (nI t)] (p, I, J, c, w) Q := by
  refine m_Jx4a65c_remove_915e3 (Nat.le_of_ble_eq_true rfl) ?_
  show s_w _ _ _ 0 _ _ _ _
  refine w_op (pc' := 1) dJx4a65c_remove_915e3_0 rfl ?_
  refine w_op (pc' := 2) dJx4a65c_remove_915e3_1 rfl ?_
  refine t_getI (F := f_l_size) dJx4a65c_remove_915e3_2 rfl rfl (by decide) rfl ⟨rfl, fun _ => rfl⟩ hl ?_
  rw [hsz]
  refine t_callS (As := [_, _]) dJx4a65c_remove_915e3_5 rfl rM_J15_checkIndex_7cf53 (by decide) rfl rfl (by decide) (Nat.le_of_ble_eq_true rfl) (c_check2 (nI_pos' (by omega)) ((nI_ltI (by omega) (by omega)).mpr (by omega)) ?_)
  show s_w _ _ _ 8 _ _ _ _
  refine w_op (pc' := 9) dJx4a65c_remove_915e3_8 rfl ?_
  refine w_op (pc' := 10) dJx4a65c_remove_915e3_9 rfl ?_
  refine t_getG1 (G := g_l_arr) dJx4a65c_remove_915e3_10 rfl rfl (by decide) rfl (fun _ => rfl) hl ?_
  refine w_op (pc' := 14) (ll' := [_, _, _, _]) dJx4a65c_remove_915e3_13 rfl ?_
  refine w_op (pc' := 15) dJx4a65c_remove_915e3_14 rfl ?_
  refine w_op (pc' := 16) dJx4a65c_remove_915e3_15 rfl ?_
  refine t_aaldL (l := 8 + g) (n := t) dJx4a65c_remove_915e3_16 hl (by rw [hsz, nI_clamp (by omega)]; exact s_ix.nI (by omega) (by omega)) ?_
  refine w_op (pc' := 18) (ll' := [_, _, _, _]) dJx4a65c_remove_915e3_17 rfl ?_
  refine w_op (pc' := 19) dJx4a65c_remove_915e3_18 rfl ?_
  refine w_op (pc' := 20) dJx4a65c_remove_915e3_19 rfl ?_
  refine w_op (pc' := 21) dJx4a65c_remove_915e3_20 rfl ?_
  refine t_callV (t := T_LIST) (As := [_, _]) dJx4a65c_remove_915e3_21 rfl rM_Jx4a65c_fastRemove_b59b0 (by decide) rfl rfl (by decide) (by decide) (Nat.le_of_ble_eq_true rfl) rfl hl (c_fastRemove hg hl hA hsz hat hn hn60 hlen hO ?_)
  show s_w _ _ _ 24 _ _ _ _
  refine w_op (pc' := 25) dJx4a65c_remove_915e3_24 rfl ?_
  exact w_areturn dJx4a65c_remove_915e3_25 ⟨rfl, k _⟩
set_option maxRecDepth 100000 in
theorem c_rcfa {l : Nat} (hl : p.2.1 T_LIST l = true) (hsz : I f_l_size l = nI n) (hn : n < 1000000000) (hat : t ≤ n) (k : Q (.inl none) (p, I, J, c, w)) : s_c X (d + 0) 9 [.ref (p.1 T_LIST l), .int (nI t)] (p, I, J, c, w) Q := by
  refine m_Jx4a65c_rangeCheckForAdd_d00df (Nat.le_of_ble_eq_true rfl) ?_
  show s_w _ _ _ 0 _ _ _ _
  refine w_op (pc' := 1) dJx4a65c_rangeCheckForAdd_d00df_0 rfl ?_
  refine w_op (pc' := 2) dJx4a65c_rangeCheckForAdd_d00df_1 rfl ?_
  refine t_getI (F := f_l_size) dJx4a65c_rangeCheckForAdd_d00df_2 rfl rfl (by decide) rfl ⟨rfl, fun _ => rfl⟩ hl ?_
  rw [hsz]
  refine w_icmpgt (t := 12) dJx4a65c_rangeCheckForAdd_d00df_5 (by decide) (fun c5 => ?_) (fun c5 => ?_)
  · have := (nI_ltI (by omega) (by omega)).mp c5
    omega
  · refine w_op (pc' := 9) dJx4a65c_rangeCheckForAdd_d00df_8 rfl ?_
    refine w_ifge (t := 25) dJx4a65c_rangeCheckForAdd_d00df_9 (by decide) (fun _ => ?_) (fun c9 => ?_)
    · exact w_return dJx4a65c_rangeCheckForAdd_d00df_25 ⟨rfl, k⟩
    · exact absurd (nI_pos' (n := t) (by omega)) c9
/-- a frame's list in which one more stands at t -/
abbrev s_adF (I : e_I) (g t n : Nat) : e_I := s_up (s_rnI (s_up I f_l_modCount (8 + g) (I f_l_modCount (8 + g) + 1)) (s_ri (64 * g) t n)) f_l_size (8 + g) (nI (n + 1))
abbrev s_adp (p : e_Sp) (g t n : Nat) : e_Sp := s_rn p (s_ri (64 * g) t n) (s_rj (64 * g) t n)
set_option maxRecDepth 100000 in
set_option maxHeartbeats 2000000 in
theorem l_addAt (hg : g < 4) (hl : p.2.1 T_LIST (8 + g) = true) (hA : p.2.1 T_LARR (8 + g) = true) (hsz : I f_l_size (8 + g) = nI n) (hat : t ≤ n) (hn : n + 1 ≤ p.2.2.1 T_LARR (8 + g)) (hn60 : n < 60) (hlen : p.2.2.1 T_LARR (8 + g) < 2147483648) (he : p.2.1 T_MFRAME (64 * g + n) = true) (hO : q_O p I)
    (k : Q (.inl none) (s_adp p g t n, s_up (s_rnI I (s_ri (64 * g) t n)) f_l_size (8 + g) (nI (n + 1)), s_rnJ J (s_ri (64 * g) t n), c, w)) : s_w X d K_Jx4a65c_add_7a177 38 [some (.ref (p.1 T_LIST (8 + g))), some (.int (nI t)), some (.ref (p.1 T_MFRAME (64 * g + n))), some (.int (nI n)), some (.ref (p.1 T_LARR (8 + g)))] [] (p, I, J, c, w) (fun r S' => e_rcr none r = true ∧ Q r S') := by
  refine w_op (pc' := 40) dJx4a65c_add_7a177_38 rfl ?_
  refine w_op (pc' := 41) dJx4a65c_add_7a177_40 rfl ?_
  refine w_op (pc' := 43) dJx4a65c_add_7a177_41 rfl ?_
  refine w_op (pc' := 44) dJx4a65c_add_7a177_43 rfl ?_
  refine w_iconst (v := 1) dJx4a65c_add_7a177_44 rfl ?_
  refine w_op (pc' := 46) dJx4a65c_add_7a177_45 rfl ?_
  refine w_op (pc' := 47) dJx4a65c_add_7a177_46 rfl ?_
  refine w_op (pc' := 48) dJx4a65c_add_7a177_47 rfl ?_
  refine w_op (pc' := 49) dJx4a65c_add_7a177_48 rfl ?_
  rw [show nI t + 1 = nI (t + 1) from nI_1 t, show nI n - nI t = nI (n - t) from nI_sub hat]
  exact w_insL hg hl hA hsz hat hn hn60 hlen he hO (w_return dJx4a65c_add_7a177_64 ⟨rfl, k⟩) rfl
set_option maxRecDepth 100000 in
set_option maxHeartbeats 2000000 in
theorem c_addAt (hg : g < 4) (hL : s_La p I (8 + g) n) (hat : t ≤ n) (hn60 : n < 60) (he : p.2.1 T_MFRAME (64 * g + n) = true) (hO : q_O p I) (hX : (X 8).1 = 0) (hc : c.1 < e_xb)
    (k0 : p.2.1 T_LARR (8 + g) = true → 10 ≤ p.2.2.1 T_LARR (8 + g) → n < p.2.2.1 T_LARR (8 + g) → p.2.2.1 T_LARR (8 + g) ≤ 60000000 → Q (.inl none) (s_adp p g t n, s_adF I g t n, s_rnJ J (s_ri (64 * g) t n), c, w))
    (k1 : ((n = 0 ∧ p.1 T_LARR (8 + g) = e_xb + 8) ∨ (10 ≤ n ∧ p.2.1 T_LARR (8 + g) = true ∧ p.2.2.1 T_LARR (8 + g) = n)) → ∀ b, s_fr (p, I, J, c, w) b → Q (.inl none) (s_adp (s_pv p T_LARR (8 + g) b (s_cap n)) g t n, s_adF I g t n, s_rnJ J (s_ri (64 * g) t n), (c.1 + 1, c.2 + s_cap n), w)) : s_c X (d + 5) 8 [.ref (p.1 T_LIST (8 + g)), .int (nI t), .ref (p.1 T_MFRAME (64 * g + n))] (p, I, J, c, w) Q := by
  obtain ⟨hl, hsz, hn4, hc4⟩ := hL
  have hs2 : s_up I f_l_modCount (8 + g) (I f_l_modCount (8 + g) + 1) f_l_size (8 + g) = nI n := (s_up_F (by decide)).trans hsz
  have hO2 : q_O p (s_up I f_l_modCount (8 + g) (I f_l_modCount (8 + g) + 1)) := fun l hl => by rw [s_up_F (by decide)]; exact hO l hl
  refine m_Jx4a65c_add_7a177 (Nat.le_of_ble_eq_true rfl) ?_
  show s_w _ _ _ 0 _ _ _ _
  refine w_op (pc' := 1) dJx4a65c_add_7a177_0 rfl ?_
  refine w_op (pc' := 2) dJx4a65c_add_7a177_1 rfl ?_
  refine t_callV (t := T_LIST) (As := [_]) dJx4a65c_add_7a177_2 rfl rM_Jx4a65c_rangeCheckForAdd_d00df (by decide) rfl rfl (by decide) (by decide) (Nat.le_of_ble_eq_true rfl) rfl hl (c_rcfa hl hsz (by omega) hat ?_)
  show s_w _ _ _ 5 _ _ _ _
  refine w_op (pc' := 6) dJx4a65c_add_7a177_5 rfl ?_
  refine w_op (pc' := 7) dJx4a65c_add_7a177_6 rfl ?_
  refine w_getMC (Or.inl ⟨rfl, rfl⟩) hl dJx4a65c_add_7a177_7 ?_
  refine w_iconst (v := 1) dJx4a65c_add_7a177_10 rfl ?_
  refine w_op (pc' := 12) dJx4a65c_add_7a177_11 rfl ?_
  refine w_putMC (Or.inl ⟨rfl, rfl⟩) hl dJx4a65c_add_7a177_12 ?_
  refine w_op (pc' := 16) dJx4a65c_add_7a177_15 rfl ?_
  refine t_getI (F := f_l_size) dJx4a65c_add_7a177_16 rfl rfl (by decide) rfl ⟨rfl, fun _ => rfl⟩ hl ?_
  rw [hs2]
  refine w_op (pc' := 20) dJx4a65c_add_7a177_19 rfl ?_
  refine w_op (pc' := 21) (ll' := [_, _, _, _, _]) dJx4a65c_add_7a177_20 rfl ?_
  refine w_op (pc' := 22) dJx4a65c_add_7a177_21 rfl ?_
  refine t_getG1 (G := g_l_arr) dJx4a65c_add_7a177_22 rfl rfl (by decide) rfl (fun _ => rfl) hl ?_
  refine w_op (pc' := 26) dJx4a65c_add_7a177_25 rfl ?_
  refine w_op (pc' := 28) (ll' := [_, _, _, _, _]) dJx4a65c_add_7a177_26 rfl ?_
  have cs : ((n = 0 ∧ p.1 T_LARR (8 + g) = e_xb + 8) ∨ (10 ≤ n ∧ p.2.1 T_LARR (8 + g) = true ∧ p.2.2.1 T_LARR (8 + g) = n)) ∨ (p.2.1 T_LARR (8 + g) = true ∧ 10 ≤ p.2.2.1 T_LARR (8 + g) ∧ n < p.2.2.1 T_LARR (8 + g) ∧ p.2.2.1 T_LARR (8 + g) ≤ 60000000) := by
    rcases hc4 with h | ⟨h1, h2, h3, h4⟩
    · exact Or.inl (Or.inl h)
    · by_cases e : p.2.2.1 T_LARR (8 + g) = n
      · exact Or.inl (Or.inr ⟨by omega, h1, e⟩)
      · exact Or.inr ⟨h1, h2, by omega, h4⟩
  rcases cs with hAB | ⟨hA, hA10, hlt, hle⟩
  · have key : s_w X (d + 5) K_Jx4a65c_add_7a177 29 [some (.ref (p.1 T_LIST (8 + g))), some (.int (nI t)), some (.ref (p.1 T_MFRAME (64 * g + n))), some (.int (nI n)), some (.ref (p.1 T_LARR (8 + g)))] [.int (nI n), .int (nI n)] (p, s_up I f_l_modCount (8 + g) (I f_l_modCount (8 + g) + 1), J, c, w) (fun r S' => e_rcr none r = true ∧ Q r S') := by
      refine w_icmpne (t := 38) dJx4a65c_add_7a177_29 (by decide) (fun c3 => absurd rfl c3) (fun c3 => ?_)
      refine w_op (pc' := 33) dJx4a65c_add_7a177_32 rfl ?_
      refine t_callV (t := T_LIST) (As := []) dJx4a65c_add_7a177_33 rfl rM_Jx4a65c_grow_d5877 (by decide) rfl rfl (by decide) (by decide) (Nat.le_of_ble_eq_true rfl) rfl hl (c_grow hl hs2 hn4 hX hc hAB (fun b hb => ?_))
      show s_w _ _ _ 36 _ _ _ _
      refine w_op (pc' := 38) (ll' := [_, _, _, _, _]) dJx4a65c_add_7a177_36 rfl ?_
      have hcap : n + 1 ≤ s_cap n ∧ s_cap n < 100 := by (unfold s_cap; split <;> omega)
      have eln : (s_pv p T_LARR (8 + g) b (s_cap n)).2.2.1 T_LARR (8 + g) = s_cap n := if_pos ⟨rfl, rfl⟩
      have h2 := l_addAt (X := X) (d := d + 5) (t := t) (J := J) (w := w) (c := (c.1 + 1, c.2 + s_cap n)) (p := s_pv p T_LARR (8 + g) b (s_cap n)) (Q := Q) hg (s_pv_k hl) s_pv_v hs2 hat (by rw [eln]; exact hcap.1) hn60 (by rw [eln]; omega) (s_pv_k he) (fun l hl => hO2 l (by rw [s_pv_nv (fun z => absurd z.1 (by decide))] at hl; exact hl)) (k1 hAB b hb)
      rw [s_pv_n (fun z => absurd z.1 (by decide)), s_pv_n (fun z => absurd z.1 (by decide)), s_pv_s] at h2
      exact h2
    rcases hAB with ⟨h0, hE⟩ | ⟨h10, hA, hn⟩
    · rw [hE] at key ⊢
      refine t_xlen dJx4a65c_add_7a177_28 (by decide) hc ?_
      rw [hX, show nI 0 = nI n by rw [h0]]
      exact key
    · refine t_alen dJx4a65c_add_7a177_28 (by decide) hA ?_
      rw [show s_ln p T_LARR (8 + g) = n from hn]
      exact key
  · refine t_alen dJx4a65c_add_7a177_28 (by decide) hA ?_
    refine w_icmpne (t := 38) dJx4a65c_add_7a177_29 (by decide) (fun c3 => ?_) (fun c3 => ?_)
    · exact l_addAt hg hl hA hs2 hat hlt hn60 (by omega) he hO2 (k0 hA hA10 hlt hle)
    · have := (nI_eq (by omega) (by show p.2.2.1 T_LARR (8 + g) < _; omega)).mp c3
      have : n = p.2.2.1 T_LARR (8 + g) := this
      omega
end s_fr2
