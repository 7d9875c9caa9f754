/-! 72: lists grow -/
theorem e_cL1 : ((List.range e_NI).all fun F => decide ((e_FI F).1 ≠ T_LIST) || decide ((e_FI F).2.2 = 1 ∧ (e_FI F).2.1 ≠ 1)) = true := by decide +kernel
theorem e_cL2 : ((List.range e_NJ).all fun F => decide ((e_FJ F).1 ≠ T_LIST)) = true := by decide +kernel
theorem e_cL3 : ((List.range e_NG).all fun G => decide ((e_FG G).1 ≠ T_LARR) && (decide (G = g_l_arr) || (decide ((e_FG G).2.2.1 ≠ T_LARR) && decide ((e_FG G).1 ≠ T_LIST)))) = true := by decide +kernel
theorem e_elT_L (l : Nat) : e_elT l ≠ T_LARR := by
  unfold e_elT
  split <;> decide
theorem e_elT_K (l : Nat) : e_elT l ≠ T_LIST ∨ e_elT l = T_LIST := Decidable.em _ |>.symm
section s_ls
variable {p : e_Sp} {I : e_I} {J : e_Jt} {h : e_Hp} {b l m n : Nat}
set_option maxRecDepth 100000 in
theorem e_rep.tl (hR : e_rep p I J h) (hv : p.2.1 T_LIST l = true) (ha : b < e_n h) (hk : e_kd h b = 105) (hl : e_ln h b = m) (hnt : ∀ t i, p.2.1 t i = true → p.1 t i ≠ b) (hm : (I f_l_size l).toNatClampNeg ≤ m) (hg : ∀ j, j < (I f_l_size l).toNatClampNeg → e_toO (e_v h b j) = some (p.1 (e_elT l) (e_elI l j))) : e_rep (s_pv p T_LARR l b m) I J (e_set h (p.1 T_LIST l) 1 (.ref b)) := by
  obtain ⟨r1, r2, r3, r4, r5, r6, r7⟩ := hR
  have key : ∀ t i s, p.2.1 t i = true → ¬ (t = T_LIST ∧ i = l ∧ s = 1) → e_v (e_set h (p.1 T_LIST l) 1 (.ref b)) (p.1 t i) s = e_v h (p.1 t i) s := fun t i s hv1 hn => by
    refine e_v_ne ?_
    by_cases e : t = T_LIST ∧ i = l
    · exact Or.inr (fun z => hn ⟨e.1, e.2, z⟩)
    · exact Or.inl (r1.apart hv1 hv e)
  have vl : ∀ t' i', t' ≠ T_LARR → (s_pv p T_LARR l b m).2.1 t' i' = true → p.2.1 t' i' = true := fun t' i' hne hv => by
    rw [s_pv_nv (fun z => hne z.1)] at hv; exact hv
  refine ⟨fun t i hv1 => ?_, fun F i hF hv1 => ?_, fun F i hF hv1 => ?_, fun G i hG hv1 => ?_, fun l' j hl1 hj => ?_, fun r hr => ?_, fun k hk1 => ?_⟩
  · by_cases e : t = T_LARR ∧ i = l
    · obtain ⟨rfl, rfl⟩ := e
      rw [s_pv_s]
      exact ⟨by decide, ha, hk, if_pos rfl, by rw [show (s_pv p T_LARR i b m).2.2.1 T_LARR i = m from if_pos ⟨rfl, rfl⟩]; exact hl⟩
    · rw [s_pv_nv e] at hv1
      rw [s_pv_n e, s_pv_nl e]
      obtain ⟨a1, a2, a3, a4, a5⟩ := r1 t i hv1
      exact ⟨a1, a2, a3, (if_neg (hnt t i hv1)).trans a4, a5⟩
  · have c6 := e_all e_c6 hF
    rw [Bool.and_eq_true] at c6
    have hne := of_decide_eq_true c6.1
    have hv1 := vl _ _ hne hv1
    rw [s_pv_n (fun z => hne z.1), key _ _ _ hv1 (fun z => ?_)]
    · exact r2 F i hF hv1
    · rcases (Bool.or_eq_true _ _).mp (e_all e_cL1 hF) with c2 | c2
      · exact of_decide_eq_true c2 z.1
      · have c2 := of_decide_eq_true c2
        have z3 := z.2.2
        rw [c2.1, Nat.mod_one, Nat.add_zero] at z3
        exact c2.2 z3
  · have c7 := e_all e_c7 hF
    rw [Bool.and_eq_true] at c7
    have hne := of_decide_eq_true c7.1
    have hv1 := vl _ _ hne hv1
    rw [s_pv_n (fun z => hne z.1), key _ _ _ hv1 (fun z => of_decide_eq_true (e_all e_cL2 hF) z.1)]
    exact r3 F i hF hv1
  · have c := e_all e_cL3 hG
    rw [Bool.and_eq_true] at c
    have hne := of_decide_eq_true c.1
    have hv1 := vl _ _ hne hv1
    rw [s_pv_n (fun z => hne z.1)]
    rcases (Bool.or_eq_true _ _).mp c.2 with c2 | c2
    · have c2 := of_decide_eq_true c2
      subst c2
      show e_toO (e_v (e_set h (p.1 T_LIST l) 1 (.ref b)) (p.1 T_LIST i) 1) = some ((s_pv p T_LARR l b m).1 T_LARR i)
      by_cases e : i = l
      · subst e
        rw [e_v_eq, s_pv_s]; rfl
      · rw [s_pv_n (fun z => e z.2), key T_LIST i 1 hv1 (fun z => e z.2.1)]
        exact r4 g_l_arr i hG hv1
    · rw [Bool.and_eq_true] at c2
      rw [s_pv_n (fun z => of_decide_eq_true c2.1 z.1), key _ _ _ hv1 (fun z => of_decide_eq_true c2.2 z.1)]
      exact r4 G i hG hv1
  · have hl1 := vl _ _ (by decide) hl1
    obtain ⟨q1, q2, q3, q4⟩ := r5 l' j hl1 hj
    rw [s_pv_nv (fun z => e_elT_L l' z.1), s_pv_n (fun z => e_elT_L l' z.1)]
    by_cases e : l' = l
    · subst e
      rw [s_pv_s, s_pv_v, show (s_pv p T_LARR l' b m).2.2.1 T_LARR l' = m from if_pos ⟨rfl, rfl⟩, e_v_ne (Or.inl (fun z => hnt _ _ hv z.symm))]
      exact ⟨rfl, hm, q3, hg j hj⟩
    · rw [s_pv_n (fun z => e z.2), s_pv_nv (fun z => e z.2), s_pv_nl (fun z => e z.2), key _ _ _ q1 (fun z => absurd z.1 (by decide))]
      exact ⟨q1, q2, q3, q4⟩
  · have hr := vl _ _ (by decide) hr
    obtain ⟨q1, q2⟩ := r6 r hr
    rw [s_pv_n (fun z => absurd z.1 (by decide)), s_pv_nv (fun z => absurd z.1 (by decide)), s_pv_nl (fun z => absurd z.1 (by decide))]
    refine ⟨q1, fun j hj => ?_⟩
    obtain ⟨q3, q4⟩ := q2 j hj
    rw [s_pv_n (fun z => absurd z.1 (by decide)), s_pv_nv (fun z => absurd z.1 (by decide)), key _ _ _ q1 (fun z => absurd z.1 (by decide))]
    exact ⟨q3, q4⟩
  · have hk1 := vl _ _ (by decide) hk1
    rw [s_pv_n (fun z => absurd z.1 (by decide)), s_pv_n (fun z => absurd z.1 (by decide)), s_pv_n (fun z => absurd z.1 (by decide)), s_pv_nv (fun z => absurd z.1 (by decide)), s_pv_nv (fun z => absurd z.1 (by decide)), key _ _ _ hk1 (fun z => absurd z.1 (by decide)), key _ _ _ hk1 (fun z => absurd z.1 (by decide))]
    exact r7 k hk1
set_option maxRecDepth 100000 in
theorem e_rep.addL (hR : e_rep p I J h) (hv : p.2.1 T_LIST l = true) (hA : p.2.1 T_LARR l = true) (hsz : I f_l_size l = nI n) (hn : n + 1 ≤ p.2.2.1 T_LARR l) (hn31 : n + 1 < 2147483648) (he : p.2.1 (e_elT l) (e_elI l n) = true) : e_rep p (s_up I f_l_size l (nI (n + 1))) J (e_set (e_set h (p.1 T_LARR l) n (.ref (p.1 (e_elT l) (e_elI l n)))) (p.1 T_LIST l) 2 (.int (nI (n + 1)))) := by
  obtain ⟨r1, r2, r3, r4, r5, r6, r7⟩ := hR
  have key1 : ∀ t i s, p.2.1 t i = true → ¬ (t = T_LARR ∧ i = l) → e_v (e_set h (p.1 T_LARR l) n (.ref (p.1 (e_elT l) (e_elI l n)))) (p.1 t i) s = e_v h (p.1 t i) s := fun t i s hv1 hn => e_v_ne (Or.inl (r1.apart hv1 hA hn))
  have key2 : ∀ (h : e_Hp) t i s, p.2.1 t i = true → ¬ (t = T_LIST ∧ i = l ∧ s = 2) → e_v (e_set h (p.1 T_LIST l) 2 (.int (nI (n + 1)))) (p.1 t i) s = e_v h (p.1 t i) s := fun h t i s hv1 hn => by
    refine e_v_ne ?_
    by_cases e : t = T_LIST ∧ i = l
    · exact Or.inr (fun z => hn ⟨e.1, e.2, z⟩)
    · exact Or.inl (r1.apart hv1 hv e)
  refine ⟨r1, fun F i hF hv1 => ?_, fun F i hF hv1 => ?_, fun G i hG hv1 => ?_, fun l' j hl1 hj => ?_, fun r hr => ?_, fun k hk1 => ?_⟩
  · have c6 := e_all e_c6 hF
    rw [Bool.and_eq_true] at c6
    have hne := of_decide_eq_true c6.1
    by_cases e : F = f_l_size ∧ i = l
    · obtain ⟨rfl, rfl⟩ := e
      rw [s_up_s]
      show e_toI (e_v _ (p.1 T_LIST (i / 1)) (2 + i % 1)) = _
      rw [Nat.div_one, Nat.mod_one, Nat.add_zero, e_v_eq]
      rfl
    · rw [show s_up I f_l_size l (nI (n + 1)) F i = I F i from if_neg e]
      rw [key2 _ _ _ _ hv1 (fun z => ?_), key1 _ _ _ hv1 (fun z => hne z.1)]
      · exact r2 F i hF hv1
      · rcases (Bool.or_eq_true _ _).mp (e_all e_cL1 hF) with c2 | c2
        · exact of_decide_eq_true c2 z.1
        · have c2 := of_decide_eq_true c2
          have z3 := z.2.2
          have z2 := z.2.1
          rw [c2.1, Nat.mod_one, Nat.add_zero] at z3
          rw [c2.1, Nat.div_one] at z2
          refine e ⟨?_, z2⟩
          have c1 := e_all e_c1 hF
          rw [Bool.and_eq_true] at c1
          rcases (Bool.or_eq_true _ _).mp (e_all c1.2 (show f_l_size < e_NI by decide)) with c3 | c3
          · exact of_decide_eq_true c3
          · rcases (Bool.or_eq_true _ _).mp c3 with c4 | c4
            · exact absurd z.1 (of_decide_eq_true c4)
            · have c4 := of_decide_eq_true c4
              rw [c2.1, z3, show (e_FI f_l_size).2.1 = 2 from rfl, show (e_FI f_l_size).2.2 = 1 from rfl] at c4
              omega
  · have c7 := e_all e_c7 hF
    rw [Bool.and_eq_true] at c7
    rw [key2 _ _ _ _ hv1 (fun z => of_decide_eq_true (e_all e_cL2 hF) z.1), key1 _ _ _ hv1 (fun z => of_decide_eq_true c7.1 z.1)]
    exact r3 F i hF hv1
  · have c := e_all e_cL3 hG
    rw [Bool.and_eq_true] at c
    rw [key2 _ _ _ _ hv1 (fun z => ?_), key1 _ _ _ hv1 (fun z => of_decide_eq_true c.1 z.1)]
    · exact r4 G i hG hv1
    · rcases (Bool.or_eq_true _ _).mp c.2 with c2 | c2
      · have c2 := of_decide_eq_true c2
        subst c2
        exact absurd z.2.2 (by decide)
      · rw [Bool.and_eq_true] at c2
        exact of_decide_eq_true c2.2 z.1
  · by_cases e : l' = l
    · subst e
      have hj : j < (s_up I f_l_size l' (nI (n + 1)) f_l_size l').toNatClampNeg := hj
      rw [s_up_s, nI_clamp (by omega)] at hj
      have e1 : (s_up I f_l_size l' (nI (n + 1)) f_l_size l').toNatClampNeg = n + 1 := by rw [s_up_s, nI_clamp (by omega)]
      rw [e1, key2 _ _ _ _ hA (fun z => absurd z.1 (by decide))]
      by_cases ej : j = n
      · subst ej
        exact ⟨hA, hn, he, by rw [e_v_eq]; rfl⟩
      · obtain ⟨q1, q2, q3, q4⟩ := r5 l' j hl1 (by rw [hsz, nI_clamp (by omega)]; omega)
        exact ⟨hA, hn, q3, by rw [e_v_ne (Or.inr ej)]; exact q4⟩
    · have e1 : s_up I f_l_size l (nI (n + 1)) f_l_size l' = I f_l_size l' := s_up_i e
      rw [e1] at hj ⊢
      obtain ⟨q1, q2, q3, q4⟩ := r5 l' j hl1 hj
      rw [key2 _ _ _ _ q1 (fun z => absurd z.1 (by decide)), key1 _ _ _ q1 (fun z => e z.2)]
      exact ⟨q1, q2, q3, q4⟩
  · obtain ⟨q1, q2⟩ := r6 r hr
    refine ⟨q1, fun j hj => ?_⟩
    rw [key2 _ _ _ _ q1 (fun z => absurd z.1 (by decide)), key1 _ _ _ q1 (fun z => absurd z.1 (by decide))]
    exact q2 j hj
  · rw [key2 _ _ _ _ hk1 (fun z => absurd z.1 (by decide)), key2 _ _ _ _ hk1 (fun z => absurd z.1 (by decide)), key1 _ _ _ hk1 (fun z => absurd z.1 (by decide)), key1 _ _ _ hk1 (fun z => absurd z.1 (by decide))]
    exact r7 k hk1
end s_ls
