/-! 61: ints copied from row to row; chords weighed (printed by wip/whole/p61.py) -/
def s_cpI (I : e_I) (F0 F1 m : Nat) : e_I := fun F' i => if F' = F1 ∧ i < m then I F0 i else I F' i
theorem e_rep.cpyI {p : e_Sp} {I : e_I} {J : e_Jt} {h : e_Hp} {F0 F1 t0 t1 W0 W m : Nat} (hR : e_rep p I J h) (hF0 : e_FI F0 = (t0, 0, W0)) (hN0 : F0 < e_NI) (hF : e_FI F1 = (t1, 0, W)) (hN : F1 < e_NI) (hv0 : p.2.1 t0 0 = true) (hv : p.2.1 t1 0 = true) (h1 : ((List.range e_NI).all fun F' => decide (F' = F1) || decide ((e_FI F').1 ≠ t1)) = true) (h2 : ((List.range e_NJ).all fun F' => decide ((e_FJ F').1 ≠ t1)) = true) (h3 : ((List.range e_NG).all fun G => decide ((e_FG G).1 ≠ t1)) = true) (h4 : t1 ≠ T_LARR ∧ t1 ≠ T_PARR ∧ t1 ≠ T_KNOB ∧ F1 ≠ f_l_size) (hm0 : m ≤ W0) (hm : m ≤ W) (hW : 0 < W) : e_rep p (s_cpI I F0 F1 m) J (e_cpyh h (p.1 t0 0) 0 (p.1 t1 0) 0 m) := by
  obtain ⟨r1, r2, r3, r4, r5, r6, r7⟩ := hR
  have key : ∀ t' i s, p.2.1 t' i = true → ¬ (t' = t1 ∧ i = 0) → e_v (e_cpyh h (p.1 t0 0) 0 (p.1 t1 0) 0 m) (p.1 t' i) s = e_v h (p.1 t' i) s := fun t' i s hv1 hn => by
    unfold e_cpyh
    rw [e_rowset_ne (r1.apart hv1 hv hn)]
  refine ⟨r1, fun F' i hF' hv1 => ?_, fun F' i hF' hv1 => ?_, fun G i hG hv1 => ?_, fun l j hl1 hj => ?_, fun r hr => ?_, fun k hk1 => ?_⟩
  · rcases (Bool.or_eq_true _ _).mp (e_all h1 hF') with c | c
    · have c := of_decide_eq_true c
      subst c
      have r2' := r2 F' i hF' hv1
      rw [hF] at hv1 r2' ⊢
      have hv1 : p.2.1 t1 (i / W) = true := hv1
      show e_toI (e_v _ (p.1 t1 (i / W)) (0 + i % W)) = _
      have r2' : e_toI (e_v h (p.1 t1 (i / W)) (0 + i % W)) = I F' i := r2'
      by_cases e : i / W = 0
      · have hi : i < W := (Nat.div_eq_zero_iff_lt hW).mp e
        rw [e] at r2' ⊢
        rw [Nat.mod_eq_of_lt hi, Nat.zero_add] at r2' ⊢
        unfold e_cpyh
        rw [e_rowset_v]
        unfold e_cpyv s_cpI
        by_cases b : i < m
        · rw [if_pos ⟨Nat.zero_le _, by omega⟩, if_pos ⟨rfl, b⟩]
          have r4' := r2 F0 i hN0 (by rw [hF0]; show p.2.1 t0 (i / W0) = true; rw [Nat.div_eq_of_lt (by omega)]; exact hv0)
          rw [hF0] at r4'
          have r4' : e_toI (e_v h (p.1 t0 (i / W0)) (0 + i % W0)) = I F0 i := r4'
          rw [Nat.div_eq_of_lt (by omega), Nat.mod_eq_of_lt (by omega), Nat.zero_add] at r4'
          rw [show 0 + (i - 0) = i by omega]
          exact r4'
        · rw [if_neg (by omega), if_neg (fun z => b z.2)]
          exact r2'
      · rw [key _ _ _ hv1 (fun z => e z.2), r2']
        unfold s_cpI
        rw [if_neg (fun z => e (Nat.div_eq_of_lt (by omega)))]
    · have c := of_decide_eq_true c
      rw [key _ _ _ hv1 (fun z => c z.1)]
      unfold s_cpI
      rw [if_neg (fun z => c (by rw [z.1, hF]))]
      exact r2 F' i hF' hv1
  · rw [key _ _ _ hv1 (fun z => of_decide_eq_true (e_all h2 hF') z.1)]
    exact r3 F' i hF' hv1
  · rw [key _ _ _ hv1 (fun z => of_decide_eq_true (e_all h3 hG) z.1)]
    exact r4 G i hG hv1
  · have es : s_cpI I F0 F1 m f_l_size l = I f_l_size l := if_neg (fun z => h4.2.2.2 z.1.symm)
    rw [es] at hj ⊢
    obtain ⟨q1, q2, q3, q4⟩ := r5 l j hl1 hj
    rw [key _ _ _ q1 (fun z => h4.1 z.1.symm)]
    exact ⟨q1, q2, q3, q4⟩
  · obtain ⟨q1, q2⟩ := r6 r hr
    refine ⟨q1, fun j hj => ⟨(q2 j hj).1, ?_⟩⟩
    rw [key _ _ _ q1 (fun z => h4.2.1 z.1.symm)]
    exact (q2 j hj).2
  · rw [key _ _ _ hk1 (fun z => h4.2.2.1 z.1.symm), key _ _ _ hk1 (fun z => h4.2.2.1 z.1.symm)]
    exact r7 k hk1
/-- ints are copied from row to row, from the start -/
theorem w_copyII {X : e_XT} {d : Nat} {K : e_KT} {pc ix pl t0 t1 F0 F1 W0 W m : Nat} {n : Int32} {ll : e_LL} {rest : List Value} {p : e_Sp} {I : e_I} {J : e_Jt} {c : Nat × Nat} {w : e_Rw1} {Q : e_Rt → e_SS → Prop} (ho31 : K.1 < 31) (hcl : e_cl2 K.1 ix = some (ix, 1001, pl, 0)) (hcat : (rest.map fun v => v.category).sum ≤ 8) (hdg : decode K.2.2.1 pc = .ok (.invokestatic ix, 3)) (hF0 : e_FI F0 = (t0, 0, W0)) (hN0 : F0 < e_NI) (hF : e_FI F1 = (t1, 0, W)) (hN : F1 < e_NI) (hT0 : (e_T t0) = (100, W0)) (hT : (e_T t1) = (100, W)) (hW9 : W < 100000 ∧ W0 < 100000) (hv0 : p.2.1 t0 0 = true) (hv : p.2.1 t1 0 = true) (h1 : ((List.range e_NI).all fun F' => decide (F' = F1) || decide ((e_FI F').1 ≠ t1)) = true) (h2 : ((List.range e_NJ).all fun F' => decide ((e_FJ F').1 ≠ t1)) = true) (h3 : ((List.range e_NG).all fun G => decide ((e_FG G).1 ≠ t1)) = true) (h4 : t1 ≠ T_LARR ∧ t1 ≠ T_PARR ∧ t1 ≠ T_KNOB ∧ F1 ≠ f_l_size) (hm0 : m ≤ W0) (hm : m ≤ W) (hW : 0 < W) (hn : n = nI m) (k : s_w X d K (pc + 3) ll rest (p, s_cpI I F0 F1 m, J, c, w) Q) : s_w X d K pc ll (.int n :: .int 0 :: .ref (p.1 t1 0) :: .int 0 :: .ref (p.1 t0 0) :: rest) (p, I, J, c, w) Q := fun h hs0 => by
  subst hn
  obtain ⟨q1, q2, q3, q4, q5⟩ := hs0.1.1 t1 0 hv
  obtain ⟨u1, u2, u3, u4, u5⟩ := hs0.1.1 t0 0 hv0
  rw [hT, if_neg (show ¬ (W = 1000000000) by omega)] at q5
  rw [hT0, if_neg (show ¬ (W0 = 1000000000) by omega)] at u5
  have hz : (0 : Int32).toNatClampNeg = 0 := rfl
  have hs1 : s_is (p, s_cpI I F0 F1 m, J, c, w) (e_cpyh h (p.1 t0 0) 0 (p.1 t1 0) 0 m) := ⟨hs0.1.cpyI hF0 hN0 hF hN hv0 hv h1 h2 h3 h4 hm0 hm hW, hs0.2.1, fun a o ho9 => by
    obtain ⟨⟨g1, g2, g3, g4⟩, g5⟩ := hs0.2.2 a o ho9
    exact ⟨⟨g1, g2, g3, fun s => by unfold e_cpyh; rw [e_rowset_ne (fun z => g5 t1 0 hv z.symm)]; exact g4 s⟩, g5⟩⟩
  obtain ⟨r, h', S', q, z, j⟩ := k _ hs1
  refine ⟨r, h', S', q, z, e_J.copy (kd := 100) (ci := 0) ho31 hcl hcat hdg u2 q2 (u3.trans (by rw [hT0])) (q3.trans (by rw [hT])) (by decide) (by decide) (nI_pos (by omega)) ?_ ?_ (Or.inl rfl) ?_⟩
  · rw [hz, nI_clamp (by omega), u5]; show 0 + m ≤ W0; omega
  · rw [hz, nI_clamp (by omega), q5]; show 0 + m ≤ W; omega
  · rw [hz, nI_clamp (by omega)]; exact j

