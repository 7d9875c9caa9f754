/-! 9999999999999997f: what the answers are worth -/
/-- what holds at a question -/
def z_Q (p : e_Sp) (I : e_I) (J : e_Jt) (np : Nat) (I' : e_I) (J' : e_Jt) : Prop := (∃ n t s m L, v_Sim p 9 3 np n t s m L (I, J) (I', J') ∧ n ≤ 1000000) ∧ (∃ K, K ≤ 300000000 ∧ z_GI K np (I', J')) ∧ v_Wd 9 I ∧ z_F p I ∧ z_V p I ∧ (0 < np ∧ np ≤ 126)
theorem z_O.q {T e ax : Nat} {p : e_Sp} {I : e_I} {J : e_Jt} {c : Nat × Nat} {w : e_Rw1} (h : z_O T e ax (p, I, J, c, w)) : ∃ np I' J', z_Q p I J np I' J' := by
  obtain ⟨⟨np, hD, hW, -, hnp, n, t, s, m, I', J', hS, ⟨K, hK, hR⟩, hn, -⟩, hF, hV, -⟩ := h
  dsimp only at hD hW hS hF hV
  refine ⟨np, I', J', ⟨n, t, s, m, T, hS, by omega⟩, ⟨K, by omega, hR⟩, hW, hF, hV, ?_, by omega⟩
  have h0 := hS.1.1.1.1
  obtain ⟨lo, dv, c1, -⟩ := h0.2.2 2 (by decide)
  have h1 : np = (if 3 = 0 then 0 else p.2.2.2.2 (3 - 1) + p.2.2.1 T_PARR (3 - 1)) := h0.1.2.2
  rw [if_neg (by decide)] at h1
  have h2 : np = p.2.2.2.2 2 + p.2.2.1 T_PARR 2 := h1
  omega
theorem z_Q.bo {p : e_Sp} {I I' : e_I} {J J' : e_Jt} {np F : Nat} (h : z_Q p I J np I' J') (hF : v_bC.contains F = true) (i : Nat) : I F i = 0 ∨ I F i = 1 := by
  obtain ⟨⟨n, t, s, m, L, hS, hn9⟩, -⟩ := h
  exact hS.2.2.2.2.2.1.1 F hF i
theorem z_01 {x : Int32} (h : x = 0 ∨ x = 1) : (if x = 0 then 0 else 1) = x := by
  rcases h with rfl | rfl <;> rfl
theorem z_Q.wnd {p : e_Sp} {I I' : e_I} {J J' : e_Jt} {np d : Nat} (h : z_Q p I J np I' J') (hd : d < 3) : v_in (I f_a_winds d) 0 100 := by
  obtain ⟨⟨n, t, s, m, L, hS, hn9⟩, ⟨K, -, hR⟩, hW, -, -, h0, -⟩ := h
  have h1 := v_Wd.ask hS hW hd
  rw [v_bwsid hS.1.2.2.1 h0] at h1
  rw [h1, hS.1.2.2.1.2.2.2.2.1.resolve_left (by omega) d hd]
  exact v_qvR hS.1.1.1.1 hR.1 hd
theorem z_Q.pat {p : e_Sp} {I I' : e_I} {J J' : e_Jt} {np r y : Nat} (h : z_Q p I J np I' J') (hr : r < 3) (hy : y < 1000) : ∃ lo, I f_r_lowest r = nI lo ∧ (36 ≤ lo ∧ lo ≤ 44 ∧ 49 ≤ lo + p.2.2.1 T_PARR r ∧ lo + p.2.2.1 T_PARR r ≤ 78) ∧ (s_pat p I 3 (nI r) (nI y) = if lo ≤ y ∧ y < lo + p.2.2.1 T_PARR r then some (p.2.2.2.2 r + (y - lo)) else none) := by
  obtain ⟨lo, dl, rs, pw, h1, h2, h3, h4, h5, -⟩ := h.2.2.2.1.1 r hr
  refine ⟨lo, h1, h5, ?_⟩
  unfold s_pat s_pof
  rw [if_pos ⟨nI_pos' (by omega), (nI_ltI (b := 3) (by omega) (by decide)).mpr hr⟩, nI_clamp (by omega), h1, nI_add]
  by_cases c : lo ≤ y ∧ y < lo + p.2.2.1 T_PARR r
  · rw [if_pos c, if_pos ⟨nI_le c.1 (by omega), (nI_ltI (by omega) (by omega)).mpr c.2⟩, nI_sub c.1, nI_clamp (by omega)]
  · rw [if_neg c, if_neg]
    intro z
    refine c ⟨?_, (nI_ltI (by omega) (by omega)).mp z.2⟩
    apply Decidable.byContradiction
    intro w
    have := (nI_ltI (a := y) (b := lo) (by omega) (by omega)).mpr (by omega)
    exact absurd z.1 (Int32.not_le.mpr this)
theorem z_Q.lt {p : e_Sp} {I I' : e_I} {J J' : e_Jt} {np r i : Nat} (h : z_Q p I J np I' J') (hr : r < 3) (hi : i < p.2.2.1 T_PARR r) : p.2.2.2.2 r + i < np := by
  obtain ⟨⟨n, t, s, m, L, hS, hn9⟩, -⟩ := h
  exact hS.1.1.1.1.lt hr hi
/-- a pitch is near its note's -/
theorem z_Q.pit {p : e_Sp} {I I' : e_I} {J J' : e_Jt} {np q : Nat} (h : z_Q p I J np I' J') (hq : q < np) : ∃ r j lo, r < 3 ∧ j < p.2.2.1 T_PARR r ∧ q = p.2.2.2.2 r + j ∧ I f_r_lowest r = nI lo ∧ (36 ≤ lo ∧ lo ≤ 44 ∧ lo + p.2.2.1 T_PARR r ≤ 78) ∧ v_in (q_pt I' q) (100 * (lo + j) - 60) (100 * (lo + j) + 50) := by
  obtain ⟨⟨n, t, s, m, L, h, hn9⟩, ⟨K, -, hr⟩, hW, hF, -, h0, -⟩ := h
  have hS := h.1.1.1.1
  have hr := hr.1
  dsimp only at hS hr
  obtain ⟨r, j, hr', hj, e, erk⟩ := hS.ex hq
  obtain ⟨lo, dv, c1, c2, hdv, a3, a4, a5, a6, a7, a8, -, -⟩ := hS.2.2 r hr'
  obtain ⟨lo2, dl, rs, pw, h1, h2, h3, h4, h5, -⟩ := hF.1 r hr'
  have elo : lo = lo2 := (nI_eq (by omega) (by omega)).mp (a3.symm.trans h1)
  subst elo
  refine ⟨r, j, lo, hr', hj, e, a3, ⟨by omega, by omega, by omega⟩, ?_⟩
  have hn : q_no I' q = nI (lo + j) := by
    unfold q_no
    rw [erk, a4, a6, e, nI_add, nI_sub (by omega)]
    congr 1; omega
  have hmod : nI (lo + j) - nI (lo + j) / 12 * 12 = nI ((lo + j) % 12) := v_r12 (m := lo + j) (by omega)
  unfold q_pt
  rw [hn, hmod, nI_clamp (by omega), erk, a8, nI_clamp (by omega)]
  have w := h.1.2.2.1.2.2.2.2.1.resolve_left (by omega) dv hdv
  have w2 := v_qvR (nk := 9) hS hr hdv
  dsimp only at w
  rw [← w] at w2
  obtain ⟨-, -, z1, -, z2, -⟩ := h.2.1
  dsimp only at z1 z2
  have t1 : v_in (100 * nI (lo + j)) (100 * (lo + j)) (100 * (lo + j)) := by
    rw [show (100 : Int32) = nI 100 from by decide, v_nmul]
    exact (v_in.nI (n := 100 * (lo + j)) (by omega)).mono (by omega) (by omega)
  have t2 : I' f_m_temper ((lo + j) % 12) = 0 := by
    rw [← z2 _ (Nat.mod_lt _ (by decide))]
    exact hF.2.2.2.2.1 _ (Nat.mod_lt _ (by decide))
  have t3 := hr.1 q hq
  have t4 : I' f_m_heat 0 = 0 := by rw [← z1]; exact hF.2.2.2.2.2
  have t5 : I' f_m_heat 0 * I' f_mr_heat r / 10 = 0 := by
    rw [t4, Int32.zero_mul]; rfl
  have t6 := v_in.div (v_in.sub (x := 100) (a := 100) (b := 100) ⟨by decide, by decide⟩ w2 (by omega) (by omega)) (k := 10) (m := 10) rfl (by omega) (by omega) (by omega)
  rw [t2, t5, Int32.add_zero, Int32.add_zero]
  have t7 : v_in ((100 - I' f_m_winds dv) / 10) 0 10 := by
    have w3 := v_in.sub (x := 100) (a := 100) (b := 100) ⟨by decide, by decide⟩ w2 (by omega) (by omega)
    have w4 : ∀ x : Int32, v_in x 0 100 → v_in (x / 10) 0 10 := fun x hx => by
      unfold v_in at *
      rw [Int32.toInt_div_of_ne_right _ _ (by decide), show (10 : Int32).toInt = 10 from rfl, Int.tdiv_eq_ediv_of_nonneg hx.1]
      omega
    exact w4 _ (w3.mono (by omega) (by omega))
  exact ((t1.add t3 (by omega) (by omega)).sub t7 (by omega) (by omega)).mono (by omega) (by omega)
theorem z_Q.pt {p : e_Sp} {I I' : e_I} {J J' : e_Jt} {np j : Nat} {x y : Int32} (h : z_Q p I J np I' J') (hj : s_pat p I 3 x y = some j) : s_pit p I 3 x y = q_pt I' j ∧ s_ral p I 9 3 x y = s_ar I j ∧ j < np := by
  have h9 := h
  obtain ⟨⟨n, t, s, m, L, hS, hn9⟩, -⟩ := h
  obtain ⟨h1, h2⟩ := (v_patS hS.1.1.1.1).mp hj
  have e1 := v_pit hS h1
  have e2 := v_ral hS h1
  rw [h2] at e1 e2
  refine ⟨e1, e2, ?_⟩
  unfold s_pat s_pof at hj
  split at hj
  · rename_i hx
    obtain ⟨r, hr, rfl⟩ := s_nat hx.1 (show x < nI 3 from hx.2) (by decide)
    split at hj
    · rename_i hy
      obtain ⟨lo, dl, rs, pw, k1, k2, k3, k4, k5, -⟩ := h9.2.2.2.1.1 r hr
      rw [nI_clamp (by omega), k1, nI_add] at hy
      rw [nI_clamp (by omega), k1] at hj
      have hy0 : 0 ≤ y := Int32.le_trans (nI_pos' (by omega)) hy.1
      obtain ⟨y1, hy1, rfl⟩ := s_nat hy0 hy.2 (by omega)
      have hlo : lo ≤ y1 := by
        apply Decidable.byContradiction
        intro w
        exact absurd hy.1 (Int32.not_le.mpr ((nI_ltI (by omega) (by omega)).mpr (by omega)))
      rw [nI_sub hlo, nI_clamp (by omega)] at hj
      rw [← Option.some.inj hj]
      exact h9.lt hr (by omega)
    · cases hj
  · cases hj
theorem z_Q.rs {p : e_Sp} {I I' : e_I} {J J' : e_Jt} {np j : Nat} (h : z_Q p I J np I' J') (hj : j < np) : ∃ k, k ≤ 2000000 ∧ s_ar I j = nI k ∧ I' f_m_counts j = nI k := by
  obtain ⟨⟨n, t, s, m, L, hS, hn9⟩, -⟩ := h
  have h1 := v_ar hS hj
  have h2 := hS.1.2.2.1.2.1 j hj
  have h3 := hS.2.1.2.1 j hj
  dsimp only at h1 h2 h3
  obtain ⟨k, hk, e⟩ := v_cn (nr := 3) (q := j) hS.1.1.1.2.1
  dsimp only at e
  refine ⟨k, hk, ?_, h2.trans e⟩
  rw [h1]
  unfold q_ro
  rw [h3, h2, e]
  exact Int32.add_zero _
theorem z_Q.sp {p : e_Sp} {I I' : e_I} {J J' : e_Jt} {np j : Nat} (h : z_Q p I J np I' J') (hj : j < np) : I f_p_isSpeaking j = I' f_m_speaks j ∧ I f_p_begins j = I' f_m_begun j := by
  obtain ⟨⟨n, t, s, m, L, hS, hn9⟩, -⟩ := h
  have h1 := hS.1.1.2.2.2.1 j hj
  exact ⟨h1.1.1, h1.2.1⟩
theorem z_Q.en {p : e_Sp} {I I' : e_I} {J J' : e_Jt} {np : Nat} (h : z_Q p I J np I' J') : J j_allEnds 0 = J' j_m_ended 0 ∧ I f_speakers 0 = v_S np (fun q => I' f_m_speaks q) := by
  obtain ⟨⟨n, t, s, m, L, hS, hn9⟩, -⟩ := h
  exact ⟨hS.1.1.2.2.2.2.2, hS.1.2.1.2.1⟩
theorem z_Q.tr {p : e_Sp} {I I' : e_I} {J J' : e_Jt} {np : Nat} (h : z_Q p I J np I' J') : s_con p I 9 3 = true := by
  obtain ⟨⟨n, t, s, m, L, hS, hn9⟩, -⟩ := h
  exact v_true hS
theorem z_Q.aps {p : e_Sp} {I I' : e_I} {J J' : e_Jt} {np : Nat} (h : z_Q p I J np I' J') : s_aps p 3 = nI np := by
  obtain ⟨⟨n, t, s, m, L, hS, hn9⟩, -⟩ := h
  exact v_aps hS.1.1.1.1
theorem z_Q.pts {p : e_Sp} {I I' : e_I} {J J' : e_Jt} {np : Nat} (h : z_Q p I J np I' J') : s_pts p I 3 = v_S np (fun q => if I' f_m_speaks q = 0 then 0 else q_pt I' q) := by
  obtain ⟨⟨n, t, s, m, L, hS, hn9⟩, -⟩ := h
  exact v_pts hS
theorem z_Q.loud {p : e_Sp} {I I' : e_I} {J J' : e_Jt} {np : Nat} (h : z_Q p I J np I' J') : ∃ k, k ≤ 20000 ∧ s_als p I 3 = nI k := by
  obtain ⟨⟨n, t, s, m, L, h, hn9⟩, -, -, hF, -, -, h126⟩ := h
  have e := v_loud h
  dsimp only at e
  rw [e]
  have hS := h.1.1.1.1
  dsimp only at hS
  have key : ∀ q, q < np → ∃ k, k ≤ 90 ∧ (if I' f_m_speaks q ≠ 0 then I' f_mr_power (q_rk I' q) * I' f_m_box (I' f_mr_division (q_rk I' q)).toNatClampNeg / 10 else 0) = nI k := fun q hq => by
    split
    · obtain ⟨r, j, hr', hj, e, erk⟩ := hS.ex hq
      obtain ⟨lo, dv, c1, c2, hdv, a3, a4, a5, a6, a7, a8, ⟨-, -, -, a9, -⟩, -⟩ := hS.2.2 r hr'
      obtain ⟨lo2, dl, rs, pw, h1, h2, h3, h4, h5, -, -, h6⟩ := hF.1 r hr'
      obtain ⟨o, ho, eo⟩ := hF.2.2.2.1 dv hdv
      have eb := h.2.1.2.2.2.1 dv hdv
      dsimp only at eb
      rw [erk, ← a9, h4, a8, nI_clamp (by omega), ← eb, eo, v_nmul]
      have hpo : pw * o ≤ 90 * 10 := Nat.mul_le_mul h6 ho
      refine ⟨pw * o / 10, by omega, ?_⟩
      rw [show (10 : Int32) = nI 10 from by decide]
      unfold nI
      rw [← Int32.ofNat_div (by omega) (by omega)]
    · exact ⟨0, by omega, rfl⟩
  have go : ∀ n, n ≤ np → ∃ k, k ≤ 90 * n ∧ s_run (q_ld I') 0 n 0 = nI k := by
    intro n
    induction n with
    | zero => intro _; exact ⟨0, by omega, rfl⟩
    | succ n ih =>
      intro hn
      obtain ⟨k, hk, ek⟩ := ih (by omega)
      obtain ⟨k2, hk2, ek2⟩ := key n (by omega)
      rw [s_run_l, Nat.zero_add, ek]
      unfold q_ld
      rw [ek2, nI_add]
      exact ⟨k + k2, by omega, rfl⟩
  obtain ⟨k, hk, ek⟩ := go np (Nat.le_refl _)
  exact ⟨k, by omega, ek⟩
theorem z_ti9 {I : e_I} : ∀ k u v, ∃ x, x + 2 ≤ 2 * 2 ^ k ∧ q_ti9 I k u v = nI x := by
  intro k
  induction k with
  | zero => intro u v; exact ⟨0, by omega, rfl⟩
  | succ k ih =>
    intro u v
    obtain ⟨x1, h1, e1⟩ := ih u (u + (v - u) / 2)
    obtain ⟨x2, h2, e2⟩ := ih (u + (v - u) / 2 + 1) v
    have h3 : 2 ^ (k + 1) = 2 ^ k + 2 ^ k := by rw [Nat.pow_succ]; omega
    have h4 : 1 ≤ 2 ^ k := Nat.one_le_two_pow
    unfold q_ti9
    rw [e1, e2]
    split
    · exact ⟨0, by omega, rfl⟩
    · have g1 : ∃ a, a ≤ 2 + x1 ∧ (if q_hf I u (u + (v - u) / 2) = true then 2 + nI x1 else 1) = nI a := by
        split
        · refine ⟨2 + x1, Nat.le_refl _, ?_⟩
          rw [show (2 : Int32) = nI 2 from by decide, nI_add]
        · exact ⟨1, by omega, rfl⟩
      have g2 : ∃ a, a ≤ x2 ∧ (if q_hf I (u + (v - u) / 2 + 1) v = true then nI x2 else 0) = nI a := by
        split
        · exact ⟨x2, Nat.le_refl _, rfl⟩
        · exact ⟨0, by omega, rfl⟩
      obtain ⟨a, ha, ea⟩ := g1
      obtain ⟨b, hb, eb⟩ := g2
      rw [ea, eb, nI_add]
      exact ⟨a + b, by omega, rfl⟩
theorem z_Q.hunt {p : e_Sp} {I I' : e_I} {J J' : e_Jt} {np r : Nat} (h : z_Q p I J np I' J') (hr : r < 3) : 1 ≤ s_tri p I r := by
  obtain ⟨⟨n, t, s, m, L, h, hn9⟩, -⟩ := h
  have hS := h.1.1.1.1
  obtain ⟨lo, dv, c1, -⟩ := hS.2.2 r hr
  obtain ⟨m9, hm9⟩ : ∃ m9, m9 + 1 = p.2.2.1 T_PARR r := ⟨p.2.2.1 T_PARR r - 1, by omega⟩
  have e := v_hunt hS (fun q hq => (h.1.1.2.2.1.1 q hq).2.2.2.2.2) hr hm9
  dsimp only at e
  rw [e]
  unfold q_hu
  obtain ⟨x, hx, ex⟩ := z_ti9 (I := I') 7 (p.2.2.2.2 r) (p.2.2.2.2 r + m9)
  rw [ex]
  split
  · rw [show (1 : Int32) = nI 1 from by decide, nI_add]
    exact nI_le (by omega) (by omega)
  · decide
theorem z_Q.flt {p : e_Sp} {I I' : e_I} {J J' : e_Jt} {np r y : Nat} {j : Nat} (h : z_Q p I J np I' J') (hr : r < 3) (hy : y < 1000) (hj : s_pat p I 3 (nI r) (nI y) = some j) : 0 < I f_p_fault j := by
  obtain ⟨lo, h1, h2, h3⟩ := h.pat hr hy
  rw [hj] at h3
  split at h3
  · rename_i c
    rw [Option.some.inj h3]
    rcases h.2.2.2.2.1.1 r hr (y - lo) (by omega) with e | e | e <;> rw [e] <;> decide
  · cases h3
theorem z_Q.tun {p : e_Sp} {I I' : e_I} {J J' : e_Jt} {np j : Nat} (h : z_Q p I J np I' J') (hj : j < np) : v_in (I f_p_tuning j) (-50) 50 := by
  obtain ⟨⟨n, t, s, m, L, hS, hn9⟩, ⟨K, -, hR⟩, -⟩ := h
  have e := hS.2.1.1 j hj
  dsimp only at e
  rw [e]
  exact hR.1.1 j hj
theorem z_Q.sup {p : e_Sp} {I I' : e_I} {J J' : e_Jt} {np d : Nat} (h : z_Q p I J np I' J') (hd : d < 3) : v_in (I f_a_supplies d) 0 999 := by
  obtain ⟨⟨n, t, s, m, L, hS, hn9⟩, ⟨K, -, hR⟩, -⟩ := h
  have e := hS.1.1.2.2.1.2.2.2 d hd
  dsimp only at e
  rw [e]
  exact hR.1.2.2.2.2 d hd
theorem z_Q.rly {p : e_Sp} {I I' : e_I} {J J' : e_Jt} {np k : Nat} (h : z_Q p I J np I' J') (hk : k < 9) : -1 ≤ I f_k_relay k := by
  obtain ⟨⟨n, t, s, m, L, hS, hn9⟩, -⟩ := h
  obtain ⟨-, -, e, -⟩ := hS.1.1.1.2.1.2 k hk
  dsimp only at e
  rcases e with e | ⟨r, hr, e⟩
  · rw [e]; decide
  · rw [e]
    exact Int32.le_trans (show (-1 : Int32) ≤ 0 by decide) (nI_pos' (by omega))
theorem z_Q.rvk {p : e_Sp} {I I' : e_I} {J J' : e_Jt} {np r : Nat} (h : z_Q p I J np I' J') (hr : r < 4) : -1 ≤ s_rvk I (nI r) := by
  obtain ⟨⟨n, t, s, m, L, hS, hn9⟩, -⟩ := h
  obtain ⟨e1, e2, -⟩ := v_rvk hS hr
  dsimp only at e1 e2
  rw [e1]
  rcases e2 with e | ⟨k, hk, e⟩
  · rw [e]; decide
  · rw [e]
    exact Int32.le_trans (show (-1 : Int32) ≤ 0 by decide) (nI_pos' (by omega))
theorem z_Q.rec {p : e_Sp} {I I' : e_I} {J J' : e_Jt} {np : Nat} (h : z_Q p I J np I' J') : 0 < I f_recording 0 := by
  obtain ⟨⟨n, t, s, m, L, hS, hn9⟩, -⟩ := h
  have e := hS.1.1.2.2.1.2.2.1
  dsimp only at e
  rw [e]
  rcases hS.2.2.2.1.1 with k | ⟨k | k, -⟩ <;> dsimp only at k <;> rw [k] <;> decide
theorem z_Q.red {p : e_Sp} {I I' : e_I} {J J' : e_Jt} {np : Nat} (h : z_Q p I J np I' J') : 0 ≤ I f_tsize 0 := by
  obtain ⟨⟨n, t, s, m, L, hS, hn9⟩, -⟩ := h
  have e := hS.1.1.2.2.1.2.1
  have e1 := e.1.1
  dsimp only at e1
  rw [e1]
  have h2 := e.2.1
  exact nI_pos' (by omega)
theorem z_Q.so {p : e_Sp} {I I' : e_I} {J J' : e_Jt} {np k : Nat} (h : z_Q p I J np I' J') (hk : 3 ≤ k ∧ k < 6) : (if I f_k_isOut k = 0 then 0 else 1) ≤ (if bI (s_so I k) = 0 then 0 else (1 : Int32)) := by
  have e := (h.2.2.2.1.2.1 k (by omega)).mpr hk
  by_cases c : I f_k_isOut k = 0
  · rw [if_pos c]
    split <;> decide
  · rw [if_neg c]
    have : s_so I k = true := by
      unfold s_so s_dr
      rw [e, decide_eq_true c]
      simp
    rw [this]
    decide
