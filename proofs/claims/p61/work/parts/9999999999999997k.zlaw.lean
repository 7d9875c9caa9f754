/-! 9999999999999997k: the law's own steps -/
theorem l_callH {X : e_XT} {d pc ix mi pl ax : Nat} {K : e_KT} {row : e_MT} {As rest : List Value} {ll : e_LL} {S : e_SS} {Q : e_Rt → e_SS → Prop} (hd : decode K.2.2.1 pc = .ok (.invokevirtual ix, 3)) (hcl : e_cl2 K.1 ix = some (ix, mi, pl, 0)) (hrow : e_M[mi]? = some row) (hmi : mi < 1000) (hst : row.2.1.2 = false) (hn : As.length = row.2.1.1) (hni : row.1.1.name ≠ "<init>") (h15 : row.1.2 = 15) (hcat : (rest.map fun v => v.category).sum ≤ 8) (hf : S.1.1 T_HALL 0 = ax ∧ S.1.2.1 T_HALL 0 = true) (hc : s_c X d mi (.ref ax :: As) S (fun r S' => s_aft X (d + 1) K pc ll rest Q r S')) : s_w X (d + 1) K pc ll (As.reverse ++ .ref ax :: rest) S Q := by
  obtain ⟨e, hv⟩ := hf
  subst e
  exact w_callV (K := K) (t := T_HALL) (j := 0) hd hcl hrow hmi hst hn hni (by rw [h15]; decide) hcat (by rw [h15]; rfl) hv hc (fun _ _ h => h)
theorem z_O.hf {T e ax : Nat} {S : e_SS} (h : z_O T e ax S) : S.1.1 T_HALL 0 = ax ∧ S.1.2.1 T_HALL 0 = true := ⟨h.ax, h.ok.1 _ rfl⟩
theorem z_O.to {T T' e ax : Nat} {S : e_SS} (h : z_O T e ax S) (he : e ≤ 400) (hT : T < T') (hT2 : T' ≤ 500) : z_O T' 0 ax S := by
  obtain ⟨⟨np, hD, hW, ⟨a, b, hTp, ha, hb⟩, hnp, n, t, s, m, I', J', hS, ⟨K, hK, hR⟩, hn, hm⟩, hr⟩ := h
  exact ⟨⟨np, hD, hW, ⟨a, b, hTp, by omega, by omega⟩, ⟨by omega, hnp.2⟩, n, t, s, m, I', J', hS.L (by omega), ⟨K, by omega, hR⟩, by omega, by omega⟩, hr⟩
theorem z_O.bo {T e ax F : Nat} {p : e_Sp} {I : e_I} {J : e_Jt} {c : Nat × Nat} {w : e_Rw1} (h : z_O T e ax (p, I, J, c, w)) (hF : v_bC.contains F = true) (i : Nat) : I F i = 0 ∨ I F i = 1 := by
  obtain ⟨np, I', J', hQ⟩ := h.q
  exact hQ.bo hF i
theorem z_i01 {c : Prop} [Decidable c] : ¬ (if c then 0 else 1 : Int32) < 0 := by
  split <;> decide
theorem z_neg {n : Nat} (h : n < 2 ^ 31) {x : Int32} (hx : x < 0) : ¬ nI n = x := fun z => nI_pos h (by rw [z]; exact hx)
theorem z_rem {m n : Nat} (hm : m < 2 ^ 31) (hn : n < 2 ^ 31) : nI m - nI m / nI n * nI n = nI (m % n) := by
  have e : nI m / nI n = nI (m / n) := (Int32.ofNat_div hm hn).symm
  rw [e, v_nmul, nI_sub (Nat.div_mul_le_self m n)]
  congr 1
  have := Nat.div_add_mod m n
  rw [Nat.mul_comm] at this
  omega
theorem z_stlF {p : e_Sp} {A : e_I} {J : e_Jt} {F : Nat} (h : s_tST.contains F = false) : (s_stl p 9 3 (A, J)).1 F = A F := s_eqN.stl (a := (A, J)) F h
theorem z_c0 : ∀ y, y < 4 → z_ch 0 y = 38 ∨ z_ch 0 y = 124 ∨ z_ch 0 y = 94 ∨ z_ch 0 y = 33 := by decide
theorem z_c1 : ∀ y, y < 3 → z_ch 1 y = 53 ∨ z_ch 1 y = 54 ∨ z_ch 1 y = 52 ∨ z_ch 1 y = 55 := by decide
theorem z_c2 : ∀ y, y < 3 → z_ch 2 y = 107 ∨ z_ch 2 y = 114 ∨ z_ch 2 y = 45 := by decide
theorem z_c3 : ∀ y, y < 3 → z_ch 3 y = 99 ∨ z_ch 3 y = 100 ∨ z_ch 3 y = 45 := by decide
theorem z_is2 {a : Nat} (ha : a < 30) (y : Int32) : s_iss (nI (200 + a)) y = true := by
  have key : ∀ a, a < 30 → ¬ (400 : Int32) ≤ nI (200 + a) ∧ (decide (0 ≤ nI (200 + a)) && (decide (nI (200 + a) < 100) || !decide (s_idx (nI (200 + a) / 100 - 1) (nI (200 + a) - nI (200 + a) / 100 * 100) < 0))) = true := by decide
  unfold s_iss
  rw [if_neg (key a ha).1]
  exact (key a ha).2
theorem z_is3 {b : Nat} (hb : b < 3) (y : Int32) : s_iss (nI (3 + b)) y = true := by
  have key : ∀ a, a < 3 → ¬ (400 : Int32) ≤ nI (3 + a) ∧ (decide (0 ≤ nI (3 + a)) && (decide (nI (3 + a) < 100) || !decide (s_idx (nI (3 + a) / 100 - 1) (nI (3 + a) - nI (3 + a) / 100 * 100) < 0))) = true := by decide
  unfold s_iss
  rw [if_neg (key b hb).1]
  exact (key b hb).2
theorem z_dr {a : Nat} (ha : a < 5) : nI a - 1 = -1 ∨ ∃ r, r < 16 ∧ nI a - 1 = nI r := by
  have key : ∀ a, a < 5 → nI a - 1 = -1 ∨ nI a - 1 = nI (a - 1) := by decide
  rcases key a ha with h | h
  · exact .inl h
  · exact .inr ⟨a - 1, by omega, h⟩
theorem z_tn : ∀ a, a < 30 → -50 ≤ nI a - nI 15 ∧ nI a - nI 15 ≤ 50 := by decide
theorem z_Q.lvl {p : e_Sp} {I I' : e_I} {J J' : e_Jt} {np : Nat} (h : z_Q p I J np I' J') : ∃ v, v < 4 ∧ I f_level 0 = nI v := by
  obtain ⟨⟨n, t, s, m, L, hS, -⟩, -⟩ := h
  obtain ⟨-, ⟨v, hv, e, -⟩, -⟩ := hS.2.2.1
  exact ⟨v, hv, e⟩
theorem z_Q.z4 {p : e_Sp} {I I' : e_I} {J J' : e_Jt} {np : Nat} (h : z_Q p I J np I' J') : v_Z4 I I' := by
  obtain ⟨⟨n, t, s, m, L, hS, -⟩, -⟩ := h
  exact hS.2.2.2.2.1
theorem z_Q.len {p : e_Sp} {I I' : e_I} {J J' : e_Jt} {np r : Nat} (h : z_Q p I J np I' J') (hr : r < 3) : 1 ≤ p.2.2.1 T_PARR r := by
  obtain ⟨⟨n, t, s, m, L, hS, -⟩, -⟩ := h
  obtain ⟨lo, dv, c1, -⟩ := hS.1.1.1.1.2.2 r hr
  exact c1
theorem z_Q.at {p : e_Sp} {I I' : e_I} {J J' : e_Jt} {np r y : Nat} (h : z_Q p I J np I' J') (hr : r < 3) (hy : 44 ≤ y ∧ y < 49) : ∃ j, s_pat p I 3 (nI r) (nI y) = some j := by
  obtain ⟨lo, h1, h2, h3⟩ := h.pat hr (y := y) (by omega)
  rw [if_pos ⟨by omega, by omega⟩] at h3
  exact ⟨_, h3⟩
theorem z_Q.cre {p : e_Sp} {I I' : e_I} {J J' : e_Jt} {np : Nat} (h : z_Q p I J np I' J') : ¬ I f_crescendo 0 < 0 := by
  obtain ⟨c, hc, e⟩ := h.2.2.2.2.1.2.1
  rw [e]
  exact nI_pos (by omega)
theorem z_Q.stg {p : e_Sp} {I I' : e_I} {J J' : e_Jt} {np k : Nat} (h : z_Q p I J np I' J') (hk : k < 9) : ¬ I f_s_stage k < 0 := by
  obtain ⟨c, hc, e⟩ := h.2.2.2.2.1.2.2 k hk
  rw [e]
  exact nI_pos (by omega)
theorem z_rvkrv {I : e_I} {r j : Nat} (hr : r < 4) : s_rvk (s_krv I (nI r) (nI j)) (nI r) = nI j := by
  have e : s_krv I (nI r) (nI j) = s_up I f_a_reversibles (I f_level 0 * 4 + nI r).toNatClampNeg (nI j) := if_pos (h_kj hr (by decide))
  have e3 : s_krv I (nI r) (nI j) f_level 0 = I f_level 0 := by rw [z_krv (I := I) (x := nI r) (y := nI j) f_level (by decide)]
  unfold s_rvk
  rw [if_pos (show 0 ≤ nI r ∧ nI r < 4 from h_kj (nk := 4) hr (by decide)), e3, e, s_up_s]
theorem z_lfd {p : e_Sp} {I : e_I} {J : e_Jt} : ∀ i, i < 183 → ¬ (32 ≤ i ∧ i < 61) → (s_stl p 9 3 ((s_rla I).1, J)).1 f_a_pressed i = 0 := fun i h1 h2 => by
  rw [z_stlF (by decide), (z_rla (I := I)).1 i, if_pos ⟨h1, h2⟩]
theorem z_dnv {A : e_I} {d n : Nat} (hd : d < 3) (hn : n < 61) (h0 : d = 0 → n < 32) : (if bI (s_dn A (nI d) (nI n)) = 0 then (0 : Int32) else 1) = if A f_a_pressed (d * 61 + n) = 0 then 0 else 1 := by
  obtain ⟨h1, h2⟩ := z_isk hd hn h0
  rw [z_dn h1, h2]
  by_cases c : A f_a_pressed (d * 61 + n) = 0
  · rw [decide_eq_false (not_not_intro c), if_pos c]; rfl
  · rw [decide_eq_true c, if_neg c]; rfl
theorem z_all_c {A B : e_I} (h : A f_a_pressed = B f_a_pressed) : z_all A = z_all B := by
  unfold z_all
  rw [z_ct_c (I := B) (I' := A) 32 (fun i _ => by rw [h]), z_ct_c (I := B) (I' := A) 61 (fun i _ => by rw [h]), z_ct_c (I := B) (I' := A) (d := 2) 61 (fun i _ => by rw [h])]
/-- two pitches near their notes -/
theorem z_tto {p : e_Sp} {I I' : e_I} {J J' : e_Jt} {np r q j i : Nat} (h : z_Q p I J np I' J') (hr : r < 3) (hq : q < 3) (hj : s_pat p I 3 (nI r) (nI 45) = some j) (hi : s_pat p I 3 (nI q) (nI 46) = some i) : v_in (s_pit p I 3 (nI r) (nI 45) - s_pit p I 3 (nI q) (nI 46)) (-300) 300 := by
  have key : ∀ r y j, r < 3 → y < 1000 → s_pat p I 3 (nI r) (nI y) = some j → v_in (s_pit p I 3 (nI r) (nI y)) (100 * (y : Int) - 60) (100 * (y : Int) + 50) := by
    intro r y j hr hy hj
    obtain ⟨e1, -, e3⟩ := h.pt hj
    obtain ⟨lo, h1, h2, h3⟩ := h.pat hr hy
    rw [hj] at h3
    split at h3
    · rename_i c
      have ej := Option.some.inj h3
      obtain ⟨r2, j2, lo2, hr2, hj2, e2, el2, hlo2, hin⟩ := h.pit e3
      have hS : ∃ I9 I9', v_Sh p I9 I9' 3 np := by
        obtain ⟨⟨n, t, s, m, L, hS, -⟩, -⟩ := h
        exact ⟨_, _, hS.1.1.1.1⟩
      obtain ⟨I9, I9', hS⟩ := hS
      have er : r2 = r := by
        have a1 := hS.rk hr2 hj2
        have a2 := hS.rk hr (show y - lo < p.2.2.1 T_PARR r by omega)
        rw [← e2] at a1
        rw [← ej] at a2
        exact a1.symm.trans a2
      subst er
      have elo : lo2 = lo := (nI_eq (by omega) (by omega)).mp (el2.symm.trans h1)
      subst elo
      rw [e1]
      exact hin.mono (by omega) (by omega)
    · cases h3
  have k1 := key r 45 j hr (by decide) hj
  have k2 := key q 46 i hq (by decide) hi
  exact (k1.sub k2 (by omega) (by omega)).mono (by omega) (by omega)
