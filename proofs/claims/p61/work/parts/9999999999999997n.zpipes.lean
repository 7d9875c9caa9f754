/-! 9999999999999997n: the law's questions (printed by wip/p61/mkm.py) -/
theorem e_J.fconst1 {X : e_XT} {d : Nat} {K : e_KT} {pc : Nat} {ll : e_LL} {rest : List Value} {h h' : e_Hp} {r : e_Rt} (hdg : decode K.2.2.1 pc = .ok (.fconst 1, 1)) (k : e_J X d K (pc + 1) ll (.float FP.fconst1 :: rest) h r h') : e_J X d K pc ll rest h r h' := by
  intro hw w
  obtain ⟨g, kk⟩ := k hw (w.cons e_okv.float)
  refine ⟨g, fun p l e R s m args below meth c H locs cells slots Q ad ls D cA ex A C hf hl hex hP hD hS hL hc hs hfin => ?_⟩
  have k9 := kk p l e R s m args below meth c H locs cells slots Q ad ls D cA ex A C hf hl hex hP hD hS hL hc hs hfin
  rw [List.map_cons] at k9
  exact lv_fconst1 C.1.1 C.1.2.1 hdg k9
theorem w_fconst1 {X : e_XT} {d : Nat} {K : e_KT} {pc : Nat} {ll : e_LL} {rest : List Value} {S : e_SS} {Q : e_Rt → e_SS → Prop} (hdg : decode K.2.2.1 pc = .ok (.fconst 1, 1)) (k : s_w X d K (pc + 1) ll (.float FP.fconst1 :: rest) S Q) : s_w X d K pc ll rest S Q := fun h hs => by
  obtain ⟨r, h', S', q, z, c⟩ := k h hs
  exact ⟨r, h', S', q, z, e_J.fconst1 hdg c⟩
theorem z_100 {x : Int32} (h : v_in x 0 100) : ¬ x < 0 ∧ ¬ x > 100 := by
  have h1 : (0 : Int32) ≤ x := Int32.le_iff_toInt_le.mpr h.1
  have h2 : x ≤ 100 := Int32.le_iff_toInt_le.mpr h.2
  exact ⟨Int32.not_lt.mpr h1, Int32.not_lt.mpr h2⟩
theorem z_128 {x : Int32} (h : v_in x (-128) 128) : ¬ s_abs x > 128 := by
  have h1 : -128 ≤ x := Int32.le_iff_toInt_le.mpr h.1
  have h2 : x ≤ 128 := Int32.le_iff_toInt_le.mpr h.2
  unfold s_abs
  grind
/-- how many pipes lie before a note -/
def z_N (bs lo len y : Nat) : Nat := bs + min (y - lo) len
theorem z_Ni {bs lo len y : Nat} (h : lo ≤ y ∧ y < lo + len) : z_N bs lo len y = bs + (y - lo) ∧ z_N bs lo len (y + 1) = bs + (y - lo) + 1 := by
  unfold z_N
  omega
theorem z_No {bs lo len y : Nat} (h : ¬ (lo ≤ y ∧ y < lo + len)) : z_N bs lo len (y + 1) = z_N bs lo len y := by
  unfold z_N
  omega
/-- a pitch at its note -/
theorem z_Q.p128 {p : e_Sp} {I I' : e_I} {J J' : e_Jt} {np r y j : Nat} (h : z_Q p I J np I' J') (hr : r < 3) (hy : y < 1000) (hj : s_pat p I 3 (nI r) (nI y) = some j) : v_in (s_pit p I 3 (nI r) (nI y) - nI 100 * nI y) (-128) 128 := by
  obtain ⟨e1, -, e3⟩ := h.pt hj
  obtain ⟨lo, h1, h2, h3⟩ := h.pat hr hy
  rw [hj] at h3
  split at h3
  · rename_i c
    have ej := Option.some.inj h3
    obtain ⟨r2, j2, lo2, hr2, hj2, e2, el2, hlo2, hin⟩ := h.pit e3
    have hS : ∃ I9 I9', v_Sh p I9 I9' 3 np := by
      obtain ⟨⟨n, t, s, m, L, hS, -⟩, -⟩ := h
      exact ⟨_, _, hS.1.1.1.1⟩
    obtain ⟨I9, I9', hS⟩ := hS
    have er : r2 = r := by
      have a1 := hS.rk hr2 hj2
      have a2 := hS.rk hr (show y - lo < p.2.2.1 T_PARR r by omega)
      rw [← e2] at a1
      rw [← ej] at a2
      exact a1.symm.trans a2
    subst er
    have elo : lo2 = lo := (nI_eq (by omega) (by omega)).mp (el2.symm.trans h1)
    subst elo
    rw [e1, v_nmul]
    exact (hin.sub (v_in.nI (n := 100 * y) (by omega)) (by omega) (by omega)).mono (by omega) (by omega)
  · cases h3

set_option maxRecDepth 100000 in
set_option maxHeartbeats 400000 in
theorem ap_w {X : e_XT} {d T e ax : Nat} {p : e_Sp} {I : e_I} {J : e_Jt} {c : Nat × Nat} {w : e_Rw1} {Q : e_Rt → e_SS → Prop} {d9 : Nat} {x6 x7 : Option Value} (h : z_O T e ax (p, I, J, c, w)) (hd : d9 < 3) (k : s_w X (d + 12) K_L_arePipes 9 [some (.ref ax), some (.int 1), some (.int 0), some (.long 0), none, some (.int (nI (d9 + 1))), x6, x7] [] (p, I, J, c, w) Q) : s_w X (d + 12) K_L_arePipes 9 [some (.ref ax), some (.int 1), some (.int 0), some (.long 0), none, some (.int (nI d9)), x6, x7] [] (p, I, J, c, w) Q := by
  obtain ⟨np, I', J', hQ⟩ := h.q
  refine w_op (K := K_L_arePipes) (pc' := 11) (ll' := [some (.ref ax), some (.int 1), some (.int 0), some (.long 0), none, some (.int (nI d9)), x6, x7]) (st' := [.int (nI d9)]) dL_arePipes_9 rfl ?_
  refine w_iconst (K := K_L_arePipes) (v := (nI 3)) dL_arePipes_11 rfl ?_
  refine w_icmpge (K := K_L_arePipes) (t := 49) dL_arePipes_12 (by decide) (fun c12 => ?_) (fun c12 => ?_)
  · exact absurd ((nI_ltI (by omega) (by decide)).mpr hd) (Int32.not_lt.mpr c12)
  · refine w_op (K := K_L_arePipes) (pc' := 16) (ll' := [some (.ref ax), some (.int 1), some (.int 0), some (.long 0), none, some (.int (nI d9)), x6, x7]) (st' := [.int 1]) dL_arePipes_15 rfl ?_
    refine w_op (K := K_L_arePipes) (pc' := 17) (ll' := [some (.ref ax), some (.int 1), some (.int 0), some (.long 0), none, some (.int (nI d9)), x6, x7]) (st' := [.ref ax, .int 1]) dL_arePipes_16 rfl ?_
    refine w_op (K := K_L_arePipes) (pc' := 19) (ll' := [some (.ref ax), some (.int 1), some (.int 0), some (.long 0), none, some (.int (nI d9)), x6, x7]) (st' := [.int (nI d9), .ref ax, .int 1]) dL_arePipes_17 rfl ?_
    refine t_callS (K := K_L_arePipes) (As := [.ref ax, .int (nI d9)]) (rest := [.int 1]) dL_arePipes_19 rfl rM_L_wind (by decide) rfl rfl (by decide) (Nat.le_of_ble_eq_true rfl) (q_wind_ h hd ?_)
    show s_w _ _ _ 22 _ _ _ _
    refine w_iflt (K := K_L_arePipes) (t := 40) dL_arePipes_22 (by decide) (fun c22 => ?_) (fun c22 => ?_)
    · exact absurd c22 (z_100 (hQ.wnd hd)).1
    · refine w_op (K := K_L_arePipes) (pc' := 26) (ll' := [some (.ref ax), some (.int 1), some (.int 0), some (.long 0), none, some (.int (nI d9)), x6, x7]) (st' := [.ref ax, .int 1]) dL_arePipes_25 rfl ?_
      refine w_op (K := K_L_arePipes) (pc' := 28) (ll' := [some (.ref ax), some (.int 1), some (.int 0), some (.long 0), none, some (.int (nI d9)), x6, x7]) (st' := [.int (nI d9), .ref ax, .int 1]) dL_arePipes_26 rfl ?_
      refine t_callS (K := K_L_arePipes) (As := [.ref ax, .int (nI d9)]) (rest := [.int 1]) dL_arePipes_28 rfl rM_L_wind (by decide) rfl rfl (by decide) (Nat.le_of_ble_eq_true rfl) (q_wind_ h hd ?_)
      show s_w _ _ _ 31 _ _ _ _
      refine w_bipush (K := K_L_arePipes) (v := 100) dL_arePipes_31 rfl ?_
      refine w_icmpgt (K := K_L_arePipes) (t := 40) dL_arePipes_33 (by decide) (fun c33 => ?_) (fun c33 => ?_)
      · exact absurd c33 (z_100 (hQ.wnd hd)).2
      · refine w_iconst (K := K_L_arePipes) (v := 1) dL_arePipes_36 rfl ?_
        refine w_goto (K := K_L_arePipes) (t := 41) dL_arePipes_37 (by decide) ?_
        refine w_op (K := K_L_arePipes) (pc' := 42) (ll' := [some (.ref ax), some (.int 1), some (.int 0), some (.long 0), none, some (.int (nI d9)), x6, x7]) (st' := [.int (1 &&& 1)]) dL_arePipes_41 rfl ?_
        rw [show (1 : Int32) &&& 1 = 1 by decide]
        refine w_op (K := K_L_arePipes) (pc' := 43) (ll' := [some (.ref ax), some (.int 1), some (.int 0), some (.long 0), none, some (.int (nI d9)), x6, x7]) (st' := []) dL_arePipes_42 rfl ?_
        refine w_op (K := K_L_arePipes) (pc' := 46) (ll' := [some (.ref ax), some (.int 1), some (.int 0), some (.long 0), none, some (.int ((nI d9) + 1)), x6, x7]) (st' := []) dL_arePipes_43 rfl ?_
        rw [show nI d9 + 1 = nI (d9 + 1) from nI_1 d9]
        refine w_goto (K := K_L_arePipes) (t := 9) dL_arePipes_46 (by decide) ?_
        exact k

set_option maxRecDepth 100000 in
set_option maxHeartbeats 400000 in
theorem ap_n {X : e_XT} {d T e ax : Nat} {p : e_Sp} {I : e_I} {J : e_Jt} {c : Nat × Nat} {w : e_Rw1} {Q : e_Rt → e_SS → Prop} {np r9 y9 lo : Nat} {I' : e_I} {J' : e_Jt} {f g : Nat → Nat} {x7 : Option Value} (h : z_O T e ax (p, I, J, c, w)) (he : e ≤ 380) (hQ : z_Q p I J np I' J') (hs : ∀ q, q < np → f q ≤ 300000000 ∧ g q ≤ 1 ∧ I f_p_isSpeaking q = nI (g q) ∧ I f_p_begins q = nI (f q + g q) ∧ I' f_m_speaks q = nI (g q)) (hr : r9 < 3) (hy : 36 ≤ y9 ∧ y9 < 78) (hpat : s_pat p I 3 (nI r9) (nI y9) = if lo ≤ y9 ∧ y9 < lo + p.2.2.1 T_PARR r9 then some (p.2.2.2.2 r9 + (y9 - lo)) else none) (k : ∀ e2 c2 x7, e2 ≤ e + 2 → z_O T e2 ax (p, I, J, c2, w) → s_w X (d + 12) K_L_arePipes 62 [some (.ref ax), some (.int 1), some (.int (nI (z_sm g (z_N (p.2.2.2.2 r9) lo (p.2.2.1 T_PARR r9) (y9 + 1))))), some (.long (lN (z_sm (fun q => f q + g q) (z_N (p.2.2.2.2 r9) lo (p.2.2.1 T_PARR r9) (y9 + 1))))), none, some (.int (nI r9)), some (.int (nI (y9 + 1))), x7] [] (p, I, J, c2, w) Q) : s_w X (d + 12) K_L_arePipes 62 [some (.ref ax), some (.int 1), some (.int (nI (z_sm g (z_N (p.2.2.2.2 r9) lo (p.2.2.1 T_PARR r9) y9)))), some (.long (lN (z_sm (fun q => f q + g q) (z_N (p.2.2.2.2 r9) lo (p.2.2.1 T_PARR r9) y9)))), none, some (.int (nI r9)), some (.int (nI (y9))), x7] [] (p, I, J, c, w) Q := by
  refine w_op (K := K_L_arePipes) (pc' := 64) (ll' := [some (.ref ax), some (.int 1), some (.int (nI (z_sm g (z_N (p.2.2.2.2 r9) lo (p.2.2.1 T_PARR r9) y9)))), some (.long (lN (z_sm (fun q => f q + g q) (z_N (p.2.2.2.2 r9) lo (p.2.2.1 T_PARR r9) y9)))), none, some (.int (nI r9)), some (.int (nI (y9))), x7]) (st' := [.int (nI (y9))]) dL_arePipes_62 rfl ?_
  refine w_bipush (K := K_L_arePipes) (v := (nI 78)) dL_arePipes_64 rfl ?_
  refine w_icmpge (K := K_L_arePipes) (t := 188) dL_arePipes_66 (by decide) (fun c66 => ?_) (fun c66 => ?_)
  · exact absurd ((nI_ltI (by omega) (by decide)).mpr hy.2) (Int32.not_lt.mpr c66)
  · refine w_op (K := K_L_arePipes) (pc' := 70) (ll' := [some (.ref ax), some (.int 1), some (.int (nI (z_sm g (z_N (p.2.2.2.2 r9) lo (p.2.2.1 T_PARR r9) y9)))), some (.long (lN (z_sm (fun q => f q + g q) (z_N (p.2.2.2.2 r9) lo (p.2.2.1 T_PARR r9) y9)))), none, some (.int (nI r9)), some (.int (nI (y9))), x7]) (st' := [.ref ax]) dL_arePipes_69 rfl ?_
    refine w_op (K := K_L_arePipes) (pc' := 72) (ll' := [some (.ref ax), some (.int 1), some (.int (nI (z_sm g (z_N (p.2.2.2.2 r9) lo (p.2.2.1 T_PARR r9) y9)))), some (.long (lN (z_sm (fun q => f q + g q) (z_N (p.2.2.2.2 r9) lo (p.2.2.1 T_PARR r9) y9)))), none, some (.int (nI r9)), some (.int (nI (y9))), x7]) (st' := [.int (nI r9), .ref ax]) dL_arePipes_70 rfl ?_
    refine w_op (K := K_L_arePipes) (pc' := 74) (ll' := [some (.ref ax), some (.int 1), some (.int (nI (z_sm g (z_N (p.2.2.2.2 r9) lo (p.2.2.1 T_PARR r9) y9)))), some (.long (lN (z_sm (fun q => f q + g q) (z_N (p.2.2.2.2 r9) lo (p.2.2.1 T_PARR r9) y9)))), none, some (.int (nI r9)), some (.int (nI (y9))), x7]) (st' := [.int (nI (y9)), .int (nI r9), .ref ax]) dL_arePipes_72 rfl ?_
    refine t_callS (K := K_L_arePipes) (As := [.ref ax, .int (nI r9), .int (nI (y9))]) (rest := []) dL_arePipes_74 rfl rM_L_reasons (by decide) rfl rfl (by decide) (Nat.le_of_ble_eq_true rfl) (q_reasons_ h (by omega) (fun j hj => ?_) (fun hj h1 => ?_))
    · show s_w _ _ _ 77 _ _ _ _
      have hj9 := hj
      rw [hpat] at hj
      by_cases c9 : lo ≤ y9 ∧ y9 < lo + p.2.2.1 T_PARR r9
      case neg => rw [if_neg c9] at hj; cases hj
      rw [if_pos c9] at hj
      obtain rfl := Option.some.inj hj
      obtain ⟨e1, e2, e3⟩ := hQ.pt hj9
      obtain ⟨k8, hk8, ek8, -⟩ := hQ.rs e3
      obtain ⟨b1, b2, b3, b4, -⟩ := hs _ e3
      rw [ek8]
      rw [(z_Ni c9).1]
      refine w_op (K := K_L_arePipes) (pc' := 79) (ll' := [some (.ref ax), some (.int 1), some (.int (nI (z_sm g (p.2.2.2.2 r9 + (y9 - lo))))), some (.long (lN (z_sm (fun q => f q + g q) (p.2.2.2.2 r9 + (y9 - lo))))), none, some (.int (nI r9)), some (.int (nI (y9))), some (.int (nI k8))]) (st' := []) dL_arePipes_77 rfl ?_
      refine w_op (K := K_L_arePipes) (pc' := 81) (ll' := [some (.ref ax), some (.int 1), some (.int (nI (z_sm g (p.2.2.2.2 r9 + (y9 - lo))))), some (.long (lN (z_sm (fun q => f q + g q) (p.2.2.2.2 r9 + (y9 - lo))))), none, some (.int (nI r9)), some (.int (nI (y9))), some (.int (nI k8))]) (st' := [.int (nI k8)]) dL_arePipes_79 rfl ?_
      refine w_iflt (K := K_L_arePipes) (t := 154) dL_arePipes_81 (by decide) (fun c81 => ?_) (fun c81 => ?_)
      · exact absurd c81 (nI_pos (by omega))
      · refine w_op (K := K_L_arePipes) (pc' := 85) (ll' := [some (.ref ax), some (.int 1), some (.int (nI (z_sm g (p.2.2.2.2 r9 + (y9 - lo))))), some (.long (lN (z_sm (fun q => f q + g q) (p.2.2.2.2 r9 + (y9 - lo))))), none, some (.int (nI r9)), some (.int (nI (y9))), some (.int (nI k8))]) (st' := [.int (nI (z_sm g (p.2.2.2.2 r9 + (y9 - lo))))]) dL_arePipes_84 rfl ?_
        refine w_op (K := K_L_arePipes) (pc' := 86) (ll' := [some (.ref ax), some (.int 1), some (.int (nI (z_sm g (p.2.2.2.2 r9 + (y9 - lo))))), some (.long (lN (z_sm (fun q => f q + g q) (p.2.2.2.2 r9 + (y9 - lo))))), none, some (.int (nI r9)), some (.int (nI (y9))), some (.int (nI k8))]) (st' := [.ref ax, .int (nI (z_sm g (p.2.2.2.2 r9 + (y9 - lo))))]) dL_arePipes_85 rfl ?_
        refine w_op (K := K_L_arePipes) (pc' := 88) (ll' := [some (.ref ax), some (.int 1), some (.int (nI (z_sm g (p.2.2.2.2 r9 + (y9 - lo))))), some (.long (lN (z_sm (fun q => f q + g q) (p.2.2.2.2 r9 + (y9 - lo))))), none, some (.int (nI r9)), some (.int (nI (y9))), some (.int (nI k8))]) (st' := [.int (nI r9), .ref ax, .int (nI (z_sm g (p.2.2.2.2 r9 + (y9 - lo))))]) dL_arePipes_86 rfl ?_
        refine w_op (K := K_L_arePipes) (pc' := 90) (ll' := [some (.ref ax), some (.int 1), some (.int (nI (z_sm g (p.2.2.2.2 r9 + (y9 - lo))))), some (.long (lN (z_sm (fun q => f q + g q) (p.2.2.2.2 r9 + (y9 - lo))))), none, some (.int (nI r9)), some (.int (nI (y9))), some (.int (nI k8))]) (st' := [.int (nI (y9)), .int (nI r9), .ref ax, .int (nI (z_sm g (p.2.2.2.2 r9 + (y9 - lo))))]) dL_arePipes_88 rfl ?_
        refine t_callS (K := K_L_arePipes) (As := [.ref ax, .int (nI r9), .int (nI (y9))]) (rest := [.int (nI (z_sm g (p.2.2.2.2 r9 + (y9 - lo))))]) dL_arePipes_90 rfl rM_L_speaks (by decide) rfl rfl (by decide) (Nat.le_of_ble_eq_true rfl) (q_speaks_ h (by omega) (h.bo rfl) (fun j hj => ?_) (fun hj _ => absurd (hj9.symm.trans hj) (by simp)))
        show s_w _ _ _ 93 _ _ _ _
        obtain rfl := Option.some.inj (hj9.symm.trans hj)
        rw [z_01 (h.bo rfl _), b3]
        refine w_op (K := K_L_arePipes) (pc' := 94) (ll' := [some (.ref ax), some (.int 1), some (.int (nI (z_sm g (p.2.2.2.2 r9 + (y9 - lo))))), some (.long (lN (z_sm (fun q => f q + g q) (p.2.2.2.2 r9 + (y9 - lo))))), none, some (.int (nI r9)), some (.int (nI (y9))), some (.int (nI k8))]) (st' := [.int ((nI (z_sm g (p.2.2.2.2 r9 + (y9 - lo)))) + (nI (g (p.2.2.2.2 r9 + (y9 - lo)))))]) dL_arePipes_93 rfl ?_
        rw [nI_add]
        rw [show z_sm g (p.2.2.2.2 r9 + (y9 - lo)) + g (p.2.2.2.2 r9 + (y9 - lo)) = z_sm g (p.2.2.2.2 r9 + (y9 - lo) + 1) from rfl]
        refine w_op (K := K_L_arePipes) (pc' := 95) (ll' := [some (.ref ax), some (.int 1), some (.int (nI (z_sm g (p.2.2.2.2 r9 + (y9 - lo) + 1)))), some (.long (lN (z_sm (fun q => f q + g q) (p.2.2.2.2 r9 + (y9 - lo))))), none, some (.int (nI r9)), some (.int (nI (y9))), some (.int (nI k8))]) (st' := []) dL_arePipes_94 rfl ?_
        refine w_op (K := K_L_arePipes) (pc' := 96) (ll' := [some (.ref ax), some (.int 1), some (.int (nI (z_sm g (p.2.2.2.2 r9 + (y9 - lo) + 1)))), some (.long (lN (z_sm (fun q => f q + g q) (p.2.2.2.2 r9 + (y9 - lo))))), none, some (.int (nI r9)), some (.int (nI (y9))), some (.int (nI k8))]) (st' := [.long (lN (z_sm (fun q => f q + g q) (p.2.2.2.2 r9 + (y9 - lo))))]) dL_arePipes_95 rfl ?_
        refine w_op (K := K_L_arePipes) (pc' := 97) (ll' := [some (.ref ax), some (.int 1), some (.int (nI (z_sm g (p.2.2.2.2 r9 + (y9 - lo) + 1)))), some (.long (lN (z_sm (fun q => f q + g q) (p.2.2.2.2 r9 + (y9 - lo))))), none, some (.int (nI r9)), some (.int (nI (y9))), some (.int (nI k8))]) (st' := [.ref ax, .long (lN (z_sm (fun q => f q + g q) (p.2.2.2.2 r9 + (y9 - lo))))]) dL_arePipes_96 rfl ?_
        refine w_op (K := K_L_arePipes) (pc' := 99) (ll' := [some (.ref ax), some (.int 1), some (.int (nI (z_sm g (p.2.2.2.2 r9 + (y9 - lo) + 1)))), some (.long (lN (z_sm (fun q => f q + g q) (p.2.2.2.2 r9 + (y9 - lo))))), none, some (.int (nI r9)), some (.int (nI (y9))), some (.int (nI k8))]) (st' := [.int (nI r9), .ref ax, .long (lN (z_sm (fun q => f q + g q) (p.2.2.2.2 r9 + (y9 - lo))))]) dL_arePipes_97 rfl ?_
        refine w_op (K := K_L_arePipes) (pc' := 101) (ll' := [some (.ref ax), some (.int 1), some (.int (nI (z_sm g (p.2.2.2.2 r9 + (y9 - lo) + 1)))), some (.long (lN (z_sm (fun q => f q + g q) (p.2.2.2.2 r9 + (y9 - lo))))), none, some (.int (nI r9)), some (.int (nI (y9))), some (.int (nI k8))]) (st' := [.int (nI (y9)), .int (nI r9), .ref ax, .long (lN (z_sm (fun q => f q + g q) (p.2.2.2.2 r9 + (y9 - lo))))]) dL_arePipes_99 rfl ?_
        refine t_callS (K := K_L_arePipes) (As := [.ref ax, .int (nI r9), .int (nI (y9))]) (rest := [.long (lN (z_sm (fun q => f q + g q) (p.2.2.2.2 r9 + (y9 - lo))))]) dL_arePipes_101 rfl rM_L_begun (by decide) rfl rfl (by decide) (Nat.le_of_ble_eq_true rfl) (q_begun_ h (by omega) (fun j hj => ?_) (fun hj _ => absurd (hj9.symm.trans hj) (by simp)))
        show s_w _ _ _ 104 _ _ _ _
        obtain rfl := Option.some.inj (hj9.symm.trans hj)
        rw [b4]
        refine w_op (K := K_L_arePipes) (pc' := 105) (ll' := [some (.ref ax), some (.int 1), some (.int (nI (z_sm g (p.2.2.2.2 r9 + (y9 - lo) + 1)))), some (.long (lN (z_sm (fun q => f q + g q) (p.2.2.2.2 r9 + (y9 - lo))))), none, some (.int (nI r9)), some (.int (nI (y9))), some (.int (nI k8))]) (st' := [.long ((nI (f (p.2.2.2.2 r9 + (y9 - lo)) + g (p.2.2.2.2 r9 + (y9 - lo))))).toInt64, .long (lN (z_sm (fun q => f q + g q) (p.2.2.2.2 r9 + (y9 - lo))))]) dL_arePipes_104 rfl ?_
        rw [z_i2l (show f (p.2.2.2.2 r9 + (y9 - lo)) + g (p.2.2.2.2 r9 + (y9 - lo)) < 2 ^ 31 by omega)]
        refine w_op (K := K_L_arePipes) (pc' := 106) (ll' := [some (.ref ax), some (.int 1), some (.int (nI (z_sm g (p.2.2.2.2 r9 + (y9 - lo) + 1)))), some (.long (lN (z_sm (fun q => f q + g q) (p.2.2.2.2 r9 + (y9 - lo))))), none, some (.int (nI r9)), some (.int (nI (y9))), some (.int (nI k8))]) (st' := [.long ((lN (z_sm (fun q => f q + g q) (p.2.2.2.2 r9 + (y9 - lo)))) + (lN (f (p.2.2.2.2 r9 + (y9 - lo)) + g (p.2.2.2.2 r9 + (y9 - lo)))))]) dL_arePipes_105 rfl ?_
        rw [z_lNadd]
        rw [show z_sm (fun q => f q + g q) (p.2.2.2.2 r9 + (y9 - lo)) + (f (p.2.2.2.2 r9 + (y9 - lo)) + g (p.2.2.2.2 r9 + (y9 - lo))) = z_sm (fun q => f q + g q) (p.2.2.2.2 r9 + (y9 - lo) + 1) from rfl]
        refine w_op (K := K_L_arePipes) (pc' := 107) (ll' := [some (.ref ax), some (.int 1), some (.int (nI (z_sm g (p.2.2.2.2 r9 + (y9 - lo) + 1)))), some (.long (lN (z_sm (fun q => f q + g q) (p.2.2.2.2 r9 + (y9 - lo) + 1)))), none, some (.int (nI r9)), some (.int (nI (y9))), some (.int (nI k8))]) (st' := []) dL_arePipes_106 rfl ?_
        refine w_op (K := K_L_arePipes) (pc' := 108) (ll' := [some (.ref ax), some (.int 1), some (.int (nI (z_sm g (p.2.2.2.2 r9 + (y9 - lo) + 1)))), some (.long (lN (z_sm (fun q => f q + g q) (p.2.2.2.2 r9 + (y9 - lo) + 1)))), none, some (.int (nI r9)), some (.int (nI (y9))), some (.int (nI k8))]) (st' := [.int 1]) dL_arePipes_107 rfl ?_
        refine w_op (K := K_L_arePipes) (pc' := 110) (ll' := [some (.ref ax), some (.int 1), some (.int (nI (z_sm g (p.2.2.2.2 r9 + (y9 - lo) + 1)))), some (.long (lN (z_sm (fun q => f q + g q) (p.2.2.2.2 r9 + (y9 - lo) + 1)))), none, some (.int (nI r9)), some (.int (nI (y9))), some (.int (nI k8))]) (st' := [.int (nI k8), .int 1]) dL_arePipes_108 rfl ?_
        refine w_op (K := K_L_arePipes) (pc' := 111) (ll' := [some (.ref ax), some (.int 1), some (.int (nI (z_sm g (p.2.2.2.2 r9 + (y9 - lo) + 1)))), some (.long (lN (z_sm (fun q => f q + g q) (p.2.2.2.2 r9 + (y9 - lo) + 1)))), none, some (.int (nI r9)), some (.int (nI (y9))), some (.int (nI k8))]) (st' := [.ref ax, .int (nI k8), .int 1]) dL_arePipes_110 rfl ?_
        refine w_op (K := K_L_arePipes) (pc' := 113) (ll' := [some (.ref ax), some (.int 1), some (.int (nI (z_sm g (p.2.2.2.2 r9 + (y9 - lo) + 1)))), some (.long (lN (z_sm (fun q => f q + g q) (p.2.2.2.2 r9 + (y9 - lo) + 1)))), none, some (.int (nI r9)), some (.int (nI (y9))), some (.int (nI k8))]) (st' := [.int (nI r9), .ref ax, .int (nI k8), .int 1]) dL_arePipes_111 rfl ?_
        refine w_op (K := K_L_arePipes) (pc' := 115) (ll' := [some (.ref ax), some (.int 1), some (.int (nI (z_sm g (p.2.2.2.2 r9 + (y9 - lo) + 1)))), some (.long (lN (z_sm (fun q => f q + g q) (p.2.2.2.2 r9 + (y9 - lo) + 1)))), none, some (.int (nI r9)), some (.int (nI (y9))), some (.int (nI k8))]) (st' := [.int (nI (y9)), .int (nI r9), .ref ax, .int (nI k8), .int 1]) dL_arePipes_113 rfl ?_
        refine t_callS (K := K_L_arePipes) (As := [.ref ax, .int (nI r9), .int (nI (y9))]) (rest := [.int (nI k8), .int 1]) dL_arePipes_115 rfl rM_L_reasonsAnew (by decide) rfl rfl (by decide) (Nat.le_of_ble_eq_true rfl) (q_reasonsAnew_ h (by omega) (fun j hj => ?_) (fun hj _ => absurd (hj9.symm.trans hj) (by simp)))
        show s_w _ _ _ 118 _ _ _ _
        rw [e2, ek8]
        refine w_icmpne (K := K_L_arePipes) (t := 148) dL_arePipes_118 (by decide) (fun c118 => ?_) (fun c118 => ?_)
        · exact absurd rfl c118
        · refine w_op (K := K_L_arePipes) (pc' := 122) (ll' := [some (.ref ax), some (.int 1), some (.int (nI (z_sm g (p.2.2.2.2 r9 + (y9 - lo) + 1)))), some (.long (lN (z_sm (fun q => f q + g q) (p.2.2.2.2 r9 + (y9 - lo) + 1)))), none, some (.int (nI r9)), some (.int (nI (y9))), some (.int (nI k8))]) (st' := [.ref ax, .int 1]) dL_arePipes_121 rfl ?_
          refine w_op (K := K_L_arePipes) (pc' := 124) (ll' := [some (.ref ax), some (.int 1), some (.int (nI (z_sm g (p.2.2.2.2 r9 + (y9 - lo) + 1)))), some (.long (lN (z_sm (fun q => f q + g q) (p.2.2.2.2 r9 + (y9 - lo) + 1)))), none, some (.int (nI r9)), some (.int (nI (y9))), some (.int (nI k8))]) (st' := [.int (nI r9), .ref ax, .int 1]) dL_arePipes_122 rfl ?_
          refine w_op (K := K_L_arePipes) (pc' := 126) (ll' := [some (.ref ax), some (.int 1), some (.int (nI (z_sm g (p.2.2.2.2 r9 + (y9 - lo) + 1)))), some (.long (lN (z_sm (fun q => f q + g q) (p.2.2.2.2 r9 + (y9 - lo) + 1)))), none, some (.int (nI r9)), some (.int (nI (y9))), some (.int (nI k8))]) (st' := [.int (nI (y9)), .int (nI r9), .ref ax, .int 1]) dL_arePipes_124 rfl ?_
          refine t_callS (K := K_L_arePipes) (As := [.ref ax, .int (nI r9), .int (nI (y9))]) (rest := [.int 1]) dL_arePipes_126 rfl rM_L_pitch (by decide) rfl rfl (by decide) (Nat.le_of_ble_eq_true rfl) (q_pitch_ h (by omega) (fun j hj => ?_) (fun hj _ => absurd (hj9.symm.trans hj) (by simp)))
          show s_w _ _ _ 129 _ _ _ _
          refine w_bipush (K := K_L_arePipes) (v := (nI 100)) dL_arePipes_129 rfl ?_
          refine w_op (K := K_L_arePipes) (pc' := 133) (ll' := [some (.ref ax), some (.int 1), some (.int (nI (z_sm g (p.2.2.2.2 r9 + (y9 - lo) + 1)))), some (.long (lN (z_sm (fun q => f q + g q) (p.2.2.2.2 r9 + (y9 - lo) + 1)))), none, some (.int (nI r9)), some (.int (nI (y9))), some (.int (nI k8))]) (st' := [.int (nI (y9)), .int (nI 100), .int (s_pit p I 3 (nI r9) (nI y9)), .int 1]) dL_arePipes_131 rfl ?_
          refine w_op (K := K_L_arePipes) (pc' := 134) (ll' := [some (.ref ax), some (.int 1), some (.int (nI (z_sm g (p.2.2.2.2 r9 + (y9 - lo) + 1)))), some (.long (lN (z_sm (fun q => f q + g q) (p.2.2.2.2 r9 + (y9 - lo) + 1)))), none, some (.int (nI r9)), some (.int (nI (y9))), some (.int (nI k8))]) (st' := [.int ((nI 100) * (nI (y9))), .int (s_pit p I 3 (nI r9) (nI y9)), .int 1]) dL_arePipes_133 rfl ?_
          refine w_op (K := K_L_arePipes) (pc' := 135) (ll' := [some (.ref ax), some (.int 1), some (.int (nI (z_sm g (p.2.2.2.2 r9 + (y9 - lo) + 1)))), some (.long (lN (z_sm (fun q => f q + g q) (p.2.2.2.2 r9 + (y9 - lo) + 1)))), none, some (.int (nI r9)), some (.int (nI (y9))), some (.int (nI k8))]) (st' := [.int ((s_pit p I 3 (nI r9) (nI y9)) - ((nI 100) * (nI (y9)))), .int 1]) dL_arePipes_134 rfl ?_
          refine t_callS (K := K_L_arePipes) (As := [.int ((s_pit p I 3 (nI r9) (nI y9)) - ((nI 100) * (nI (y9))))]) (rest := [.int 1]) dL_arePipes_135 rfl rM_J9_abs_0f7a4 (by decide) rfl rfl (by decide) (Nat.le_of_ble_eq_true rfl) (c_abs (d := d + 11) ?_)
          show s_w _ _ _ 138 _ _ _ _
          refine w_sipush (K := K_L_arePipes) (v := 128) dL_arePipes_138 rfl ?_
          refine w_icmpgt (K := K_L_arePipes) (t := 148) dL_arePipes_141 (by decide) (fun c141 => ?_) (fun c141 => ?_)
          · exact absurd c141 (z_128 (hQ.p128 hr (by omega) hj9))
          · refine w_iconst (K := K_L_arePipes) (v := 1) dL_arePipes_144 rfl ?_
            refine w_goto (K := K_L_arePipes) (t := 149) dL_arePipes_145 (by decide) ?_
            refine w_op (K := K_L_arePipes) (pc' := 150) (ll' := [some (.ref ax), some (.int 1), some (.int (nI (z_sm g (p.2.2.2.2 r9 + (y9 - lo) + 1)))), some (.long (lN (z_sm (fun q => f q + g q) (p.2.2.2.2 r9 + (y9 - lo) + 1)))), none, some (.int (nI r9)), some (.int (nI (y9))), some (.int (nI k8))]) (st' := [.int (1 &&& 1)]) dL_arePipes_149 rfl ?_
            rw [show (1 : Int32) &&& 1 = 1 by decide]
            refine w_op (K := K_L_arePipes) (pc' := 151) (ll' := [some (.ref ax), some (.int 1), some (.int (nI (z_sm g (p.2.2.2.2 r9 + (y9 - lo) + 1)))), some (.long (lN (z_sm (fun q => f q + g q) (p.2.2.2.2 r9 + (y9 - lo) + 1)))), none, some (.int (nI r9)), some (.int (nI (y9))), some (.int (nI k8))]) (st' := []) dL_arePipes_150 rfl ?_
            refine w_goto (K := K_L_arePipes) (t := 182) dL_arePipes_151 (by decide) ?_
            refine w_op (K := K_L_arePipes) (pc' := 185) (ll' := [some (.ref ax), some (.int 1), some (.int (nI (z_sm g (p.2.2.2.2 r9 + (y9 - lo) + 1)))), some (.long (lN (z_sm (fun q => f q + g q) (p.2.2.2.2 r9 + (y9 - lo) + 1)))), none, some (.int (nI r9)), some (.int ((nI (y9)) + 1)), some (.int (nI k8))]) (st' := []) dL_arePipes_182 rfl ?_
            rw [show nI y9 + 1 = nI (y9 + 1) from nI_1 y9]
            refine w_goto (K := K_L_arePipes) (t := 62) dL_arePipes_185 (by decide) ?_
            have k9 := k e c (some (.int (nI k8))) (by omega) h
            rw [(z_Ni c9).2] at k9
            exact k9
    · show s_w _ _ _ 77 _ _ _ _
      have hj9 := hj
      rw [hpat] at hj
      by_cases c9 : lo ≤ y9 ∧ y9 < lo + p.2.2.1 T_PARR r9
      case pos => rw [if_pos c9] at hj; cases hj
      refine w_op (K := K_L_arePipes) (pc' := 79) (ll' := [some (.ref ax), some (.int 1), some (.int (nI (z_sm g (z_N (p.2.2.2.2 r9) lo (p.2.2.1 T_PARR r9) y9)))), some (.long (lN (z_sm (fun q => f q + g q) (z_N (p.2.2.2.2 r9) lo (p.2.2.1 T_PARR r9) y9)))), none, some (.int (nI r9)), some (.int (nI (y9))), some (.int (-77))]) (st' := []) dL_arePipes_77 rfl ?_
      refine w_op (K := K_L_arePipes) (pc' := 81) (ll' := [some (.ref ax), some (.int 1), some (.int (nI (z_sm g (z_N (p.2.2.2.2 r9) lo (p.2.2.1 T_PARR r9) y9)))), some (.long (lN (z_sm (fun q => f q + g q) (z_N (p.2.2.2.2 r9) lo (p.2.2.1 T_PARR r9) y9)))), none, some (.int (nI r9)), some (.int (nI (y9))), some (.int (-77))]) (st' := [.int (-77)]) dL_arePipes_79 rfl ?_
      refine w_iflt (K := K_L_arePipes) (t := 154) dL_arePipes_81 (by decide) (fun c81 => ?_) (fun c81 => ?_)
      · refine w_op (K := K_L_arePipes) (pc' := 155) (ll' := [some (.ref ax), some (.int 1), some (.int (nI (z_sm g (z_N (p.2.2.2.2 r9) lo (p.2.2.1 T_PARR r9) y9)))), some (.long (lN (z_sm (fun q => f q + g q) (z_N (p.2.2.2.2 r9) lo (p.2.2.1 T_PARR r9) y9)))), none, some (.int (nI r9)), some (.int (nI (y9))), some (.int (-77))]) (st' := [.int 1]) dL_arePipes_154 rfl ?_
        refine w_op (K := K_L_arePipes) (pc' := 157) (ll' := [some (.ref ax), some (.int 1), some (.int (nI (z_sm g (z_N (p.2.2.2.2 r9) lo (p.2.2.1 T_PARR r9) y9)))), some (.long (lN (z_sm (fun q => f q + g q) (z_N (p.2.2.2.2 r9) lo (p.2.2.1 T_PARR r9) y9)))), none, some (.int (nI r9)), some (.int (nI (y9))), some (.int (-77))]) (st' := [.int (-77), .int 1]) dL_arePipes_155 rfl ?_
        refine w_bipush (K := K_L_arePipes) (v := (-77)) dL_arePipes_157 rfl ?_
        refine w_icmpne (K := K_L_arePipes) (t := 179) dL_arePipes_159 (by decide) (fun c159 => ?_) (fun c159 => ?_)
        · exact absurd rfl c159
        · refine w_op (K := K_L_arePipes) (pc' := 163) (ll' := [some (.ref ax), some (.int 1), some (.int (nI (z_sm g (z_N (p.2.2.2.2 r9) lo (p.2.2.1 T_PARR r9) y9)))), some (.long (lN (z_sm (fun q => f q + g q) (z_N (p.2.2.2.2 r9) lo (p.2.2.1 T_PARR r9) y9)))), none, some (.int (nI r9)), some (.int (nI (y9))), some (.int (-77))]) (st' := [.ref ax, .int 1]) dL_arePipes_162 rfl ?_
          refine w_op (K := K_L_arePipes) (pc' := 165) (ll' := [some (.ref ax), some (.int 1), some (.int (nI (z_sm g (z_N (p.2.2.2.2 r9) lo (p.2.2.1 T_PARR r9) y9)))), some (.long (lN (z_sm (fun q => f q + g q) (z_N (p.2.2.2.2 r9) lo (p.2.2.1 T_PARR r9) y9)))), none, some (.int (nI r9)), some (.int (nI (y9))), some (.int (-77))]) (st' := [.int (nI r9), .ref ax, .int 1]) dL_arePipes_163 rfl ?_
          refine w_op (K := K_L_arePipes) (pc' := 167) (ll' := [some (.ref ax), some (.int 1), some (.int (nI (z_sm g (z_N (p.2.2.2.2 r9) lo (p.2.2.1 T_PARR r9) y9)))), some (.long (lN (z_sm (fun q => f q + g q) (z_N (p.2.2.2.2 r9) lo (p.2.2.1 T_PARR r9) y9)))), none, some (.int (nI r9)), some (.int (nI (y9))), some (.int (-77))]) (st' := [.int (nI (y9)), .int (nI r9), .ref ax, .int 1]) dL_arePipes_165 rfl ?_
          refine t_callS (K := K_L_arePipes) (As := [.ref ax, .int (nI r9), .int (nI (y9))]) (rest := [.int 1]) dL_arePipes_167 rfl rM_L_speaks (by decide) rfl rfl (by decide) (Nat.le_of_ble_eq_true rfl) (q_speaks_ h1 (by omega) (h1.bo rfl) (fun j hj => absurd (hj9.symm.trans hj) (by simp)) (fun _ h2 => ?_))
          show s_w _ _ _ 170 _ _ _ _
          refine w_bipush (K := K_L_arePipes) (v := (-77)) dL_arePipes_170 rfl ?_
          refine w_icmpne (K := K_L_arePipes) (t := 179) dL_arePipes_172 (by decide) (fun c172 => ?_) (fun c172 => ?_)
          · exact absurd rfl c172
          · refine w_iconst (K := K_L_arePipes) (v := 1) dL_arePipes_175 rfl ?_
            refine w_goto (K := K_L_arePipes) (t := 180) dL_arePipes_176 (by decide) ?_
            refine w_op (K := K_L_arePipes) (pc' := 181) (ll' := [some (.ref ax), some (.int 1), some (.int (nI (z_sm g (z_N (p.2.2.2.2 r9) lo (p.2.2.1 T_PARR r9) y9)))), some (.long (lN (z_sm (fun q => f q + g q) (z_N (p.2.2.2.2 r9) lo (p.2.2.1 T_PARR r9) y9)))), none, some (.int (nI r9)), some (.int (nI (y9))), some (.int (-77))]) (st' := [.int (1 &&& 1)]) dL_arePipes_180 rfl ?_
            rw [show (1 : Int32) &&& 1 = 1 by decide]
            refine w_op (K := K_L_arePipes) (pc' := 182) (ll' := [some (.ref ax), some (.int 1), some (.int (nI (z_sm g (z_N (p.2.2.2.2 r9) lo (p.2.2.1 T_PARR r9) y9)))), some (.long (lN (z_sm (fun q => f q + g q) (z_N (p.2.2.2.2 r9) lo (p.2.2.1 T_PARR r9) y9)))), none, some (.int (nI r9)), some (.int (nI (y9))), some (.int (-77))]) (st' := []) dL_arePipes_181 rfl ?_
            refine w_op (K := K_L_arePipes) (pc' := 185) (ll' := [some (.ref ax), some (.int 1), some (.int (nI (z_sm g (z_N (p.2.2.2.2 r9) lo (p.2.2.1 T_PARR r9) y9)))), some (.long (lN (z_sm (fun q => f q + g q) (z_N (p.2.2.2.2 r9) lo (p.2.2.1 T_PARR r9) y9)))), none, some (.int (nI r9)), some (.int ((nI (y9)) + 1)), some (.int (-77))]) (st' := []) dL_arePipes_182 rfl ?_
            rw [show nI y9 + 1 = nI (y9 + 1) from nI_1 y9]
            refine w_goto (K := K_L_arePipes) (t := 62) dL_arePipes_185 (by decide) ?_
            have k9 := k _ _ (some (.int (-77))) (by omega) h2
            rw [z_No c9] at k9
            exact k9
      · exact absurd (by decide) c81

theorem z_Q.pat2 {p : e_Sp} {I I' : e_I} {J J' : e_Jt} {np r : Nat} (h : z_Q p I J np I' J') (hr : r < 3) : ∃ lo, (36 ≤ lo ∧ lo + p.2.2.1 T_PARR r ≤ 78) ∧ ∀ y, y < 1000 → s_pat p I 3 (nI r) (nI y) = if lo ≤ y ∧ y < lo + p.2.2.1 T_PARR r then some (p.2.2.2.2 r + (y - lo)) else none := by
  obtain ⟨lo, h1, h2, -⟩ := h.pat hr (y := 0) (by decide)
  refine ⟨lo, ⟨by omega, by omega⟩, fun y hy => ?_⟩
  obtain ⟨lo2, k1, k2, k3⟩ := h.pat hr hy
  have e : lo2 = lo := (nI_eq (by omega) (by omega)).mp (k1.symm.trans h1)
  rw [← e]
  exact k3
theorem z_Q.shp {p : e_Sp} {I I' : e_I} {J J' : e_Jt} {np : Nat} (h : z_Q p I J np I' J') : p.2.2.2.2 0 = 0 ∧ p.2.2.2.2 1 = p.2.2.2.2 0 + p.2.2.1 T_PARR 0 ∧ p.2.2.2.2 2 = p.2.2.2.2 1 + p.2.2.1 T_PARR 1 ∧ np = p.2.2.2.2 2 + p.2.2.1 T_PARR 2 := by
  obtain ⟨⟨n, t, s, m, L, hS, -⟩, -⟩ := h
  obtain ⟨h1, h2, h3⟩ := hS.1.1.1.1.1
  exact ⟨h1, h2 0 (by decide), h2 1 (by decide), h3⟩
theorem ap_y {X : e_XT} {d T ax : Nat} {p : e_Sp} {I : e_I} {J : e_Jt} {w : e_Rw1} {Q : e_Rt → e_SS → Prop} {np r9 lo : Nat} {I' : e_I} {J' : e_Jt} {f g : Nat → Nat} (hQ : z_Q p I J np I' J') (hs : ∀ q, q < np → f q ≤ 300000000 ∧ g q ≤ 1 ∧ I f_p_isSpeaking q = nI (g q) ∧ I f_p_begins q = nI (f q + g q) ∧ I' f_m_speaks q = nI (g q)) (hr : r9 < 3) (hpat : ∀ y, y < 1000 → s_pat p I 3 (nI r9) (nI y) = if lo ≤ y ∧ y < lo + p.2.2.1 T_PARR r9 then some (p.2.2.2.2 r9 + (y - lo)) else none) : ∀ u y9 e c x7, y9 + u = 78 → 36 ≤ y9 → e + 2 * u ≤ 380 → z_O T e ax (p, I, J, c, w) → (∀ e2 c2 x7, e2 ≤ e + 2 * u → z_O T e2 ax (p, I, J, c2, w) → s_w X (d + 12) K_L_arePipes 62 [some (.ref ax), some (.int 1), some (.int (nI (z_sm g (z_N (p.2.2.2.2 r9) lo (p.2.2.1 T_PARR r9) 78)))), some (.long (lN (z_sm (fun q => f q + g q) (z_N (p.2.2.2.2 r9) lo (p.2.2.1 T_PARR r9) 78)))), none, some (.int (nI r9)), some (.int (nI (78))), x7] [] (p, I, J, c2, w) Q) → s_w X (d + 12) K_L_arePipes 62 [some (.ref ax), some (.int 1), some (.int (nI (z_sm g (z_N (p.2.2.2.2 r9) lo (p.2.2.1 T_PARR r9) y9)))), some (.long (lN (z_sm (fun q => f q + g q) (z_N (p.2.2.2.2 r9) lo (p.2.2.1 T_PARR r9) y9)))), none, some (.int (nI r9)), some (.int (nI (y9))), x7] [] (p, I, J, c, w) Q := by
  intro u
  induction u with
  | zero =>
    intro y9 e c x7 h1 h2 h3 h k
    obtain rfl : y9 = 78 := by omega
    exact k e c x7 (by omega) h
  | succ u ih =>
    intro y9 e c x7 h1 h2 h3 h k
    refine ap_n h (by omega) hQ hs hr ⟨h2, by omega⟩ (hpat y9 (by omega)) (fun e2 c2 x8 he2 hO => ?_)
    exact ih (y9 + 1) e2 c2 x8 (by omega) (by omega) (by omega) hO (fun e3 c3 x9 he3 hO3 => k e3 c3 x9 (by omega) hO3)

set_option maxRecDepth 100000 in
set_option maxHeartbeats 400000 in
theorem ap_r {X : e_XT} {d T e ax : Nat} {p : e_Sp} {I : e_I} {J : e_Jt} {c : Nat × Nat} {w : e_Rw1} {Q : e_Rt → e_SS → Prop} {np r9 : Nat} {I' : e_I} {J' : e_Jt} {f g : Nat → Nat} {x6 x7 : Option Value} (h : z_O T e ax (p, I, J, c, w)) (he : e ≤ 290) (hQ : z_Q p I J np I' J') (hs : ∀ q, q < np → f q ≤ 300000000 ∧ g q ≤ 1 ∧ I f_p_isSpeaking q = nI (g q) ∧ I f_p_begins q = nI (f q + g q) ∧ I' f_m_speaks q = nI (g q)) (hr : r9 < 3) (k : ∀ e2 c2 x6 x7, e2 ≤ e + 84 → z_O T e2 ax (p, I, J, c2, w) → s_w X (d + 12) K_L_arePipes 52 [some (.ref ax), some (.int 1), some (.int (nI (z_sm g (p.2.2.2.2 r9 + p.2.2.1 T_PARR r9)))), some (.long (lN (z_sm (fun q => f q + g q) (p.2.2.2.2 r9 + p.2.2.1 T_PARR r9)))), none, some (.int (nI (r9 + 1))), x6, x7] [] (p, I, J, c2, w) Q) : s_w X (d + 12) K_L_arePipes 52 [some (.ref ax), some (.int 1), some (.int (nI (z_sm g (p.2.2.2.2 r9)))), some (.long (lN (z_sm (fun q => f q + g q) (p.2.2.2.2 r9)))), none, some (.int (nI (r9))), x6, x7] [] (p, I, J, c, w) Q := by
  obtain ⟨lo, hlo, hpat⟩ := hQ.pat2 hr
  refine w_op (K := K_L_arePipes) (pc' := 54) (ll' := [some (.ref ax), some (.int 1), some (.int (nI (z_sm g (p.2.2.2.2 r9)))), some (.long (lN (z_sm (fun q => f q + g q) (p.2.2.2.2 r9)))), none, some (.int (nI (r9))), x6, x7]) (st' := [.int (nI (r9))]) dL_arePipes_52 rfl ?_
  refine w_iconst (K := K_L_arePipes) (v := (nI 3)) dL_arePipes_54 rfl ?_
  refine w_icmpge (K := K_L_arePipes) (t := 194) dL_arePipes_55 (by decide) (fun c55 => ?_) (fun c55 => ?_)
  · exact absurd ((nI_ltI (by omega) (by decide)).mpr hr) (Int32.not_lt.mpr c55)
  · refine w_bipush (K := K_L_arePipes) (v := (nI 36)) dL_arePipes_58 rfl ?_
    refine w_op (K := K_L_arePipes) (pc' := 62) (ll' := [some (.ref ax), some (.int 1), some (.int (nI (z_sm g (p.2.2.2.2 r9)))), some (.long (lN (z_sm (fun q => f q + g q) (p.2.2.2.2 r9)))), none, some (.int (nI (r9))), some (.int (nI 36)), x7]) (st' := []) dL_arePipes_60 rfl ?_
    have e36 : z_N (p.2.2.2.2 r9) lo (p.2.2.1 T_PARR r9) 36 = p.2.2.2.2 r9 := by unfold z_N; omega
    have e78 : z_N (p.2.2.2.2 r9) lo (p.2.2.1 T_PARR r9) 78 = p.2.2.2.2 r9 + p.2.2.1 T_PARR r9 := by unfold z_N; omega
    have q9 := ap_y (X := X) (d := d) (Q := Q) (w := w) (ax := ax) (T := T) (g := g) (f := f) hQ hs hr hpat 42 36 e c x7 (by omega) (by omega) (by omega) h (fun e2 c2 x8 he2 hO => ?_)
    · rw [e36] at q9; exact q9
    rw [e78]
    refine w_op (K := K_L_arePipes) (pc' := 64) (ll' := [some (.ref ax), some (.int 1), some (.int (nI (z_sm g (p.2.2.2.2 r9 + p.2.2.1 T_PARR r9)))), some (.long (lN (z_sm (fun q => f q + g q) (p.2.2.2.2 r9 + p.2.2.1 T_PARR r9)))), none, some (.int (nI r9)), some (.int (nI (78))), x8]) (st' := [.int (nI (78))]) dL_arePipes_62 rfl ?_
    refine w_bipush (K := K_L_arePipes) (v := (nI 78)) dL_arePipes_64 rfl ?_
    refine w_icmpge (K := K_L_arePipes) (t := 188) dL_arePipes_66 (by decide) (fun c66 => ?_) (fun c66 => ?_)
    · refine w_op (K := K_L_arePipes) (pc' := 191) (ll' := [some (.ref ax), some (.int 1), some (.int (nI (z_sm g (p.2.2.2.2 r9 + p.2.2.1 T_PARR r9)))), some (.long (lN (z_sm (fun q => f q + g q) (p.2.2.2.2 r9 + p.2.2.1 T_PARR r9)))), none, some (.int ((nI r9) + 1)), some (.int (nI (78))), x8]) (st' := []) dL_arePipes_188 rfl ?_
      rw [show nI r9 + 1 = nI (r9 + 1) from nI_1 r9]
      refine w_goto (K := K_L_arePipes) (t := 52) dL_arePipes_191 (by decide) ?_
      exact k e2 c2 _ _ (by omega) hO
    · exact absurd (Int32.le_refl _) c66

set_option maxRecDepth 100000 in
set_option maxHeartbeats 400000 in
theorem ap_e {X : e_XT} {d T e ax : Nat} {p : e_Sp} {I : e_I} {J : e_Jt} {c : Nat × Nat} {w : e_Rw1} {Q : e_Rt → e_SS → Prop} {np : Nat} {I' : e_I} {J' : e_Jt} {f g : Nat → Nat} {x6 x7 : Option Value} (h : z_O T e ax (p, I, J, c, w)) (he : e ≤ 380) (hQ : z_Q p I J np I' J') (hs : ∀ q, q < np → f q ≤ 300000000 ∧ g q ≤ 1 ∧ I f_p_isSpeaking q = nI (g q) ∧ I f_p_begins q = nI (f q + g q) ∧ I' f_m_speaks q = nI (g q)) (hsp : I f_speakers 0 = nI (z_sm g np)) (hen : J j_allEnds 0 = lN (z_sm f np)) (hle : z_sm g np ≤ np) (kk : ∀ e2 c2, e2 ≤ e + 1 → z_O T e2 ax (p, I, J, c2, w) → Q (.inl (some (.int 1))) (p, I, J, c2, w)) : s_w X (d + 12) K_L_arePipes 52 [some (.ref ax), some (.int 1), some (.int (nI (z_sm g (np)))), some (.long (lN (z_sm (fun q => f q + g q) (np)))), none, some (.int (nI (3))), x6, x7] [] (p, I, J, c, w) (fun r S' => e_rcr (some FieldType.boolean) r = true ∧ Q r S') := by
  have hnp := hQ.2.2.2.2.2
  have hn32 := hQ.n32
  have hsh := hQ.share hsp hle
  refine w_op (K := K_L_arePipes) (pc' := 54) (ll' := [some (.ref ax), some (.int 1), some (.int (nI (z_sm g (np)))), some (.long (lN (z_sm (fun q => f q + g q) (np)))), none, some (.int (nI (3))), x6, x7]) (st' := [.int (nI (3))]) dL_arePipes_52 rfl ?_
  refine w_iconst (K := K_L_arePipes) (v := (nI 3)) dL_arePipes_54 rfl ?_
  refine w_icmpge (K := K_L_arePipes) (t := 194) dL_arePipes_55 (by decide) (fun c55 => ?_) (fun c55 => ?_)
  · refine w_op (K := K_L_arePipes) (pc' := 195) (ll' := [some (.ref ax), some (.int 1), some (.int (nI (z_sm g (np)))), some (.long (lN (z_sm (fun q => f q + g q) (np)))), none, some (.int (nI (3))), x6, x7]) (st' := [.ref ax]) dL_arePipes_194 rfl ?_
    refine t_callS (K := K_L_arePipes) (As := [.ref ax]) (rest := []) dL_arePipes_195 rfl rM_L_speakingShare (by decide) rfl rfl (by decide) (Nat.le_of_ble_eq_true rfl) (q_speakingShare_ h hn32.1 hn32.2 ?_)
    show s_w _ _ _ 198 _ _ _ _
    refine w_op (K := K_L_arePipes) (pc' := 200) (ll' := [some (.ref ax), some (.int 1), some (.int (nI (z_sm g (np)))), some (.long (lN (z_sm (fun q => f q + g q) (np)))), none, some (.float (FP.fdiv (FP.i2f (I f_speakers 0)) (FP.i2f (s_aps p 3)))), x6, x7]) (st' := []) dL_arePipes_198 rfl ?_
    refine w_op (K := K_L_arePipes) (pc' := 201) (ll' := [some (.ref ax), some (.int 1), some (.int (nI (z_sm g (np)))), some (.long (lN (z_sm (fun q => f q + g q) (np)))), none, some (.float (FP.fdiv (FP.i2f (I f_speakers 0)) (FP.i2f (s_aps p 3)))), x6, x7]) (st' := [.ref ax]) dL_arePipes_200 rfl ?_
    refine t_callS (K := K_L_arePipes) (As := [.ref ax]) (rest := []) dL_arePipes_201 rfl rM_L_meanPitch (by decide) rfl rfl (by decide) (Nat.le_of_ble_eq_true rfl) (q_meanPitch_ h (by omega) (fun z => hQ.n64 z) (fun z0 => ?_) (fun z0 h1 => ?_))
    · show s_w _ _ _ 204 _ _ _ _
      refine w_op (K := K_L_arePipes) (pc' := 206) (ll' := [some (.ref ax), some (.int 1), some (.int (nI (z_sm g (np)))), some (.long (lN (z_sm (fun q => f q + g q) (np)))), none, some (.float (FP.fdiv (FP.i2f (I f_speakers 0)) (FP.i2f (s_aps p 3)))), some (.double (FP.ddiv (FP.i2d (s_pts p I 3)) (FP.i2d (I f_speakers 0)))), none]) (st' := []) dL_arePipes_204 rfl ?_
      refine w_op (K := K_L_arePipes) (pc' := 207) (ll' := [some (.ref ax), some (.int 1), some (.int (nI (z_sm g (np)))), some (.long (lN (z_sm (fun q => f q + g q) (np)))), none, some (.float (FP.fdiv (FP.i2f (I f_speakers 0)) (FP.i2f (s_aps p 3)))), some (.double (FP.ddiv (FP.i2d (s_pts p I 3)) (FP.i2d (I f_speakers 0)))), none]) (st' := [.int 1]) dL_arePipes_206 rfl ?_
      refine w_ifeq (K := K_L_arePipes) (t := 280) dL_arePipes_207 (by decide) (fun c207 => ?_) (fun c207 => ?_)
      · exact absurd c207 (by decide)
      · refine w_op (K := K_L_arePipes) (pc' := 211) (ll' := [some (.ref ax), some (.int 1), some (.int (nI (z_sm g (np)))), some (.long (lN (z_sm (fun q => f q + g q) (np)))), none, some (.float (FP.fdiv (FP.i2f (I f_speakers 0)) (FP.i2f (s_aps p 3)))), some (.double (FP.ddiv (FP.i2d (s_pts p I 3)) (FP.i2d (I f_speakers 0)))), none]) (st' := [.ref ax]) dL_arePipes_210 rfl ?_
        refine l_callH (K := K_L_arePipes) (As := []) (rest := []) dL_arePipes_211 rfl rM_X11_speaking (by decide) rfl rfl (by decide) rfl (Nat.le_of_ble_eq_true rfl) h.hf (q_speaking_ h ?_)
        show s_w _ _ _ 214 _ _ _ _
        refine w_op (K := K_L_arePipes) (pc' := 215) (ll' := [some (.ref ax), some (.int 1), some (.int (nI (z_sm g (np)))), some (.long (lN (z_sm (fun q => f q + g q) (np)))), none, some (.float (FP.fdiv (FP.i2f (I f_speakers 0)) (FP.i2f (s_aps p 3)))), some (.double (FP.ddiv (FP.i2d (s_pts p I 3)) (FP.i2d (I f_speakers 0)))), none]) (st' := [.int (nI (z_sm g (np))), .int (I f_speakers 0)]) dL_arePipes_214 rfl ?_
        refine w_icmpne (K := K_L_arePipes) (t := 280) dL_arePipes_215 (by decide) (fun c215 => ?_) (fun c215 => ?_)
        · exact absurd hsp c215
        · refine w_op (K := K_L_arePipes) (pc' := 219) (ll' := [some (.ref ax), some (.int 1), some (.int (nI (z_sm g (np)))), some (.long (lN (z_sm (fun q => f q + g q) (np)))), none, some (.float (FP.fdiv (FP.i2f (I f_speakers 0)) (FP.i2f (s_aps p 3)))), some (.double (FP.ddiv (FP.i2d (s_pts p I 3)) (FP.i2d (I f_speakers 0)))), none]) (st' := [.long (lN (z_sm (fun q => f q + g q) (np)))]) dL_arePipes_218 rfl ?_
          refine w_op (K := K_L_arePipes) (pc' := 220) (ll' := [some (.ref ax), some (.int 1), some (.int (nI (z_sm g (np)))), some (.long (lN (z_sm (fun q => f q + g q) (np)))), none, some (.float (FP.fdiv (FP.i2f (I f_speakers 0)) (FP.i2f (s_aps p 3)))), some (.double (FP.ddiv (FP.i2d (s_pts p I 3)) (FP.i2d (I f_speakers 0)))), none]) (st' := [.ref ax, .long (lN (z_sm (fun q => f q + g q) (np)))]) dL_arePipes_219 rfl ?_
          refine l_callH (K := K_L_arePipes) (As := []) (rest := [.long (lN (z_sm (fun q => f q + g q) (np)))]) dL_arePipes_220 rfl rM_X11_ended (by decide) rfl rfl (by decide) rfl (Nat.le_of_ble_eq_true rfl) h.hf (q_ended_ h ?_)
          show s_w _ _ _ 223 _ _ _ _
          rw [hen]
          refine w_op (K := K_L_arePipes) (pc' := 224) (ll' := [some (.ref ax), some (.int 1), some (.int (nI (z_sm g (np)))), some (.long (lN (z_sm (fun q => f q + g q) (np)))), none, some (.float (FP.fdiv (FP.i2f (I f_speakers 0)) (FP.i2f (s_aps p 3)))), some (.double (FP.ddiv (FP.i2d (s_pts p I 3)) (FP.i2d (I f_speakers 0)))), none]) (st' := [.int (nI (z_sm g (np))), .long (lN (z_sm f np)), .long (lN (z_sm (fun q => f q + g q) (np)))]) dL_arePipes_223 rfl ?_
          refine w_op (K := K_L_arePipes) (pc' := 225) (ll' := [some (.ref ax), some (.int 1), some (.int (nI (z_sm g (np)))), some (.long (lN (z_sm (fun q => f q + g q) (np)))), none, some (.float (FP.fdiv (FP.i2f (I f_speakers 0)) (FP.i2f (s_aps p 3)))), some (.double (FP.ddiv (FP.i2d (s_pts p I 3)) (FP.i2d (I f_speakers 0)))), none]) (st' := [.long ((nI (z_sm g (np)))).toInt64, .long (lN (z_sm f np)), .long (lN (z_sm (fun q => f q + g q) (np)))]) dL_arePipes_224 rfl ?_
          rw [z_i2l (show z_sm g np < 2 ^ 31 by omega)]
          refine w_op (K := K_L_arePipes) (pc' := 226) (ll' := [some (.ref ax), some (.int 1), some (.int (nI (z_sm g (np)))), some (.long (lN (z_sm (fun q => f q + g q) (np)))), none, some (.float (FP.fdiv (FP.i2f (I f_speakers 0)) (FP.i2f (s_aps p 3)))), some (.double (FP.ddiv (FP.i2d (s_pts p I 3)) (FP.i2d (I f_speakers 0)))), none]) (st' := [.long ((lN (z_sm f np)) + (lN (z_sm g np))), .long (lN (z_sm (fun q => f q + g q) (np)))]) dL_arePipes_225 rfl ?_
          rw [z_lNadd]
          refine w_op (K := K_L_arePipes) (pc' := 227) (ll' := [some (.ref ax), some (.int 1), some (.int (nI (z_sm g (np)))), some (.long (lN (z_sm (fun q => f q + g q) (np)))), none, some (.float (FP.fdiv (FP.i2f (I f_speakers 0)) (FP.i2f (s_aps p 3)))), some (.double (FP.ddiv (FP.i2d (s_pts p I 3)) (FP.i2d (I f_speakers 0)))), none]) (st' := [.int _]) dL_arePipes_226 rfl ?_
          refine w_ifne (K := K_L_arePipes) (t := 280) dL_arePipes_227 (by decide) (fun c227 => ?_) (fun c227 => ?_)
          · exact absurd ((v_cmp0 _ _).mpr (by rw [z_sm_add])) c227
          · refine w_op (K := K_L_arePipes) (pc' := 232) (ll' := [some (.ref ax), some (.int 1), some (.int (nI (z_sm g (np)))), some (.long (lN (z_sm (fun q => f q + g q) (np)))), none, some (.float (FP.fdiv (FP.i2f (I f_speakers 0)) (FP.i2f (s_aps p 3)))), some (.double (FP.ddiv (FP.i2d (s_pts p I 3)) (FP.i2d (I f_speakers 0)))), none]) (st' := [.float (FP.fdiv (FP.i2f (I f_speakers 0)) (FP.i2f (s_aps p 3)))]) dL_arePipes_230 rfl ?_
            refine w_op (K := K_L_arePipes) (pc' := 233) (ll' := [some (.ref ax), some (.int 1), some (.int (nI (z_sm g (np)))), some (.long (lN (z_sm (fun q => f q + g q) (np)))), none, some (.float (FP.fdiv (FP.i2f (I f_speakers 0)) (FP.i2f (s_aps p 3)))), some (.double (FP.ddiv (FP.i2d (s_pts p I 3)) (FP.i2d (I f_speakers 0)))), none]) (st' := [.float FP.fconst0, .float (FP.fdiv (FP.i2f (I f_speakers 0)) (FP.i2f (s_aps p 3)))]) dL_arePipes_232 rfl ?_
            refine w_op (K := K_L_arePipes) (pc' := 234) (ll' := [some (.ref ax), some (.int 1), some (.int (nI (z_sm g (np)))), some (.long (lN (z_sm (fun q => f q + g q) (np)))), none, some (.float (FP.fdiv (FP.i2f (I f_speakers 0)) (FP.i2f (s_aps p 3)))), some (.double (FP.ddiv (FP.i2d (s_pts p I 3)) (FP.i2d (I f_speakers 0)))), none]) (st' := [.int _]) dL_arePipes_233 rfl ?_
            refine w_iflt (K := K_L_arePipes) (t := 280) dL_arePipes_234 (by decide) (fun c234 => ?_) (fun c234 => ?_)
            · exact absurd c234 hsh.1
            · refine w_op (K := K_L_arePipes) (pc' := 239) (ll' := [some (.ref ax), some (.int 1), some (.int (nI (z_sm g (np)))), some (.long (lN (z_sm (fun q => f q + g q) (np)))), none, some (.float (FP.fdiv (FP.i2f (I f_speakers 0)) (FP.i2f (s_aps p 3)))), some (.double (FP.ddiv (FP.i2d (s_pts p I 3)) (FP.i2d (I f_speakers 0)))), none]) (st' := [.float (FP.fdiv (FP.i2f (I f_speakers 0)) (FP.i2f (s_aps p 3)))]) dL_arePipes_237 rfl ?_
              refine w_fconst1 (K := K_L_arePipes) dL_arePipes_239 ?_
              refine w_op (K := K_L_arePipes) (pc' := 241) (ll' := [some (.ref ax), some (.int 1), some (.int (nI (z_sm g (np)))), some (.long (lN (z_sm (fun q => f q + g q) (np)))), none, some (.float (FP.fdiv (FP.i2f (I f_speakers 0)) (FP.i2f (s_aps p 3)))), some (.double (FP.ddiv (FP.i2d (s_pts p I 3)) (FP.i2d (I f_speakers 0)))), none]) (st' := [.int _]) dL_arePipes_240 rfl ?_
              refine w_ifgt (K := K_L_arePipes) (t := 280) dL_arePipes_241 (by decide) (fun c241 => ?_) (fun c241 => ?_)
              · exact absurd c241 hsh.2
              · refine w_op (K := K_L_arePipes) (pc' := 245) (ll' := [some (.ref ax), some (.int 1), some (.int (nI (z_sm g (np)))), some (.long (lN (z_sm (fun q => f q + g q) (np)))), none, some (.float (FP.fdiv (FP.i2f (I f_speakers 0)) (FP.i2f (s_aps p 3)))), some (.double (FP.ddiv (FP.i2d (s_pts p I 3)) (FP.i2d (I f_speakers 0)))), none]) (st' := [.int (nI (z_sm g (np)))]) dL_arePipes_244 rfl ?_
                refine w_ifne (K := K_L_arePipes) (t := 260) dL_arePipes_245 (by decide) (fun c245 => ?_) (fun c245 => ?_)
                · refine w_op (K := K_L_arePipes) (pc' := 262) (ll' := [some (.ref ax), some (.int 1), some (.int (nI (z_sm g (np)))), some (.long (lN (z_sm (fun q => f q + g q) (np)))), none, some (.float (FP.fdiv (FP.i2f (I f_speakers 0)) (FP.i2f (s_aps p 3)))), some (.double (FP.ddiv (FP.i2d (s_pts p I 3)) (FP.i2d (I f_speakers 0)))), none]) (st' := [.double (FP.ddiv (FP.i2d (s_pts p I 3)) (FP.i2d (I f_speakers 0)))]) dL_arePipes_260 rfl ?_
                  refine w_ldcd (K := K_L_arePipes) (v := 4658815484840378368) (Or.inr ⟨rfl, rfl⟩) rfl dL_arePipes_262 ?_
                  refine w_op (K := K_L_arePipes) (pc' := 266) (ll' := [some (.ref ax), some (.int 1), some (.int (nI (z_sm g (np)))), some (.long (lN (z_sm (fun q => f q + g q) (np)))), none, some (.float (FP.fdiv (FP.i2f (I f_speakers 0)) (FP.i2f (s_aps p 3)))), some (.double (FP.ddiv (FP.i2d (s_pts p I 3)) (FP.i2d (I f_speakers 0)))), none]) (st' := [.int _]) dL_arePipes_265 rfl ?_
                  refine w_ifle (K := K_L_arePipes) (t := 280) dL_arePipes_266 (by decide) (fun c266 => ?_) (fun c266 => ?_)
                  · exact absurd c266 (by rw [hQ.mean hsp (Nat.pos_of_ne_zero (fun z => z0 (by rw [hsp, z]; rfl))) hle]; decide)
                  · refine w_op (K := K_L_arePipes) (pc' := 270) (ll' := [some (.ref ax), some (.int 1), some (.int (nI (z_sm g (np)))), some (.long (lN (z_sm (fun q => f q + g q) (np)))), none, some (.float (FP.fdiv (FP.i2f (I f_speakers 0)) (FP.i2f (s_aps p 3)))), some (.double (FP.ddiv (FP.i2d (s_pts p I 3)) (FP.i2d (I f_speakers 0)))), none]) (st' := [.ref ax]) dL_arePipes_269 rfl ?_
                    refine l_callH (K := K_L_arePipes) (As := []) (rest := []) dL_arePipes_270 rfl rM_X11_loudness (by decide) rfl rfl (by decide) rfl (Nat.le_of_ble_eq_true rfl) h.hf (q_loudness_ h ?_)
                    show s_w _ _ _ 273 _ _ _ _
                    refine w_iflt (K := K_L_arePipes) (t := 280) dL_arePipes_273 (by decide) (fun c273 => ?_) (fun c273 => ?_)
                    · exact absurd c273 (by obtain ⟨k9, hk9, e9⟩ := hQ.loud; rw [e9]; exact nI_pos (by omega))
                    · refine w_iconst (K := K_L_arePipes) (v := 1) dL_arePipes_276 rfl ?_
                      refine w_goto (K := K_L_arePipes) (t := 281) dL_arePipes_277 (by decide) ?_
                      refine w_ireturn (K := K_L_arePipes) dL_arePipes_281 ?_
                      exact ⟨rfl, kk _ _ (by omega) h⟩
                · exact absurd (hsp.trans c245) z0
    · show s_w _ _ _ 204 _ _ _ _
      refine w_op (K := K_L_arePipes) (pc' := 206) (ll' := [some (.ref ax), some (.int 1), some (.int (nI (z_sm g (np)))), some (.long (lN (z_sm (fun q => f q + g q) (np)))), none, some (.float (FP.fdiv (FP.i2f (I f_speakers 0)) (FP.i2f (s_aps p 3)))), some (.double 13858279740860792832), none]) (st' := []) dL_arePipes_204 rfl ?_
      refine w_op (K := K_L_arePipes) (pc' := 207) (ll' := [some (.ref ax), some (.int 1), some (.int (nI (z_sm g (np)))), some (.long (lN (z_sm (fun q => f q + g q) (np)))), none, some (.float (FP.fdiv (FP.i2f (I f_speakers 0)) (FP.i2f (s_aps p 3)))), some (.double 13858279740860792832), none]) (st' := [.int 1]) dL_arePipes_206 rfl ?_
      refine w_ifeq (K := K_L_arePipes) (t := 280) dL_arePipes_207 (by decide) (fun c207 => ?_) (fun c207 => ?_)
      · exact absurd c207 (by decide)
      · refine w_op (K := K_L_arePipes) (pc' := 211) (ll' := [some (.ref ax), some (.int 1), some (.int (nI (z_sm g (np)))), some (.long (lN (z_sm (fun q => f q + g q) (np)))), none, some (.float (FP.fdiv (FP.i2f (I f_speakers 0)) (FP.i2f (s_aps p 3)))), some (.double 13858279740860792832), none]) (st' := [.ref ax]) dL_arePipes_210 rfl ?_
        refine l_callH (K := K_L_arePipes) (As := []) (rest := []) dL_arePipes_211 rfl rM_X11_speaking (by decide) rfl rfl (by decide) rfl (Nat.le_of_ble_eq_true rfl) h1.hf (q_speaking_ h1 ?_)
        show s_w _ _ _ 214 _ _ _ _
        refine w_op (K := K_L_arePipes) (pc' := 215) (ll' := [some (.ref ax), some (.int 1), some (.int (nI (z_sm g (np)))), some (.long (lN (z_sm (fun q => f q + g q) (np)))), none, some (.float (FP.fdiv (FP.i2f (I f_speakers 0)) (FP.i2f (s_aps p 3)))), some (.double 13858279740860792832), none]) (st' := [.int (nI (z_sm g (np))), .int (I f_speakers 0)]) dL_arePipes_214 rfl ?_
        refine w_icmpne (K := K_L_arePipes) (t := 280) dL_arePipes_215 (by decide) (fun c215 => ?_) (fun c215 => ?_)
        · exact absurd hsp c215
        · refine w_op (K := K_L_arePipes) (pc' := 219) (ll' := [some (.ref ax), some (.int 1), some (.int (nI (z_sm g (np)))), some (.long (lN (z_sm (fun q => f q + g q) (np)))), none, some (.float (FP.fdiv (FP.i2f (I f_speakers 0)) (FP.i2f (s_aps p 3)))), some (.double 13858279740860792832), none]) (st' := [.long (lN (z_sm (fun q => f q + g q) (np)))]) dL_arePipes_218 rfl ?_
          refine w_op (K := K_L_arePipes) (pc' := 220) (ll' := [some (.ref ax), some (.int 1), some (.int (nI (z_sm g (np)))), some (.long (lN (z_sm (fun q => f q + g q) (np)))), none, some (.float (FP.fdiv (FP.i2f (I f_speakers 0)) (FP.i2f (s_aps p 3)))), some (.double 13858279740860792832), none]) (st' := [.ref ax, .long (lN (z_sm (fun q => f q + g q) (np)))]) dL_arePipes_219 rfl ?_
          refine l_callH (K := K_L_arePipes) (As := []) (rest := [.long (lN (z_sm (fun q => f q + g q) (np)))]) dL_arePipes_220 rfl rM_X11_ended (by decide) rfl rfl (by decide) rfl (Nat.le_of_ble_eq_true rfl) h1.hf (q_ended_ h1 ?_)
          show s_w _ _ _ 223 _ _ _ _
          rw [hen]
          refine w_op (K := K_L_arePipes) (pc' := 224) (ll' := [some (.ref ax), some (.int 1), some (.int (nI (z_sm g (np)))), some (.long (lN (z_sm (fun q => f q + g q) (np)))), none, some (.float (FP.fdiv (FP.i2f (I f_speakers 0)) (FP.i2f (s_aps p 3)))), some (.double 13858279740860792832), none]) (st' := [.int (nI (z_sm g (np))), .long (lN (z_sm f np)), .long (lN (z_sm (fun q => f q + g q) (np)))]) dL_arePipes_223 rfl ?_
          refine w_op (K := K_L_arePipes) (pc' := 225) (ll' := [some (.ref ax), some (.int 1), some (.int (nI (z_sm g (np)))), some (.long (lN (z_sm (fun q => f q + g q) (np)))), none, some (.float (FP.fdiv (FP.i2f (I f_speakers 0)) (FP.i2f (s_aps p 3)))), some (.double 13858279740860792832), none]) (st' := [.long ((nI (z_sm g (np)))).toInt64, .long (lN (z_sm f np)), .long (lN (z_sm (fun q => f q + g q) (np)))]) dL_arePipes_224 rfl ?_
          rw [z_i2l (show z_sm g np < 2 ^ 31 by omega)]
          refine w_op (K := K_L_arePipes) (pc' := 226) (ll' := [some (.ref ax), some (.int 1), some (.int (nI (z_sm g (np)))), some (.long (lN (z_sm (fun q => f q + g q) (np)))), none, some (.float (FP.fdiv (FP.i2f (I f_speakers 0)) (FP.i2f (s_aps p 3)))), some (.double 13858279740860792832), none]) (st' := [.long ((lN (z_sm f np)) + (lN (z_sm g np))), .long (lN (z_sm (fun q => f q + g q) (np)))]) dL_arePipes_225 rfl ?_
          rw [z_lNadd]
          refine w_op (K := K_L_arePipes) (pc' := 227) (ll' := [some (.ref ax), some (.int 1), some (.int (nI (z_sm g (np)))), some (.long (lN (z_sm (fun q => f q + g q) (np)))), none, some (.float (FP.fdiv (FP.i2f (I f_speakers 0)) (FP.i2f (s_aps p 3)))), some (.double 13858279740860792832), none]) (st' := [.int _]) dL_arePipes_226 rfl ?_
          refine w_ifne (K := K_L_arePipes) (t := 280) dL_arePipes_227 (by decide) (fun c227 => ?_) (fun c227 => ?_)
          · exact absurd ((v_cmp0 _ _).mpr (by rw [z_sm_add])) c227
          · refine w_op (K := K_L_arePipes) (pc' := 232) (ll' := [some (.ref ax), some (.int 1), some (.int (nI (z_sm g (np)))), some (.long (lN (z_sm (fun q => f q + g q) (np)))), none, some (.float (FP.fdiv (FP.i2f (I f_speakers 0)) (FP.i2f (s_aps p 3)))), some (.double 13858279740860792832), none]) (st' := [.float (FP.fdiv (FP.i2f (I f_speakers 0)) (FP.i2f (s_aps p 3)))]) dL_arePipes_230 rfl ?_
            refine w_op (K := K_L_arePipes) (pc' := 233) (ll' := [some (.ref ax), some (.int 1), some (.int (nI (z_sm g (np)))), some (.long (lN (z_sm (fun q => f q + g q) (np)))), none, some (.float (FP.fdiv (FP.i2f (I f_speakers 0)) (FP.i2f (s_aps p 3)))), some (.double 13858279740860792832), none]) (st' := [.float FP.fconst0, .float (FP.fdiv (FP.i2f (I f_speakers 0)) (FP.i2f (s_aps p 3)))]) dL_arePipes_232 rfl ?_
            refine w_op (K := K_L_arePipes) (pc' := 234) (ll' := [some (.ref ax), some (.int 1), some (.int (nI (z_sm g (np)))), some (.long (lN (z_sm (fun q => f q + g q) (np)))), none, some (.float (FP.fdiv (FP.i2f (I f_speakers 0)) (FP.i2f (s_aps p 3)))), some (.double 13858279740860792832), none]) (st' := [.int _]) dL_arePipes_233 rfl ?_
            refine w_iflt (K := K_L_arePipes) (t := 280) dL_arePipes_234 (by decide) (fun c234 => ?_) (fun c234 => ?_)
            · exact absurd c234 hsh.1
            · refine w_op (K := K_L_arePipes) (pc' := 239) (ll' := [some (.ref ax), some (.int 1), some (.int (nI (z_sm g (np)))), some (.long (lN (z_sm (fun q => f q + g q) (np)))), none, some (.float (FP.fdiv (FP.i2f (I f_speakers 0)) (FP.i2f (s_aps p 3)))), some (.double 13858279740860792832), none]) (st' := [.float (FP.fdiv (FP.i2f (I f_speakers 0)) (FP.i2f (s_aps p 3)))]) dL_arePipes_237 rfl ?_
              refine w_fconst1 (K := K_L_arePipes) dL_arePipes_239 ?_
              refine w_op (K := K_L_arePipes) (pc' := 241) (ll' := [some (.ref ax), some (.int 1), some (.int (nI (z_sm g (np)))), some (.long (lN (z_sm (fun q => f q + g q) (np)))), none, some (.float (FP.fdiv (FP.i2f (I f_speakers 0)) (FP.i2f (s_aps p 3)))), some (.double 13858279740860792832), none]) (st' := [.int _]) dL_arePipes_240 rfl ?_
              refine w_ifgt (K := K_L_arePipes) (t := 280) dL_arePipes_241 (by decide) (fun c241 => ?_) (fun c241 => ?_)
              · exact absurd c241 hsh.2
              · refine w_op (K := K_L_arePipes) (pc' := 245) (ll' := [some (.ref ax), some (.int 1), some (.int (nI (z_sm g (np)))), some (.long (lN (z_sm (fun q => f q + g q) (np)))), none, some (.float (FP.fdiv (FP.i2f (I f_speakers 0)) (FP.i2f (s_aps p 3)))), some (.double 13858279740860792832), none]) (st' := [.int (nI (z_sm g (np)))]) dL_arePipes_244 rfl ?_
                refine w_ifne (K := K_L_arePipes) (t := 260) dL_arePipes_245 (by decide) (fun c245 => ?_) (fun c245 => ?_)
                · exact absurd (hsp.symm.trans z0) c245
                · refine w_op (K := K_L_arePipes) (pc' := 250) (ll' := [some (.ref ax), some (.int 1), some (.int (nI (z_sm g (np)))), some (.long (lN (z_sm (fun q => f q + g q) (np)))), none, some (.float (FP.fdiv (FP.i2f (I f_speakers 0)) (FP.i2f (s_aps p 3)))), some (.double 13858279740860792832), none]) (st' := [.double 13858279740860792832]) dL_arePipes_248 rfl ?_
                  refine w_ldcd (K := K_L_arePipes) (v := 13858279740860792832) (Or.inl ⟨rfl, rfl⟩) rfl dL_arePipes_250 ?_
                  refine w_op (K := K_L_arePipes) (pc' := 254) (ll' := [some (.ref ax), some (.int 1), some (.int (nI (z_sm g (np)))), some (.long (lN (z_sm (fun q => f q + g q) (np)))), none, some (.float (FP.fdiv (FP.i2f (I f_speakers 0)) (FP.i2f (s_aps p 3)))), some (.double 13858279740860792832), none]) (st' := [.int _]) dL_arePipes_253 rfl ?_
                  refine w_ifne (K := K_L_arePipes) (t := 280) dL_arePipes_254 (by decide) (fun c254 => ?_) (fun c254 => ?_)
                  · exact absurd (by rw [z_m74]; rfl) c254
                  · refine w_goto (K := K_L_arePipes) (t := 269) dL_arePipes_257 (by decide) ?_
                    refine w_op (K := K_L_arePipes) (pc' := 270) (ll' := [some (.ref ax), some (.int 1), some (.int (nI (z_sm g (np)))), some (.long (lN (z_sm (fun q => f q + g q) (np)))), none, some (.float (FP.fdiv (FP.i2f (I f_speakers 0)) (FP.i2f (s_aps p 3)))), some (.double 13858279740860792832), none]) (st' := [.ref ax]) dL_arePipes_269 rfl ?_
                    refine l_callH (K := K_L_arePipes) (As := []) (rest := []) dL_arePipes_270 rfl rM_X11_loudness (by decide) rfl rfl (by decide) rfl (Nat.le_of_ble_eq_true rfl) h1.hf (q_loudness_ h1 ?_)
                    show s_w _ _ _ 273 _ _ _ _
                    refine w_iflt (K := K_L_arePipes) (t := 280) dL_arePipes_273 (by decide) (fun c273 => ?_) (fun c273 => ?_)
                    · exact absurd c273 (by obtain ⟨k9, hk9, e9⟩ := hQ.loud; rw [e9]; exact nI_pos (by omega))
                    · refine w_iconst (K := K_L_arePipes) (v := 1) dL_arePipes_276 rfl ?_
                      refine w_goto (K := K_L_arePipes) (t := 281) dL_arePipes_277 (by decide) ?_
                      refine w_ireturn (K := K_L_arePipes) dL_arePipes_281 ?_
                      exact ⟨rfl, kk _ _ (by omega) h1⟩
  · exact absurd (Int32.le_refl _) c55

set_option maxRecDepth 100000 in
set_option maxHeartbeats 400000 in
theorem c_arePipes {X : e_XT} {d T e ax : Nat} {p : e_Sp} {I : e_I} {J : e_Jt} {c : Nat × Nat} {w : e_Rw1} {Q : e_Rt → e_SS → Prop} (h : z_O T e ax (p, I, J, c, w)) (he : e ≤ 20) (kk : ∀ e2 c2, e2 ≤ e + 253 → z_O T e2 ax (p, I, J, c2, w) → Q (.inl (some (.int 1))) (p, I, J, c2, w)) : s_c X (d + 12) 432 [.ref ax] (p, I, J, c, w) Q := by
  obtain ⟨np, I', J', hQ⟩ := h.q
  obtain ⟨f, g, hs, hsp, hen, hle⟩ := hQ.sums
  obtain ⟨s0, s1, s2, s3⟩ := hQ.shp
  refine m_L_arePipes (Nat.le_of_ble_eq_true rfl) ?_
  show s_w X (d + 12) K_L_arePipes 0 [some (.ref ax), none, none, none, none, none, none, none] [] (p, I, J, c, w) _
  refine w_iconst (K := K_L_arePipes) (v := 1) dL_arePipes_0 rfl ?_
  refine w_op (K := K_L_arePipes) (pc' := 2) (ll' := [some (.ref ax), some (.int 1), none, none, none, none, none, none]) (st' := []) dL_arePipes_1 rfl ?_
  refine w_iconst (K := K_L_arePipes) (v := 0) dL_arePipes_2 rfl ?_
  refine w_op (K := K_L_arePipes) (pc' := 4) (ll' := [some (.ref ax), some (.int 1), some (.int 0), none, none, none, none, none]) (st' := []) dL_arePipes_3 rfl ?_
  refine w_op (K := K_L_arePipes) (pc' := 5) (ll' := [some (.ref ax), some (.int 1), some (.int 0), none, none, none, none, none]) (st' := [.long 0]) dL_arePipes_4 rfl ?_
  refine w_op (K := K_L_arePipes) (pc' := 6) (ll' := [some (.ref ax), some (.int 1), some (.int 0), some (.long 0), none, none, none, none]) (st' := []) dL_arePipes_5 rfl ?_
  refine w_iconst (K := K_L_arePipes) (v := 0) dL_arePipes_6 rfl ?_
  refine w_op (K := K_L_arePipes) (pc' := 9) (ll' := [some (.ref ax), some (.int 1), some (.int 0), some (.long 0), none, some (.int 0), none, none]) (st' := []) dL_arePipes_7 rfl ?_
  refine ap_w (d9 := 0) h (by decide) ?_
  refine ap_w (d9 := 1) h (by decide) ?_
  refine ap_w (d9 := 2) h (by decide) ?_
  refine w_op (K := K_L_arePipes) (pc' := 11) (ll' := [some (.ref ax), some (.int 1), some (.int 0), some (.long 0), none, some (.int (nI (2 + 1))), none, none]) (st' := [.int (nI (2 + 1))]) dL_arePipes_9 rfl ?_
  refine w_iconst (K := K_L_arePipes) (v := (nI 3)) dL_arePipes_11 rfl ?_
  refine w_icmpge (K := K_L_arePipes) (t := 49) dL_arePipes_12 (by decide) (fun c12 => ?_) (fun c12 => ?_)
  · refine w_iconst (K := K_L_arePipes) (v := (nI 0)) dL_arePipes_49 rfl ?_
    refine w_op (K := K_L_arePipes) (pc' := 52) (ll' := [some (.ref ax), some (.int 1), some (.int 0), some (.long 0), none, some (.int (nI 0)), none, none]) (st' := []) dL_arePipes_50 rfl ?_
    have e0 : p.2.2.2.2 0 = 0 := s0
    have q9 := ap_r (X := X) (d := d) (Q := fun r S' => e_rcr (some FieldType.boolean) r = true ∧ Q r S') (r9 := 0) (x6 := none) (x7 := none) h (by omega) hQ hs (by decide) (fun e2 c2 x6 x7 he2 h2 => ?_)
    · rw [e0] at q9; exact q9
    rw [← s1]
    refine ap_r h2 (by omega) hQ hs (by decide) (fun e3 c3 x6 x7 he3 h3 => ?_)
    rw [← s2]
    refine ap_r h3 (by omega) hQ hs (by decide) (fun e4 c4 x6 x7 he4 h4 => ?_)
    rw [← s3]
    exact ap_e h4 (by omega) hQ hs hsp hen hle (fun e5 c5 he5 h5 => kk e5 c5 (by omega) h5)
  · exact absurd (Int32.le_refl _) c12

