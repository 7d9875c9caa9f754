/-! 999999999999997: calls on both sides: a row (printed by wip/whole/p999999999999997.py) -/
def h_arT : List Nat := [f_mk_ranks, f_mk_offsets, f_mk_froms, f_mk_tos, f_mk_rows]
theorem h_arE {I : e_I} {k m : Nat} {y z t v : Int32} : s_eqN h_arT I (q_ar I k m y z t v) := ((((s_eqN.up (by decide)).trans (s_eqN.up (by decide))).trans (s_eqN.up (by decide))).trans (s_eqN.up (by decide))).trans (s_eqN.up (by decide))
theorem h_arR {I : e_I} {k m i : Nat} {y z t v : Int32} : q_ar I k m y z t v f_mk_rows i = if i = k then nI m + 1 else I f_mk_rows i := by
  unfold q_ar
  by_cases c : i = k
  · rw [if_pos c, c]; exact s_up_s
  · rw [if_neg c]
    refine (if_neg (fun z => c z.2)).trans ?_
    rw [s_up_F (by decide), s_up_F (by decide), s_up_F (by decide), s_up_F (by decide)]
theorem h_arK {I : e_I} {k m i : Nat} {y z t v : Int32} : q_ar I k m y z t v f_mk_ranks i = if i = k * 4 + m then y else I f_mk_ranks i := by
  unfold q_ar
  rw [s_up_F (by decide), s_up_F (by decide), s_up_F (by decide), s_up_F (by decide)]
  by_cases c : i = k * 4 + m
  · rw [if_pos c, c]; exact s_up_s
  · rw [if_neg c]; exact if_neg (fun z => c z.2)
theorem h_rrR {I : e_I} {nk nr k m r : Nat} {y z t v : Int32} (h : v_rr I nk nr) (h4 : ∀ j, j < nk → I f_mk_kind j = 115 → (I f_mk_rows j).toNatClampNeg ≤ 4) (hm : m < 4) (hrow : I f_mk_rows k = nI m) (hr : r < nr) (hy : y = nI r) : v_rr (q_ar I k m y z t v) nk nr := fun j hj hk i hi => by
  rw [h_arE f_mk_kind (by decide)] at hk
  rw [h_arR] at hi
  rw [h_arK]
  by_cases c : j = k
  · rw [if_pos c, show nI m + 1 = nI (m + 1) from nI_add m 1, nI_clamp (by omega)] at hi
    by_cases c2 : i = m
    · rw [if_pos (by rw [c, c2])]
      exact ⟨r, hr, hy⟩
    · rw [if_neg (fun z => c2 (by rw [c] at z; omega))]
      exact h j hj hk i (by rw [c, hrow, nI_clamp (by omega)]; omega)
  · rw [if_neg c] at hi
    have := h4 j hj hk
    rw [if_neg (fun z => c (by omega))]
    exact h j hj hk i hi
theorem h_sum1 {f g : Nat → Nat} {k : Nat} : ∀ n, k < n → (∀ i, i < n → i ≠ k → g i = f i) → g k = f k + 1 → s_sum n g = s_sum n f + 1
  | 0, h, _, _ => absurd h (Nat.not_lt_zero _)
  | n + 1, h, h1, h2 => by
    show s_sum n g + g n = s_sum n f + f n + 1
    by_cases c : k = n
    · rw [n_congr (fun i hi => h1 i (by omega) (by omega)), ← c, h2]
      omega
    · rw [h_sum1 n (by omega) (fun i hi hk => h1 i (by omega) hk) h2, h1 n (by omega) (fun z => c z.symm)]
      omega
theorem h_WnR {I : e_I} {nk k m : Nat} {y z t v : Int32} (hk : k < nk) (hm : m < 4) (hs : I f_mk_kind k = 115) (hrow : I f_mk_rows k = nI m) : v_Wn (q_ar I k m y z t v) nk = v_Wn I nk + 1 := by
  unfold v_Wn
  refine h_sum1 (k := k) nk hk (fun i hi hik => ?_) ?_
  · rw [h_arE f_mk_kind (by decide), h_arR, if_neg hik]
  · rw [h_arE f_mk_kind (by decide), h_arR, if_pos rfl, if_pos hs, if_pos hs, hrow, show nI m + 1 = nI (m + 1) from nI_add m 1, nI_clamp (by omega), nI_clamp (by omega)]

set_option maxRecDepth 100000 in
set_option maxHeartbeats 400000 in
theorem lp_row {X : e_XT} {d T ax am ao ad : Nat} {p : e_Sp} {I : e_I} {J : e_Jt} {c : Nat × Nat} {w : e_Rw1} {Q : e_Rt → e_SS → Prop} {x y z u v : Int32} (hX : (X 8).1 = 0) (hT : T < 512) (h : h_L T ax am ao ad (p, I, J, c, w)) (k : ∀ k' S1, l_BI X T ax am ao ad (d + 12) 242 [.ref am, .int x, .int y, .int z, .int u, .int v] k' S1 → Q (.inl (some (.int k'))) S1) : s_c X (d + 12) 325 [.ref ax, .int x, .int y, .int z, .int u, .int v, .ref ao] (p, I, J, c, w) Q := by
  obtain ⟨⟨nk, nr, np, n, t, s, m, od, ob, hQ⟩, ex, em, ⟨f, hf⟩, hd9, hne⟩ := h
  dsimp only at hQ ex em hf hd9
  have hN := hQ.nums (by omega)
  obtain ⟨a1, b1, hTp, ha1, hb1⟩ := hQ.2.2.2.2.2.1.tp (by omega)
  have hD := hQ.2.1
  have hC := hD.1
  have hp := hC.1
  have hKn := hQ.1.1.1.1.2.1
  have h5 := hQ.1.2.2.2.2.2.1
  rw [← ex]
  refine c_L_row (d := d + 11) hp (c_X11_row (d := d + 4) hD hTp (fun j hj hx r hr hy hz hf9 ht9 hs h0 h4 p1 c1 hD1 x1 hT1 => l_Wi.ok hf (k 0 _ (fun Q2 k2 => ?_))) (fun hx => l_Wi.ex (n := 1) (by decide) (k 1 _ (fun Q2 k2 => ?_))) (fun j hj hx hy => l_Wi.ex (n := 1) (by decide) (k 1 _ (fun Q2 k2 => ?_))) (fun j hj hx r hr hy h9 => l_Wi.ex (n := 2) (by decide) (k 2 _ (fun Q2 k2 => ?_))) (fun j hj hx r hr hy hz h9 => l_Wi.ex (n := 2) (by decide) (k 2 _ (fun Q2 k2 => ?_))) (fun j hj hx r hr hy hz hf9 h9 => l_Wi.ex (n := 2) (by decide) (k 2 _ (fun Q2 k2 => ?_))) (fun j hj hx r hr hy hz hf9 ht9 h9 => l_Wi.ex (n := 3) (by decide) (k 3 _ (fun Q2 k2 => ?_))) (fun j hj hx r hr hy hz hf9 ht9 hs h9 => l_Wi.ex (n := 4) (by decide) (k 4 _ (fun Q2 k2 => ?_))))
  · subst hx
    subst hy
    have hM := h_stl (TC := [f_s_ranks, f_s_offsets, f_s_firsts, f_s_lasts, f_s_rows]) hQ (show s_eqN [f_s_ranks, f_s_offsets, f_s_firsts, f_s_lasts, f_s_rows] I (s_addr I j (nI r) z u v) from (((((s_eqN.up (by decide)).trans (s_eqN.up (by decide))).trans (s_eqN.up (by decide))).trans (s_eqN.up (by decide))).trans (s_eqN.up (by decide)))) (by decide) x1 hD1 hT1 hb1
    have em1 : p1.1 T_MODEL 0 = am := by rw [(x1.1 T_MODEL rfl).1]; exact em
    have ex1 : p1.1 T_HALL 0 = ax := by rw [(x1.1 T_HALL rfl).1]; exact ex
    obtain ⟨a2, b2, hG, ha2, hc2, hb2⟩ := hM.G (by omega)
    have hK' := hM.1.1.1.1.2.1
    have hSM := hM.1.p x1.2.2.1.symm x1.hN.PARR.symm
    obtain ⟨hst1, ⟨m8, hm8, e1, e2, -⟩, -⟩ := hK'.stop hj hs
    dsimp only at e1 e2
    refine ⟨l_fG hG em1, ?_⟩
    rw [← em1]
    refine c_X16_row (d := d + 2) hG hX (fun kk m9 hkk hm hrow hx2 hy2 hrng hs2 p2 c2 n2 x2 hL2 hn2 => k2 _ _ ?_ l_th (fun _ => ⟨_, if_pos rfl, ?_⟩)) (fun w => absurd ⟨h_kj hj (by omega), h_kj hr (by omega)⟩ w) (fun _ w => absurd ⟨hz, hf9, ht9⟩ w) (fun kk hkk hx2 _ _ w => absurd ((hK'.2 kk hkk).1.1.symm.trans (by obtain rfl := h_kE hkk hj (by omega) hx2; exact hs)) w) (fun kk hkk hx2 _ _ _ w => absurd h4 (by obtain rfl := h_kE hkk hj (by omega) hx2; rw [e1, ← e2, w]; decide))
    · obtain rfl := h_kE hkk hj (by omega) hx2
      obtain rfl : m8 = m9 := (nI_eq (by omega) (by omega)).mp (e2.symm.trans hrow)
      obtain ⟨n', t', q1, q2, hs9⟩ := a_row (y := nI r) (z := z) (f := u) (tt := v) hkk hm e1 hs hSM (by omega) (by omega)
      have q3 := a_row0 hSM hs9 hkk hm hrow hs2 q2 (by omega) (by omega)
      have hn2e : n2 = n' := by
        have w1 := hs9.1.1.2.2.1.2.1.1.2.1
        rw [hL2.n] at w1
        exact (nI_eq (by omega) (by omega)).mp w1
      have hWn := h_WnR (y := nI r) (z := z) (t := u) (v := v) hkk hm hs2 hrow
      have hSB : h_SB p1 (q_ar (s_stl p nk nr (s_addr I kk (nI r) z u v, J)).1 kk m8 (nI r) z u v) nk nr np := by
        obtain ⟨d1, d2, d3, d4, d5⟩ := hM.2.2.2.2.1
        have hqd := (((((hG.up (F := f_mk_ranks) (i := kk * 4 + m8) (x := nI r) (by decide)).up (F := f_mk_offsets) (i := kk * 4 + m8) (x := z) (by decide)).up (F := f_mk_froms) (i := kk * 4 + m8) (x := u) (by decide)).up (F := f_mk_tos) (i := kk * 4 + m8) (x := v) (by decide)).upK (F := f_mk_rows) (j := kk) (x := nI m8 + 1) (fun _ => ⟨m8 + 1, by omega, nI_add m8 1⟩) (fun z => absurd z (by decide)) (.inl rfl)).1
        refine ⟨hqd, d2.of (fun F q hF _ => by rw [h_arE F (v_dj.o (L := h_frF) (by decide) hF)]), d3.N h_arE (by decide), h_rrR d4 (fun j hj hk => v_rows4 hK' hj hk) hm hrow hr rfl, fun k hk => ?_⟩
        rw [h_arE f_mk_kind (by decide)]
        exact d5 k hk
      have e0 := q_st_e (nk := nk) (nr := nr) (np := np) (a := (q_ar (s_stl p nk nr (s_addr I kk (nI r) z u v, J)).1 kk m8 (nI r) z u v, (s_stl p nk nr (s_addr I kk (nI r) z u v, J)).2))
      have eF : ∀ F, h_arT.contains F = false → (f_m_thrown :: f_l_size :: q_sT).contains F = false → s_up (q_st nk nr np (q_ar (s_stl p nk nr (s_addr I kk (nI r) z u v, J)).1 kk m8 (nI r) z u v, (s_stl p nk nr (s_addr I kk (nI r) z u v, J)).2)).1 f_m_thrown 0 0 F = (s_stl p nk nr (s_addr I kk (nI r) z u v, J)).1 F := fun F h1 h2 => (((e0.1.mono (by decide)).trans (s_eqN.up (by decide)) : s_eqN (f_m_thrown :: f_l_size :: q_sT) _ _) F h2).trans (h_arE F h1)
      have hR := hb2 p2 _ c2 n2 0 0 (h_xT.qX x2) (eF _ (by decide) (by decide)) (eF _ (by decide) (by decide)) (hL2.eq (s_up_F (by decide)))
      refine h_L.of (w := w) (h_end hM x2.hN h_arE (by decide) (fun l _ => by rw [h_arE _ (by decide)]) (fun _ _ => rfl) hSB (hs9.p x1.2.2.1 x1.hN.PARR) (Nat.le_succ T) hL2.n ⟨by omega, by omega⟩ hR ?_) ((x2.a (by decide)).trans ex1) ((x2.a (by decide)).trans em1) ⟨_, if_pos rfl⟩ (l_wd hne hd9) hne
      rw [hWn]
      exact hM.2.2.2.2.2.2.gr ⟨Nat.le_refl _, Nat.le_refl _, Nat.le_succ _⟩ (by omega) (by omega) (by omega) (by omega)
    · obtain rfl := h_kE hkk hj (by omega) hx2
      obtain rfl : m8 = m9 := (nI_eq (by omega) (by omega)).mp (e2.symm.trans hrow)
      refine l_aI ?_
      rw [s_eqN.stl _ (by decide)]
      show s_addr I kk (nI r) z u v f_s_rows kk = nI m8 + 1
      unfold s_addr
      rw [s_up_s, e1]
  · obtain ⟨a2, b2, hG, ha2⟩ := hQ.Gx (by omega)
    refine ⟨l_fG hG em, ?_⟩
    rw [← em]
    refine c_X16_row (d := d + 2) hG hX (fun _ _ hkk _ _ hx2 _ _ _ _ _ _ _ _ _ => absurd (h_kj hkk (by omega)) (hx2 ▸ h_kx hx)) (fun _ => k2 _ _ (h_refL hQ ex em ⟨f, hf⟩ hd9 hne) l_th (fun z => absurd z (by decide))) (fun w _ => absurd w.1 (h_kx hx)) (fun _ hkk hx2 _ _ _ => absurd (h_kj hkk (by omega)) (hx2 ▸ h_kx hx)) (fun _ hkk hx2 _ _ _ _ => absurd (h_kj hkk (by omega)) (hx2 ▸ h_kx hx))
  · obtain ⟨a2, b2, hG, ha2⟩ := hQ.Gx (by omega)
    refine ⟨l_fG hG em, ?_⟩
    rw [← em]
    refine c_X16_row (d := d + 2) hG hX (fun _ _ _ _ _ _ w _ _ _ _ _ _ _ _ => absurd w (h_kx hy)) (fun _ => k2 _ _ (h_refL hQ ex em ⟨f, hf⟩ hd9 hne) l_th (fun z => absurd z (by decide))) (fun w _ => absurd w.2 (h_kx hy)) (fun _ _ _ w _ _ => absurd w (h_kx hy)) (fun _ _ _ w _ _ _ => absurd w (h_kx hy))
  · obtain ⟨a2, b2, hG, ha2⟩ := hQ.Gx (by omega)
    subst hx
    subst hy
    refine ⟨l_fG hG em, ?_⟩
    rw [← em]
    refine c_X16_row (d := d + 2) hG hX (fun _ _ _ _ _ _ _ w _ _ _ _ _ _ _ => absurd w.1 h9) (fun w => absurd ⟨h_kj hj (by omega), h_kj hr (by omega)⟩ w) (fun _ _ => k2 _ _ (h_refL hQ ex em ⟨f, hf⟩ hd9 hne) l_th (fun z => absurd z (by decide))) (fun _ _ _ _ w _ => absurd w.1 h9) (fun _ _ _ _ w _ _ => absurd w.1 h9)
  · obtain ⟨a2, b2, hG, ha2⟩ := hQ.Gx (by omega)
    subst hx
    subst hy
    refine ⟨l_fG hG em, ?_⟩
    rw [← em]
    refine c_X16_row (d := d + 2) hG hX (fun _ _ _ _ _ _ _ w _ _ _ _ _ _ _ => absurd w.2.1 h9) (fun w => absurd ⟨h_kj hj (by omega), h_kj hr (by omega)⟩ w) (fun _ _ => k2 _ _ (h_refL hQ ex em ⟨f, hf⟩ hd9 hne) l_th (fun z => absurd z (by decide))) (fun _ _ _ _ w _ => absurd w.2.1 h9) (fun _ _ _ _ w _ _ => absurd w.2.1 h9)
  · obtain ⟨a2, b2, hG, ha2⟩ := hQ.Gx (by omega)
    subst hx
    subst hy
    refine ⟨l_fG hG em, ?_⟩
    rw [← em]
    refine c_X16_row (d := d + 2) hG hX (fun _ _ _ _ _ _ _ w _ _ _ _ _ _ _ => absurd w.2.2 h9) (fun w => absurd ⟨h_kj hj (by omega), h_kj hr (by omega)⟩ w) (fun _ _ => k2 _ _ (h_refL hQ ex em ⟨f, hf⟩ hd9 hne) l_th (fun z => absurd z (by decide))) (fun _ _ _ _ w _ => absurd w.2.2 h9) (fun _ _ _ _ w _ _ => absurd w.2.2 h9)
  · obtain ⟨a2, b2, hG, ha2⟩ := hQ.Gx (by omega)
    subst hx
    subst hy
    refine ⟨l_fG hG em, ?_⟩
    rw [← em]
    refine c_X16_row (d := d + 2) hG hX (fun kk _ hkk _ _ hx2 _ _ w _ _ _ _ _ _ => absurd ((hKn.2 kk hkk).1.1.trans w) (by obtain rfl := h_kE hkk hj (by omega) hx2; exact h9)) (fun w => absurd ⟨h_kj hj (by omega), h_kj hr (by omega)⟩ w) (fun _ w => absurd ⟨hz, hf9, ht9⟩ w) (fun _ _ _ _ _ _ => k2 _ _ (h_refL hQ ex em ⟨f, hf⟩ hd9 hne) l_th (fun z => absurd z (by decide))) (fun kk hkk hx2 _ _ w _ => absurd ((hKn.2 kk hkk).1.1.trans w) (by obtain rfl := h_kE hkk hj (by omega) hx2; exact h9))
  · obtain ⟨a2, b2, hG, ha2⟩ := hQ.Gx (by omega)
    subst hx
    subst hy
    obtain ⟨hst1, ⟨m8, hm8, e1, e2, -⟩, -⟩ := hKn.stop hj hs
    dsimp only at e1 e2
    refine ⟨l_fG hG em, ?_⟩
    rw [← em]
    refine c_X16_row (d := d + 2) hG hX (fun kk m9 hkk hm hrow hx2 _ _ _ _ _ _ _ _ _ => absurd h9 (by obtain rfl := h_kE hkk hj (by omega) hx2; rw [e1, ← e2, hrow]; exact fun z => z.elim (fun z => absurd (nI_pos' (n := m9) (by omega)) (Int32.not_le.mpr z)) (fun z => absurd ((nI_leI (a := 4) (by omega) (by omega)).mp z) (by omega)))) (fun w => absurd ⟨h_kj hj (by omega), h_kj hr (by omega)⟩ w) (fun _ w => absurd ⟨hz, hf9, ht9⟩ w) (fun kk hkk hx2 _ _ w => absurd ((hKn.2 kk hkk).1.1.symm.trans (by obtain rfl := h_kE hkk hj (by omega) hx2; exact hs)) w) (fun _ _ _ _ _ _ _ => k2 _ _ (h_refL hQ ex em ⟨f, hf⟩ hd9 hne) l_th (fun z => absurd z (by decide)))
