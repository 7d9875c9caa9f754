/-! 9999999999999997: calls on both sides: a rank -/
theorem h_rkE {p p1 : e_Sp} {I : e_I} {J : e_Jt} {nk nr np lo m : Nat} {x3 x4 x5 x6 x7 : Int32} : s_eqN (f_l_modCount :: f_l_size :: (v_pF ++ (v_rF ++ s_tST))) I (s_stl p1 nk (nr + 1) (v_rkA p I nr np lo m x3 x4 x5 x6 x7, J)).1 := by
  have e1 : s_eqN (f_l_modCount :: f_l_size :: (v_pF ++ v_rF)) I (v_rkA p I nr np lo m x3 x4 x5 x6 x7) := v_rkAN
  exact (e1.mono (by decide)).trans (s_eqN.stl.mono (by decide))
theorem h_rkL {p p1 : e_Sp} {I : e_I} {J : e_Jt} {nk nr np lo m l : Nat} {x3 x4 x5 x6 x7 : Int32} (hl : l ≠ 0) : (s_stl p1 nk (nr + 1) (v_rkA p I nr np lo m x3 x4 x5 x6 x7, J)).1 f_l_size l = I f_l_size l := by
  rw [s_eqN.stl _ (by decide)]
  dsimp only
  unfold v_rkA
  rw [s_adI_n hl, v_rkN _ (by decide), v_pkN _ (by decide)]
theorem h_in19 {x : Int32} (h : 1 ≤ x ∧ x ≤ 9) : v_in x 0 9 := by
  obtain ⟨h1, h2⟩ := h
  rw [Int32.le_iff_toInt_le] at h1 h2
  have a : (1 : Int32).toInt = 1 := by decide
  have b : (9 : Int32).toInt = 9 := by decide
  exact ⟨by omega, by omega⟩

set_option maxRecDepth 100000 in
set_option maxHeartbeats 800000 in
theorem lp_rank {X : e_XT} {d T ax am ao ad : Nat} {p : e_Sp} {I : e_I} {J : e_Jt} {c : Nat × Nat} {w : e_Rw1} {Q : e_Rt → e_SS → Prop} {x1 x2 x3 x4 x5 x6 x7 : Int32} (hX : (X 8).1 = 0) (hT : T < 512) (h : h_L T ax am ao ad (p, I, J, c, w)) (k : ∀ k' S1, l_BI X T ax am ao ad (d + 12) 214 [.ref am, .int x1, .int x2, .int x3, .int x4, .int x5, .int x6, .int x7] k' S1 → Q (.inl (some (.int k'))) S1) : s_c X (d + 12) 323 [.ref ax, .int x1, .int x2, .int x3, .int x4, .int x5, .int x6, .int x7, .ref ao] (p, I, J, c, w) Q := by
  obtain ⟨⟨nk, nr, np, n, t, s, m, od, ob, hQ⟩, ex, em, ⟨f, hf⟩, hd9, hne⟩ := h
  dsimp only at hQ ex em hf hd9
  have hN := hQ.nums (by omega)
  obtain ⟨a1, b1, hTp, ha1, hb1⟩ := hQ.2.2.2.2.2.1.tp (by omega)
  have hD := hQ.2.1
  have hp := hD.1.1
  have hSL := hQ.2.2.2.1
  have hxb : e_xb = 4294967296 := rfl
  have htp : s_tp p nr = np := hQ.1.1.1.1.1.1.2.2.symm
  rw [← ex]
  refine c_L_rank (d := d + 11) hp (c_X11_rank (d := d + 4) hD hTp hSL.1.1 hX (by omega) (by omega) (hSL.2.2.2.2.1.2.1 nr (Nat.le_refl _)).1 (hSL.2.2.2.2.1.2.1 nr (Nat.le_refl _)).2 (fun k => hSL.2.2.2.2.1.2.2 _ (Nat.le_add_right _ _)) (fun lo hi dv hlh h127 hd3 e1 e2 e4 hcd h10 p1 x9 y9 hx9 hy9 hxw hpr hbr p' c1 hD1 y1 hT1 hLa0 => l_Wi.ok hf (k 0 _ (fun Q2 k2 => ?_))) (fun hx => l_Wi.ex (n := 1) (by decide) (k 1 _ (fun Q2 k2 => ?_))) (fun hx h10 => l_Wi.ex (n := 2) (by decide) (k 2 _ (fun Q2 k2 => ?_))))
  · obtain ⟨mm, rfl⟩ : ∃ mm, hi = lo + mm := ⟨hi - lo, by omega⟩
    have e9 : lo + mm - lo + 1 = mm + 1 := by omega
    subst e1
    subst e2
    subst e4
    rw [htp, e9] at hxw
    rw [e9] at hpr
    rw [htp] at hbr
    rw [htp, e9] at hD1 hT1 hLa0
    rw [htp, e9]
    have hA : s_adI (s_rkI (s_pkI I np (mm + 1)) nr (nI lo) (nI dv) x3 x5 x6 x7) 0 nr = v_rkA p I nr np lo mm x3 (nI dv) x5 x6 x7 := rfl
    rw [hA] at hD1 hT1 hLa0
    rw [hA]
    obtain ⟨xG, hbp, h4, -⟩ := h_rkX hxw y1
    obtain ⟨hS1, hSB1, hR1⟩ := h_rank1 hQ xG h4 h_rkE (by decide) (fun l hl => h_rkL hl) (h_kJ (p := p1) (nk := nk) (nr := nr + 1) (A := v_rkA p I nr np lo mm x3 (nI dv) x5 x6 x7)) hT1 hb1
    have em1 : p'.1 T_MODEL 0 = am := (xG T_MODEL 0 (by decide)).1.trans em
    have ex1 : p'.1 T_HALL 0 = ax := (xG T_HALL 0 (by decide)).1.trans ex
    obtain ⟨a2, b2, hG, ha2, hc2, hb2⟩ := h_gG hS1 hSB1 hR1 hN.2.1.1 (by omega)
    have hg : v_Pg p p1 nr np mm := ⟨fun r hr => ⟨(hxw.1 T_PARR r (h_Nrr (by omega) (by decide) (by decide))).2.2, hxw.2 r (by omega)⟩, hpr, hbr⟩
    have h6 : x6 ≤ 5 := hcd.2.2.2.2.2.1.2
    have h3 : v_in x3 0 9 := h_in19 hcd.2.2.1
    have hR9 : p'.2.1 T_MRANK nr = false := ((xG T_MRANK nr rfl).2.1).trans (hSL.2.2.2.2.2.2 nr (Nat.le_refl _))
    refine ⟨l_fG hG em1, ?_⟩
    rw [← em1]
    refine c_X16_rank (d := d + 2) hG hX (hSL.1.2.2.1.xG xG (by decide) (by decide) (h_rkL (by decide))) (by omega) (by omega) hR9 (fun _ => by omega) (fun _ _ lo' mm' dv' e1 e2 e4 hlm hd3' p2 x8 y8 hx8 hy8 hxv2 hkt hLa2 p4 c4 n4 x4 hL4 hn4 => k2 _ _ ?_ l_th (fun _ => ⟨_, if_pos rfl, ?_⟩)) (fun w => absurd hcd w) (fun _ w => absurd h10 (by omega))
    · obtain rfl : lo' = lo := ((nI_eq (by omega) (by omega)).mp e1).symm
      obtain rfl : mm' = mm := by
        have := (nI_eq (by omega) (by omega)).mp e2
        omega
      obtain rfl : dv' = dv := ((nI_eq (by omega) (by omega)).mp e4).symm
      exact h_rank2 (c' := c1) hQ hT h10 hd3 hlm h3 hxw hpr hbr y1 h_rkE (by decide) (fun l hl => h_rkL hl) v_Wd.stl hD1 hLa0 hx9 hy9 hx8 hy8 hS1 hSB1 (a_rank hS1 hSB1.2.1 hg h10 hlm hd3 h6 (by omega) (by omega)) hxv2 hkt hLa2 x4 hL4 hn4 hb2 ex1 em1 ⟨_, if_pos rfl⟩ (l_wd hne hd9) hne
    · exact l_aI rfl
  · obtain ⟨a2, b2, hG, ha2⟩ := hQ.Gx (by omega)
    refine ⟨l_fG hG em, ?_⟩
    rw [← em]
    refine c_X16_rank (d := d + 2) hG hX hSL.1.2.2.1 (by dsimp only; omega) (by omega) (hSL.2.2.2.2.2.2 nr (Nat.le_refl _)) (fun _ => by omega) (fun w => absurd w hx) (fun _ => k2 _ _ (h_refL hQ ex em ⟨f, hf⟩ hd9 hne) l_th (fun z => absurd z (by decide))) (fun w => absurd w hx)
  · obtain ⟨a2, b2, hG, ha2⟩ := hQ.Gx (by omega)
    refine ⟨l_fG hG em, ?_⟩
    rw [← em]
    refine c_X16_rank (d := d + 2) hG hX hSL.1.2.2.1 (by dsimp only; omega) (by omega) (hSL.2.2.2.2.2.2 nr (Nat.le_refl _)) (fun _ => by omega) (fun _ w => absurd w h10) (fun w => absurd hx w) (fun _ _ => k2 _ _ (h_refL hQ ex em ⟨f, hf⟩ hd9 hne) l_th (fun z => absurd z (by decide)))
