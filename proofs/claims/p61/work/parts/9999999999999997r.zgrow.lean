/-! 9999999999999997r: ranks, knobs and rows are made -/
theorem h_NK3 {nk t i : Nat} (h : h_G3 1 t i = false) : s_NK nk t i = false := by
  unfold h_G3 at h
  rw [Bool.or_eq_false_iff, Bool.or_eq_false_iff] at h
  unfold s_NK s_Nk
  rw [h.1.2, h.2]
  rfl
theorem h_kC {p p1 p' : e_Sp} {nk : Nat} (hxv : s_xv (s_NK nk) p p1) (x1 : s_xt p1 p') : h_xG (h_G3 1) p p' ∧ p'.2.2.2.2 = p.2.2.2.2 ∧ p'.2.2.1 T_PARR = p.2.2.1 T_PARR ∧ h_x4 p p' := by
  have hE : ∀ t, t ≠ T_ENTR → p'.1 t = p1.1 t ∧ p'.2.1 t = p1.2.1 t ∧ p'.2.2.1 t = p1.2.2.1 t := fun t ht => x1.1 t (decide_eq_false ht)
  refine ⟨fun t i h => ?_, x1.2.2.1.trans hxv.2, ?_, ?_, ⟨?_, ?_, ?_⟩, fun j => ?_, ?_⟩
  · have ht : t ≠ T_ENTR := fun z => by
      rw [z] at h
      have q : h_G3 1 T_ENTR i = true := rfl
      rw [q] at h
      cases h
    obtain ⟨a, b, c⟩ := hE t ht
    obtain ⟨a', b', c'⟩ := hxv.1 t i (h_NK3 h)
    exact ⟨by rw [a]; exact a', by rw [b]; exact b', by rw [c]; exact c'⟩
  · funext i
    rw [(hE T_PARR (by decide)).2.2]
    exact (hxv.1 _ i rfl).2.2
  · rw [(hE T_LIST (by decide)).2.1]; exact (hxv.1 _ _ rfl).2.1
  · rw [(hE T_LARR (by decide)).1]; exact (hxv.1 _ _ rfl).1
  · rw [(hE T_LARR (by decide)).2.1]; exact (hxv.1 _ _ rfl).2.1
  · rw [(hE T_LARR (by decide)).2.2]; exact (hxv.1 _ _ rfl).2.2
  · rw [(hE T_MKEPT (by decide)).2.1]; exact (hxv.1 _ _ rfl).2.1
  · exact Nat.le_trans (Nat.le_of_eq (hxv.1 T_ENTR 0 rfl).2.2.symm) x1.2.2.2
theorem h_rkE {p p1 : e_Sp} {I : e_I} {J : e_Jt} {nk nr np lo m : Nat} {x3 x4 x5 x6 x7 : Int32} : s_eqN (f_l_modCount :: f_l_size :: (v_pF ++ (v_rF ++ s_tST))) I (s_stl p1 nk (nr + 1) (v_rkA p I nr np lo m x3 x4 x5 x6 x7, J)).1 := by
  have e1 : s_eqN (f_l_modCount :: f_l_size :: (v_pF ++ v_rF)) I (v_rkA p I nr np lo m x3 x4 x5 x6 x7) := v_rkAN
  exact (e1.mono (by decide)).trans (s_eqN.stl.mono (by decide))
theorem h_rkL {p p1 : e_Sp} {I : e_I} {J : e_Jt} {nk nr np lo m l : Nat} {x3 x4 x5 x6 x7 : Int32} (hl : l ≠ 0) : (s_stl p1 nk (nr + 1) (v_rkA p I nr np lo m x3 x4 x5 x6 x7, J)).1 f_l_size l = I f_l_size l := by
  rw [s_eqN.stl _ (by decide)]
  dsimp only
  unfold v_rkA
  rw [s_adI_n hl, v_rkN _ (by decide), v_pkN _ (by decide)]
theorem h_in19 {x : Int32} (h : 1 ≤ x ∧ x ≤ 9) : v_in x 0 9 := by
  obtain ⟨h1, h2⟩ := h
  rw [Int32.le_iff_toInt_le] at h1 h2
  have a : (1 : Int32).toInt = 1 := by decide
  have b : (9 : Int32).toInt = 9 := by decide
  exact ⟨by omega, by omega⟩

theorem s_La.xG {N : Nat → Nat → Bool} {p p' : e_Sp} {I I' : e_I} {l n : Nat} (h : s_La p I l n) (x : h_xG N p p') (h1 : N T_LIST l = false) (h2 : N T_LARR l = false) (e : I' f_l_size l = I f_l_size l) : s_La p' I' l n := by
  unfold s_La at h ⊢
  rw [(x _ l h1).2.1, (x _ l h2).1, (x _ l h2).2.1, (x _ l h2).2.2, e]
  exact h

theorem z_GI.st2 {K nk nr np : Nat} {I' : e_I} {J' : e_Jt} (h : z_GI K np (I', J')) : z_GI (K + 1) np (q_st nk nr np (I', J')) := ⟨h.1.N (q_st_e (nk := nk) (nr := nr) (np := np) (a := (I', J'))).1 (by decide), z_T.st.E h.2⟩
theorem z_sm_ext {f : Nat → Nat} {np : Nat} (h : ∀ q, np ≤ q → f q = 0) : ∀ k, z_sm f (np + k) = z_sm f np := by
  intro k
  induction k with
  | zero => rfl
  | succ k ih =>
    show z_sm f (np + k) + f (np + k) = z_sm f np
    rw [ih, h _ (by omega)]; rfl
/-- the ghost's new rank -/
theorem z_GI.rank {K np nr lo mm : Nat} {I' : e_I} {J' : e_Jt} {x3 x4 x5 x6 x7 : Int32} (h : z_GI K np (I', J')) (hf : v_Fr np I') (hn : np + (mm + 1) ≤ 1280) (h3 : v_in x3 0 9) : z_GI K (np + (mm + 1)) (q_rkI I' nr np lo mm x3 x4 x5 x6 x7, J') := by
  have e : s_eqN q_rF I' (q_rkI I' nr np lo mm x3 x4 x5 x6 x7) := q_rkI_e
  obtain ⟨-, -, v3, -, -, -, -, -, v9⟩ := v_rkBv (I := I') (nr := nr) (np := np) (lo := lo) (m := mm) (x3 := x3) (x4 := x4) (x5 := x5) (x6 := x6) (x7 := x7)
  obtain ⟨⟨g1, g2, g3, g4, g5⟩, f, g, k1, k2, k3, m, k4, k5, k6⟩ := h
  dsimp only at g1 g2 g3 g4 g5 k1 k2 k3 k5 k6
  have hz : ∀ q, np ≤ q → q < np + (mm + 1) → I' f_m_tuning q = 0 ∧ I' f_m_begun q = 0 ∧ I' f_m_speaks q = 0 ∧ I' f_m_since q = 0 ∧ I' f_m_closedSince q = -1000000 := fun q h1 h2 => by
    obtain ⟨a1, a2, -⟩ := hf q h1 (by omega)
    exact ⟨a1 _ (by decide), a1 _ (by decide), a1 _ (by decide), a1 _ (by decide), a2⟩
  refine ⟨⟨fun q hq => ?_, fun i hi => ?_, ?_, fun r hr => ?_, fun d hd => ?_⟩, fun q => if q < np then f q else 0, fun q => if q < np then g q else 0, fun q hq => ?_, ?_, ?_, m, k4, ?_, fun q hq => ?_⟩
  · dsimp only
    rw [e f_m_tuning (by decide)]
    by_cases c : q < np
    · exact g1 q c
    · rw [(hz q (by omega) hq).1]; exact ⟨by decide, by decide⟩
  · dsimp only; rw [e f_m_temper (by decide)]; exact g2 i hi
  · dsimp only; rw [e f_m_heat (by decide)]; exact g3
  · dsimp only
    by_cases c : r = nr
    · rw [c, v3, v9]; exact ⟨⟨by decide, by decide⟩, h3⟩
    · rw [v_rkBr (by decide) c, v_rkBr (by decide) c]; exact g4 r hr
  · dsimp only; rw [e f_m_supply (by decide)]; exact g5 d hd
  · dsimp only
    rw [e f_m_begun (by decide), e f_m_speaks (by decide)]
    by_cases c : q < np
    · rw [if_pos c, if_pos c]; exact k1 q c
    · rw [if_neg c, if_neg c, (hz q (by omega) hq).2.1, (hz q (by omega) hq).2.2.1]
      exact ⟨Nat.zero_le _, by decide, rfl, rfl⟩
  · dsimp only
    rw [k2, z_sm_ext (fun q hq => if_neg (by omega)), z_sm_c np (g := f) (fun q hq => if_pos hq)]
  · dsimp only
    rw [k3, z_sm_ext (f := fun q => (if q < np then f q else 0) + (if q < np then g q else 0)) (fun q hq => by rw [if_neg (by omega), if_neg (by omega)]), z_sm_c np (f := fun q => (if q < np then f q else 0) + (if q < np then g q else 0)) (g := fun q => f q + g q) (fun q hq => by rw [if_pos hq, if_pos hq])]
  · dsimp only; rw [e f_m_tick (by decide)]; exact k5
  · dsimp only
    rw [e f_m_since (by decide), e f_m_closedSince (by decide)]
    by_cases c : q < np
    · exact k6 q c
    · rw [(hz q (by omega) hq).2.2.2.1, (hz q (by omega) hq).2.2.2.2]
      refine ⟨⟨m, Nat.zero_le _, by omega, (Int32.sub_self _).symm⟩, ⟨m + 1000000, Nat.zero_le _, Nat.le_refl _, ?_⟩⟩
      rw [← nI_add, show (-1000000 : Int32) = - nI 1000000 from by decide]
      have : ∀ u v : Int32, -v = u - (u + v) := fun u v => by
        rw [Int32.sub_eq_add_neg, Int32.neg_add, Int32.sub_eq_add_neg, ← Int32.add_assoc, Int32.add_right_neg, Int32.zero_add]
      exact this _ _
theorem z_Fr.st {nk nr np : Nat} {I' : e_I} {J' : e_Jt} (h : v_Fr np I') : v_Fr np (q_st nk nr np (I', J')).1 := h.of (fun F q hF hq => h_frst hF hq)
theorem z_Fr.N {np : Nat} {T : List Nat} {I I1 : e_I} (h : v_Fr np I) (e : s_eqN T I I1) (hT : v_dj h_frF T = true) : v_Fr np I1 := h.of (fun F q hF _ => by rw [e F (v_dj.o hT hF)])
set_option maxRecDepth 100000 in
set_option maxHeartbeats 800000 in
/-- a rank -/
theorem g_rank {X : e_XT} {d T nk nr np ax lo hi dv y3 y5 y6 y7 : Nat} {p : e_Sp} {I : e_I} {J : e_Jt} {c : Nat × Nat} {w : e_Rw1} {Q : e_Rt → e_SS → Prop} (hX : (X 8).1 = 0) (hT : T < 90) (h : z_S T nk nr np p I J c) (hax : p.1 T_HALL 0 = ax) (hr3 : nr < 3) (hlo : 36 ≤ lo ∧ lo ≤ 44) (hhi : 48 ≤ hi ∧ hi ≤ 77) (hy3 : 1 ≤ y3 ∧ y3 ≤ 9) (hdv : dv < 3) (hy5 : y5 ≤ 2) (hy6 : y6 ≤ 2) (hy7 : 1 ≤ y7 ∧ y7 ≤ 90) (k : ∀ p' c' R RJ, z_S (T + 1) nk (nr + 1) (np + (hi - lo + 1)) p' R RJ c' → p'.1 T_HALL 0 = ax → Q (.inl (some (.int (nI nr)))) (p', R, RJ, c', w)) : s_c X (d + 11) 399 [.ref ax, .int (nI lo), .int (nI hi), .int (nI y3), .int (nI dv), .int (nI y5), .int (nI y6), .int (nI y7)] (p, I, J, c, w) Q := by
  obtain ⟨n, t, s, m, I', J', ⟨hD, hW, ⟨a, b, hTp, ha, hb⟩, ⟨h100, hnp, hnr, hnk⟩, hS, ⟨K, hK, hG⟩, hn, hm⟩, ⟨hFr, hLa0, hLa1, hnw⟩, ⟨⟨r1, r2, r3, r4, r5, r6⟩, r7, r8, r9⟩⟩ := h
  have hxb : e_xb = 4294967296 := rfl
  have hcc : c.1 + 150 < e_xb ∧ a + 150 ≤ 4294960000 := by
    obtain ⟨-, ⟨k9, -, hk9, hc9, -⟩, -⟩ := hTp
    omega
  have htp : s_tp p nr = np := hS.1.1.1.1.1.2.2.symm
  have hcd : (0 ≤ nI lo ∧ nI lo ≤ 127) ∧ (nI lo ≤ nI hi ∧ nI hi ≤ 127) ∧ (1 ≤ nI y3 ∧ nI y3 ≤ 9) ∧ (0 ≤ nI dv ∧ nI dv ≤ 2) ∧ (0 ≤ nI y5 ∧ nI y5 ≤ 5) ∧ (0 ≤ nI y6 ∧ nI y6 ≤ 5) ∧ (1 ≤ nI y7 ∧ nI y7 ≤ 99) := ⟨⟨nI_pos' (by omega), nI_le (b := 127) (by omega) (by decide)⟩, ⟨nI_le (by omega) (by omega), nI_le (b := 127) (by omega) (by decide)⟩, ⟨nI_le (a := 1) hy3.1 (by omega), nI_le (b := 9) hy3.2 (by decide)⟩, ⟨nI_pos' (by omega), nI_le (b := 2) (by omega) (by decide)⟩, ⟨nI_pos' (by omega), nI_le (b := 5) (by omega) (by decide)⟩, ⟨nI_pos' (by omega), nI_le (b := 5) (by omega) (by decide)⟩, ⟨nI_le (a := 1) hy7.1 (by omega), nI_le (b := 99) (by omega) (by decide)⟩⟩
  rw [← hax]
  refine c_L_rank (d := d + 10) hD.1.1 (c_X11_rank (d := d + 3) hD hTp hLa0 hX hcc.1 hcc.2 (hnw.2.1 nr (Nat.le_refl _)).1 (hnw.2.1 nr (Nat.le_refl _)).2 (fun k => hnw.2.2 _ (by rw [htp]; exact Nat.le_add_right _ _)) (fun lo' hi' dv' hlh h127 hd3 e1 e2 e4 _ h10 p1 x9 y9 hx9 hy9 hxw hpr hbr p' c1 hD1 y1 hT1 hLaR => ?_) (fun z => absurd hcd z) (fun _ z => absurd (show nr < 10 by omega) z))
  obtain rfl : lo' = lo := ((nI_eq (by omega) (by omega)).mp e1).symm
  obtain rfl : hi' = hi := ((nI_eq (by omega) (by omega)).mp e2).symm
  obtain rfl : dv' = dv := ((nI_eq (by omega) (by omega)).mp e4).symm
  obtain ⟨mm, rfl⟩ : ∃ mm, hi' = lo' + mm := ⟨hi' - lo', by omega⟩
  have e9 : lo' + mm - lo' + 1 = mm + 1 := by omega
  rw [htp, e9] at hxw
  rw [e9] at hpr k
  rw [htp] at hbr
  rw [htp, e9] at hD1 hT1 hLaR
  rw [htp, e9]
  have hA : s_adI (s_rkI (s_pkI I np (mm + 1)) nr (nI lo') (nI dv') (nI y3) (nI y5) (nI y6) (nI y7)) 0 nr = v_rkA p I nr np lo' mm (nI y3) (nI dv') (nI y5) (nI y6) (nI y7) := rfl
  rw [hA] at hD1 hT1 hLaR
  rw [hA]
  obtain ⟨xG, hbp, -, hN4⟩ := h_rkX hxw y1
  have hg : v_Pg p p1 nr np mm := ⟨fun r hr => ⟨(hxw.1 T_PARR r (h_Nrr (by omega) (by decide) (by decide))).2.2, hxw.2 r (by omega)⟩, hpr, hbr⟩
  obtain ⟨n', t', q1, -, hS1⟩ := a_rank (x3 := nI y3) (x5 := nI y5) (x6 := nI y6) (x7 := nI y7) hS hFr hg (by omega) (show lo' + mm ≤ 127 by omega) hdv (nI_le (b := 5) (by omega) (by decide)) (by omega) (by omega)
  have h3 : v_in (nI y3) 0 9 := (v_in.nI (by omega)).mono (by omega) (by omega)
  have hG1 := (z_GI.rank (nr := nr) (lo := lo') (mm := mm) (x3 := nI y3) (x4 := nI dv') (x5 := nI y5) (x6 := nI y6) (x7 := nI y7) hG hFr (by omega) h3).st2 (nk := nk) (nr := nr + 1)
  have hFr1 : v_Fr (np + (mm + 1)) (q_st nk (nr + 1) (np + (mm + 1)) (q_rkI I' nr np lo' mm (nI y3) (nI dv') (nI y5) (nI y6) (nI y7), J')).1 := z_Fr.st (fun q h1 h2 => (z_Fr.N hFr (q_rkI_e (nr := nr) (np := np) (lo := lo') (m := mm) (x3 := nI y3) (x4 := nI dv') (x5 := nI y5) (x6 := nI y6) (x7 := nI y7)) (by decide)) q (by omega) h2)
  have eR := h_rkE (p := p) (p1 := p1) (I := I) (J := J) (nk := nk) (nr := nr) (np := np) (lo := lo') (m := mm) (x3 := nI y3) (x4 := nI dv') (x5 := nI y5) (x6 := nI y6) (x7 := nI y7)
  have hL1 : s_La p' (s_stl p1 nk (nr + 1) (v_rkA p I nr np lo' mm (nI y3) (nI dv') (nI y5) (nI y6) (nI y7), J)).1 1 nk := hLa1.xG xG (by decide) (by decide) (h_rkL (by decide))
  have hfl : ∀ F, s_tST.contains F = false → (s_stl p1 nk (nr + 1) (v_rkA p I nr np lo' mm (nI y3) (nI dv') (nI y5) (nI y6) (nI y7), J)).1 F = v_rkA p I nr np lo' mm (nI y3) (nI dv') (nI y5) (nI y6) (nI y7) F := fun F hF => s_eqN.stl (a := (v_rkA p I nr np lo' mm (nI y3) (nI dv') (nI y5) (nI y6) (nI y7), J)) F hF
  have hpn : p'.2.2.1 T_PARR nr = mm + 1 := by rw [y1.PARR]; exact hpr
  have hbn : p'.2.2.2.2 nr = np := by rw [y1.2.2.1]; exact hbr
  have hax1 : p'.1 T_HALL 0 = ax := (xG T_HALL 0 (by decide)).1.trans hax
  refine k p' c1 _ _ ⟨n', t', s, m, _, _, ⟨hD1, v_Wd.stl, ⟨_, _, hT1, by omega, by omega⟩, ⟨by omega, by omega, by omega, hnk⟩, (hS1.L (Nat.le_succ T)).p y1.2.2.1 y1.PARR, ⟨K + 1, by omega, hG1⟩, by omega, by omega⟩, ⟨hFr1, hLaR, hL1, ⟨fun t ht k hk => ?_, fun r hr => ?_, fun i hi => ?_⟩⟩, ⟨fun r hr => ?_, fun k hk => ?_, fun v hv => ?_, fun d hd => ?_, fun i hi => ?_, ?_⟩, fun r hr i hi => ?_, ?_, fun k hk => ?_⟩ hax1
  · rw [hN4 t k (fun z => by rw [z] at ht; exact absurd ht (by decide)) (by
      unfold s_Nr s_Np s_NL
      rw [decide_eq_false (show ¬ t = T_PIPE from fun z => by rw [z] at ht; exact absurd ht (by decide)), decide_eq_false (show ¬ t = T_RANK from fun z => by rw [z] at ht; exact absurd ht (by decide)), decide_eq_false (show ¬ t = T_PARR from fun z => by rw [z] at ht; exact absurd ht (by decide)), decide_eq_false (show ¬ t = T_LARR from fun z => by rw [z] at ht; exact absurd ht (by decide))]
      rfl)]
    exact hnw.1 t ht k hk
  · rw [hN4 T_RANK r (by decide) (h_Nrr (by omega) (by decide) (by decide)), hN4 T_PARR r (by decide) (h_Nrr (by omega) (by decide) (by decide))]
    exact hnw.2.1 r (by omega)
  · rw [hN4 T_PIPE i (by decide) (by
      unfold s_Nr s_Np s_NL
      rw [decide_eq_false (show ¬ i < np + (mm + 1) by omega), Bool.and_false, Bool.and_false]
      rfl)]
    exact hnw.2.2 i (by omega)
  · rw [hfl _ (by decide), hfl _ (by decide), hfl _ (by decide), hfl _ (by decide)]
    by_cases cr : r = nr
    · obtain ⟨v1, -, -, v4, v5, v6, -⟩ := v_rkAv (p := p) (I := I) (nr := nr) (np := np) (lo := lo') (m := mm) (x3 := nI y3) (x4 := nI dv') (x5 := nI y5) (x6 := nI y6) (x7 := nI y7)
      rw [cr, v1, v4, v5, v6, hpn]
      exact ⟨lo', y5, y6, y7, rfl, rfl, rfl, rfl, ⟨by omega, by omega, by omega, by omega⟩, hy5, hy6, hy7.2⟩
    · rw [v_rkAr (by decide) cr, v_rkAr (by decide) cr, v_rkAr (by decide) cr, v_rkAr (by decide) cr, (hbp r cr).2]
      exact r1 r (by omega)
  · rw [eR f_k_kind (by decide)]; exact r2 k hk
  · rw [eR f_a_owners (by decide)]; exact r3 v hv
  · rw [eR f_a_openings (by decide)]; exact r4 d hd
  · rw [eR f_a_temperings (by decide)]; exact r5 i hi
  · rw [eR f_heat (by decide)]; exact r6
  · rw [hfl _ (by decide)]
    by_cases cr : r = nr
    · rw [cr, hpn] at hi
      rw [cr, hbn, v_rkAn (by decide) ⟨by omega, by omega⟩]
      exact .inl rfl
    · rw [(hbp r cr).2] at hi
      rw [(hbp r cr).1, v_rkAp (by decide) (hS.1.1.1.1.lt (show r < nr by omega) hi)]
      exact r7 r (by omega) i hi
  · rw [eR f_crescendo (by decide)]; exact r8
  · rw [eR f_s_stage (by decide)]; exact r9 k hk
theorem z_kIe {I : e_I} {j : Nat} {x y : Int32} : s_eqN [f_k_kind, f_k_division, f_k_isOut, f_k_isLocked, f_k_isInScope, f_k_relay] I (s_kI I j x y) := by
  unfold s_kI
  exact (((((s_eqN.up (by decide)).trans (s_eqN.up (by decide))).trans (s_eqN.up (by decide))).trans (s_eqN.up (by decide))).trans (s_eqN.up (by decide))).trans (s_eqN.up (by decide))
set_option maxRecDepth 100000 in
set_option maxHeartbeats 400000 in
/-- a knob more -/
theorem z_knob {T nk nr np dv n s m a b x9 y9 : Nat} {p p1 p' : e_Sp} {I C I' : e_I} {J J' : e_Jt} {c' : Nat × Nat} {kd z s9 t9 : Int32} (hT : T < 90) (ha : a ≤ 1000 + 400 * T) (hb : b ≤ 40000 + 2500 * T) (hnp : np ≤ 42 * nr ∧ nr ≤ 3 ∧ 3 ≤ nk ∧ nk < 9) (hG : ∃ K, K ≤ 600000 * T ∧ z_GI K np (I', J')) (hn : n ≤ 600 * T) (hm : m ≤ 100040 * T) (hFr : v_Fr np I') (hLa0 : s_La p I 0 nr) (hnw : z_nw p nk nr np) (hF0 : z_F0 p nk nr I) (hxv : s_xv (s_NK nk) p p1) (y1 : s_xt p1 p') (hD1 : s_D p' (s_stl p (nk + 1) nr (s_adI (s_kI C nk kd (nI dv)) 1 nk, J)).1 (nk + 1) nr) (hT1 : s_Tp p' (s_stl p (nk + 1) nr (s_adI (s_kI C nk kd (nI dv)) 1 nk, J)).1 c' (a + x9) (b + y9)) (hLa1 : s_La p' (s_stl p (nk + 1) nr (s_adI (s_kI C nk kd (nI dv)) 1 nk, J)).1 1 (nk + 1)) (hx9 : x9 ≤ 20) (hy9 : y9 ≤ 400) (eC : s_eqN v_cs I C) (hst : ∀ k, k < 9 → ∃ s, s ≤ 9 ∧ C f_s_stage k = nI s) (hkd : kd = 115 ↔ 3 ≤ nk ∧ nk < 6) (hsim : ∃ n' t', n' ≤ n + np ∧ (¬ I' f_m_recording 0 = 114 → n' = n) ∧ v_Sim p (nk + 1) nr np n' t' s m T (s_stl p (nk + 1) nr (s_adI (s_kI C nk kd (nI dv)) 1 nk, J)) (q_st (nk + 1) nr np (s_adI (q_nk I' nk kd (nI dv) z s9 t9) 3 nk, J'))) : z_S (T + 1) (nk + 1) nr np p' (s_stl p (nk + 1) nr (s_adI (s_kI C nk kd (nI dv)) 1 nk, J)).1 (s_stl p (nk + 1) nr (s_adI (s_kI C nk kd (nI dv)) 1 nk, J)).2 c' := by
  obtain ⟨xG, hbs, hpa, -⟩ := h_kC hxv y1
  obtain ⟨n', t', q1, -, hS1⟩ := hsim
  obtain ⟨K, hK, hG⟩ := hG
  obtain ⟨⟨r1, r2, r3, r4, r5, r6⟩, r7, r8, r9⟩ := hF0
  have e2 : s_eqN (f_l_modCount :: f_l_size :: v_gM) I' (s_adI (q_nk I' nk kd (nI dv) z s9 t9) 3 nk) := (v_nkN.mono (by decide)).trans (v_adN.mono (by decide))
  have hG1 := (hG.N e2 (by decide)).st2 (nk := nk + 1) (nr := nr)
  have hFr1 : v_Fr np (q_st (nk + 1) nr np (s_adI (q_nk I' nk kd (nI dv) z s9 t9) 3 nk, J')).1 := z_Fr.st (z_Fr.N hFr e2 (by decide))
  generalize hR : s_stl p (nk + 1) nr (s_adI (s_kI C nk kd (nI dv)) 1 nk, J) = R at *
  have hW : v_Wd (nk + 1) R.1 := by rw [← hR]; exact v_Wd.stl
  have hfl : ∀ F, s_tST.contains F = false → R.1 F = s_adI (s_kI C nk kd (nI dv)) 1 nk F := fun F hF => by
    rw [← hR]
    exact s_eqN.stl (a := (s_adI (s_kI C nk kd (nI dv)) 1 nk, J)) F hF
  have eA : s_eqN (f_l_modCount :: f_l_size :: ([f_k_kind, f_k_division, f_k_isOut, f_k_isLocked, f_k_isInScope, f_k_relay] ++ v_cs)) I (s_adI (s_kI C nk kd (nI dv)) 1 nk) := ((eC.mono (by decide)).trans (z_kIe.mono (by decide))).trans (v_adN.mono (by decide))
  have eR : ∀ F, s_tST.contains F = false → (f_l_modCount :: f_l_size :: ([f_k_kind, f_k_division, f_k_isOut, f_k_isLocked, f_k_isInScope, f_k_relay] ++ v_cs)).contains F = false → R.1 F = I F := fun F h1 h2 => (hfl F h1).trans (eA F h2)
  have hE : ∀ t, t ≠ T_ENTR → p'.2.1 t = p1.2.1 t := fun t ht => (y1.1 t (decide_eq_false ht)).2.1
  have hL0 : s_La p' R.1 0 nr := hLa0.xG xG (by decide) (by decide) (by
    rw [hfl _ (by decide), s_adI_n (by decide), z_kIe f_l_size (by decide), eC f_l_size (by decide)])
  refine ⟨n', t', s, m, _, _, ⟨hD1, hW, ⟨_, _, hT1, by omega, by omega⟩, ⟨by omega, hnp.1, hnp.2.1, by omega⟩, (hS1.L (Nat.le_succ T)).p hbs hpa, ⟨K + 1, by omega, hG1⟩, by omega, by omega⟩, ⟨hFr1, hL0, hLa1, ⟨fun t ht k hk => ?_, fun r hr => ?_, fun i hi => ?_⟩⟩, ⟨fun r hr => ?_, fun k hk => ?_, fun v hv => ?_, fun d hd => ?_, fun i hi => ?_, ?_⟩, fun r hr i hi => ?_, ?_, fun k hk => ?_⟩
  · have ht1 : t ≠ T_ENTR := fun z => by rw [z] at ht; exact absurd ht (by decide)
    have ht2 : ¬ t = T_LARR := fun z => by rw [z] at ht; exact absurd ht (by decide)
    rw [hE t ht1, (hxv.1 t k (by
      unfold s_NK s_Nk s_NL
      rw [decide_eq_false (show ¬ k = nk by omega), decide_eq_false ht2, Bool.and_false]
      rfl)).2.1]
    exact hnw.1 t ht k (by omega)
  · rw [hE _ (by decide), hE _ (by decide), (hxv.1 T_RANK r rfl).2.1, (hxv.1 T_PARR r rfl).2.1]
    exact hnw.2.1 r hr
  · rw [hE _ (by decide), (hxv.1 T_PIPE i rfl).2.1]
    exact hnw.2.2 i hi
  · rw [eR _ (by decide) (by decide), eR _ (by decide) (by decide), eR _ (by decide) (by decide), eR _ (by decide) (by decide), hpa]
    exact r1 r hr
  · rw [hfl _ (by decide), s_adI_F (by decide) (by decide)]
    unfold s_kI
    rw [s_up_F (by decide), s_up_F (by decide), s_up_F (by decide), s_up_F (by decide), s_up_F (by decide)]
    by_cases ck : k = nk
    · rw [ck, s_up_s]; exact hkd
    · rw [s_up_i ck, eC f_k_kind (by decide)]
      exact r2 k (by omega)
  · rw [eR _ (by decide) (by decide)]; exact r3 v hv
  · rw [eR _ (by decide) (by decide)]; exact r4 d hd
  · rw [eR _ (by decide) (by decide)]; exact r5 i hi
  · rw [eR _ (by decide) (by decide)]; exact r6
  · rw [hpa] at hi
    rw [hbs, eR _ (by decide) (by decide)]
    exact r7 r hr i hi
  · rw [eR _ (by decide) (by decide)]; exact r8
  · rw [hfl _ (by decide), s_adI_F (by decide) (by decide), z_kIe f_s_stage (by decide)]
    exact hst k hk
theorem z_stie {I : e_I} {j n : Nat} : s_eqN [f_s_places, f_s_keysAt, f_s_ranks, f_s_offsets, f_s_firsts, f_s_lasts] I (s_sti I j n) := fun F hF => by
  have h1 : ∀ F', F' ∈ [f_s_places, f_s_keysAt, f_s_ranks, f_s_offsets, f_s_firsts, f_s_lasts] → F ≠ F' := fun F' hF' z => by rw [z, List.contains_iff_mem.mpr hF'] at hF; cases hF
  funext i
  unfold s_sti
  rw [if_neg (fun z => z.1.elim (h1 _ (by decide)) (h1 _ (by decide))), if_neg (fun z => z.1.elim (h1 _ (by decide)) (fun z => z.elim (h1 _ (by decide)) (fun z => z.elim (h1 _ (by decide)) (h1 _ (by decide)))))]
/-- a stop, a coupler -/
theorem z_stlG {p : e_Sp} {nk nr : Nat} {A : e_I} {J : e_Jt} {F : Nat} (h : s_tST.contains F = false) : (s_stl p nk nr (A, J)).1 F = A F := s_eqN.stl (a := (A, J)) F h
theorem z_cIf {I : e_I} {j : Nat} {x y z t : Int32} : s_eqN [f_c_from, f_c_to, f_c_shift, f_c_kind] I (s_cI I j x y z t) := by
  unfold s_cI
  exact (((s_eqN.up (by decide)).trans (s_eqN.up (by decide))).trans (s_eqN.up (by decide))).trans (s_eqN.up (by decide))
set_option maxRecDepth 100000 in
set_option maxHeartbeats 800000 in
theorem g_stop {X : e_XT} {d T nk nr np ax dv : Nat} {p : e_Sp} {I : e_I} {J : e_Jt} {c : Nat × Nat} {w : e_Rw1} {Q : e_Rt → e_SS → Prop} (hX : (X 8).1 = 0) (hT : T < 90) (h : z_S T nk nr np p I J c) (hax : p.1 T_HALL 0 = ax) (hdv : dv < 3) (hk : 3 ≤ nk ∧ nk < 6) (k : ∀ p' c' R RJ, z_S (T + 1) (nk + 1) nr np p' R RJ c' → p'.1 T_HALL 0 = ax → R f_s_rows nk = 0 → R f_k_kind nk = 115 → Q (.inl (some (.int (nI nk)))) (p', R, RJ, c', w)) : s_c X (d + 11) 400 [.ref ax, .int (nI dv)] (p, I, J, c, w) Q := by
  obtain ⟨n, t, s, m, I', J', ⟨hD, hW, ⟨a, b, hTp, ha, hb⟩, ⟨h100, hnp, hnr, hnk⟩, hS, hG, hn, hm⟩, ⟨hFr, hLa0, hLa1, hnw⟩, hF0⟩ := h
  have hxb : e_xb = 4294967296 := rfl
  have hcc : c.1 + 20 < e_xb ∧ a + 20 ≤ 4294960000 := by
    obtain ⟨-, ⟨k9, -, hk9, hc9, -⟩, -⟩ := hTp
    omega
  have hNt : ∀ t, t ∈ s_kT → p.2.1 t nk = false := fun t ht => hnw.1 t ht nk (Nat.le_refl _)
  rw [← hax]
  refine c_L_stop (d := d + 10) hD.1.1 (c_X11_stop (d := d + 2) hD hTp hLa1 hX hcc.1 hcc.2 hNt (fun _ _ p1 x9 y9 hx9 hy9 hxv hkb p' c1 hD1 y1 hT1 hLaR => ?_) (fun z => absurd (z_dv hdv) (by rw [z]; decide)) (fun _ z => absurd (show nk < 40 by omega) z))
  have hax1 : p'.1 T_HALL 0 = ax := ((h_kC hxv y1).1 T_HALL 0 (by decide)).1.trans hax
  exact k p' c1 _ _ (z_knob (C := (s_sI (s_sti I nk 61) nk)) (kd := 115) (z := nI dv) (s9 := 0) (t9 := 45) hT ha hb ⟨hnp, hnr, hnk, by omega⟩ hG hn hm hFr hLa0 hnw hF0 hxv y1 hD1 hT1 hLaR hx9 hy9 ((z_stie.mono (by decide)).trans ((s_eqN.up (T := [f_s_stage, f_s_rows]) (F := f_s_stage) (by decide)).trans (s_eqN.up (T := [f_s_stage, f_s_rows]) (F := f_s_rows) (by decide)) |>.mono (by decide))) (fun j hj => by
    by_cases cj : j = nk
    · refine ⟨0, by decide, ?_⟩
      rw [cj]
      unfold s_sI
      rw [s_up_F (by decide), s_up_s]; rfl
    · unfold s_sI
      rw [s_up_F (by decide), s_up_i cj, z_stie f_s_stage (by decide)]
      exact hF0.2.2.2 j hj) ⟨fun _ => hk, fun _ => rfl⟩ (a_stop hS (by omega) hdv (by omega) (by omega))) hax1 (by
    rw [z_stlG (by decide), s_adI_F (by decide) (by decide), z_kIe f_s_rows (by decide)]
    unfold s_sI
    rw [s_up_s]) (by
    rw [z_stlG (by decide), s_adI_F (by decide) (by decide)]
    unfold s_kI
    rw [s_up_F (by decide), s_up_F (by decide), s_up_F (by decide), s_up_F (by decide), s_up_F (by decide), s_up_s])

set_option maxRecDepth 100000 in
set_option maxHeartbeats 800000 in
theorem g_tremulant {X : e_XT} {d T nk nr np ax dv : Nat} {p : e_Sp} {I : e_I} {J : e_Jt} {c : Nat × Nat} {w : e_Rw1} {Q : e_Rt → e_SS → Prop} (hX : (X 8).1 = 0) (hT : T < 90) (h : z_S T nk nr np p I J c) (hax : p.1 T_HALL 0 = ax) (hdv : dv < 3) (hk : 6 ≤ nk ∧ nk < 9) (k : ∀ p' c' R RJ, z_S (T + 1) (nk + 1) nr np p' R RJ c' → p'.1 T_HALL 0 = ax → Q (.inl (some (.int (nI nk)))) (p', R, RJ, c', w)) : s_c X (d + 11) 403 [.ref ax, .int (nI dv)] (p, I, J, c, w) Q := by
  obtain ⟨n, t, s, m, I', J', ⟨hD, hW, ⟨a, b, hTp, ha, hb⟩, ⟨h100, hnp, hnr, hnk⟩, hS, hG, hn, hm⟩, ⟨hFr, hLa0, hLa1, hnw⟩, hF0⟩ := h
  have hxb : e_xb = 4294967296 := rfl
  have hcc : c.1 + 20 < e_xb ∧ a + 20 ≤ 4294960000 := by
    obtain ⟨-, ⟨k9, -, hk9, hc9, -⟩, -⟩ := hTp
    omega
  have hNt : ∀ t, t ∈ s_kT → p.2.1 t nk = false := fun t ht => hnw.1 t ht nk (Nat.le_refl _)
  rw [← hax]
  refine c_L_tremulant (d := d + 10) hD.1.1 (c_X11_tremulant (d := d + 2) hD hTp hLa1 hX hcc.1 hcc.2 hNt (fun _ _ p1 x9 y9 hx9 hy9 hxv hkb p' c1 hD1 y1 hT1 hLaR => ?_) (fun z => absurd (z_dv hdv) (by rw [z]; decide)) (fun _ z => absurd (show nk < 40 by omega) z))
  have hax1 : p'.1 T_HALL 0 = ax := ((h_kC hxv y1).1 T_HALL 0 (by decide)).1.trans hax
  exact k p' c1 _ _ (z_knob (C := I) (kd := 116) (z := nI dv) (s9 := 0) (t9 := 45) hT ha hb ⟨hnp, hnr, hnk, by omega⟩ hG hn hm hFr hLa0 hnw hF0 hxv y1 hD1 hT1 hLaR hx9 hy9 (s_eqN.rfl') hF0.2.2.2 ⟨fun z => absurd z (by decide), fun z => by omega⟩ (a_tremulant hS (by omega) hdv (by omega) (by omega))) hax1

set_option maxRecDepth 100000 in
set_option maxHeartbeats 800000 in
theorem g_coupler {X : e_XT} {d T nk nr np ax dv : Nat} {p : e_Sp} {I : e_I} {J : e_Jt} {c : Nat × Nat} {w : e_Rw1} {Q : e_Rt → e_SS → Prop} {e9 : Nat} {z t9 : Int32} (hX : (X 8).1 = 0) (hT : T < 90) (h : z_S T nk nr np p I J c) (hax : p.1 T_HALL 0 = ax) (hdv : dv < 3) (hk : 6 ≤ nk ∧ nk < 9) (he9 : e9 < 3) (hne : ¬ dv = e9) (hz : z = -12 ∨ z = 0 ∨ z = 12) (ht : t9 = 97 ∨ t9 = 109 ∨ t9 = 98 ∨ t9 = 112) (k : ∀ p' c' R RJ, z_S (T + 1) (nk + 1) nr np p' R RJ c' → p'.1 T_HALL 0 = ax → Q (.inl (some (.int (nI nk)))) (p', R, RJ, c', w)) : s_c X (d + 11) 402 [.ref ax, .int (nI dv), .int (nI e9), .int z, .int t9] (p, I, J, c, w) Q := by
  obtain ⟨n, t, s, m, I', J', ⟨hD, hW, ⟨a, b, hTp, ha, hb⟩, ⟨h100, hnp, hnr, hnk⟩, hS, hG, hn, hm⟩, ⟨hFr, hLa0, hLa1, hnw⟩, hF0⟩ := h
  have hxb : e_xb = 4294967296 := rfl
  have hcc : c.1 + 20 < e_xb ∧ a + 20 ≤ 4294960000 := by
    obtain ⟨-, ⟨k9, -, hk9, hc9, -⟩, -⟩ := hTp
    omega
  have hNt : ∀ t, t ∈ s_kT → p.2.1 t nk = false := fun t ht => hnw.1 t ht nk (Nat.le_refl _)
  rw [← hax]
  refine c_L_coupler (d := d + 10) hD.1.1 (c_X11_coupler (d := d + 2) hD hTp hLa1 hX hcc.1 hcc.2 hNt (by rcases ht with rfl | rfl | rfl | rfl <;> decide) (fun _ _ _ _ _ _ p1 x9 y9 hx9 hy9 hxv hkb p' c1 hD1 y1 hT1 hLaR => ?_) (fun z => absurd (z_dv hdv) (by rw [z]; decide)) (fun _ z => absurd (z_dv he9) (by rw [z]; decide)) (fun _ _ z => absurd ⟨hz, ht, fun w => hne ((nI_eq (by omega) (by omega)).mp w.1)⟩ z) (fun _ _ _ _ _ z => absurd (show nk < 40 by omega) z))
  have hax1 : p'.1 T_HALL 0 = ax := ((h_kC hxv y1).1 T_HALL 0 (by decide)).1.trans hax
  exact k p' c1 _ _ (z_knob (C := (s_cI I nk (nI dv) (nI e9) z t9)) (kd := 99) (z := nI e9) (s9 := z) (t9 := t9) hT ha hb ⟨hnp, hnr, hnk, by omega⟩ hG hn hm hFr hLa0 hnw hF0 hxv y1 hD1 hT1 hLaR hx9 hy9 (z_cIf.mono (by decide)) (fun j hj => by rw [z_cIf (I := I) f_s_stage (by decide)]; exact hF0.2.2.2 j hj) ⟨fun z => absurd z (by decide), fun z => by omega⟩ (a_coupler hS (by omega) hdv (by omega) (by omega))) hax1
set_option maxRecDepth 100000 in
set_option maxHeartbeats 800000 in
theorem g_row {X : e_XT} {d T nk nr np ax j r f9 t9 : Nat} {z : Int32} {p : e_Sp} {I : e_I} {J : e_Jt} {c : Nat × Nat} {w : e_Rw1} {Q : e_Rt → e_SS → Prop} (hT : T < 90) (h : z_S T nk nr np p I J c) (hax : p.1 T_HALL 0 = ax) (hk9 : nk < 10) (hj : j < nk) (hr : r < nr) (hz : z = -12 ∨ z = 0 ∨ z = 12) (ht : f9 ≤ t9 ∧ t9 ≤ 60) (h0 : I f_s_rows j = 0) (h1 : I f_k_kind j = 115) (k : ∀ p' c' R RJ, z_S (T + 1) nk nr np p' R RJ c' → p'.1 T_HALL 0 = ax → Q (.inl (some (.int 1))) (p', R, RJ, c', w)) : s_c X (d + 11) 401 [.ref ax, .int (nI j), .int (nI r), .int z, .int (nI f9), .int (nI t9)] (p, I, J, c, w) Q := by
  obtain ⟨n, t, s, m, I', J', ⟨hD, hW, ⟨a, b, hTp, ha, hb⟩, ⟨h100, hnp, hnr, hnk⟩, hS, ⟨K, hK, hG⟩, hn, hm⟩, ⟨hFr, hLa0, hLa1, hnw⟩, ⟨⟨r1, r2, r3, r4, r5, r6⟩, r7, r8, r9⟩⟩ := h
  rw [← hax]
  have hz1 : -36 ≤ z ∧ z ≤ 60 := by rcases hz with rfl | rfl | rfl <;> decide
  have hf1 : 0 ≤ nI f9 ∧ nI f9 ≤ 60 := ⟨nI_pos' (by omega), nI_le (b := 60) (by omega) (by decide)⟩
  have ht1 : nI f9 ≤ nI t9 ∧ nI t9 ≤ 60 := ⟨nI_le ht.1 (by omega), nI_le (b := 60) ht.2 (by decide)⟩
  refine c_L_row (d := d + 10) hD.1.1 (c_X11_row (d := d + 3) hD hTp (fun jj hjj hxx rr hrr hyy _ _ _ _ _ _ p' c1 hD1 x1 hT1 => ?_) (fun z => absurd (h_kj hj (by omega)) (h_kx z)) (fun _ _ _ z => absurd (h_kj hr (by omega)) (h_kx z)) (fun _ _ _ _ _ _ z => absurd hz1 z) (fun _ _ _ _ _ _ _ z => absurd hf1 z) (fun _ _ _ _ _ _ _ _ z => absurd ht1 z) (fun jj hjj hxx _ _ _ _ _ _ z => absurd (h_kE hjj hj (by omega) hxx ▸ h1) z) (fun jj hjj hxx _ _ _ _ _ _ _ z => absurd z (by rw [h_kE hjj hj (by omega) hxx, h0]; decide)))
  obtain rfl : jj = j := h_kE hjj hj (by omega) hxx
  obtain rfl : rr = r := h_kE hrr hr (by omega) hyy
  obtain ⟨n', t', q1, -, hS1⟩ := a_row (m9 := 0) (y := nI rr) (z := z) (f := nI f9) (tt := nI t9) hj (by decide) h0 h1 hS (by omega) (by omega)
  have eA : s_eqN [f_s_ranks, f_s_offsets, f_s_firsts, f_s_lasts, f_s_rows] I (s_addr I jj (nI rr) z (nI f9) (nI t9)) := by
    unfold s_addr
    exact ((((s_eqN.up (by decide)).trans (s_eqN.up (by decide))).trans (s_eqN.up (by decide))).trans (s_eqN.up (by decide))).trans (s_eqN.up (by decide))
  have e2 : s_eqN [f_mk_ranks, f_mk_offsets, f_mk_froms, f_mk_tos, f_mk_rows] I' (q_ar I' jj 0 (nI rr) z (nI f9) (nI t9)) := by
    unfold q_ar
    exact ((((s_eqN.up (by decide)).trans (s_eqN.up (by decide))).trans (s_eqN.up (by decide))).trans (s_eqN.up (by decide))).trans (s_eqN.up (by decide))
  have hG1 := (hG.N e2 (by decide)).st2 (nk := nk) (nr := nr)
  have hFr1 : v_Fr np (q_st nk nr np (q_ar I' jj 0 (nI rr) z (nI f9) (nI t9), J')).1 := z_Fr.st (z_Fr.N hFr e2 (by decide))
  have hans : (s_stl p nk nr (s_addr I jj (nI rr) z (nI f9) (nI t9), J)).1 f_s_rows jj = 1 := by
    rw [z_stlG (by decide)]
    unfold s_addr
    rw [s_up_s, h0]; rfl
  rw [hans]
  generalize hR : s_stl p nk nr (s_addr I jj (nI rr) z (nI f9) (nI t9), J) = R at *
  have hW : v_Wd nk R.1 := by rw [← hR]; exact v_Wd.stl
  have eR : ∀ F, s_tST.contains F = false → ([f_s_ranks, f_s_offsets, f_s_firsts, f_s_lasts, f_s_rows] : List Nat).contains F = false → R.1 F = I F := fun F h1 h2 => by
    rw [← hR, z_stlG h1]
    exact eA F h2
  refine k p' c1 R.1 R.2 ⟨n', t', s, m, _, _, ⟨hD1, hW, ⟨_, _, hT1, by omega, by omega⟩, ⟨by omega, hnp, hnr, hnk⟩, (hS1.L (Nat.le_succ T)).p x1.2.2.1 x1.PARR, ⟨K + 1, by omega, hG1⟩, by omega, by omega⟩, ⟨hFr1, hLa0.xt x1 (by rw [eR _ (by decide) (by decide)]), hLa1.xt x1 (by rw [eR _ (by decide) (by decide)]), ⟨fun t ht k hk => ?_, fun r hr => ?_, fun i hi => ?_⟩⟩, ⟨fun r hr => ?_, fun k hk => ?_, fun v hv => ?_, fun d hd => ?_, fun i hi => ?_, ?_⟩, fun r hr i hi => ?_, ?_, fun k hk => ?_⟩ (x1.HALL.trans hax)
  · rw [(x1.1 t (decide_eq_false (fun z => by rw [z] at ht; exact absurd ht (by decide)))).2.1]
    exact hnw.1 t ht k hk
  · rw [(x1.1 T_RANK rfl).2.1, (x1.1 T_PARR rfl).2.1]
    exact hnw.2.1 r hr
  · rw [(x1.1 T_PIPE rfl).2.1]; exact hnw.2.2 i hi
  · rw [eR _ (by decide) (by decide), eR _ (by decide) (by decide), eR _ (by decide) (by decide), eR _ (by decide) (by decide), x1.PARR]
    exact r1 r hr
  · rw [eR _ (by decide) (by decide)]; exact r2 k hk
  · rw [eR _ (by decide) (by decide)]; exact r3 v hv
  · rw [eR _ (by decide) (by decide)]; exact r4 d hd
  · rw [eR _ (by decide) (by decide)]; exact r5 i hi
  · rw [eR _ (by decide) (by decide)]; exact r6
  · rw [x1.PARR] at hi
    rw [x1.2.2.1, eR _ (by decide) (by decide)]
    exact r7 r hr i hi
  · rw [eR _ (by decide) (by decide)]; exact r8
  · rw [eR _ (by decide) (by decide)]; exact r9 k hk
/-- all is made -/
theorem z_S.O {T np ax : Nat} {p : e_Sp} {I : e_I} {J : e_Jt} {c : Nat × Nat} {w : e_Rw1} (h : z_S T 9 3 np p I J c) (hax : p.1 T_HALL 0 = ax) : z_O T 0 ax (p, I, J, c, w) := by
  obtain ⟨n, t, s, m, I', J', ⟨hD, hW, ⟨a, b, hTp, ha, hb⟩, ⟨h100, hnp, hnr, hnk⟩, hS, ⟨K, hK, hG⟩, hn, hm⟩, ⟨hFr, hLa0, hLa1, hnw⟩, ⟨r1, r7, r8, r9⟩⟩ := h
  exact ⟨⟨np, hD, hW, ⟨a, b, hTp, by omega, by omega⟩, ⟨by omega, by omega, by omega⟩, n, t, s, m, I', J', hS, ⟨K, hK, hG⟩, hn, hm⟩, r1, ⟨r7, ⟨0, by decide, r8⟩, r9⟩, hax⟩
