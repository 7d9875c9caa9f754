/-! 99999999999999996: the start -/
def l_p0 : e_Sp := (fun t _ => if t = T_LARR then e_xb + 8 else 0, fun _ _ => false, fun _ _ => 0, fun _ => (0, 0), fun _ => 0)
def l_NP (t i : Nat) : Bool := q_NX t i || (decide (t = T_MODEL) || decide (t = T_HALL))
set_option maxRecDepth 100000 in
theorem w_sz : v_Wi f_l_size 0 = nI 0 ∧ v_Wi f_l_size 1 = nI 3 ∧ v_Wi f_l_size 2 = nI 0 ∧ v_Wi f_l_size 3 = nI 3 ∧ v_Wi f_l_size 4 = nI 0 ∧ v_Wi f_l_size 5 = nI 4 ∧ v_Wi f_l_size 6 = nI 32 ∧ v_Wi f_l_size 7 = nI 48 ∧ v_Wi f_m_pipes 0 = nI 0 := by decide +kernel
set_option maxRecDepth 100000 in
theorem w_wd : v_Wd 3 v_Wi := by
  unfold v_Wd
  decide +kernel
theorem l_hB0 {c1 c2 : Nat} (h1 : c1 ≤ 1000) (h2 : c2 ≤ 40000) : h_B 0 3 0 0 c1 c2 0 0 := by
  unfold h_B
  generalize v_Bd 0 0 = B
  refine ⟨0, rfl, ?_, ?_, Nat.zero_le _⟩
  · rw [Nat.zero_mul]; omega
  · rw [Nat.zero_mul]; omega
theorem w_rows (k : Nat) : v_Wi f_mk_rows k = 0 := v_al.W (P := fun x => x = 0) (F := f_mk_rows) (by decide) rfl (fun z => absurd z (by decide)) (fun z => absurd z (by decide)) k
theorem w_ents (k : Nat) : v_Wi f_entries k = 0 := v_al.W (P := fun x => x = 0) (F := f_entries) (by decide) rfl (fun z => absurd z (by decide)) (fun z => absurd z (by decide)) k
set_option maxRecDepth 100000 in
theorem law_h0 {p1 p2 : e_Sp} {a1 a2 ao ad : Nat} {c : Nat × Nat} {w : e_Rw1} {f2 : Nat → Value} (hx1 : s_xv (s_NT s_KH [0, 1]) l_p0 p1) (u1 : s_vl s_V3 p1) (u2 : p1.2.1 T_LIST 0 = true) (u3 : p1.1 T_LARR 0 = e_xb + 8) (u4 : s_La p1 (s_iH v_o) 1 3) (u5 : ∀ k, p1.2.1 T_KNOB k = decide (k < 3)) (u6 : ∀ k, p1.2.1 T_COUP k = decide (k < 3)) (u7 : p1.2.2.1 T_ENTR 0 = 256) (u8 : ∀ t, t ∈ [T_CONS, T_TAPE, T_WORKS] → ∀ j, p1.2.1 t j = true → j = 0) (hx2 : s_xv q_NX (s_pv p1 T_HALL 0 a1 0) p2) (v1 : q_Mk q_D33 p2 f2) (v4 : ∀ t, t ∈ q_LK → ∀ k, p2.2.1 t k = decide (k < 3)) (v5 : ∀ k, p2.2.1 T_MKEEP k = decide (k < 80)) (v6 : ∀ k, 8 ≤ k → p2.2.1 T_LIST k = decide (k < 12)) (v7 : s_La p2 (q_mI (s_iH v_o)) 2 0 ∧ s_La p2 (q_mI (s_iH v_o)) 3 3 ∧ s_La p2 (q_mI (s_iH v_o)) 4 0 ∧ s_La p2 (q_mI (s_iH v_o)) 5 4 ∧ s_La p2 (q_mI (s_iH v_o)) 6 32 ∧ s_La p2 (q_mI (s_iH v_o)) 7 48 ∧ ∀ g, g < 4 → s_La p2 (q_mI (s_iH v_o)) (8 + g) 0) (hc1 : c.1 ≤ 1000) (hc2 : c.2 ≤ 40000) (hw : ∃ f, w ao = some (103, 1, f)) (hd : ∃ f, w ad = some (104, 1, f)) (hne : ao ≠ ad) : h_L 0 a1 a2 ao ad (s_pv p2 T_MODEL 0 a2 0, v_Wi, v_Wj, c, w) := by
  have hk : h_xG l_NP p1 (s_pv p2 T_MODEL 0 a2 0) := fun t i h => by
    unfold l_NP at h
    rw [Bool.or_eq_false_iff, Bool.or_eq_false_iff] at h
    obtain ⟨h1, h2, h3⟩ := h
    have n1 : ¬ (t = T_MODEL ∧ i = 0) := fun z => of_decide_eq_false h2 z.1
    have n2 : ¬ (t = T_HALL ∧ i = 0) := fun z => of_decide_eq_false h3 z.1
    obtain ⟨b1, b2, b3⟩ := hx2.1 t i h1
    exact ⟨(s_pv_n n1).trans (b1.trans (s_pv_n n2)), (s_pv_nv n1).trans (b2.trans (s_pv_nv n2)), (s_pv_nl n1).trans (b3.trans (s_pv_nl n2))⟩
  have h2v : ∀ t i, t ≠ T_MODEL → (s_pv p2 T_MODEL 0 a2 0).2.1 t i = p2.2.1 t i := fun t i h => s_pv_nv (fun z => h z.1)
  have h0 : ∀ t i, l_NP t i = false → s_NT s_KH [0, 1] t i = false → (s_pv p2 T_MODEL 0 a2 0).2.1 t i = false := fun t i g1 g2 => (hk t i g1).2.1.trans (hx1.1 t i g2).2.1
  have hbase : (s_pv p2 T_MODEL 0 a2 0).2.2.2.2 = fun _ => 0 := hx2.2.trans hx1.2
  have hax : (s_pv p2 T_MODEL 0 a2 0).1 T_HALL 0 = a1 := (s_pv_n (fun z => absurd z.1 (by decide))).trans ((hx2.1 T_HALL 0 rfl).1.trans s_pv_s)
  have ham : (s_pv p2 T_MODEL 0 a2 0).1 T_MODEL 0 = a2 := s_pv_s
  have hvh : (s_pv p2 T_MODEL 0 a2 0).2.1 T_HALL 0 = true := (h2v _ _ (by decide)).trans ((hx2.1 T_HALL 0 rfl).2.1.trans s_pv_v)
  have hlist : ∀ l, l < 12 → (s_pv p2 T_MODEL 0 a2 0).2.1 T_LIST l = true := fun l hl => by
    by_cases c8 : 8 ≤ l
    · rw [h2v _ _ (by decide), v6 l c8]
      exact decide_eq_true hl
    · by_cases c0 : l = 0
      · rw [c0]; exact (hk T_LIST 0 (by decide)).2.1.trans u2
      · by_cases c1 : l = 1
        · rw [c1]; exact (hk T_LIST 1 (by decide)).2.1.trans u4.1
        · rw [h2v _ _ (by decide)]
          rcases (show l = 2 ∨ l = 3 ∨ l = 4 ∨ l = 5 ∨ l = 6 ∨ l = 7 by omega) with z | z | z | z | z | z <;> rw [z]
          · exact (v1 (0, T_LIST, 2) (by decide)).2
          · exact (v1 (1, T_LIST, 3) (by decide)).2
          · exact (v1 (2, T_LIST, 4) (by decide)).2
          · exact (v1 (3, T_LIST, 5) (by decide)).2
          · exact (v1 (4, T_LIST, 6) (by decide)).2
          · exact (v1 (5, T_LIST, 7) (by decide)).2
  have hok : s_ok (s_pv p2 T_MODEL 0 a2 0) := by
    refine ⟨fun t ht => ?_, hlist⟩
    have key : (e_SG.all fun t => decide (t = T_HALL) || (decide (t = T_MODEL) || ((s_V3.contains t && !l_NP t 0) || q_D33.any (fun x => decide (x.2.1 = t) && (decide (x.2.2 = 0) && decide (t ≠ T_MODEL)))))) = true := by decide
    have g := List.all_eq_true.mp key t (List.contains_iff_mem.mp ht)
    rcases (Bool.or_eq_true _ _).mp g with g | g
    · rw [of_decide_eq_true g]; exact hvh
    rcases (Bool.or_eq_true _ _).mp g with g | g
    · rw [of_decide_eq_true g]; exact s_pv_v
    rcases (Bool.or_eq_true _ _).mp g with g | g
    · rw [Bool.and_eq_true, Bool.not_eq_true'] at g
      exact (hk t 0 g.2).2.1.trans (u1 t (List.contains_iff_mem.mp g.1))
    · obtain ⟨x, hx, hx3⟩ := List.any_eq_true.mp g
      rw [Bool.and_eq_true, Bool.and_eq_true] at hx3
      obtain ⟨e1, e2, e3⟩ := hx3
      have q := (v1 x hx).2
      rw [of_decide_eq_true e1, of_decide_eq_true e2] at q
      exact (h2v t 0 (of_decide_eq_true e3)).trans q
  obtain ⟨z0, z1, z2, z3, z4, z5, z6, z7, z8⟩ := w_sz
  have hkn : ∀ k, k < 3 → decide (k < 3) = true := fun k hk => decide_eq_true hk
  have l0 : s_La (s_pv p2 T_MODEL 0 a2 0) v_Wi 0 0 := ⟨hlist 0 (by decide), z0, by decide, .inl ⟨rfl, (hk T_LARR 0 (by decide)).1.trans u3⟩⟩
  have l1 : s_La (s_pv p2 T_MODEL 0 a2 0) v_Wi 1 3 := u4.xG hk (by decide) (by decide) (z1.trans u4.2.1.symm)
  have l2 : s_La (s_pv p2 T_MODEL 0 a2 0) v_Wi 2 0 := v7.1.pv (by decide) (z2.trans v7.1.2.1.symm)
  have l3 : s_La (s_pv p2 T_MODEL 0 a2 0) v_Wi 3 3 := v7.2.1.pv (by decide) (z3.trans v7.2.1.2.1.symm)
  have l4 : s_La (s_pv p2 T_MODEL 0 a2 0) v_Wi 4 0 := v7.2.2.1.pv (by decide) (z4.trans v7.2.2.1.2.1.symm)
  have lg : ∀ g, g < 4 → s_La (s_pv p2 T_MODEL 0 a2 0) v_Wi (8 + g) 0 := fun g hg => (v7.2.2.2.2.2.2 g hg).pv (by decide) ((show v_Wi f_l_size (8 + g) = nI 0 from (w_mem.1 g hg).2.2.2).trans (v7.2.2.2.2.2.2 g hg).2.1.symm)
  have hLK : ∀ t, t ∈ q_LK → ∀ k, (s_pv p2 T_MODEL 0 a2 0).2.1 t k = decide (k < 3) := fun t ht k => (h2v t k (fun z => by rw [z] at ht; revert ht; decide)).trans (v4 t ht k)
  have hst : ∀ k, (s_pv p2 T_MODEL 0 a2 0).2.1 T_STOP k = false := fun k => h0 _ _ rfl rfl
  have hkb : ∀ k, (s_pv p2 T_MODEL 0 a2 0).2.1 T_KNOB k = decide (k < 3) := fun k => (hk T_KNOB k rfl).2.1.trans (u5 k)
  have hcb : ∀ k, (s_pv p2 T_MODEL 0 a2 0).2.1 T_COUP k = decide (k < 3) := fun k => (hk T_COUP k rfl).2.1.trans (u6 k)
  have hk3 : h_k3 v_Wi := fun k hk => by rw [(w_kn k hk).1.2.1]; decide
  have hW0 : v_Wn v_Wi 3 = 0 := by
    exact Nat.le_zero.mp (h_Wn (I := v_Wi) 3 (fun k hk hs => absurd hs (hk3 k hk)) hk3)
  have hcp : q_cp (s_pv p2 T_MODEL 0 a2 0) = 0 := by
    unfold q_cp
    rw [if_neg (by rw [h0 T_LARR 4 (by decide) (by decide)]; decide)]
  have hD : s_D (s_pv p2 T_MODEL 0 a2 0) v_Wi 3 0 := by
    refine ⟨⟨hok, ⟨by decide, z1⟩, ⟨by decide, z0⟩, fun k hk => ⟨(hkb k).trans (hkn k hk), ⟨fun z => (by rw [hst k] at z; cases z), fun z => (by rw [(w_kn k hk).1.1] at z; exact absurd z (by decide))⟩, ⟨fun _ => .inl (w_kn k hk).1.1, fun _ => (hcb k).trans (hkn k hk)⟩, ⟨k, hk, (w_kn k hk).1.2.2.1⟩⟩, fun r hr => absurd hr (Nat.not_lt_zero r)⟩, fun r hr => absurd hr (Nat.not_lt_zero r), ⟨by rw [hbase], fun r hr => absurd hr (Nat.not_lt_zero _)⟩, fun k hk hs => by rw [(w_kn k hk).1.1] at hs; exact absurd hs (by decide)⟩
  have hqF : q_F (s_pv p2 T_MODEL 0 a2 0) v_Wi := by
    refine ⟨fun l hl => ⟨?_, fun h8 => ?_⟩, fun g hg => ⟨0, by decide, lg g hg, fun j hj => (h0 T_MFRAME _ rfl rfl).trans (decide_eq_false (Nat.not_lt_zero j)).symm⟩⟩
    · by_cases c8 : 8 ≤ l
      · rw [h2v _ _ (by decide), v6 l c8] at hl
        exact of_decide_eq_true hl
      · omega
    · have hl12 : l < 12 := by
        rw [h2v _ _ (by decide), v6 l h8] at hl
        exact of_decide_eq_true hl
      obtain ⟨g, rfl⟩ : ∃ g, l = 8 + g := ⟨l - 8, by omega⟩
      rw [(w_mem.1 g (by omega)).2.2.2]
      decide
  have htp : s_tp (s_pv p2 T_MODEL 0 a2 0) 0 = 0 := if_pos rfl
  have hSL : h_SL (s_pv p2 T_MODEL 0 a2 0) v_Wi 3 0 := by
    refine ⟨⟨l0, l1, l2, l3⟩, ⟨fun j hj => ?_, z6, z7⟩, hqF, z5, ⟨fun t ht k hk9 => ?_, fun r _ => ⟨h0 _ _ rfl rfl, h0 _ _ rfl rfl⟩, fun i _ => h0 _ _ rfl rfl⟩, ⟨fun t ht k hk9 => (hLK t ht k).trans (decide_eq_false (by omega)), fun r _ => h0 _ _ rfl rfl⟩⟩
    · rw [h2v _ _ (by decide), v5 j]
      exact decide_eq_true hj
    · have key : (s_kT.all fun t => decide (t = T_KNOB) || (decide (t = T_COUP) || (!((q_Ms.contains t || (decide (t = T_LIST) || ((T_MKEEP :: q_LK).contains t || decide (t = T_LARR)))) || (decide (t = T_MODEL) || decide (t = T_HALL))) && !(s_KH.contains t || (decide (t = T_LIST) || decide (t = T_LARR)))))) = true := by decide
      have g := List.all_eq_true.mp key t ht
      rcases (Bool.or_eq_true _ _).mp g with g | g
      · rw [of_decide_eq_true g, hkb k]; exact decide_eq_false (by omega)
      rcases (Bool.or_eq_true _ _).mp g with g | g
      · rw [of_decide_eq_true g, hcb k]; exact decide_eq_false (by omega)
      rw [Bool.and_eq_true, Bool.not_eq_true', Bool.not_eq_true'] at g
      obtain ⟨g1, g2⟩ := g
      refine h0 t k ?_ (s_NT.n g2)
      rw [Bool.or_eq_false_iff, Bool.or_eq_false_iff, Bool.or_eq_false_iff, Bool.or_eq_false_iff] at g1
      obtain ⟨⟨b1, b2, b3, b4⟩, b5⟩ := g1
      unfold l_NP q_NX
      rw [b1, b2, b3, b4, b5]
      rfl
  have hSB : h_SB (s_pv p2 T_MODEL 0 a2 0) v_Wi 3 0 0 := by
    refine ⟨⟨hok, ⟨by decide, z3⟩, ⟨by decide, z2⟩, ⟨by decide, z8⟩, fun k hk => ⟨(hLK _ (by decide) k).trans (hkn k hk), fun t ht => (hLK t (List.mem_cons_of_mem _ ht) k).trans (hkn k hk), ⟨k, hk, (w_kn k hk).1.2.2.2⟩, ⟨0, by decide, w_rows k⟩, .inl (w_kn k hk).2.1.2.2.2⟩, fun r hr => absurd hr (Nat.not_lt_zero r), fun q hq => absurd hq (Nat.not_lt_zero q)⟩, w_fr, ⟨fun q hq => absurd hq (Nat.not_lt_zero q), fun i hi => ?_, ?_, fun r hr => absurd hr (Nat.not_lt_zero r), fun d hd => ?_⟩, fun k hk hs => absurd hs (hk3 k hk), hk3⟩
    · rw [(w_12 i hi).2]; exact ⟨by decide, by decide⟩
    · have : v_Wi f_m_heat 0 = 0 := by
        obtain ⟨o1, o2, o3, o4, o5, o6, o7, o8, o9, o10, o11, o12, o13, o14, o15, o16⟩ := w_one
        assumption
      rw [this]; exact ⟨by decide, by decide⟩
    · rw [(w_3 d hd).2.1]; exact ⟨by decide, by decide⟩
  have hts : v_Wi f_tsize 0 = nI 0 := by
    obtain ⟨o1, o2, o3, o4, o5, o6, o7, o8⟩ := w_one
    assumption
  have hE : (s_pv p2 T_MODEL 0 a2 0).2.2.1 T_ENTR 0 = 256 := (hk T_ENTR 0 rfl).2.2.trans u7
  have hR : h_R (s_pv p2 T_MODEL 0 a2 0) v_Wi c c.1 c.2 0 := by
    refine ⟨0, 0, ⟨fun i hi => u8 T_TAPE (by decide) i (by rw [← (hk T_TAPE i rfl).2.1]; exact hi), ⟨hE, by decide⟩, ⟨0, hts, Nat.zero_le _⟩, fun i _ _ => w_ents i, (hk T_ENTR 0 rfl).2.1.trans (u1 _ (by decide))⟩, ⟨l4, fun j => (h0 T_MKEPT j rfl rfl).trans (decide_eq_false (Nat.not_lt_zero j)).symm, fun _ => hcp, hcp, Nat.zero_le _⟩, rfl, ?_⟩
    rw [hE]
    rfl
  refine ⟨⟨3, 0, 0, 0, fun _ => 0, 0, 0, c.1, c.2, w_sim (by rw [hbase]) _, hD, w_wd, hSL, hSB, hR, ?_⟩, hax, ham, hw, hd, hne⟩
  rw [hW0]
  exact l_hB0 hc1 hc2
set_option maxRecDepth 100000 in
set_option maxHeartbeats 800000 in
theorem law_start {X : e_XT} {d : Nat} {Q : e_Rt → e_SS → Prop} (hX : (X 8).1 = 0) (k : ∀ ax am ao ad S, h_L 0 ax am ao ad S → s_w X (d + 13) K_law 28 (l_ll ax am ao ad 0 none none none) [] S Q) : s_w X (d + 13) K_law 0 [some (.ref (e_xb + 0)), none, none, none, none, none, none, none, none] [] (l_p0, v_o, v_oJ, (0, 0), fun _ => none) Q := by
  have hxb : e_xb = 4294967296 := rfl
  refine t_new (K := K_law) dL_law_0 rfl (show 0 < e_xb by omega) (fun a1 ha1 => ?_)
  refine w_op (K := K_law) (pc' := 4) dL_law_3 rfl ?_
  refine t_callI (K := K_law) (As := []) (rest := [.ref a1]) dL_law_4 rfl rM_X11_init (by decide) (by decide) rfl rfl rfl (Nat.le_of_ble_eq_true rfl) (c_X11_init (d := d + 3) (fun _ _ _ => rfl) rfl rfl rfl rfl (fun j hj => absurd hj Bool.false_ne_true) hX (by show 0 + 1 + 100 < e_xb; omega) (fun p1 c1 hx1 u1 u2 u3 u4 u5 u6 u7 u8 u9 => ?_))
  refine ⟨rfl, ?_⟩
  refine w_ghost (S' := (s_pv p1 T_HALL 0 a1 0, s_iH v_o, s_jH v_oJ, c1, fun _ => none)) (fun h hs => hs.pubHALL ((hx1.1 T_HALL 0 rfl).2.1) rfl rfl rfl rfl rfl rfl rfl) ?_
  refine w_op (K := K_law) (pc' := 8) (ll' := [some (.ref (e_xb + 0)), some (.ref a1), none, none, none, none, none, none, none]) (st' := []) dL_law_7 rfl ?_
  have hc1 : c1.1 ≤ 61 := Nat.le_trans u9.1 (by show 0 + 1 + 60 ≤ 61; omega)
  have hc1' : c1.2 ≤ 1700 := Nat.le_trans u9.2 (by show 0 + e_cF 15 + 1600 ≤ 1700; decide)
  refine t_new (K := K_law) dL_law_8 rfl (by omega) (fun a2 ha2 => ?_)
  refine w_op (K := K_law) (pc' := 12) dL_law_11 rfl ?_
  have hv0 : ∀ t i, t ≠ T_HALL → s_NT s_KH [0, 1] t i = false → (s_pv p1 T_HALL 0 a1 0).2.1 t i = false := fun t i g1 g2 => (s_pv_nv (fun z => g1 z.1)).trans (hx1.1 t i g2).2.1
  have hu8 : ∀ t, t ∈ [T_CONS, T_TAPE, T_WORKS] → ∀ j, (s_pv p1 T_HALL 0 a1 0).2.1 t j = true → j = 0 := fun t ht j hj => u8 t ht j (by rw [← hj]; exact (s_pv_nv (fun z => by rw [z.1] at ht; revert ht; decide)).symm)
  refine t_callI (K := K_law) (As := []) (rest := [.ref a2]) dL_law_12 rfl rM_X16_init (by decide) (by decide) rfl rfl rfl (Nat.le_of_ble_eq_true rfl) (c_X16_init (d := d + 5) (fun t ht i => ?_) (fun l hl => ?_) (fun l hl hl2 => ?_) (hu8 T_CONS (by decide)) (hu8 T_WORKS (by decide)) hX (by show c1.1 + 1 + 2000 < e_xb; omega) (fun p2 c2 f2 hx2 v1 v2 v3 v4 v5 v6 v7 v8 => ?_))
  · have key : (((T_MODEL :: q_Ms) ++ (T_MKEEP :: q_LK)).all fun t => decide (t ≠ T_HALL) && !(s_KH.contains t || (decide (t = T_LIST) || decide (t = T_LARR)))) = true := by decide
    have g := List.all_eq_true.mp key t ht
    rw [Bool.and_eq_true, Bool.not_eq_true'] at g
    exact hv0 t i (of_decide_eq_true g.1) (s_NT.n g.2)
  · refine hv0 T_LIST l (by decide) ?_
    unfold s_NT
    have : ([0, 1] : List Nat).contains l = false := by
      rw [Bool.eq_false_iff]
      intro z
      have := List.contains_iff_mem.mp z
      simp at this
      omega
    rw [this]
    rfl
  · refine (s_pv_n (fun z => absurd z.1 (by decide))).trans ((hx1.1 T_LARR l ?_).1.trans (rfl : l_p0.1 T_LARR l = e_xb + 8))
    unfold s_NT
    have : ([0, 1] : List Nat).contains l = false := by
      rw [Bool.eq_false_iff]
      intro z
      have := List.contains_iff_mem.mp z
      simp at this
      omega
    rw [this]
    rfl
  refine ⟨rfl, ?_⟩
  have nf : ∀ sl, 33 ≤ sl → sl ≠ 44 → sl ≠ 45 → sl ≠ 47 → f2 sl = .null := fun sl h1 h2 h3 h4 => v3 sl h1 h2 h3 h4
  have e0 : ∀ sl, 33 ≤ sl → sl ≠ 44 → sl ≠ 45 → sl ≠ 47 → e_toI (f2 sl) = 0 := fun sl h1 h2 h3 h4 => by rw [nf sl h1 h2 h3 h4]; rfl
  have ej : ∀ sl, 33 ≤ sl → sl ≠ 44 → sl ≠ 45 → sl ≠ 47 → e_toJ (f2 sl) = 0 := fun sl h1 h2 h3 h4 => by rw [nf sl h1 h2 h3 h4]; rfl
  refine w_ghost (S' := (s_pv p2 T_MODEL 0 a2 0, v_Wi, v_Wj, c2, fun _ => none)) (fun h hs => hs.pubMODEL (x0 := 0) (x1 := 0) (x2 := 0) (x3 := 0) (x4 := 0) (x5 := 0) (x6 := 0) (x7 := 0) (x8 := 0) (x9 := 45) (x10 := 45) (x11 := 0) (x12 := 1) (x13 := 0) (y0 := 0) (y1 := 0) ((hx2.1 T_MODEL 0 rfl).2.1.trans (hv0 T_MODEL 0 (by decide) rfl)) rfl (e0 33 (by decide) (by decide) (by decide) (by decide)) (e0 34 (by decide) (by decide) (by decide) (by decide)) (e0 35 (by decide) (by decide) (by decide) (by decide)) (e0 36 (by decide) (by decide) (by decide) (by decide)) (e0 37 (by decide) (by decide) (by decide) (by decide)) (e0 38 (by decide) (by decide) (by decide) (by decide)) (e0 39 (by decide) (by decide) (by decide) (by decide)) (e0 40 (by decide) (by decide) (by decide) (by decide)) (e0 41 (by decide) (by decide) (by decide) (by decide)) (by rw [v2.1]; rfl) (by rw [v2.2.1]; rfl) (e0 46 (by decide) (by decide) (by decide) (by decide)) (by rw [v2.2.2]; rfl) (e0 48 (by decide) (by decide) (by decide) (by decide)) (ej 42 (by decide) (by decide) (by decide) (by decide)) (ej 43 (by decide) (by decide) (by decide) (by decide)) (v1 (0, T_LIST, 2) (by decide)).1 (v1 (1, T_LIST, 3) (by decide)).1 (v1 (2, T_LIST, 4) (by decide)).1 (v1 (3, T_LIST, 5) (by decide)).1 (v1 (4, T_LIST, 6) (by decide)).1 (v1 (5, T_LIST, 7) (by decide)).1 (v1 (6, T_M_isDown, 0) (by decide)).1 (v1 (7, T_M_isHeld, 0) (by decide)).1 (v1 (8, T_M_isWanted, 0) (by decide)).1 (v1 (9, T_M_isCalled, 0) (by decide)).1 (v1 (10, T_M_isOpen, 0) (by decide)).1 (v1 (11, T_M_speaks, 0) (by decide)).1 (v1 (12, T_M_wentDown, 0) (by decide)).1 (v1 (13, T_M_counts, 0) (by decide)).1 (v1 (14, T_M_since, 0) (by decide)).1 (v1 (15, T_M_closedSince, 0) (by decide)).1 (v1 (16, T_M_begun, 0) (by decide)).1 (v1 (17, T_M_tuning, 0) (by decide)).1 (v1 (18, T_M_rankOf, 0) (by decide)).1 (v1 (19, T_M_fault, 0) (by decide)).1 (v1 (20, T_M_supply, 0) (by decide)).1 (v1 (21, T_M_box, 0) (by decide)).1 (v1 (22, T_M_temper, 0) (by decide)).1 (v1 (23, T_M_winds, 0) (by decide)).1 (v1 (24, T_M_claimed, 0) (by decide)).1 (v1 (25, T_M_reversible, 0) (by decide)).1 (v1 (26, T_M_operation, 0) (by decide)).1 (v1 (27, T_M_first, 0) (by decide)).1 (v1 (28, T_M_second, 0) (by decide)).1 (v1 (29, T_M_chord, 0) (by decide)).1 (v1 (30, T_M_degrees, 0) (by decide)).1 (v1 (31, T_M_best, 0) (by decide)).1 (v1 (32, T_M_isRelay, 0) (by decide)).1) ?_
  refine w_op (K := K_law) (pc' := 16) (ll' := [some (.ref (e_xb + 0)), some (.ref a1), some (.ref a2), none, none, none, none, none, none]) (st' := []) dL_law_15 rfl ?_
  have hc2 : c2.1 ≤ 470 := Nat.le_trans v8.1 (by show c1.1 + 1 + 400 ≤ 470; omega)
  have hc2' : c2.2 ≤ 32000 := Nat.le_trans v8.2 (by
    have h9 : e_cF 20 ≤ 200 := by decide
    show c1.2 + e_cF 20 + 30000 ≤ 32000
    omega)
  refine w_op (K := K_law) (pc' := 17) (ll' := [some (.ref (e_xb + 0)), some (.ref a1), some (.ref a2), none, none, none, none, none, none]) (st' := [.int 1]) dL_law_16 rfl ?_
  refine w_newarr (K := K_law) (n := 1) dL_law_17 (by decide) ⟨by decide, by decide⟩ (by decide) (show c2.1 < e_xb by omega) (fun ao hao => ?_)
  refine w_op (K := K_law) (pc' := 20) (ll' := [some (.ref (e_xb + 0)), some (.ref a1), some (.ref a2), some (.ref ao), none, none, none, none, none]) (st' := []) dL_law_19 rfl ?_
  refine w_op (K := K_law) (pc' := 21) (ll' := [some (.ref (e_xb + 0)), some (.ref a1), some (.ref a2), some (.ref ao), none, none, none, none, none]) (st' := [.int 1]) dL_law_20 rfl ?_
  refine w_newarr (K := K_law) (n := 1) dL_law_21 (by decide) ⟨by decide, by decide⟩ (by decide) (show c2.1 + 1 < e_xb by omega) (fun ad had => ?_)
  refine w_op (K := K_law) (pc' := 25) (ll' := [some (.ref (e_xb + 0)), some (.ref a1), some (.ref a2), some (.ref ao), some (.ref ad), none, none, none, none]) (st' := []) dL_law_23 rfl ?_
  refine w_op (K := K_law) (pc' := 26) (ll' := [some (.ref (e_xb + 0)), some (.ref a1), some (.ref a2), some (.ref ao), some (.ref ad), none, none, none, none]) (st' := [.int 0]) dL_law_25 rfl ?_
  refine w_op (K := K_law) (pc' := 28) (ll' := l_ll a1 a2 ao ad 0 none none none) (st' := []) dL_law_26 rfl ?_
  have hne : ao ≠ ad := fun z => by
    have h1 := had.1
    rw [← z] at h1
    have h2 : (if ao = ao then some (103, 1, fun _ => Value.null) else none : Option (Nat × Nat × (Nat → Value))) = none := h1
    rw [if_pos rfl] at h2
    cases h2
  refine k a1 a2 ao ad _ (law_h0 (c := (c2.1 + 1 + 1, c2.2 + 1 + 1)) (w := fun b => if b = ad then some (104, 1, fun _ => .null) else if b = ao then some (103, 1, fun _ => .null) else none) hx1 u1 u2 u3 u4 u5 u6 u7 u8 hx2 v1 v4 v5 v6 v7 (by show c2.1 + 1 + 1 ≤ 1000; omega) (by show c2.2 + 1 + 1 ≤ 40000; omega) ⟨_, (if_neg hne).trans (if_pos rfl)⟩ ⟨_, if_pos rfl⟩ hne)
