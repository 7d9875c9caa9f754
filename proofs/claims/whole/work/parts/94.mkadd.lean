/-! 94: something recorded is made (printed by wip/whole/p94.py) -/
set_option maxRecDepth 100000 in
set_option maxHeartbeats 800000 in
theorem lk_X16_settles {X : e_XT} {d : Nat} {p : e_Sp} {I : e_I} {J : e_Jt} {c : Nat × Nat} {w : e_Rw1} {Q : e_Rt → e_SS → Prop} {y z : Int32} {o3 : Option Value} (hz : z = 0 ∨ z = 1) (hp : s_ok p) {a b n : Nat} (hL : q_L p I c a b n) (hX : (X 8).1 = 0) (hc : c.1 + 2 < e_xb) (hn : n < 39999999) (k : ∀ p1 c1, q_X p p1 → q_L p1 (q_ka I n (-1) y z) c1 a b (n + 1) → s_w X (d + 8) K_X16_settles 70 [some (.ref (p1.1 T_MODEL 0)), some (.int y), some (.int z), o3] [] (p1, (q_ka I n (-1) y z), J, c1, w) (fun r S' => e_rcr (none) r = true ∧ Q r S')) : s_w X (d + 8) K_X16_settles 48 [some (.ref (p.1 T_MODEL 0)), some (.int y), some (.int z), o3] [] (p, I, J, c, w) (fun r S' => e_rcr (none) r = true ∧ Q r S') := by
  refine w_op (pc' := 49) dX16_settles_48 rfl ?_
  refine t_getG0 (G := g_m_list2) dX16_settles_49 rfl rfl (by decide) rfl (fun _ => rfl) (hp.1 _ rfl) ?_
  refine t_new dX16_settles_52 rfl (show c.1 < e_xb by omega) (fun a9 ha9 => ?_)
  refine w_op (pc' := 56) dX16_settles_55 rfl ?_
  refine w_iconst (v := (-1)) dX16_settles_56 rfl ?_
  refine w_op (pc' := 58) dX16_settles_57 rfl ?_
  refine w_op (pc' := 59) dX16_settles_58 rfl ?_
  refine w_op (pc' := 60) dX16_settles_59 rfl ?_
  refine t_getI (F := f_m_tick) dX16_settles_60 rfl rfl (by decide) rfl ⟨rfl, fun _ => rfl⟩ (hp.1 _ rfl) ?_
  refine t_callI (As := [_, _, _, _]) dX16_settles_63 rfl rM_X13_init (by decide) (by decide) rfl rfl rfl (Nat.le_of_ble_eq_true rfl) (c_X13_init hz ?_)
  refine ⟨rfl, ?_⟩
  refine w_ghost (S' := ((s_pv p T_MKEPT n a9 0), (s_IMKEPT I n (-1) y (I f_m_tick 0) z), J, (c.1 + 1, c.2 + 4), w)) (fun h hs => hs.pubMKEPT ((hL.2.1 n).trans (decide_eq_false (Nat.lt_irrefl _))) ha9.1 rfl rfl rfl rfl) ?_
  have e0 : (s_pv p T_MKEPT n a9 0).1 T_LARR 4 = p.1 T_LARR 4 := s_pv_n (fun z => absurd z.1 (by decide))
  have e1 : (s_pv p T_MKEPT n a9 0).2.1 T_LARR 4 = p.2.1 T_LARR 4 := s_pv_nv (fun z => absurd z.1 (by decide))
  have e2 : (s_pv p T_MKEPT n a9 0).2.2.1 T_LARR 4 = p.2.2.1 T_LARR 4 := s_pv_nl (fun z => absurd z.1 (by decide))
  have hL9 : s_La (s_pv p T_MKEPT n a9 0) (s_IMKEPT I n (-1) y (I f_m_tick 0) z) 4 n := hL.1.x4 (s_pv_nv (fun z => absurd z.1 (by decide))) ⟨e0, e1, e2⟩ (by unfold s_IMKEPT; rw [s_up_F (by decide), s_up_F (by decide), s_up_F (by decide), s_up_F (by decide)])
  have h9 := fun (Q9 : e_Rt → e_SS → Prop) k0 k1 => @c_add X (d + 1) (s_pv p T_MKEPT n a9 0) (s_IMKEPT I n (-1) y (I f_m_tick 0) z) J (c.1 + 1, c.2 + 4) w Q9 4 n hL9 s_pv_v hX (show c.1 + 1 < e_xb by omega) k0 k1
  rw [show (s_pv p T_MKEPT n a9 0).1 (e_elT 4) (e_elI 4 n) = a9 from s_pv_s, show (s_pv p T_MKEPT n a9 0).1 T_LIST 4 = p.1 T_LIST 4 from s_pv_n (fun z => absurd z.1 (by decide))] at h9
  refine t_callV (t := T_LIST) (As := [_]) dX16_settles_66 rfl rM_Jx4a65c_add_9ea2d (by decide) rfl rfl (by decide) (by decide) (Nat.le_of_ble_eq_true rfl) rfl (hp.2 _ (by decide)) (h9 _ (fun hA h10 hlt hle => ?_) (fun hAB b9 hb9 => ?_))
  · show s_w _ _ _ 69 _ _ _ _
    refine w_op (pc' := 70) dX16_settles_69 rfl ?_
    have k9 := k (s_pv p T_MKEPT n a9 0) (c.1 + 1, c.2 + 4) (q_X.p1 ((hL.2.1 n).trans (decide_eq_false (Nat.lt_irrefl _)))) (hL.add0 (e1 ▸ hA) (e2 ▸ h10) (e2 ▸ hlt) (e2 ▸ hle) (by omega))
    rw [s_pv_n (fun z => absurd z.1 (by decide))] at k9
    exact k9
  · show s_w _ _ _ 69 _ _ _ _
    refine w_op (pc' := 70) dX16_settles_69 rfl ?_
    have k9 := k (s_pv (s_pv p T_MKEPT n a9 0) T_LARR 4 b9 (s_cap n)) _ (q_X.p2 ((hL.2.1 n).trans (decide_eq_false (Nat.lt_irrefl _)))) (hL.add1 (e0 ▸ e1 ▸ e2 ▸ hAB) hb9.2.2 (by omega))
    rw [s_pv_n (fun z => absurd z.1 (by decide)), s_pv_n (fun z => absurd z.1 (by decide))] at k9
    exact k9

set_option maxRecDepth 100000 in
set_option maxHeartbeats 800000 in
theorem lk_X16_moved {X : e_XT} {d : Nat} {p : e_Sp} {I : e_I} {J : e_Jt} {c : Nat × Nat} {w : e_Rw1} {Q : e_Rt → e_SS → Prop} {x y z v : Int32} (hz : z = 0 ∨ z = 1) (hp : s_ok p) {a b n : Nat} (hL : q_L p I c a b n) (hX : (X 8).1 = 0) (hc : c.1 + 2 < e_xb) (hn : n < 39999999) (k : ∀ p1 c1, q_X p p1 → q_L p1 (q_ka I n x y z) c1 a b (n + 1) → s_w X (d + 8) K_X16_moved 81 [some (.ref (p1.1 T_MODEL 0)), some (.int x), some (.int y), some (.int z), some (.int v)] [] (p1, (q_ka I n x y z), J, c1, w) (fun r S' => e_rcr (some FieldType.boolean) r = true ∧ Q r S')) : s_w X (d + 8) K_X16_moved 59 [some (.ref (p.1 T_MODEL 0)), some (.int x), some (.int y), some (.int z), some (.int v)] [] (p, I, J, c, w) (fun r S' => e_rcr (some FieldType.boolean) r = true ∧ Q r S') := by
  refine w_op (pc' := 60) dX16_moved_59 rfl ?_
  refine t_getG0 (G := g_m_list2) dX16_moved_60 rfl rfl (by decide) rfl (fun _ => rfl) (hp.1 _ rfl) ?_
  refine t_new dX16_moved_63 rfl (show c.1 < e_xb by omega) (fun a9 ha9 => ?_)
  refine w_op (pc' := 67) dX16_moved_66 rfl ?_
  refine w_op (pc' := 68) dX16_moved_67 rfl ?_
  refine w_op (pc' := 69) dX16_moved_68 rfl ?_
  refine w_op (pc' := 70) dX16_moved_69 rfl ?_
  refine w_op (pc' := 71) dX16_moved_70 rfl ?_
  refine t_getI (F := f_m_tick) dX16_moved_71 rfl rfl (by decide) rfl ⟨rfl, fun _ => rfl⟩ (hp.1 _ rfl) ?_
  refine t_callI (As := [_, _, _, _]) dX16_moved_74 rfl rM_X13_init (by decide) (by decide) rfl rfl rfl (Nat.le_of_ble_eq_true rfl) (c_X13_init hz ?_)
  refine ⟨rfl, ?_⟩
  refine w_ghost (S' := ((s_pv p T_MKEPT n a9 0), (s_IMKEPT I n x y (I f_m_tick 0) z), J, (c.1 + 1, c.2 + 4), w)) (fun h hs => hs.pubMKEPT ((hL.2.1 n).trans (decide_eq_false (Nat.lt_irrefl _))) ha9.1 rfl rfl rfl rfl) ?_
  have e0 : (s_pv p T_MKEPT n a9 0).1 T_LARR 4 = p.1 T_LARR 4 := s_pv_n (fun z => absurd z.1 (by decide))
  have e1 : (s_pv p T_MKEPT n a9 0).2.1 T_LARR 4 = p.2.1 T_LARR 4 := s_pv_nv (fun z => absurd z.1 (by decide))
  have e2 : (s_pv p T_MKEPT n a9 0).2.2.1 T_LARR 4 = p.2.2.1 T_LARR 4 := s_pv_nl (fun z => absurd z.1 (by decide))
  have hL9 : s_La (s_pv p T_MKEPT n a9 0) (s_IMKEPT I n x y (I f_m_tick 0) z) 4 n := hL.1.x4 (s_pv_nv (fun z => absurd z.1 (by decide))) ⟨e0, e1, e2⟩ (by unfold s_IMKEPT; rw [s_up_F (by decide), s_up_F (by decide), s_up_F (by decide), s_up_F (by decide)])
  have h9 := fun (Q9 : e_Rt → e_SS → Prop) k0 k1 => @c_add X (d + 1) (s_pv p T_MKEPT n a9 0) (s_IMKEPT I n x y (I f_m_tick 0) z) J (c.1 + 1, c.2 + 4) w Q9 4 n hL9 s_pv_v hX (show c.1 + 1 < e_xb by omega) k0 k1
  rw [show (s_pv p T_MKEPT n a9 0).1 (e_elT 4) (e_elI 4 n) = a9 from s_pv_s, show (s_pv p T_MKEPT n a9 0).1 T_LIST 4 = p.1 T_LIST 4 from s_pv_n (fun z => absurd z.1 (by decide))] at h9
  refine t_callV (t := T_LIST) (As := [_]) dX16_moved_77 rfl rM_Jx4a65c_add_9ea2d (by decide) rfl rfl (by decide) (by decide) (Nat.le_of_ble_eq_true rfl) rfl (hp.2 _ (by decide)) (h9 _ (fun hA h10 hlt hle => ?_) (fun hAB b9 hb9 => ?_))
  · show s_w _ _ _ 80 _ _ _ _
    refine w_op (pc' := 81) dX16_moved_80 rfl ?_
    have k9 := k (s_pv p T_MKEPT n a9 0) (c.1 + 1, c.2 + 4) (q_X.p1 ((hL.2.1 n).trans (decide_eq_false (Nat.lt_irrefl _)))) (hL.add0 (e1 ▸ hA) (e2 ▸ h10) (e2 ▸ hlt) (e2 ▸ hle) (by omega))
    rw [s_pv_n (fun z => absurd z.1 (by decide))] at k9
    exact k9
  · show s_w _ _ _ 80 _ _ _ _
    refine w_op (pc' := 81) dX16_moved_80 rfl ?_
    have k9 := k (s_pv (s_pv p T_MKEPT n a9 0) T_LARR 4 b9 (s_cap n)) _ (q_X.p2 ((hL.2.1 n).trans (decide_eq_false (Nat.lt_irrefl _)))) (hL.add1 (e0 ▸ e1 ▸ e2 ▸ hAB) hb9.2.2 (by omega))
    rw [s_pv_n (fun z => absurd z.1 (by decide)), s_pv_n (fun z => absurd z.1 (by decide))] at k9
    exact k9

