/-! 99: keys, time, wires of the second implementation (printed by wip/whole/p99.py) -/
def q_gs2 : List Nat := q_ms2 ++ [f_m_operation, f_m_first, f_m_second]
def q_fr4 (T : List Nat) : Bool := q_gs2.all (fun F => F != f_l_size && !T.contains F)
theorem q_G.x {T : List Nat} {p p' : e_Sp} {I I' : e_I} {c c' : Nat × Nat} {nk nr np a b n n' : Nat} (h : q_G p I c nk nr np a b n) (x : q_X p p') (e : q_e T I I') (hT : q_fr4 T = true) (h1 : q_bo I' f_m_isDown) (h2 : q_bo I' f_m_isRelay) (hL : q_L p' I' c' a b n') (ha : a + n' + 100000000 < 4294960000) (hn : n' + 1280 < 39999999) : q_G p' I' c' nk nr np a b n' := by
  have hf : ∀ F, F ∈ q_gs2 → I' F = I F := fun F hF => e.F (List.all_eq_true.mp hT F hF)
  refine ⟨h.1.e x e ?_, h.2.1, ?_, h1, h2, hL, ha, hn⟩
  · refine List.all_eq_true.mpr (fun F hF => ?_)
    have := List.all_eq_true.mp hT F (List.mem_append_left _ hF)
    rw [Bool.and_eq_true] at this
    exact this.2
  · unfold q_S
    rw [hf f_m_operation (by decide), hf f_m_first (by decide), hf f_m_second (by decide)]
    exact h.2.2.1
theorem q_G.st {p p' : e_Sp} {I : e_I} {J : e_Jt} {c c' : Nat × Nat} {nk nr np a b n n' : Nat} (h : q_G p I c nk nr np a b n) (x : q_X p p') (hL : q_L p' (q_st nk nr np (I, J)).1 c' a b n') (ha : a + n' + 100000000 < 4294960000) (hn : n' + 1280 < 39999999) : q_G p' (q_st nk nr np (I, J)).1 c' nk nr np a b n' := by
  have e : q_e q_sT I (q_st nk nr np (I, J)).1 := q_st_e
  exact h.x x e (by decide) (by unfold q_bo; rw [e.F (by decide)]; exact h.2.2.2.1) (q_bo.st h.2.2.2.2.1) hL ha hn
/-- a key is put -/
def q_md1 (I : e_I) (x y z : Int32) : e_I := if z = 0 then s_up I f_m_isDown (s_kn x y) z else s_up (s_up I f_m_isDown (s_kn x y) z) f_m_wentDown (s_kn x y) (I f_m_tick 0)
def q_mdv (I : e_I) (x y z : Int32) : e_I := if I f_m_isDown (s_kn x y) = z then I else if I f_m_recording 0 = 107 then q_ka (q_md1 I x y z) (I f_l_size 4).toNatClampNeg x y z else q_md1 I x y z
def q_mT : List Nat := [f_m_isDown, f_m_wentDown] ++ q_kT9
theorem s_eqN.qmd1 {I : e_I} {x y z : Int32} : s_eqN [f_m_isDown, f_m_wentDown] I (q_md1 I x y z) := by
  unfold q_md1
  split
  · exact s_eqN.up (by decide)
  · exact (s_eqN.up (by decide)).trans (s_eqN.up (by decide))
theorem q_mdv_e {I : e_I} {x y z : Int32} : q_e q_mT I (q_mdv I x y z) := by
  unfold q_mdv
  split
  · exact q_e.rfl'
  · split
    · exact (q_e.of s_eqN.qmd1 (by decide) (by decide)).trans (q_ka_e.mono (by decide))
    · exact q_e.of s_eqN.qmd1 (by decide) (by decide)
theorem q_bo.md1 {I : e_I} {x y z : Int32} (h : q_bo I f_m_isDown) (hz : z = 0 ∨ z = 1) : q_bo (q_md1 I x y z) f_m_isDown := by
  unfold q_md1
  split
  · exact h.up hz
  · exact (h.up hz).eqN (s_eqN.up (T := [f_m_wentDown]) (by decide)) (by decide)
theorem q_bo.mdv {I : e_I} {x y z : Int32} (h : q_bo I f_m_isDown) (hz : z = 0 ∨ z = 1) : q_bo (q_mdv I x y z) f_m_isDown := by
  unfold q_mdv
  split
  · exact h
  · split
    · unfold q_bo; rw [q_ka_e.F (F := f_m_isDown) (by decide)]; exact h.md1 hz
    · exact h.md1 hz
theorem q_G.mdv {p p' : e_Sp} {I : e_I} {c c' : Nat × Nat} {nk nr np a b n n' : Nat} {x y z : Int32} (h : q_G p I c nk nr np a b n) (hz : z = 0 ∨ z = 1) (hx : q_X p p') (hL : q_L p' (q_mdv I x y z) c' a b n') (ha : a + n' + 100000000 < 4294960000) (hn : n' + 1280 < 39999999) : q_G p' (q_mdv I x y z) c' nk nr np a b n' :=
  h.x hx q_mdv_e (by decide) (h.2.2.2.1.mdv hz) (by unfold q_bo; rw [q_mdv_e.F (F := f_m_isRelay) (by decide)]; exact h.2.2.2.2.1) hL ha hn
theorem q_L.nn {p : e_Sp} {I : e_I} {c : Nat × Nat} {a b n v : Nat} (h : q_L p I c a b n) (e : I f_l_size 4 = nI v) (hv : v < 2147483648) : n = v := by
  have h1 := h.n
  have h2 := h.1.2.2.1
  rw [e] at h1
  exact ((nI_eq hv (by omega)).mp h1).symm
theorem s_run_l {α : Type} {f : Nat → α → α} : ∀ n i a, s_run f i (n + 1) a = f (i + n) (s_run f i n a)
  | 0, _, _ => rfl
  | n + 1, i, a => by
    show s_run f (i + 1) (n + 1) (f i a) = f (i + (n + 1)) (s_run f (i + 1) n (f i a))
    rw [s_run_l n (i + 1), show i + 1 + n = i + (n + 1) by omega]
/-- a tick -/
def q_tc (nk nr np : Nat) (_ : Nat) (a : e_I × e_Jt) : e_I × e_Jt := q_st nk nr np (s_up a.1 f_m_tick 0 (a.1 f_m_tick 0 + 1), a.2)

set_option maxRecDepth 100000 in
set_option maxHeartbeats 800000 in
theorem c_X16_moved {X : e_XT} {d : Nat} {p : e_Sp} {I : e_I} {J : e_Jt} {c : Nat × Nat} {w : e_Rw1} {Q : e_Rt → e_SS → Prop} (hp : s_ok p) {x y z : Int32} (hq : s_isk x y) (hz : z = 0 ∨ z = 1) (hb : q_bo I f_m_isDown) {a b n : Nat} (hL : q_L p I c a b n) (hX : (X 8).1 = 0) (ha : a + n + 100000000 < 4294960000) (hn : n + 1280 < 39999999) (k : ∀ p' c' n', q_X p p' → q_L p' (q_mdv I x y z) c' a b n' → n' ≤ n + 1 → Q (.inl (some (.int (I f_m_isDown (s_kn x y))))) (p', q_mdv I x y z, J, c', w)) : s_c X (d + 8) 258 [.ref (p.1 T_MODEL 0), .int x, .int y, .int z] (p, I, J, c, w) Q := by
  refine m_X16_moved (Nat.le_of_ble_eq_true rfl) ?_
  show s_w _ _ _ 0 _ _ _ _
  refine w_op (pc' := 1) dX16_moved_0 rfl ?_
  refine t_getG0 (G := g_m_isDown) dX16_moved_1 rfl rfl (by decide) rfl (fun _ => rfl) (hp.1 _ rfl) ?_
  refine w_op (pc' := 5) dX16_moved_4 rfl ?_
  refine w_op (pc' := 6) dX16_moved_5 rfl ?_
  refine t_callS (As := [_, _]) dX16_moved_6 rfl rM_X16_spot (by decide) rfl rfl (by decide) (Nat.le_of_ble_eq_true rfl) (c_X16_spot hq ?_)
  show s_w _ _ _ 9 _ _ _ _
  refine t_bald0 (F := f_m_isDown) dX16_moved_9 rfl (by decide) rfl (hp.1 _ rfl) (show s_ix _ _ 183 from s_ix.nI hq.lt (by decide)) hq.lt ?_
  refine w_op (pc' := 12) (ll' := [_, _, _, _, _]) dX16_moved_10 rfl ?_
  refine w_op (pc' := 14) dX16_moved_12 rfl ?_
  refine w_op (pc' := 15) dX16_moved_14 rfl ?_
  refine w_icmpne (t := 21) dX16_moved_15 (by decide) (fun c15 => ?_) (fun c15 => ?_)
  · refine w_op (pc' := 22) dX16_moved_21 rfl ?_
    refine t_getG0 (G := g_m_isDown) dX16_moved_22 rfl rfl (by decide) rfl (fun _ => rfl) (hp.1 _ rfl) ?_
    refine w_op (pc' := 26) dX16_moved_25 rfl ?_
    refine w_op (pc' := 27) dX16_moved_26 rfl ?_
    refine t_callS (As := [_, _]) dX16_moved_27 rfl rM_X16_spot (by decide) rfl rfl (by decide) (Nat.le_of_ble_eq_true rfl) (c_X16_spot hq ?_)
    show s_w _ _ _ 30 _ _ _ _
    refine w_op (pc' := 31) dX16_moved_30 rfl ?_
    refine t_bast0 (F := f_m_isDown) dX16_moved_31 rfl (by decide) (by decide) rfl (hp.1 _ rfl) (show s_ix _ _ 183 from s_ix.nI hq.lt (by decide)) hq.lt hz ?_
    refine w_op (pc' := 33) dX16_moved_32 rfl ?_
    refine w_ifeq (t := 50) dX16_moved_33 (by decide) (fun c33 => ?_) (fun c33 => ?_)
    · refine w_op (pc' := 51) dX16_moved_50 rfl ?_
      refine t_getI (F := f_m_recording) dX16_moved_51 rfl rfl (by decide) rfl ⟨rfl, fun _ => rfl⟩ (hp.1 _ rfl) ?_
      refine w_bipush (v := 107) dX16_moved_54 rfl ?_
      refine w_icmpne (t := 81) dX16_moved_56 (by decide) (fun c56 => ?_) (fun c56 => ?_)
      · refine w_op (pc' := 83) dX16_moved_81 rfl ?_
        exact w_ireturn dX16_moved_83 ⟨s_rcb (hb _), (by have ez : q_md1 I x y z = _ := if_pos c33; have er : ¬ I f_m_recording 0 = 107 := c56; have ef : q_mdv I x y z = q_md1 I x y z := by { unfold q_mdv; rw [if_neg (fun u => c15 u), if_neg er] }; rw [ef] at k; have k9 := k p c n q_X.rfl' (hL.eq (congrFun (s_eqN.qmd1 f_l_size (by decide)) 4)) (by omega); rw [ez] at k9; exact k9)⟩
      · have ez : q_md1 I x y z = _ := if_pos c33
        have er : I f_m_recording 0 = 107 := c56
        have ef : q_mdv I x y z = q_ka (q_md1 I x y z) n x y z := by unfold q_mdv; rw [if_neg (fun u => c15 u), if_pos er, hL.n, nI_clamp (by have := hL.1.2.2.1; omega)]
        rw [ef] at k
        rw [← ez]
        have hroom := hL.room
        refine lk_X16_moved hz hp (hL.eq (congrFun (s_eqN.qmd1 f_l_size (by decide)) 4)) hX (by unfold e_xb; omega) (by omega) (fun p1 c1 x1 hL1 => ?_)
        refine w_op (pc' := 83) dX16_moved_81 rfl ?_
        exact w_ireturn dX16_moved_83 ⟨s_rcb (hb _), k p1 c1 (n + 1) x1 hL1 (Nat.le_refl _)⟩
    · refine w_op (pc' := 37) dX16_moved_36 rfl ?_
      refine t_getG0 (G := g_m_wentDown) dX16_moved_37 rfl rfl (by decide) rfl (fun _ => rfl) (hp.1 _ rfl) ?_
      refine w_op (pc' := 41) dX16_moved_40 rfl ?_
      refine w_op (pc' := 42) dX16_moved_41 rfl ?_
      refine t_callS (As := [_, _]) dX16_moved_42 rfl rM_X16_spot (by decide) rfl rfl (by decide) (Nat.le_of_ble_eq_true rfl) (c_X16_spot hq ?_)
      show s_w _ _ _ 45 _ _ _ _
      refine w_op (pc' := 46) dX16_moved_45 rfl ?_
      refine t_getI (F := f_m_tick) dX16_moved_46 rfl rfl (by decide) rfl ⟨rfl, fun _ => rfl⟩ (hp.1 _ rfl) ?_
      rw [show s_up I f_m_isDown (s_kn x y) z f_m_tick 0 = I f_m_tick 0 from s_up_n (by decide)]
      refine t_iast0 (F := f_m_wentDown) dX16_moved_49 rfl (by decide) (by decide) rfl (hp.1 _ rfl) (show s_ix _ _ 183 from s_ix.nI hq.lt (by decide)) hq.lt ?_
      refine w_op (pc' := 51) dX16_moved_50 rfl ?_
      refine t_getI (F := f_m_recording) dX16_moved_51 rfl rfl (by decide) rfl ⟨rfl, fun _ => rfl⟩ (hp.1 _ rfl) ?_
      refine w_bipush (v := 107) dX16_moved_54 rfl ?_
      refine w_icmpne (t := 81) dX16_moved_56 (by decide) (fun c56 => ?_) (fun c56 => ?_)
      · refine w_op (pc' := 83) dX16_moved_81 rfl ?_
        exact w_ireturn dX16_moved_83 ⟨s_rcb (hb _), (by have ez : q_md1 I x y z = _ := if_neg c33; have er : ¬ I f_m_recording 0 = 107 := c56; have ef : q_mdv I x y z = q_md1 I x y z := by { unfold q_mdv; rw [if_neg (fun u => c15 u), if_neg er] }; rw [ef] at k; have k9 := k p c n q_X.rfl' (hL.eq (congrFun (s_eqN.qmd1 f_l_size (by decide)) 4)) (by omega); rw [ez] at k9; exact k9)⟩
      · have ez : q_md1 I x y z = _ := if_neg c33
        have er : I f_m_recording 0 = 107 := c56
        have ef : q_mdv I x y z = q_ka (q_md1 I x y z) n x y z := by unfold q_mdv; rw [if_neg (fun u => c15 u), if_pos er, hL.n, nI_clamp (by have := hL.1.2.2.1; omega)]
        rw [ef] at k
        rw [← ez]
        have hroom := hL.room
        refine lk_X16_moved hz hp (hL.eq (congrFun (s_eqN.qmd1 f_l_size (by decide)) 4)) hX (by unfold e_xb; omega) (by omega) (fun p1 c1 x1 hL1 => ?_)
        refine w_op (pc' := 83) dX16_moved_81 rfl ?_
        exact w_ireturn dX16_moved_83 ⟨s_rcb (hb _), k p1 c1 (n + 1) x1 hL1 (Nat.le_refl _)⟩
  · refine w_op (pc' := 20) dX16_moved_18 rfl ?_
    exact w_ireturn dX16_moved_20 ⟨s_rcb (hb _), (by have ef : q_mdv I x y z = I := if_pos c15; rw [ef] at k; exact k p c n q_X.rfl' hL (by omega))⟩

set_option maxRecDepth 100000 in
set_option maxHeartbeats 800000 in
theorem c_X16_key {X : e_XT} {d : Nat} {p : e_Sp} {I : e_I} {J : e_Jt} {c : Nat × Nat} {w : e_Rw1} {Q : e_Rt → e_SS → Prop} {nk nr np a b n : Nat} (hG : q_G p I c nk nr np a b n) (hX : (X 8).1 = 0) (ha9 : a + n + 100003000 < 4294960000) (hn9 : n + 3000 < 39999999) {x y z : Int32} (hz : z = 0 ∨ z = 1) (k : s_isk x y → ∀ p' c' n', q_X p p' → q_L p' (q_st nk nr np (q_mdv I x y z, J)).1 c' a b n' → n' ≤ n + 1 + np → Q (.inl (some (.int (I f_m_isDown (s_kn x y))))) (p', q_an (q_st nk nr np (q_mdv I x y z, J)).1, (q_st nk nr np (q_mdv I x y z, J)).2, c', w)) (kx : ¬ s_isk x y → Q (.inl (some (.int 0))) (p, q_fl I 1, J, c, w)) : s_c X (d + 10) 257 [.ref (p.1 T_MODEL 0), .int x, .int y, .int z] (p, I, J, c, w) Q := by
  have hM := hG.1
  have hp := hM.1
  have hk40 := hM.2.1
  have hr10 := hM.2.2.1
  have hnp := hM.2.2.2.1
  refine m_X16_key (Nat.le_of_ble_eq_true rfl) ?_
  show s_w _ _ _ 0 _ _ _ _
  refine w_op (pc' := 1) dX16_key_0 rfl ?_
  refine w_op (pc' := 2) dX16_key_1 rfl ?_
  refine t_callS (As := [_, _]) dX16_key_2 rfl rM_X16_isKey (by decide) rfl rfl (by decide) (Nat.le_of_ble_eq_true rfl) (c_X16_isKey ?_)
  show s_w _ _ _ 5 _ _ _ _
  refine w_ifne (t := 14) dX16_key_5 (by decide) (fun c5 => ?_) (fun c5 => ?_)
  · have hq := of_decide_eq_true (bI_n0.mp c5)
    refine w_op (pc' := 15) dX16_key_14 rfl ?_
    refine w_op (pc' := 16) dX16_key_15 rfl ?_
    refine w_op (pc' := 17) dX16_key_16 rfl ?_
    refine w_op (pc' := 18) dX16_key_17 rfl ?_
    refine t_callV (t := T_MODEL) (As := [_, _, _]) dX16_key_18 rfl rM_X16_moved (by decide) rfl rfl (by decide) (by decide) (Nat.le_of_ble_eq_true rfl) rfl (hp.1 _ rfl) (c_X16_moved hp hq hz hG.2.2.2.1 hG.2.2.2.2.2.1 hX (by omega) (by omega) (fun p1 c1 n1 x1 hL1 hn1 => ?_))
    show s_w _ _ _ 21 _ _ _ _
    have hG1 := hG.mdv hz x1 hL1 (by omega) (by omega)
    have hp1 := hG1.1.1
    rw [← x1.a (t := T_MODEL) (i := 0) (by decide)]
    refine w_op (pc' := 23) (ll' := [_, _, _, _, _]) dX16_key_21 rfl ?_
    refine w_op (pc' := 24) dX16_key_23 rfl ?_
    refine w_op (pc' := 26) dX16_key_24 rfl ?_
    refine t_callV (t := T_MODEL) (As := [_]) dX16_key_26 rfl rM_X16_settledSo (by decide) rfl rfl (by decide) (by decide) (Nat.le_of_ble_eq_true rfl) rfl (hp1.1 _ rfl) (c_X16_settledSo hG1 hX (hG.2.2.2.1 _) (fun p2 c2 n2 x2 hL2 hn2 => ?_))
    show s_w _ _ _ 29 _ _ _ _
    exact w_ireturn dX16_key_29 ⟨s_rcb (hG.2.2.2.1 _), k hq p2 c2 n2 (x1.trans x2) hL2 (by omega)⟩
  · refine w_op (pc' := 9) dX16_key_8 rfl ?_
    refine w_iconst (v := 1) dX16_key_9 rfl ?_
    refine t_callV (t := T_MODEL) (As := [_]) dX16_key_10 rfl rM_X16_refuses (by decide) rfl rfl (by decide) (by decide) (Nat.le_of_ble_eq_true rfl) rfl (hp.1 _ rfl) (c_X16_refuses hp ?_)
    show s_w _ _ _ 13 _ _ _ _
    exact w_ireturn dX16_key_13 ⟨s_rcb (Or.inl rfl), kx (of_decide_eq_false (bI_0.mp c5))⟩

set_option maxRecDepth 100000 in
set_option maxHeartbeats 800000 in
theorem l_X16_goesOn {X : e_XT} {d : Nat} {p : e_Sp} {I : e_I} {J : e_Jt} {c : Nat × Nat} {w : e_Rw1} {Q : e_Rt → e_SS → Prop} {nk nr np a b n : Nat} (hG : q_G p I c nk nr np a b n) (hX : (X 8).1 = 0) {m : Nat} (hm : m < 2147483647) (hB : ∀ i, i ≤ m → ∃ v, (s_run (q_tc nk nr np) 0 i (I, J)).1 f_l_size 4 = nI v ∧ v + 1280 < 39999999 ∧ a + v + 100000000 < 4294960000) (k : ∀ p' c' n', q_X p p' → q_L p' (s_run (q_tc nk nr np) 0 m (I, J)).1 c' a b n' → Q (.inl none) (p', (s_run (q_tc nk nr np) 0 m (I, J)).1, (s_run (q_tc nk nr np) 0 m (I, J)).2, c', w)) : ∀ (n : Nat) (i : Nat) (p1 : e_Sp) (I1 : e_I) (J1 : e_Jt) (c1 : Nat × Nat) (n1 : Nat), (h1 : i ≤ m) → (x1 : q_X p p1) → (hG1 : q_G p1 I1 c1 nk nr np a b n1) → (hr : s_run (q_tc nk nr np) 0 i (I, J) = (I1, J1)) → (hn : m - i < n) → s_w X (d + 9) K_X16_goesOn 2 [some (.ref (p1.1 T_MODEL 0)), some (.int (nI m)), some (.int (nI i))] [] (p1, I1, J1, c1, w) (fun r S' => e_rcr (none) r = true ∧ Q r S') := by
  intro n
  induction n with
  | zero =>
    intro i p1 I1 J1 c1 n1 h1 x1 hG1 hr hn
    exact absurd hn (Nat.not_lt_zero _)
  | succ n ih =>
    intro i p1 I1 J1 c1 n1 h1 x1 hG1 hr hn
    have hp := hG1.1.1
    have hG2 := hG1.up (F := f_m_tick) (i := 0) (x := I1 f_m_tick 0 + 1) (by decide)
    refine w_op (pc' := 3) dX16_goesOn_2 rfl ?_
    refine w_op (pc' := 4) dX16_goesOn_3 rfl ?_
    refine w_icmpge (t := 27) dX16_goesOn_4 (by decide) (fun c4 => ?_) (fun c4 => ?_)
    · obtain rfl : i = m := by have := (nI_leI (by omega) (by omega)).mp c4; omega
      exact w_return dX16_goesOn_27 ⟨rfl, (by have k9 := k p1 c1 n1 x1; rw [hr] at k9; exact k9 hG1.2.2.2.2.2.1)⟩
    · have hi : i < m := Nat.lt_of_not_le (fun t => c4 ((nI_leI (by omega) (by omega)).mpr t))
      refine w_op (pc' := 8) dX16_goesOn_7 rfl ?_
      refine w_op (pc' := 9) dX16_goesOn_8 rfl ?_
      refine t_getI (F := f_m_tick) dX16_goesOn_9 rfl rfl (by decide) rfl ⟨rfl, fun _ => rfl⟩ (hp.1 _ rfl) ?_
      refine w_iconst (v := 1) dX16_goesOn_12 rfl ?_
      refine w_op (pc' := 14) dX16_goesOn_13 rfl ?_
      refine t_putI (F := f_m_tick) dX16_goesOn_14 rfl rfl (by decide) (by decide) rfl rfl (Or.inl rfl) (hp.1 _ rfl) ?_
      refine w_op (pc' := 18) dX16_goesOn_17 rfl ?_
      refine t_callV (t := T_MODEL) (As := []) dX16_goesOn_18 rfl rM_X16_settles (by decide) rfl rfl (by decide) (by decide) (Nat.le_of_ble_eq_true rfl) rfl (hp.1 _ rfl) (c_X16_settles hG2.1 hG2.2.1 hG2.2.2.1 hG2.2.2.2.1 hG2.2.2.2.2.1 hG2.2.2.2.2.2.1 hX hG2.2.2.2.2.2.2.1 hG2.2.2.2.2.2.2.2 (fun p2 c2 n2 x2 hL2 hn2 => ?_))
      show s_w _ _ _ 21 _ _ _ _
      rw [← x2.a (t := T_MODEL) (i := 0) (by decide)]
      have hr2 : s_run (q_tc nk nr np) 0 (i + 1) (I, J) = q_st nk nr np (s_up I1 f_m_tick 0 (I1 f_m_tick 0 + 1), J1) := by rw [s_run_l, hr]; rfl
      obtain ⟨v, ev, hv1, hv2⟩ := hB (i + 1) hi
      rw [hr2] at ev
      obtain rfl := hL2.nn ev (by omega)
      have hG3 := hG2.st x2 hL2 hv2 hv1
      generalize hst : q_st nk nr np (s_up I1 f_m_tick 0 (I1 f_m_tick 0 + 1), J1) = st at hr2 hG3 hL2 ⊢
      refine w_op (pc' := 24) (ll' := [_, _, _]) dX16_goesOn_21 rfl ?_
      refine w_goto (t := 2) dX16_goesOn_24 (by decide) ?_
      rw [show nI i + Int32.ofInt 1 = nI (i + 1) from nI_1 i]
      exact ih (i + 1) p2 st.1 st.2 c2 _ hi (x1.trans x2) hG3 hr2 (by omega)
set_option maxRecDepth 100000 in
set_option maxHeartbeats 800000 in
theorem c_X16_goesOn {X : e_XT} {d : Nat} {p : e_Sp} {I : e_I} {J : e_Jt} {c : Nat × Nat} {w : e_Rw1} {Q : e_Rt → e_SS → Prop} {nk nr np a b n : Nat} (hG : q_G p I c nk nr np a b n) (hX : (X 8).1 = 0) {m : Nat} (hm : m < 2147483647) (hB : ∀ i, i ≤ m → ∃ v, (s_run (q_tc nk nr np) 0 i (I, J)).1 f_l_size 4 = nI v ∧ v + 1280 < 39999999 ∧ a + v + 100000000 < 4294960000) (k : ∀ p' c' n', q_X p p' → q_L p' (s_run (q_tc nk nr np) 0 m (I, J)).1 c' a b n' → Q (.inl none) (p', (s_run (q_tc nk nr np) 0 m (I, J)).1, (s_run (q_tc nk nr np) 0 m (I, J)).2, c', w)) : s_c X (d + 9) 262 [.ref (p.1 T_MODEL 0), .int (nI m)] (p, I, J, c, w) Q := by
  refine m_X16_goesOn (Nat.le_of_ble_eq_true rfl) ?_
  show s_w _ _ _ 0 _ _ _ _
  refine w_iconst (v := 0) dX16_goesOn_0 rfl ?_
  refine w_op (pc' := 2) (ll' := [_, _, _]) dX16_goesOn_1 rfl ?_
  exact l_X16_goesOn (c := c) (J := J) hG hX hm hB k (m + 1) 0 p I J c n (Nat.zero_le _) q_X.rfl' hG rfl (by omega)

set_option maxRecDepth 100000 in
set_option maxHeartbeats 800000 in
theorem c_X16_pass {X : e_XT} {d : Nat} {p : e_Sp} {I : e_I} {J : e_Jt} {c : Nat × Nat} {w : e_Rw1} {Q : e_Rt → e_SS → Prop} {nk nr np a b n : Nat} (hG : q_G p I c nk nr np a b n) (hX : (X 8).1 = 0) {x : Int32} (hB : ∀ m, m ≤ 40 → x = nI m → ∀ i, i ≤ m → ∃ v, (s_run (q_tc nk nr np) 0 i (I, J)).1 f_l_size 4 = nI v ∧ v + 1280 < 39999999 ∧ a + v + 100000000 < 4294960000) (k : ∀ m, 1 ≤ m → m ≤ 40 → x = nI m → ∀ p' c' n', q_X p p' → q_L p' (s_run (q_tc nk nr np) 0 m (I, J)).1 c' a b n' → Q (.inl (some (.int ((s_run (q_tc nk nr np) 0 m (I, J)).1 f_m_tick 0)))) (p', q_an (s_run (q_tc nk nr np) 0 m (I, J)).1, (s_run (q_tc nk nr np) 0 m (I, J)).2, c', w)) (kx : ¬ (1 ≤ x ∧ x ≤ 40) → Q (.inl (some (.int 0))) (p, q_fl I 1, J, c, w)) : s_c X (d + 10) 261 [.ref (p.1 T_MODEL 0), .int x] (p, I, J, c, w) Q := by
  have hM := hG.1
  have hp := hM.1
  have hk40 := hM.2.1
  have hr10 := hM.2.2.1
  have hnp := hM.2.2.2.1
  refine m_X16_pass (Nat.le_of_ble_eq_true rfl) ?_
  show s_w _ _ _ 0 _ _ _ _
  refine w_op (pc' := 1) dX16_pass_0 rfl ?_
  refine w_iconst (v := 1) dX16_pass_1 rfl ?_
  refine w_bipush (v := 40) dX16_pass_2 rfl ?_
  refine t_callS (As := [_, _, _]) dX16_pass_4 rfl rM_X16_in (by decide) rfl rfl (by decide) (Nat.le_of_ble_eq_true rfl) (c_X16_in ?_)
  show s_w _ _ _ 7 _ _ _ _
  refine w_ifne (t := 16) dX16_pass_7 (by decide) (fun c7 => ?_) (fun c7 => ?_)
  · have hd := of_decide_eq_true (bI_n0.mp c7)
    obtain ⟨m, hm, rfl⟩ := q_rg (m := 40) (Int32.le_trans (by decide) hd.1) hd.2 (by decide)
    have hm1 : 1 ≤ m := (nI_leI (a := 1) (by decide) (by omega)).mp hd.1
    refine w_op (pc' := 17) dX16_pass_16 rfl ?_
    refine w_op (pc' := 18) dX16_pass_17 rfl ?_
    refine t_callV (t := T_MODEL) (As := [_]) dX16_pass_18 rfl rM_X16_goesOn (by decide) rfl rfl (by decide) (by decide) (Nat.le_of_ble_eq_true rfl) rfl (hp.1 _ rfl) (c_X16_goesOn hG hX (by omega) (hB m hm rfl) (fun p1 c1 n1 x1 hL1 => ?_))
    show s_w _ _ _ 21 _ _ _ _
    rw [← x1.a (t := T_MODEL) (i := 0) (by decide)]
    have hp1 := (hM.e x1 (q_e.rfl' (T := [])) (by decide)).1
    have hp := hp1
    refine w_op (pc' := 22) dX16_pass_21 rfl ?_
    refine w_op (pc' := 23) dX16_pass_22 rfl ?_
    refine t_getI (F := f_m_tick) dX16_pass_23 rfl rfl (by decide) rfl ⟨rfl, fun _ => rfl⟩ (hp.1 _ rfl) ?_
    refine t_callV (t := T_MODEL) (As := [_]) dX16_pass_26 rfl rM_X16_answer (by decide) rfl rfl (by decide) (by decide) (Nat.le_of_ble_eq_true rfl) rfl (hp.1 _ rfl) (c_X16_answer hp ?_)
    show s_w _ _ _ 29 _ _ _ _
    exact w_ireturn dX16_pass_29 ⟨rfl, k m hm1 hm rfl p1 c1 n1 x1 hL1⟩
  · refine w_op (pc' := 11) dX16_pass_10 rfl ?_
    refine w_iconst (v := 1) dX16_pass_11 rfl ?_
    refine t_callV (t := T_MODEL) (As := [_]) dX16_pass_12 rfl rM_X16_fails (by decide) rfl rfl (by decide) (by decide) (Nat.le_of_ble_eq_true rfl) rfl (hp.1 _ rfl) (c_X16_fails hp ?_)
    show s_w _ _ _ 15 _ _ _ _
    exact w_ireturn dX16_pass_15 ⟨rfl, kx (of_decide_eq_false (bI_0.mp c7))⟩

