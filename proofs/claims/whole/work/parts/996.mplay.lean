/-! 996: playing, from end to end (printed by wip/whole/p996.py) -/
theorem q_Kp.eqN {T : List Nat} {I I' : e_I} {t : Nat → Nat} {n : Nat} (h : q_Kp I t n) (e : s_eqN T I I') (hT : ([f_mt_tick, f_mt_is, f_mt_at, f_mt_division, f_m_kindKept].all (fun F => !T.contains F)) = true) : q_Kp I' t n := by
  have hF : ∀ F, F ∈ [f_mt_tick, f_mt_is, f_mt_at, f_mt_division, f_m_kindKept] → I' F = I F := fun F hF => e F (by have := List.all_eq_true.mp hT F hF; simpa using this)
  unfold q_Kp
  rw [hF f_mt_tick (by decide), hF f_mt_is (by decide), hF f_mt_at (by decide), hF f_mt_division (by decide), hF f_m_kindKept (by decide)]
  exact h
theorem q_lfK_off {dd i : Nat} {a : e_I × Int32} (h : ¬ a.1 f_m_recording 0 = 107) : s_eqN [f_m_isDown, f_m_wentDown] a.1 (q_lfK dd i a).1 := q_mdv_off h
theorem q_offrun {β : Type} {T : List Nat} {v : Int32} {f : Nat → e_I × β → e_I × β} (hT : T.contains f_m_recording = false) (hf : ∀ i a, ¬ a.1 f_m_recording 0 = v → s_eqN T a.1 (f i a).1) (n i : Nat) (a : e_I × β) (h : ¬ a.1 f_m_recording 0 = v) : s_eqN T a.1 (s_run f i n a).1 :=
  s_run_ind (P := fun (a b : e_I × β) => ¬ a.1 f_m_recording 0 = v → s_eqN T a.1 b.1) (fun _ _ => s_eqN.rfl') (fun {x y z} (u : ¬ x.1 f_m_recording 0 = v → s_eqN T x.1 y.1) (w : ¬ y.1 f_m_recording 0 = v → s_eqN T y.1 z.1) h => (u h).trans (w (by rw [u h f_m_recording hT]; exact h))) hf n i a h
theorem q_lf_off {I : e_I} (h : ¬ I f_m_recording 0 = 107) : s_eqN [f_m_isDown, f_m_wentDown] I (q_lf I).1 := q_offrun (v := 107) (by decide) (fun dd a h => q_offrun (v := 107) (by decide) (fun i a h => q_lfK_off h) _ _ a h) 3 0 (I, 0) h
theorem q_bo.lf {I : e_I} (h : q_bo I f_m_isDown) : q_bo (q_lf I).1 f_m_isDown := s_run_pr (P := fun (a : e_I × Int32) => q_bo a.1 f_m_isDown) (fun dd a h => s_run_pr (P := fun (a : e_I × Int32) => q_bo a.1 f_m_isDown) (fun i a h => h.mdv (Or.inl rfl)) _ _ a h) 3 0 (I, 0) h
theorem c_get40 {X : e_XT} {d : Nat} {p : e_Sp} {I : e_I} {J : e_Jt} {c : Nat × Nat} {w : e_Rw1} {Q : e_Rt → e_SS → Prop} {m : Nat} (hp : s_ok p) (hz : I f_l_size 4 = nI m) (hm : m < 2147483648) (hj : 0 < m) (k : Q (.inl (some (.ref (p.1 T_MKEPT 0)))) (p, I, J, c, w)) : s_c X (d + 2) 6 [.ref (p.1 T_LIST 4), .int 0] (p, I, J, c, w) Q := by
  have h := c_get4 (X := X) (d := d) (J := J) (c := c) (w := w) (Q := Q) hp hz hm hj k
  rw [nI_0] at h
  exact h
def q_pb1 (nk nr np : Nat) (a : e_I × e_Jt) : e_I × e_Jt := q_st nk nr np (s_fill a.1 f_m_isHeld np 0, a.2)

set_option maxRecDepth 100000 in
set_option maxHeartbeats 400000 in
theorem lz_X16_playBack {X : e_XT} {d : Nat} {p : e_Sp} {I : e_I} {J : e_Jt} {c : Nat × Nat} {w : e_Rw1} {Q : e_Rt → e_SS → Prop} {nk nr np a b n0 : Nat} (hG : q_G p I c nk nr np a b n0) (hX : (X 8).1 = 0) {b0 : Int64} {l3 : Int32} (k : ∀ p' c' n', q_X p p' → q_L p' (q_st nk nr np (s_fill I f_m_isHeld np 0, J)).1 c' a b n' → n' ≤ n0 + np → Q (.inl (some (.int ((q_st nk nr np (s_fill I f_m_isHeld np 0, J)).2 j_m_allBegun 0 - b0).toInt32))) (p', q_an (q_st nk nr np (s_fill I f_m_isHeld np 0, J)).1, (q_st nk nr np (s_fill I f_m_isHeld np 0, J)).2, c', w)) : ∀ (n : Nat) (i : Nat) (o5 : Option Value), (h1 : i ≤ np) → (hn : np - i < n) → s_w X (d + 9) K_X16_playBack 162 [some (.ref (p.1 T_MODEL 0)), some (.long b0), none, some (.int l3), some (.int (nI i)), o5] [] (p, s_fill I f_m_isHeld i 0, J, c, w) (fun r S' => e_rcr (some FieldType.int) r = true ∧ Q r S') := by
  intro n
  induction n with
  | zero =>
    intro i o5 h1 hn
    exact absurd hn (Nat.not_lt_zero _)
  | succ n ih =>
    intro i o5 h1 hn
    have e : s_eqN [f_m_isHeld] I (s_fill I f_m_isHeld i 0) := s_eqN.fill (by decide)
    have hG1 := hG.eqN e (by decide)
    have hp := hG1.1.1
    have hnp := hG1.1.2.2.2.1.2
    have hnp9 := hG1.1.2.2.2.1.1
    refine w_op (pc' := 164) dX16_playBack_162 rfl ?_
    refine w_op (pc' := 165) dX16_playBack_164 rfl ?_
    refine t_getI (F := f_m_pipes) dX16_playBack_165 rfl rfl (by decide) rfl ⟨rfl, fun _ => rfl⟩ (hp.1 _ rfl) ?_
    rw [hnp]
    refine w_icmpge (t := 185) dX16_playBack_168 (by decide) (fun c168 => ?_) (fun c168 => ?_)
    · obtain rfl : i = np := by have := (nI_leI (by omega) (by omega)).mp c168; omega
      refine w_op (pc' := 186) dX16_playBack_185 rfl ?_
      refine t_callV (t := T_MODEL) (As := []) dX16_playBack_186 rfl rM_X16_settles (by decide) rfl rfl (by decide) (by decide) (Nat.le_of_ble_eq_true rfl) rfl (hp.1 _ rfl) (c_X16_settles hG1.1 hG1.2.1 hG1.2.2.1 hG1.2.2.2.1 hG1.2.2.2.2.1 hG1.2.2.2.2.2.1 hX hG1.2.2.2.2.2.2.1 hG1.2.2.2.2.2.2.2 (fun p2 c2 n2 x2 hL2 hn2 => ?_))
      show s_w _ _ _ 189 _ _ _ _
      have hp := (hG1.1.e x2 (q_e.rfl' (T := [])) (by decide)).1
      rw [← x2.a (t := T_MODEL) (i := 0) (by decide)]
      refine w_op (pc' := 190) dX16_playBack_189 rfl ?_
      refine w_op (pc' := 191) dX16_playBack_190 rfl ?_
      refine t_getJ (F := j_m_allBegun) dX16_playBack_191 rfl rfl (by decide) rfl (fun _ => rfl) (hp.1 _ rfl) ?_
      refine w_op (pc' := 195) dX16_playBack_194 rfl ?_
      refine w_op (pc' := 196) dX16_playBack_195 rfl ?_
      refine w_op (pc' := 197) dX16_playBack_196 rfl ?_
      refine t_callV (t := T_MODEL) (As := [_]) dX16_playBack_197 rfl rM_X16_answer (by decide) rfl rfl (by decide) (by decide) (Nat.le_of_ble_eq_true rfl) rfl (hp.1 _ rfl) (c_X16_answer hp ?_)
      show s_w _ _ _ 200 _ _ _ _
      exact w_ireturn dX16_playBack_200 ⟨rfl, k p2 c2 n2 x2 hL2 hn2⟩
    · have hi : i < np := Nat.lt_of_not_le (fun z => c168 ((nI_leI (by omega) (by omega)).mpr z))
      refine w_op (pc' := 172) dX16_playBack_171 rfl ?_
      refine t_getG0 (G := g_m_isHeld) dX16_playBack_172 rfl rfl (by decide) rfl (fun _ => rfl) (hp.1 _ rfl) ?_
      refine w_op (pc' := 177) dX16_playBack_175 rfl ?_
      refine w_iconst (v := 0) dX16_playBack_177 rfl ?_
      refine t_bast0 (F := f_m_isHeld) dX16_playBack_178 rfl (by decide) (by decide) rfl (hp.1 _ rfl) (show s_ix _ _ 1280 from s_ix.nI (by omega) (by decide)) (show i < 1280 by omega) (by first | exact Or.inl rfl | exact Or.inr rfl | assumption) ?_
      refine w_op (pc' := 182) (ll' := [_, _, _, _, _, _]) dX16_playBack_179 rfl ?_
      refine w_goto (t := 162) dX16_playBack_182 (by decide) ?_
      rw [show nI i + Int32.ofInt 1 = nI (i + 1) from nI_1 i]
      rw [s_fill_up]
      exact ih (i + 1) _ (by omega) (by omega)
set_option maxRecDepth 100000 in
set_option maxHeartbeats 400000 in
theorem l_X16_playBack {X : e_XT} {d : Nat} {p : e_Sp} {I : e_I} {J : e_Jt} {c : Nat × Nat} {w : e_Rw1} {Q : e_Rt → e_SS → Prop} {nk nr np a b n0 : Nat} (hX : (X 8).1 = 0) {t : Nat → Nat} {b0 : Int64} (h0 : 0 < n0) (hrec : I f_m_recording 0 = 45) (hK : q_Kp I t n0) {R : e_I × e_Jt} (k : ∀ p' c' n', q_X p p' → q_L p' (q_pb1 nk nr np R).1 c' a b n' → n' ≤ n0 + np → Q (.inl (some (.int ((q_pb1 nk nr np R).2 j_m_allBegun 0 - b0).toInt32))) (p', q_an (q_pb1 nk nr np R).1, (q_pb1 nk nr np R).2, c', w)) : ∀ (n : Nat) (i : Nat) (p1 : e_Sp) (I1 : e_I) (J1 : e_Jt) (c1 : Nat × Nat) (o5 : Option Value), (h1 : i ≤ n0) → (x1 : q_X p p1) → (hG1 : q_G p1 I1 c1 nk nr np a b n0) → (e : s_eqN q_pT I I1) → (hr : s_run (q_pbS t nk nr np) i (n0 - i) (I1, J1) = R) → (hn : n0 - i < n) → s_w X (d + 10) K_X16_playBack 59 [some (.ref (p1.1 T_MODEL 0)), some (.long b0), none, some (.int (nI (t (i - 1)))), some (.int (nI i)), o5] [] (p1, I1, J1, c1, w) (fun r S' => e_rcr (some FieldType.int) r = true ∧ Q r S') := by
  intro n
  induction n with
  | zero =>
    intro i p1 I1 J1 c1 o5 h1 x1 hG1 e hr hn
    exact absurd hn (Nat.not_lt_zero _)
  | succ n ih =>
    intro i p1 I1 J1 c1 o5 h1 x1 hG1 e hr hn
    have hp := hG1.1.1
    have hK1 := hK.eqN e (by decide)
    have hsz : I1 f_l_size 4 = nI n0 := hG1.2.2.2.2.2.1.n
    have hn9 := hG1.2.2.2.2.2.2.2
    have hrec1 : I1 f_m_recording 0 = 45 := by rw [e f_m_recording (by decide)]; exact hrec
    have hr14 : ¬ (I1, J1).1 f_m_recording 0 = 114 := by show ¬ I1 f_m_recording 0 = 114; rw [hrec1]; decide
    have hB : ∀ i2, i2 ≤ t i - t (i - 1) → ∃ v, (s_run (q_tc nk nr np) 0 i2 (I1, J1)).1 f_l_size 4 = nI v ∧ v + 1280 < 39999999 ∧ a + v + 100000000 < 4294960000 := fun i2 _ => ⟨n0, (congrFun (q_tcs_off hr14 f_l_size (by decide)) 4).trans hsz, hn9, hG1.2.2.2.2.2.2.1⟩
    refine w_op (pc' := 61) dX16_playBack_59 rfl ?_
    refine w_op (pc' := 62) dX16_playBack_61 rfl ?_
    refine t_getG0 (G := g_m_list2) dX16_playBack_62 rfl rfl (by decide) rfl (fun _ => rfl) (hp.1 _ rfl) ?_
    refine t_callV (t := T_LIST) (As := []) dX16_playBack_65 rfl rM_Jx4a65c_size_8abf5 (by decide) rfl rfl (by decide) (by decide) (Nat.le_of_ble_eq_true rfl) rfl (hp.2 _ (by decide)) (c_size (hp.2 _ (by decide)) ?_)
    show s_w _ _ _ 68 _ _ _ _
    rw [hsz]
    refine w_icmpge (t := 159) dX16_playBack_68 (by decide) (fun c68 => ?_) (fun c68 => ?_)
    · refine w_iconst (v := 0) dX16_playBack_159 rfl ?_
      refine w_op (pc' := 162) (ll' := [_, _, _, _, _, _]) dX16_playBack_160 rfl ?_
      have hi := (nI_leI (by omega) (by omega)).mp c68
      rw [s_run_z hi] at hr
      subst hr
      have h9 := lz_X16_playBack (d := d + 1) (J := J1) (w := w) (Q := Q) (b0 := b0) (l3 := nI (t (i - 1))) hG1 hX (fun p2 c2 n2 x2 hL2 hn2 => k p2 c2 n2 (x1.trans x2) hL2 hn2) (np + 1) 0 o5 (Nat.zero_le _) (by omega)
      rw [s_fill_0, nI_0] at h9
      exact h9
    · have hi : i < n0 := Nat.lt_of_not_le (fun z => c68 ((nI_leI (by omega) (by omega)).mpr z))
      have hv : p1.2.1 T_MKEPT i = true := (hG1.2.2.2.2.2.1.2.1 i).trans (decide_eq_true hi)
      have et := hK1.1 i hi
      have hle : t (i - 1) ≤ t i := by
        by_cases z : i = 0
        · rw [z]; exact Nat.le_refl _
        · have := hK1.2.1 (i - 1) (by omega); rw [show i - 1 + 1 = i by omega] at this; exact this
      refine w_op (pc' := 72) dX16_playBack_71 rfl ?_
      refine t_getG0 (G := g_m_list2) dX16_playBack_72 rfl rfl (by decide) rfl (fun _ => rfl) (hp.1 _ rfl) ?_
      refine w_op (pc' := 77) dX16_playBack_75 rfl ?_
      refine t_callV (t := T_LIST) (As := [_]) dX16_playBack_77 rfl rM_Jx4a65c_get_915e3 (by decide) rfl rfl (by decide) (by decide) (Nat.le_of_ble_eq_true rfl) rfl (hp.2 _ (by decide)) (c_get4 hp hsz (by omega) hi ?_)
      show s_w _ _ _ 80 _ _ _ _
      refine t_chk dX16_playBack_80 rfl rfl (by decide) hv ?_
      refine w_op (pc' := 85) (ll' := [_, _, _, _, _, _]) dX16_playBack_83 rfl ?_
      refine w_op (pc' := 86) dX16_playBack_85 rfl ?_
      refine w_op (pc' := 88) dX16_playBack_86 rfl ?_
      refine t_getI (F := f_mt_tick) dX16_playBack_88 rfl rfl (by decide) rfl ⟨rfl, fun _ => rfl⟩ hv ?_
      rw [et.2]
      refine w_op (pc' := 92) dX16_playBack_91 rfl ?_
      refine w_op (pc' := 93) dX16_playBack_92 rfl ?_
      rw [nI_sub hle]
      refine t_callV (t := T_MODEL) (As := [_]) dX16_playBack_93 rfl rM_X16_goesOn (by decide) rfl rfl (by decide) (by decide) (Nat.le_of_ble_eq_true rfl) rfl (hp.1 _ rfl) (c_X16_goesOn hG1 hX (by omega) hB (fun p2 c2 n2 x2 hL2 => ?_))
      show s_w _ _ _ 96 _ _ _ _
      rw [← x2.a (t := T_MODEL) (i := 0) (by decide), ← (x2.2 i hv).1]
      have e2 := q_tcs_off (nk := nk) (nr := nr) (np := np) (i := 0) (n := t i - t (i - 1)) (a := (I1, J1)) hr14
      have hG2 := hG1.off x2 e2 (by decide) (by decide) (by unfold q_bo; rw [e2 f_m_isDown (by decide)]; exact hG1.2.2.2.1) (q_bo.tcs (a := (I1, J1)) hG1.2.2.2.2.1) hL2
      have hst : q_pbS t nk nr np i (I1, J1) = q_st nk nr np (q_pbE i (s_run (q_tc nk nr np) 0 (t i - t (i - 1)) (I1, J1)).1, (s_run (q_tc nk nr np) 0 (t i - t (i - 1)) (I1, J1)).2) := rfl
      rw [s_run_s hi, hst] at hr
      generalize s_run (q_tc nk nr np) 0 (t i - t (i - 1)) (I1, J1) = st at *
      have e2 : s_eqN (f_m_tick :: q_sT0) I1 st.1 := e2
      have hK2 := hK1.eqN e2 (by decide)
      have hrec2 : st.1 f_m_recording 0 = 45 := by rw [e2 f_m_recording (by decide)]; exact hrec1
      refine ls_X16_playBack (I := st.1) (J := st.2) hi hX hrec2 hG2 (x2.2 i hv).2 hK2.2.2.1 (fun u => hK2.2.2.2.1 u i hi) (fun u => hK2.2.2.2.2 u i hi) (fun p3 c3 x3 hG3 => ?_)
      have e3 : s_eqN q_pT st.1 (q_st nk nr np (q_pbE i st.1, st.2)).1 := (q_pbE_off (by rw [hrec2]; decide)).trans ((q_st_off (a := (q_pbE i st.1, st.2)) (by show ¬ q_pbE i st.1 f_m_recording 0 = 114; rw [q_pbE_off (by rw [hrec2]; decide) f_m_recording (by decide), hrec2]; decide)).mono (by decide))
      generalize q_st nk nr np (q_pbE i st.1, st.2) = st3 at *
      refine w_op (pc' := 156) (ll' := [_, _, _, _, _, _]) dX16_playBack_153 rfl ?_
      refine w_goto (t := 59) dX16_playBack_156 (by decide) ?_
      rw [show nI i + Int32.ofInt 1 = nI (i + 1) from nI_1 i]
      rw [(hK2.1 i hi).2, show t i = t (i + 1 - 1) by rw [Nat.add_sub_cancel]]
      exact ih (i + 1) p3 st3.1 st3.2 c3 _ (by omega) (x1.trans (x2.trans x3)) hG3 ((e.trans (e2.mono (by decide))).trans e3) hr (by omega)
