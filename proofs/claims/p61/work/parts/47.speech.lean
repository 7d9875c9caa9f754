/-! 47: winds, speech (printed by wip/whole/p47.py) -/
theorem s_Rk.dv {p : e_Sp} {I : e_I} {r : Nat} (h : s_Rk p I r) : s_ix (I f_r_division r) (I f_r_division r).toNatClampNeg 3 := by
  obtain ⟨dv, hd, e⟩ := h.2.2.2.2
  rw [e]
  have := s_ix.nI (N := 3) hd (by decide)
  exact ⟨this.1, rfl, by rw [this.2.1]; exact this.2.2⟩
/-- a division's wind -/
def s_wd0 (I : e_I) (i : Nat) : Int32 := 100 - (s_max 0 (I f_a_uses i - I f_a_supplies i) + 1) / 2
def s_wd (nk i : Nat) (I : e_I) : e_I := s_up I f_a_winds i (s_max 0 (if 2 ≤ I f_now 0 - I f_now 0 / 4 * 4 ∧ s_trm I nk (nI i) = true then s_wd0 I i + Int32.ofInt (-10) else s_wd0 I i))
def s_wds (nk : Nat) (I : e_I) : e_I := s_run (s_wd nk) 0 3 I
theorem s_eqC.wd {nk : Nat} (i : Nat) (I : e_I) : s_eqC I (s_wd nk i I) := s_eqC.up (by decide)
theorem s_eqC.wds {nk : Nat} {I : e_I} : s_eqC I (s_wds nk I) := s_eqC.run s_eqC.wd _ _ _
/-- a pipe's speech -/
def s_fsB (sp : Bool) (j : Nat) (a : e_I × e_Jt) : e_I × e_Jt := if sp = true ∧ a.1 f_p_isSpeaking j = 0 then (s_up (s_up a.1 f_p_begins j (a.1 f_p_begins j + 1)) f_allBegins 0 (s_up a.1 f_p_begins j (a.1 f_p_begins j + 1) f_allBegins 0 + 1), a.2) else if sp = false ∧ ¬ a.1 f_p_isSpeaking j = 0 then (s_up a.1 f_p_ends j (a.1 f_p_ends j + 1), s_up a.2 j_allEnds 0 (a.2 j_allEnds 0 + 1)) else a
def s_fsE (sp : Bool) (j : Nat) (a : e_I × e_Jt) : e_I × e_Jt := (s_up (s_up a.1 f_p_isSpeaking j (bI sp)) f_speakers 0 (s_up a.1 f_p_isSpeaking j (bI sp) f_speakers 0 + bI sp), a.2)
def s_fsP (p : e_Sp) (r : Nat) (hw : Bool) (n : Nat) (a : e_I × e_Jt) : e_I × e_Jt := s_fsE (hw && s_bl a.1 (p.2.2.2.2 r + n)) (p.2.2.2.2 r + n) (s_fsB (hw && s_bl a.1 (p.2.2.2.2 r + n)) (p.2.2.2.2 r + n) a)
def s_fsR (p : e_Sp) (r : Nat) (a : e_I × e_Jt) : e_I × e_Jt := s_run (s_fsP p r (decide (0 < a.1 f_a_winds (a.1 f_r_division r).toNatClampNeg))) 0 (p.2.2.1 T_PARR r) a
def s_fsp (p : e_Sp) (nr : Nat) (a : e_I × e_Jt) : e_I × e_Jt := s_run (s_fsR p) 0 nr (s_up a.1 f_speakers 0 0, a.2)
theorem s_eqC.fsP {p : e_Sp} {r : Nat} {hw : Bool} (n : Nat) (a : e_I × e_Jt) : s_eqC a.1 (s_fsP p r hw n a).1 := by
  have h1 : ∀ sp j, s_eqC a.1 (s_fsB sp j a).1 := fun sp j => by
    unfold s_fsB
    split
    · exact (s_eqC.up (by decide)).trans (s_eqC.up (by decide))
    · split
      · exact s_eqC.up (by decide)
      · exact s_eqC.rfl'
  have h2 : ∀ sp j b, s_eqC b.1 (s_fsE sp j b).1 := fun sp j b => (s_eqC.up (by decide)).trans (s_eqC.up (by decide))
  exact (h1 _ _).trans (h2 _ _ _)
theorem s_eqC.runP {f : Nat → e_I × e_Jt → e_I × e_Jt} (h : ∀ i a, s_eqC a.1 (f i a).1) (n i : Nat) (a : e_I × e_Jt) : s_eqC a.1 (s_run f i n a).1 := s_run_ind (P := fun a b => s_eqC a.1 b.1) (fun _ => s_eqC.rfl') (fun {x y z} (u : s_eqC x.1 y.1) (v : s_eqC y.1 z.1) => u.trans v) h n i a
theorem s_eqC.fsR {p : e_Sp} (r : Nat) (a : e_I × e_Jt) : s_eqC a.1 (s_fsR p r a).1 := s_eqC.runP s_eqC.fsP _ _ _
theorem s_eqC.fsp {p : e_Sp} {nr : Nat} {a : e_I × e_Jt} : s_eqC a.1 (s_fsp p nr a).1 := (s_eqC.up (by decide) : s_eqC a.1 (s_up a.1 f_speakers 0 0)).trans (s_eqC.runP s_eqC.fsR _ _ _)
/-- divisions without wind -/
def s_wl1 (I : e_I) (i : Nat) (a : Int32) : Int32 := if I f_a_winds i = 0 then a ||| (1 <<< (nI i &&& 31)) else a
def s_wl (I : e_I) : Int32 := s_run (s_wl1 I) 0 3 0
theorem s_mod12 {y : Int32} (h : 0 ≤ y) : s_ix (y - y / 12 * 12) (y - y / 12 * 12).toNatClampNeg 12 := by
  have h1 : (0 : Int) ≤ y.toInt := Int32.le_iff_toInt_le.mp h
  have h9 : y.toInt < 2 ^ 31 := y.toInt_lt
  have hd : (y / 12).toInt = y.toInt / 12 := by
    rw [Int32.toInt_div_of_ne_right y 12 (by decide), show (12 : Int32).toInt = 12 from rfl, Int.tdiv_eq_ediv_of_nonneg h1]
  have hm : (y / 12 * 12).toInt = y.toInt / 12 * 12 := by
    rw [Int32.toInt_mul, hd, show (12 : Int32).toInt = 12 from rfl]
    exact Int.bmod_eq_of_le (by omega) (by omega)
  have e : (y - y / 12 * 12).toInt = y.toInt - y.toInt / 12 * 12 := by
    rw [Int32.toInt_sub, hm]
    exact Int.bmod_eq_of_le (by omega) (by omega)
  refine s_ixo (Int32.le_iff_toInt_le.mpr ?_) (Int32.lt_iff_toInt_lt.mpr ?_) (by decide)
  · rw [e]; show (0 : Int) ≤ _; omega
  · rw [e]; show _ < (12 : Int); omega
/-- a pipe's pitch -/
def s_pit (p : e_Sp) (I : e_I) (nr : Nat) (x y : Int32) : Int32 := match s_pat p I nr x y with
  | some j => if y < 0 then 0 else 100 * y + I f_a_temperings (y - y / 12 * 12).toNatClampNeg + I f_p_tuning j + I f_heat 0 * I f_r_heatNumber x.toNatClampNeg / 10 - (100 - I f_a_winds (I f_r_division x.toNatClampNeg).toNatClampNeg) / 10
  | none => 0
def s_ptP (p : e_Sp) (I : e_I) (nr r n : Nat) (a : Int32) : Int32 := a + (if I f_p_isSpeaking (p.2.2.2.2 r + n) = 0 then 0 else s_pit p I nr (nI r) (I f_r_lowest r + nI n))
def s_ptR (p : e_Sp) (I : e_I) (nr r : Nat) (a : Int32) : Int32 := s_run (s_ptP p I nr r) 0 (p.2.2.1 T_PARR r) a
def s_pts (p : e_Sp) (I : e_I) (nr : Nat) : Int32 := s_run (s_ptR p I nr) 0 nr 0
def s_alP (p : e_Sp) (I : e_I) (ld : Int32) (r n : Nat) (a : Int32) : Int32 := a + (if I f_p_isSpeaking (p.2.2.2.2 r + n) = 0 then 0 else ld)
def s_alR (p : e_Sp) (I : e_I) (r : Nat) (a : Int32) : Int32 := s_run (s_alP p I (I f_r_power r * I f_a_openings (I f_r_division r).toNatClampNeg / 10) r) 0 (p.2.2.1 T_PARR r) a
def s_als (p : e_Sp) (I : e_I) (nr : Nat) : Int32 := s_run (s_alR p I) 0 nr 0
def s_aps (p : e_Sp) (nr : Nat) : Int32 := s_run (fun r a => a + nI (p.2.2.1 T_PARR r)) 0 nr 0
set_option maxRecDepth 100000 in
set_option maxHeartbeats 4000000 in
theorem l_X10_findWinds {X : e_XT} {d : Nat} {p : e_Sp} {I : e_I} {J : e_Jt} {c : Nat × Nat} {w : e_Rw1} {Q : e_Rt → e_SS → Prop} {nk nr : Nat} (hD : s_D p I nk nr) {R : e_I} (k : Q (.inl none) (p, R, J, c, w)) : ∀ (n : Nat) (i : Nat) (I1 : e_I) (o2 o3 : Option Value), (h1 : i ≤ 3) → (e : s_eqC I I1) → (hr : s_run (s_wd nk) i (3 - i) I1 = R) → (hn : 3 - i < n) → s_w X (d + 4) K_X10_findWinds 2 [some (.ref (p.1 T_WORKS 0)), some (.int (nI i)), o2, o3] [] (p, I1, J, c, w) (fun r S' => e_rcr (none) r = true ∧ Q r S') := by
  intro n
  induction n with
  | zero =>
    intro i I1 o2 o3 h1 e hr hn
    exact absurd hn (Nat.not_lt_zero _)
  | succ n ih =>
    intro i I1 o2 o3 h1 e hr hn
    have hD1 := hD.eq e
    have hC := hD1.1
    have hp := hC.1
    have hn40 := hC.2.1.1
    have hk40 := hC.2.1.2
    have hn10 := hC.2.2.1.1
    have hr10 := hC.2.2.1.2
    refine w_op (pc' := 3) dX10_findWinds_2 rfl ?_
    refine w_iconst (v := 3) dX10_findWinds_3 rfl ?_
    refine w_icmpge (t := 75) dX10_findWinds_4 (by decide) (fun c4 => ?_) (fun c4 => ?_)
    · have hi : 3 ≤ i := (nI_leI (a := 3) (by omega) (by omega)).mp c4
      exact w_return dX10_findWinds_75 ⟨rfl, by rw [s_run_z hi] at hr; subst hr; exact k⟩
    · have hi : i < 3 := Nat.lt_of_not_le (fun z => c4 ((nI_leI (a := 3) (by omega) (by omega)).mpr z))
      refine w_iconst (v := 0) dX10_findWinds_7 rfl ?_
      refine w_op (pc' := 9) dX10_findWinds_8 rfl ?_
      refine t_getG0 (G := g_w_uses) dX10_findWinds_9 rfl rfl (by decide) rfl (fun _ => rfl) (hp.1 _ rfl) ?_
      refine w_op (pc' := 13) dX10_findWinds_12 rfl ?_
      refine t_iald0 (F := f_a_uses) dX10_findWinds_13 rfl (by decide) rfl (hp.1 _ rfl) (s_ix.nI (N := 3) hi (by decide)) hi ?_
      refine w_op (pc' := 15) dX10_findWinds_14 rfl ?_
      refine t_getG0 (G := g_w_supplies) dX10_findWinds_15 rfl rfl (by decide) rfl (fun _ => rfl) (hp.1 _ rfl) ?_
      refine w_op (pc' := 19) dX10_findWinds_18 rfl ?_
      refine t_iald0 (F := f_a_supplies) dX10_findWinds_19 rfl (by decide) rfl (hp.1 _ rfl) (s_ix.nI (N := 3) hi (by decide)) hi ?_
      refine w_op (pc' := 21) dX10_findWinds_20 rfl ?_
      refine t_callS (As := [_, _]) dX10_findWinds_21 rfl rM_J9_max_7cf53 (by decide) rfl rfl (by decide) (Nat.le_of_ble_eq_true rfl) (c_max ?_)
      show s_w _ _ _ 24 _ _ _ _
      refine w_op (pc' := 25) (ll' := [_, _, _, _]) dX10_findWinds_24 rfl ?_
      refine w_bipush (v := 100) dX10_findWinds_25 rfl ?_
      refine w_op (pc' := 28) dX10_findWinds_27 rfl ?_
      refine w_iconst (v := 1) dX10_findWinds_28 rfl ?_
      refine w_op (pc' := 30) dX10_findWinds_29 rfl ?_
      refine w_iconst (v := 2) dX10_findWinds_30 rfl ?_
      refine w_op (pc' := 32) dX10_findWinds_31 (by rfl) ?_
      refine w_op (pc' := 33) dX10_findWinds_32 rfl ?_
      refine w_op (pc' := 34) (ll' := [_, _, _, _]) dX10_findWinds_33 rfl ?_
      refine w_op (pc' := 35) dX10_findWinds_34 rfl ?_
      refine t_getI (F := f_now) dX10_findWinds_35 rfl rfl (by decide) rfl ⟨rfl, fun _ => rfl⟩ (hp.1 _ rfl) ?_
      refine w_iconst (v := 4) dX10_findWinds_38 rfl ?_
      refine w_op (pc' := 40) dX10_findWinds_39 (by rfl) ?_
      refine w_iconst (v := 2) dX10_findWinds_40 rfl ?_
      refine w_icmplt (t := 58) dX10_findWinds_41 (by decide) (fun c41 => ?_) (fun c41 => ?_)
      · refine w_op (pc' := 59) dX10_findWinds_58 rfl ?_
        refine t_getG0 (G := g_w_winds) dX10_findWinds_59 rfl rfl (by decide) rfl (fun _ => rfl) (hp.1 _ rfl) ?_
        refine w_op (pc' := 63) dX10_findWinds_62 rfl ?_
        refine w_iconst (v := 0) dX10_findWinds_63 rfl ?_
        refine w_op (pc' := 65) dX10_findWinds_64 rfl ?_
        refine t_callS (As := [_, _]) dX10_findWinds_65 rfl rM_J9_max_7cf53 (by decide) rfl rfl (by decide) (Nat.le_of_ble_eq_true rfl) (c_max ?_)
        show s_w _ _ _ 68 _ _ _ _
        refine t_iast0 (F := f_a_winds) dX10_findWinds_68 rfl (by decide) (by decide) rfl (hp.1 _ rfl) (s_ix.nI (N := 3) hi (by decide)) hi ?_
        refine w_op (pc' := 72) (ll' := [_, _, _, _]) dX10_findWinds_69 rfl ?_
        refine w_goto (t := 2) dX10_findWinds_72 (by decide) ?_
        rw [show nI i + Int32.ofInt 1 = nI (i + 1) from nI_1 i]
        have ef : s_wd nk i I1 = s_up I1 f_a_winds i (s_max 0 (s_wd0 I1 i)) := by
          unfold s_wd; rw [if_neg (fun z => Int32.not_le.mpr c41 z.1)]
        rw [s_run_s hi, ef] at hr
        exact ih (i + 1) _ _ _ (by omega) (e.trans (s_eqC.up (by decide))) hr (by omega)
      · refine w_op (pc' := 45) dX10_findWinds_44 rfl ?_
        refine t_getG0 (G := g_w_CONS) dX10_findWinds_45 rfl rfl (by decide) rfl (fun _ => rfl) (hp.1 _ rfl) ?_
        refine w_op (pc' := 49) dX10_findWinds_48 rfl ?_
        refine t_callV (t := T_CONS) (As := [_]) dX10_findWinds_49 rfl rM_X0_trembles (by decide) rfl rfl (by decide) (by decide) (Nat.le_of_ble_eq_true rfl) rfl (hp.1 _ rfl) (c_X0_trembles hC ?_)
        show s_w _ _ _ 52 _ _ _ _
        refine w_ifeq (t := 58) dX10_findWinds_52 (by decide) (fun c52 => ?_) (fun c52 => ?_)
        · refine w_op (pc' := 59) dX10_findWinds_58 rfl ?_
          refine t_getG0 (G := g_w_winds) dX10_findWinds_59 rfl rfl (by decide) rfl (fun _ => rfl) (hp.1 _ rfl) ?_
          refine w_op (pc' := 63) dX10_findWinds_62 rfl ?_
          refine w_iconst (v := 0) dX10_findWinds_63 rfl ?_
          refine w_op (pc' := 65) dX10_findWinds_64 rfl ?_
          refine t_callS (As := [_, _]) dX10_findWinds_65 rfl rM_J9_max_7cf53 (by decide) rfl rfl (by decide) (Nat.le_of_ble_eq_true rfl) (c_max ?_)
          show s_w _ _ _ 68 _ _ _ _
          refine t_iast0 (F := f_a_winds) dX10_findWinds_68 rfl (by decide) (by decide) rfl (hp.1 _ rfl) (s_ix.nI (N := 3) hi (by decide)) hi ?_
          refine w_op (pc' := 72) (ll' := [_, _, _, _]) dX10_findWinds_69 rfl ?_
          refine w_goto (t := 2) dX10_findWinds_72 (by decide) ?_
          rw [show nI i + Int32.ofInt 1 = nI (i + 1) from nI_1 i]
          have ef : s_wd nk i I1 = s_up I1 f_a_winds i (s_max 0 (s_wd0 I1 i)) := by
            unfold s_wd; rw [if_neg (fun z => by have z2 := z.2; rw [bI_0.mp c52] at z2; cases z2)]
          rw [s_run_s hi, ef] at hr
          exact ih (i + 1) _ _ _ (by omega) (e.trans (s_eqC.up (by decide))) hr (by omega)
        · refine w_op (pc' := 58) (ll' := [_, _, _, _]) dX10_findWinds_55 rfl ?_
          refine w_op (pc' := 59) dX10_findWinds_58 rfl ?_
          refine t_getG0 (G := g_w_winds) dX10_findWinds_59 rfl rfl (by decide) rfl (fun _ => rfl) (hp.1 _ rfl) ?_
          refine w_op (pc' := 63) dX10_findWinds_62 rfl ?_
          refine w_iconst (v := 0) dX10_findWinds_63 rfl ?_
          refine w_op (pc' := 65) dX10_findWinds_64 rfl ?_
          refine t_callS (As := [_, _]) dX10_findWinds_65 rfl rM_J9_max_7cf53 (by decide) rfl rfl (by decide) (Nat.le_of_ble_eq_true rfl) (c_max ?_)
          show s_w _ _ _ 68 _ _ _ _
          refine t_iast0 (F := f_a_winds) dX10_findWinds_68 rfl (by decide) (by decide) rfl (hp.1 _ rfl) (s_ix.nI (N := 3) hi (by decide)) hi ?_
          refine w_op (pc' := 72) (ll' := [_, _, _, _]) dX10_findWinds_69 rfl ?_
          refine w_goto (t := 2) dX10_findWinds_72 (by decide) ?_
          rw [show nI i + Int32.ofInt 1 = nI (i + 1) from nI_1 i]
          have ef : s_wd nk i I1 = s_up I1 f_a_winds i (s_max 0 (s_wd0 I1 i + Int32.ofInt (-10))) := by
            unfold s_wd; rw [if_pos ⟨Int32.not_lt.mp c41, bI_n0.mp c52⟩]
          rw [s_run_s hi, ef] at hr
          exact ih (i + 1) _ _ _ (by omega) (e.trans (s_eqC.up (by decide))) hr (by omega)
set_option maxRecDepth 100000 in
set_option maxHeartbeats 4000000 in
theorem c_X10_findWinds {X : e_XT} {d : Nat} {p : e_Sp} {I : e_I} {J : e_Jt} {c : Nat × Nat} {w : e_Rw1} {Q : e_Rt → e_SS → Prop} {nk nr : Nat} (hD : s_D p I nk nr) (k : Q (.inl none) (p, s_wds nk I, J, c, w)) : s_c X (d + 4) 115 [.ref (p.1 T_WORKS 0)] (p, I, J, c, w) Q := by
  refine m_X10_findWinds (Nat.le_of_ble_eq_true rfl) ?_
  show s_w _ _ _ 0 _ _ _ _
  refine w_iconst (v := 0) dX10_findWinds_0 rfl ?_
  refine w_op (pc' := 2) (ll' := [_, _, _, _]) dX10_findWinds_1 rfl ?_
  exact l_X10_findWinds hD k 4 0 _ _ _ (Nat.zero_le _) s_eqC.rfl' rfl (by omega)
set_option maxRecDepth 100000 in
set_option maxHeartbeats 4000000 in
theorem l2_X10_findSpeech {X : e_XT} {d : Nat} {p : e_Sp} {I : e_I} {J : e_Jt} {c : Nat × Nat} {w : e_Rw1} {Q : e_Rt → e_SS → Prop} {r : Nat} {hw : Bool} {R : e_I × e_Jt} (hp : s_ok p) (hR : s_Rk p I r) (hk : ∀ o6 o7 o8, s_w X (d + 3) K_X10_findSpeech 198 [some (.ref (p.1 T_WORKS 0)), some (.int (nI r)), some (.ref (p.1 T_RANK r)), some (.int (bI hw)), some (.ref (p.1 T_PARR r)), some (.int (nI (p.2.2.1 T_PARR r))), o6, o7, o8] [] (p, R.1, R.2, c, w) (fun r S' => e_rcr (none) r = true ∧ Q r S')) : ∀ (n : Nat) (i : Nat) (I1 : e_I) (J1 : e_Jt) (o7 o8 : Option Value), (h1 : i ≤ p.2.2.1 T_PARR r) → (hr : s_run (s_fsP p r hw) i (p.2.2.1 T_PARR r - i) (I1, J1) = R) → (hn : p.2.2.1 T_PARR r - i < n) → s_w X (d + 3) K_X10_findSpeech 62 [some (.ref (p.1 T_WORKS 0)), some (.int (nI r)), some (.ref (p.1 T_RANK r)), some (.int (bI hw)), some (.ref (p.1 T_PARR r)), some (.int (nI (p.2.2.1 T_PARR r))), some (.int (nI i)), o7, o8] [] (p, I1, J1, c, w) (fun r S' => e_rcr (none) r = true ∧ Q r S') := by
  intro n
  induction n with
  | zero =>
    intro i I1 J1 o7 o8 h1 hr hn
    exact absurd hn (Nat.not_lt_zero _)
  | succ n ih =>
    intro i I1 J1 o7 o8 h1 hr hn
    obtain ⟨lo, elo, hlo⟩ := hR.2.2.2.1
    refine w_op (pc' := 64) dX10_findSpeech_62 rfl ?_
    refine w_op (pc' := 66) dX10_findSpeech_64 rfl ?_
    refine w_icmpge (t := 198) dX10_findSpeech_66 (by decide) (fun c66 => ?_) (fun c66 => ?_)
    · have hi : p.2.2.1 T_PARR r ≤ i := (nI_leI (by omega) (by omega)).mp c66
      rw [s_run_z hi] at hr; subst hr; exact hk _ _ _
    · have hi : i < p.2.2.1 T_PARR r := Nat.lt_of_not_le (fun z => c66 ((nI_leI (by omega) (by omega)).mpr z))
      refine w_op (pc' := 71) dX10_findSpeech_69 rfl ?_
      refine w_op (pc' := 73) dX10_findSpeech_71 rfl ?_
      refine t_aaldP dX10_findSpeech_73 hR.1 (s_ix.nI hi (by omega)) ?_
      refine w_op (pc' := 76) (ll' := [_, _, _, _, _, _, _, _, _]) dX10_findSpeech_74 rfl ?_
      refine w_op (pc' := 77) dX10_findSpeech_76 rfl ?_
      refine w_ifeq (t := 92) dX10_findSpeech_77 (by decide) (fun c77 => ?_) (fun c77 => ?_)
      · refine w_iconst (v := 0) dX10_findSpeech_92 rfl ?_
        refine w_op (pc' := 95) (ll' := [_, _, _, _, _, _, _, _, _]) dX10_findSpeech_93 rfl ?_
        refine w_op (pc' := 97) dX10_findSpeech_95 rfl ?_
        refine w_ifeq (t := 132) dX10_findSpeech_97 (by decide) (fun c97 => ?_) (fun c97 => ?_)
        · refine w_op (pc' := 134) dX10_findSpeech_132 rfl ?_
          refine w_ifne (t := 166) dX10_findSpeech_134 (by decide) (fun c134 => ?_) (fun c134 => ?_)
          · exact absurd c134 (by decide)
          · refine w_op (pc' := 139) dX10_findSpeech_137 rfl ?_
            refine t_getI (F := f_p_isSpeaking) dX10_findSpeech_139 rfl rfl (by decide) rfl ⟨rfl, fun _ => rfl⟩ (hR.2.2.1 i hi) ?_
            refine w_ifeq (t := 166) dX10_findSpeech_142 (by decide) (fun c142 => ?_) (fun c142 => ?_)
            · refine w_op (pc' := 168) dX10_findSpeech_166 rfl ?_
              refine w_op (pc' := 170) dX10_findSpeech_168 rfl ?_
              refine t_putI (F := f_p_isSpeaking) dX10_findSpeech_170 rfl rfl (by decide) (by decide) rfl (s_ckb (by first | exact Or.inl rfl | exact Or.inr rfl | assumption)) (Or.inl rfl) (hR.2.2.1 i hi) ?_
              refine w_op (pc' := 174) dX10_findSpeech_173 rfl ?_
              refine w_op (pc' := 175) dX10_findSpeech_174 rfl ?_
              refine t_getI (F := f_speakers) dX10_findSpeech_175 rfl rfl (by decide) rfl ⟨rfl, fun _ => rfl⟩ (hp.1 _ rfl) ?_
              refine w_op (pc' := 180) dX10_findSpeech_178 rfl ?_
              refine w_ifeq (t := 187) dX10_findSpeech_180 (by decide) (fun c180 => ?_) (fun c180 => ?_)
              · refine w_iconst (v := 0) dX10_findSpeech_187 rfl ?_
                refine w_op (pc' := 189) dX10_findSpeech_188 rfl ?_
                refine t_putI (F := f_speakers) dX10_findSpeech_189 rfl rfl (by decide) (by decide) rfl rfl (Or.inl rfl) (hp.1 _ rfl) ?_
                refine w_op (pc' := 195) (ll' := [_, _, _, _, _, _, _, _, _]) dX10_findSpeech_192 rfl ?_
                refine w_goto (t := 62) dX10_findSpeech_195 (by decide) ?_
                rw [show nI i + Int32.ofInt 1 = nI (i + 1) from nI_1 i]
                have hs : (hw && s_bl I1 (p.2.2.2.2 r + i)) = false := by rw [bI_0.mp c77]; rfl
                rw [s_run_s hi] at hr
                unfold s_fsP at hr
                rw [show (hw && s_bl (I1, J1).1 (p.2.2.2.2 r + i)) = false from hs] at hr
                unfold s_fsB at hr
                rw [if_neg (fun z => by cases z.1), if_neg (fun z => z.2 c142)] at hr
                exact ih (i + 1) _ _ _ _ (by omega) hr (by omega)
              · exact absurd c180 (by decide)
            · refine w_op (pc' := 147) dX10_findSpeech_145 rfl ?_
              refine w_op (pc' := 148) dX10_findSpeech_147 rfl ?_
              refine t_getI (F := f_p_ends) dX10_findSpeech_148 rfl rfl (by decide) rfl ⟨rfl, fun _ => rfl⟩ (hR.2.2.1 i hi) ?_
              refine w_iconst (v := 1) dX10_findSpeech_151 rfl ?_
              refine w_op (pc' := 153) dX10_findSpeech_152 rfl ?_
              refine t_putI (F := f_p_ends) dX10_findSpeech_153 rfl rfl (by decide) (by decide) rfl rfl (Or.inl rfl) (hR.2.2.1 i hi) ?_
              refine w_op (pc' := 157) dX10_findSpeech_156 rfl ?_
              refine w_op (pc' := 158) dX10_findSpeech_157 rfl ?_
              refine t_getJ (F := j_allEnds) dX10_findSpeech_158 rfl rfl (by decide) rfl (fun _ => rfl) (hp.1 _ rfl) ?_
              refine w_op (pc' := 162) dX10_findSpeech_161 rfl ?_
              refine w_op (pc' := 163) dX10_findSpeech_162 rfl ?_
              refine t_putJ (F := j_allEnds) dX10_findSpeech_163 rfl rfl (by decide) rfl rfl (Or.inl rfl) (hp.1 _ rfl) ?_
              refine w_op (pc' := 168) dX10_findSpeech_166 rfl ?_
              refine w_op (pc' := 170) dX10_findSpeech_168 rfl ?_
              refine t_putI (F := f_p_isSpeaking) dX10_findSpeech_170 rfl rfl (by decide) (by decide) rfl (s_ckb (by first | exact Or.inl rfl | exact Or.inr rfl | assumption)) (Or.inl rfl) (hR.2.2.1 i hi) ?_
              refine w_op (pc' := 174) dX10_findSpeech_173 rfl ?_
              refine w_op (pc' := 175) dX10_findSpeech_174 rfl ?_
              refine t_getI (F := f_speakers) dX10_findSpeech_175 rfl rfl (by decide) rfl ⟨rfl, fun _ => rfl⟩ (hp.1 _ rfl) ?_
              refine w_op (pc' := 180) dX10_findSpeech_178 rfl ?_
              refine w_ifeq (t := 187) dX10_findSpeech_180 (by decide) (fun c180 => ?_) (fun c180 => ?_)
              · refine w_iconst (v := 0) dX10_findSpeech_187 rfl ?_
                refine w_op (pc' := 189) dX10_findSpeech_188 rfl ?_
                refine t_putI (F := f_speakers) dX10_findSpeech_189 rfl rfl (by decide) (by decide) rfl rfl (Or.inl rfl) (hp.1 _ rfl) ?_
                refine w_op (pc' := 195) (ll' := [_, _, _, _, _, _, _, _, _]) dX10_findSpeech_192 rfl ?_
                refine w_goto (t := 62) dX10_findSpeech_195 (by decide) ?_
                rw [show nI i + Int32.ofInt 1 = nI (i + 1) from nI_1 i]
                have hs : (hw && s_bl I1 (p.2.2.2.2 r + i)) = false := by rw [bI_0.mp c77]; rfl
                rw [s_run_s hi] at hr
                unfold s_fsP at hr
                rw [show (hw && s_bl (I1, J1).1 (p.2.2.2.2 r + i)) = false from hs] at hr
                unfold s_fsB at hr
                rw [if_neg (fun z => by cases z.1), if_pos ⟨rfl, c142⟩] at hr
                exact ih (i + 1) _ _ _ _ (by omega) hr (by omega)
              · exact absurd c180 (by decide)
        · exact absurd c97 (by decide)
      · refine w_op (pc' := 82) dX10_findSpeech_80 rfl ?_
        refine t_callV (t := T_PIPE) (As := []) dX10_findSpeech_82 rfl rM_X6_isBlown (by decide) rfl rfl (by decide) (by decide) (Nat.le_of_ble_eq_true rfl) rfl (hR.2.2.1 i hi) (c_X6_isBlown (hR.2.2.1 i hi) ?_)
        show s_w _ _ _ 85 _ _ _ _
        refine w_ifeq (t := 92) dX10_findSpeech_85 (by decide) (fun c85 => ?_) (fun c85 => ?_)
        · refine w_iconst (v := 0) dX10_findSpeech_92 rfl ?_
          refine w_op (pc' := 95) (ll' := [_, _, _, _, _, _, _, _, _]) dX10_findSpeech_93 rfl ?_
          refine w_op (pc' := 97) dX10_findSpeech_95 rfl ?_
          refine w_ifeq (t := 132) dX10_findSpeech_97 (by decide) (fun c97 => ?_) (fun c97 => ?_)
          · refine w_op (pc' := 134) dX10_findSpeech_132 rfl ?_
            refine w_ifne (t := 166) dX10_findSpeech_134 (by decide) (fun c134 => ?_) (fun c134 => ?_)
            · exact absurd c134 (by decide)
            · refine w_op (pc' := 139) dX10_findSpeech_137 rfl ?_
              refine t_getI (F := f_p_isSpeaking) dX10_findSpeech_139 rfl rfl (by decide) rfl ⟨rfl, fun _ => rfl⟩ (hR.2.2.1 i hi) ?_
              refine w_ifeq (t := 166) dX10_findSpeech_142 (by decide) (fun c142 => ?_) (fun c142 => ?_)
              · refine w_op (pc' := 168) dX10_findSpeech_166 rfl ?_
                refine w_op (pc' := 170) dX10_findSpeech_168 rfl ?_
                refine t_putI (F := f_p_isSpeaking) dX10_findSpeech_170 rfl rfl (by decide) (by decide) rfl (s_ckb (by first | exact Or.inl rfl | exact Or.inr rfl | assumption)) (Or.inl rfl) (hR.2.2.1 i hi) ?_
                refine w_op (pc' := 174) dX10_findSpeech_173 rfl ?_
                refine w_op (pc' := 175) dX10_findSpeech_174 rfl ?_
                refine t_getI (F := f_speakers) dX10_findSpeech_175 rfl rfl (by decide) rfl ⟨rfl, fun _ => rfl⟩ (hp.1 _ rfl) ?_
                refine w_op (pc' := 180) dX10_findSpeech_178 rfl ?_
                refine w_ifeq (t := 187) dX10_findSpeech_180 (by decide) (fun c180 => ?_) (fun c180 => ?_)
                · refine w_iconst (v := 0) dX10_findSpeech_187 rfl ?_
                  refine w_op (pc' := 189) dX10_findSpeech_188 rfl ?_
                  refine t_putI (F := f_speakers) dX10_findSpeech_189 rfl rfl (by decide) (by decide) rfl rfl (Or.inl rfl) (hp.1 _ rfl) ?_
                  refine w_op (pc' := 195) (ll' := [_, _, _, _, _, _, _, _, _]) dX10_findSpeech_192 rfl ?_
                  refine w_goto (t := 62) dX10_findSpeech_195 (by decide) ?_
                  rw [show nI i + Int32.ofInt 1 = nI (i + 1) from nI_1 i]
                  have hs : (hw && s_bl I1 (p.2.2.2.2 r + i)) = false := by rw [bI_0.mp c85]; exact Bool.and_false _
                  rw [s_run_s hi] at hr
                  unfold s_fsP at hr
                  rw [show (hw && s_bl (I1, J1).1 (p.2.2.2.2 r + i)) = false from hs] at hr
                  unfold s_fsB at hr
                  rw [if_neg (fun z => by cases z.1), if_neg (fun z => z.2 c142)] at hr
                  exact ih (i + 1) _ _ _ _ (by omega) hr (by omega)
                · exact absurd c180 (by decide)
              · refine w_op (pc' := 147) dX10_findSpeech_145 rfl ?_
                refine w_op (pc' := 148) dX10_findSpeech_147 rfl ?_
                refine t_getI (F := f_p_ends) dX10_findSpeech_148 rfl rfl (by decide) rfl ⟨rfl, fun _ => rfl⟩ (hR.2.2.1 i hi) ?_
                refine w_iconst (v := 1) dX10_findSpeech_151 rfl ?_
                refine w_op (pc' := 153) dX10_findSpeech_152 rfl ?_
                refine t_putI (F := f_p_ends) dX10_findSpeech_153 rfl rfl (by decide) (by decide) rfl rfl (Or.inl rfl) (hR.2.2.1 i hi) ?_
                refine w_op (pc' := 157) dX10_findSpeech_156 rfl ?_
                refine w_op (pc' := 158) dX10_findSpeech_157 rfl ?_
                refine t_getJ (F := j_allEnds) dX10_findSpeech_158 rfl rfl (by decide) rfl (fun _ => rfl) (hp.1 _ rfl) ?_
                refine w_op (pc' := 162) dX10_findSpeech_161 rfl ?_
                refine w_op (pc' := 163) dX10_findSpeech_162 rfl ?_
                refine t_putJ (F := j_allEnds) dX10_findSpeech_163 rfl rfl (by decide) rfl rfl (Or.inl rfl) (hp.1 _ rfl) ?_
                refine w_op (pc' := 168) dX10_findSpeech_166 rfl ?_
                refine w_op (pc' := 170) dX10_findSpeech_168 rfl ?_
                refine t_putI (F := f_p_isSpeaking) dX10_findSpeech_170 rfl rfl (by decide) (by decide) rfl (s_ckb (by first | exact Or.inl rfl | exact Or.inr rfl | assumption)) (Or.inl rfl) (hR.2.2.1 i hi) ?_
                refine w_op (pc' := 174) dX10_findSpeech_173 rfl ?_
                refine w_op (pc' := 175) dX10_findSpeech_174 rfl ?_
                refine t_getI (F := f_speakers) dX10_findSpeech_175 rfl rfl (by decide) rfl ⟨rfl, fun _ => rfl⟩ (hp.1 _ rfl) ?_
                refine w_op (pc' := 180) dX10_findSpeech_178 rfl ?_
                refine w_ifeq (t := 187) dX10_findSpeech_180 (by decide) (fun c180 => ?_) (fun c180 => ?_)
                · refine w_iconst (v := 0) dX10_findSpeech_187 rfl ?_
                  refine w_op (pc' := 189) dX10_findSpeech_188 rfl ?_
                  refine t_putI (F := f_speakers) dX10_findSpeech_189 rfl rfl (by decide) (by decide) rfl rfl (Or.inl rfl) (hp.1 _ rfl) ?_
                  refine w_op (pc' := 195) (ll' := [_, _, _, _, _, _, _, _, _]) dX10_findSpeech_192 rfl ?_
                  refine w_goto (t := 62) dX10_findSpeech_195 (by decide) ?_
                  rw [show nI i + Int32.ofInt 1 = nI (i + 1) from nI_1 i]
                  have hs : (hw && s_bl I1 (p.2.2.2.2 r + i)) = false := by rw [bI_0.mp c85]; exact Bool.and_false _
                  rw [s_run_s hi] at hr
                  unfold s_fsP at hr
                  rw [show (hw && s_bl (I1, J1).1 (p.2.2.2.2 r + i)) = false from hs] at hr
                  unfold s_fsB at hr
                  rw [if_neg (fun z => by cases z.1), if_pos ⟨rfl, c142⟩] at hr
                  exact ih (i + 1) _ _ _ _ (by omega) hr (by omega)
                · exact absurd c180 (by decide)
          · exact absurd c97 (by decide)
        · refine w_iconst (v := 1) dX10_findSpeech_88 rfl ?_
          refine w_goto (t := 93) dX10_findSpeech_89 (by decide) ?_
          refine w_op (pc' := 95) (ll' := [_, _, _, _, _, _, _, _, _]) dX10_findSpeech_93 rfl ?_
          refine w_op (pc' := 97) dX10_findSpeech_95 rfl ?_
          refine w_ifeq (t := 132) dX10_findSpeech_97 (by decide) (fun c97 => ?_) (fun c97 => ?_)
          · exact absurd c97 (by decide)
          · refine w_op (pc' := 102) dX10_findSpeech_100 rfl ?_
            refine t_getI (F := f_p_isSpeaking) dX10_findSpeech_102 rfl rfl (by decide) rfl ⟨rfl, fun _ => rfl⟩ (hR.2.2.1 i hi) ?_
            refine w_ifne (t := 132) dX10_findSpeech_105 (by decide) (fun c105 => ?_) (fun c105 => ?_)
            · refine w_op (pc' := 134) dX10_findSpeech_132 rfl ?_
              refine w_ifne (t := 166) dX10_findSpeech_134 (by decide) (fun c134 => ?_) (fun c134 => ?_)
              · refine w_op (pc' := 168) dX10_findSpeech_166 rfl ?_
                refine w_op (pc' := 170) dX10_findSpeech_168 rfl ?_
                refine t_putI (F := f_p_isSpeaking) dX10_findSpeech_170 rfl rfl (by decide) (by decide) rfl (s_ckb (by first | exact Or.inl rfl | exact Or.inr rfl | assumption)) (Or.inl rfl) (hR.2.2.1 i hi) ?_
                refine w_op (pc' := 174) dX10_findSpeech_173 rfl ?_
                refine w_op (pc' := 175) dX10_findSpeech_174 rfl ?_
                refine t_getI (F := f_speakers) dX10_findSpeech_175 rfl rfl (by decide) rfl ⟨rfl, fun _ => rfl⟩ (hp.1 _ rfl) ?_
                refine w_op (pc' := 180) dX10_findSpeech_178 rfl ?_
                refine w_ifeq (t := 187) dX10_findSpeech_180 (by decide) (fun c180 => ?_) (fun c180 => ?_)
                · exact absurd c180 (by decide)
                · refine w_iconst (v := 1) dX10_findSpeech_183 rfl ?_
                  refine w_goto (t := 188) dX10_findSpeech_184 (by decide) ?_
                  refine w_op (pc' := 189) dX10_findSpeech_188 rfl ?_
                  refine t_putI (F := f_speakers) dX10_findSpeech_189 rfl rfl (by decide) (by decide) rfl rfl (Or.inl rfl) (hp.1 _ rfl) ?_
                  refine w_op (pc' := 195) (ll' := [_, _, _, _, _, _, _, _, _]) dX10_findSpeech_192 rfl ?_
                  refine w_goto (t := 62) dX10_findSpeech_195 (by decide) ?_
                  rw [show nI i + Int32.ofInt 1 = nI (i + 1) from nI_1 i]
                  have hs : (hw && s_bl I1 (p.2.2.2.2 r + i)) = true := by rw [bI_n0.mp c77, bI_n0.mp c85]; rfl
                  rw [s_run_s hi] at hr
                  unfold s_fsP at hr
                  rw [show (hw && s_bl (I1, J1).1 (p.2.2.2.2 r + i)) = true from hs] at hr
                  unfold s_fsB at hr
                  rw [if_neg (fun z => c105 z.2), if_neg (fun z => by cases z.1)] at hr
                  exact ih (i + 1) _ _ _ _ (by omega) hr (by omega)
              · exact absurd c134 (by decide)
            · refine w_op (pc' := 110) dX10_findSpeech_108 rfl ?_
              refine w_op (pc' := 111) dX10_findSpeech_110 rfl ?_
              refine t_getI (F := f_p_begins) dX10_findSpeech_111 rfl rfl (by decide) rfl ⟨rfl, fun _ => rfl⟩ (hR.2.2.1 i hi) ?_
              refine w_iconst (v := 1) dX10_findSpeech_114 rfl ?_
              refine w_op (pc' := 116) dX10_findSpeech_115 rfl ?_
              refine t_putI (F := f_p_begins) dX10_findSpeech_116 rfl rfl (by decide) (by decide) rfl rfl (Or.inl rfl) (hR.2.2.1 i hi) ?_
              refine w_op (pc' := 120) dX10_findSpeech_119 rfl ?_
              refine w_op (pc' := 121) dX10_findSpeech_120 rfl ?_
              refine t_getI (F := f_allBegins) dX10_findSpeech_121 rfl rfl (by decide) rfl ⟨rfl, fun _ => rfl⟩ (hp.1 _ rfl) ?_
              refine w_iconst (v := 1) dX10_findSpeech_124 rfl ?_
              refine w_op (pc' := 126) dX10_findSpeech_125 rfl ?_
              refine t_putI (F := f_allBegins) dX10_findSpeech_126 rfl rfl (by decide) (by decide) rfl rfl (Or.inl rfl) (hp.1 _ rfl) ?_
              refine w_goto (t := 166) dX10_findSpeech_129 (by decide) ?_
              refine w_op (pc' := 168) dX10_findSpeech_166 rfl ?_
              refine w_op (pc' := 170) dX10_findSpeech_168 rfl ?_
              refine t_putI (F := f_p_isSpeaking) dX10_findSpeech_170 rfl rfl (by decide) (by decide) rfl (s_ckb (by first | exact Or.inl rfl | exact Or.inr rfl | assumption)) (Or.inl rfl) (hR.2.2.1 i hi) ?_
              refine w_op (pc' := 174) dX10_findSpeech_173 rfl ?_
              refine w_op (pc' := 175) dX10_findSpeech_174 rfl ?_
              refine t_getI (F := f_speakers) dX10_findSpeech_175 rfl rfl (by decide) rfl ⟨rfl, fun _ => rfl⟩ (hp.1 _ rfl) ?_
              refine w_op (pc' := 180) dX10_findSpeech_178 rfl ?_
              refine w_ifeq (t := 187) dX10_findSpeech_180 (by decide) (fun c180 => ?_) (fun c180 => ?_)
              · exact absurd c180 (by decide)
              · refine w_iconst (v := 1) dX10_findSpeech_183 rfl ?_
                refine w_goto (t := 188) dX10_findSpeech_184 (by decide) ?_
                refine w_op (pc' := 189) dX10_findSpeech_188 rfl ?_
                refine t_putI (F := f_speakers) dX10_findSpeech_189 rfl rfl (by decide) (by decide) rfl rfl (Or.inl rfl) (hp.1 _ rfl) ?_
                refine w_op (pc' := 195) (ll' := [_, _, _, _, _, _, _, _, _]) dX10_findSpeech_192 rfl ?_
                refine w_goto (t := 62) dX10_findSpeech_195 (by decide) ?_
                rw [show nI i + Int32.ofInt 1 = nI (i + 1) from nI_1 i]
                have hs : (hw && s_bl I1 (p.2.2.2.2 r + i)) = true := by rw [bI_n0.mp c77, bI_n0.mp c85]; rfl
                rw [s_run_s hi] at hr
                unfold s_fsP at hr
                rw [show (hw && s_bl (I1, J1).1 (p.2.2.2.2 r + i)) = true from hs] at hr
                unfold s_fsB at hr
                rw [if_pos ⟨rfl, c105⟩] at hr
                exact ih (i + 1) _ _ _ _ (by omega) hr (by omega)
set_option maxRecDepth 100000 in
set_option maxHeartbeats 4000000 in
theorem l_X10_findSpeech {X : e_XT} {d : Nat} {p : e_Sp} {I : e_I} {J : e_Jt} {c : Nat × Nat} {w : e_Rw1} {Q : e_Rt → e_SS → Prop} {nk nr : Nat} (hD : s_D p I nk nr) {R : e_I × e_Jt} (k : Q (.inl none) (p, R.1, R.2, c, w)) : ∀ (n : Nat) (i : Nat) (I1 : e_I) (J1 : e_Jt) (o2 o3 o4 o5 o6 o7 o8 : Option Value), (h1 : i ≤ nr) → (e : s_eqC I I1) → (hr : s_run (s_fsR p) i (nr - i) (I1, J1) = R) → (hn : nr - i < n) → s_w X (d + 3) K_X10_findSpeech 7 [some (.ref (p.1 T_WORKS 0)), some (.int (nI i)), o2, o3, o4, o5, o6, o7, o8] [] (p, I1, J1, c, w) (fun r S' => e_rcr (none) r = true ∧ Q r S') := by
  intro n
  induction n with
  | zero =>
    intro i I1 J1 o2 o3 o4 o5 o6 o7 o8 h1 e hr hn
    exact absurd hn (Nat.not_lt_zero _)
  | succ n ih =>
    intro i I1 J1 o2 o3 o4 o5 o6 o7 o8 h1 e hr hn
    have hD1 := hD.eq e
    have hC := hD1.1
    have hp := hC.1
    have hn40 := hC.2.1.1
    have hk40 := hC.2.1.2
    have hn10 := hC.2.2.1.1
    have hr10 := hC.2.2.1.2
    refine w_op (pc' := 8) dX10_findSpeech_7 rfl ?_
    refine w_op (pc' := 9) dX10_findSpeech_8 rfl ?_
    refine t_getG0 (G := g_w_ranks) dX10_findSpeech_9 rfl rfl (by decide) rfl (fun _ => rfl) (hp.1 _ rfl) ?_
    refine t_callV (t := T_LIST) (As := []) dX10_findSpeech_12 rfl rM_Jx4a65c_size_8abf5 (by decide) rfl rfl (by decide) (by decide) (Nat.le_of_ble_eq_true rfl) rfl (hp.2 _ (by decide)) (c_size (hp.2 _ (by decide)) ?_)
    show s_w _ _ _ 15 _ _ _ _
    rw [hr10]
    refine w_icmpge (t := 204) dX10_findSpeech_15 (by decide) (fun c15 => ?_) (fun c15 => ?_)
    · have hi : nr ≤ i := (nI_leI (by omega) (by omega)).mp c15
      exact w_return dX10_findSpeech_204 ⟨rfl, by rw [s_run_z hi] at hr; subst hr; exact k⟩
    · have hi : i < nr := Nat.lt_of_not_le (fun z => c15 ((nI_leI (by omega) (by omega)).mpr z))
      refine w_op (pc' := 19) dX10_findSpeech_18 rfl ?_
      refine t_getG0 (G := g_w_ranks) dX10_findSpeech_19 rfl rfl (by decide) rfl (fun _ => rfl) (hp.1 _ rfl) ?_
      refine w_op (pc' := 23) dX10_findSpeech_22 rfl ?_
      refine t_callV (t := T_LIST) (As := [_]) dX10_findSpeech_23 rfl rM_Jx4a65c_get_915e3 (by decide) rfl rfl (by decide) (by decide) (Nat.le_of_ble_eq_true rfl) rfl (hp.2 _ (by decide)) (c_get0 hp hr10 (by omega) hi ?_)
      show s_w _ _ _ 26 _ _ _ _
      refine t_chk dX10_findSpeech_26 rfl rfl (by decide) (hD1.rk hi) ?_
      refine w_op (pc' := 30) (ll' := [_, _, _, _, _, _, _, _, _]) dX10_findSpeech_29 rfl ?_
      refine w_op (pc' := 31) dX10_findSpeech_30 rfl ?_
      refine t_getG0 (G := g_w_winds) dX10_findSpeech_31 rfl rfl (by decide) rfl (fun _ => rfl) (hp.1 _ rfl) ?_
      refine w_op (pc' := 35) dX10_findSpeech_34 rfl ?_
      refine t_getI (F := f_r_division) dX10_findSpeech_35 rfl rfl (by decide) rfl ⟨rfl, fun _ => rfl⟩ (hD1.rk hi) ?_
      refine t_iald0 (F := f_a_winds) dX10_findSpeech_38 rfl (by decide) rfl (hp.1 _ rfl) (hD1.2.1 i hi).dv (hD1.2.1 i hi).dv.2.2 ?_
      refine w_ifle (t := 46) dX10_findSpeech_39 (by decide) (fun c39 => ?_) (fun c39 => ?_)
      · refine w_iconst (v := 0) dX10_findSpeech_46 rfl ?_
        refine w_op (pc' := 48) (ll' := [_, _, _, _, _, _, _, _, _]) dX10_findSpeech_47 rfl ?_
        refine w_op (pc' := 49) dX10_findSpeech_48 rfl ?_
        refine t_getG1 (G := g_r_pipes) dX10_findSpeech_49 rfl rfl (by decide) rfl (fun _ => rfl) (hD1.rk hi) ?_
        refine w_op (pc' := 54) (ll' := [_, _, _, _, _, _, _, _, _]) dX10_findSpeech_52 rfl ?_
        refine w_op (pc' := 56) dX10_findSpeech_54 rfl ?_
        refine t_alen dX10_findSpeech_56 (by decide) (hD1.2.1 i hi).2.1 ?_
        refine w_op (pc' := 59) (ll' := [_, _, _, _, _, _, _, _, _]) dX10_findSpeech_57 rfl ?_
        refine w_iconst (v := 0) dX10_findSpeech_59 rfl ?_
        refine w_op (pc' := 62) (ll' := [_, _, _, _, _, _, _, _, _]) dX10_findSpeech_60 rfl ?_
        have hb : decide (0 < I1 f_a_winds (I1 f_r_division i).toNatClampNeg) = false := decide_eq_false (Int32.not_lt.mpr c39)
        have ef : s_fsR p i (I1, J1) = s_run (s_fsP p i false) 0 (p.2.2.1 T_PARR i) (I1, J1) := by unfold s_fsR; rw [hb]
        refine l2_X10_findSpeech (J := J) (hw := false) hp (hD1.2.1 i hi) (fun o6 o7 o8 => ?_) (p.2.2.1 T_PARR i + 1) 0 _ _ _ _ (Nat.zero_le _) rfl (by omega)
        refine w_op (pc' := 201) (ll' := [_, _, _, _, _, _, _, _, _]) dX10_findSpeech_198 rfl ?_
        refine w_goto (t := 7) dX10_findSpeech_201 (by decide) ?_
        rw [show nI i + Int32.ofInt 1 = nI (i + 1) from nI_1 i]
        exact ih (i + 1) _ _ _ _ _ _ _ _ _ (by omega) (e.trans (s_eqC.runP s_eqC.fsP _ _ _)) (by rw [s_run_s hi, ef] at hr; exact hr) (by omega)
      · refine w_iconst (v := 1) dX10_findSpeech_42 rfl ?_
        refine w_goto (t := 47) dX10_findSpeech_43 (by decide) ?_
        refine w_op (pc' := 48) (ll' := [_, _, _, _, _, _, _, _, _]) dX10_findSpeech_47 rfl ?_
        refine w_op (pc' := 49) dX10_findSpeech_48 rfl ?_
        refine t_getG1 (G := g_r_pipes) dX10_findSpeech_49 rfl rfl (by decide) rfl (fun _ => rfl) (hD1.rk hi) ?_
        refine w_op (pc' := 54) (ll' := [_, _, _, _, _, _, _, _, _]) dX10_findSpeech_52 rfl ?_
        refine w_op (pc' := 56) dX10_findSpeech_54 rfl ?_
        refine t_alen dX10_findSpeech_56 (by decide) (hD1.2.1 i hi).2.1 ?_
        refine w_op (pc' := 59) (ll' := [_, _, _, _, _, _, _, _, _]) dX10_findSpeech_57 rfl ?_
        refine w_iconst (v := 0) dX10_findSpeech_59 rfl ?_
        refine w_op (pc' := 62) (ll' := [_, _, _, _, _, _, _, _, _]) dX10_findSpeech_60 rfl ?_
        have hb : decide (0 < I1 f_a_winds (I1 f_r_division i).toNatClampNeg) = true := decide_eq_true (Int32.not_le.mp c39)
        have ef : s_fsR p i (I1, J1) = s_run (s_fsP p i true) 0 (p.2.2.1 T_PARR i) (I1, J1) := by unfold s_fsR; rw [hb]
        refine l2_X10_findSpeech (J := J) (hw := true) hp (hD1.2.1 i hi) (fun o6 o7 o8 => ?_) (p.2.2.1 T_PARR i + 1) 0 _ _ _ _ (Nat.zero_le _) rfl (by omega)
        refine w_op (pc' := 201) (ll' := [_, _, _, _, _, _, _, _, _]) dX10_findSpeech_198 rfl ?_
        refine w_goto (t := 7) dX10_findSpeech_201 (by decide) ?_
        rw [show nI i + Int32.ofInt 1 = nI (i + 1) from nI_1 i]
        exact ih (i + 1) _ _ _ _ _ _ _ _ _ (by omega) (e.trans (s_eqC.runP s_eqC.fsP _ _ _)) (by rw [s_run_s hi, ef] at hr; exact hr) (by omega)
set_option maxRecDepth 100000 in
set_option maxHeartbeats 4000000 in
theorem c_X10_findSpeech {X : e_XT} {d : Nat} {p : e_Sp} {I : e_I} {J : e_Jt} {c : Nat × Nat} {w : e_Rw1} {Q : e_Rt → e_SS → Prop} {nk nr : Nat} (hD : s_D p I nk nr) (k : Q (.inl none) (p, (s_fsp p nr (I, J)).1, (s_fsp p nr (I, J)).2, c, w)) : s_c X (d + 3) 116 [.ref (p.1 T_WORKS 0)] (p, I, J, c, w) Q := by
  have hC := hD.1
  have hp := hC.1
  have hn40 := hC.2.1.1
  have hk40 := hC.2.1.2
  have hn10 := hC.2.2.1.1
  have hr10 := hC.2.2.1.2
  refine m_X10_findSpeech (Nat.le_of_ble_eq_true rfl) ?_
  show s_w _ _ _ 0 _ _ _ _
  refine w_op (pc' := 1) dX10_findSpeech_0 rfl ?_
  refine w_iconst (v := 0) dX10_findSpeech_1 rfl ?_
  refine t_putI (F := f_speakers) dX10_findSpeech_2 rfl rfl (by decide) (by decide) rfl rfl (Or.inl rfl) (hp.1 _ rfl) ?_
  refine w_iconst (v := 0) dX10_findSpeech_5 rfl ?_
  refine w_op (pc' := 7) (ll' := [_, _, _, _, _, _, _, _, _]) dX10_findSpeech_6 rfl ?_
  exact l_X10_findSpeech (J := J) (hD.eq (s_eqC.up (by decide))) k (nr + 1) 0 _ _ _ _ _ _ _ _ _ (Nat.zero_le _) s_eqC.rfl' rfl (by omega)
set_option maxRecDepth 100000 in
set_option maxHeartbeats 4000000 in
theorem l_X10_windless {X : e_XT} {d : Nat} {p : e_Sp} {I : e_I} {J : e_Jt} {c : Nat × Nat} {w : e_Rw1} {Q : e_Rt → e_SS → Prop} {R : Int32} (hp : s_ok p) (k : Q (.inl (some (.int R))) (p, I, J, c, w)) : ∀ (n : Nat) (i : Nat) (a : Int32), (h1 : i ≤ 3) → (hr : s_run (s_wl1 I) i (3 - i) a = R) → (hn : 3 - i < n) → s_w X (d + 0) K_X10_windless 4 [some (.ref (p.1 T_WORKS 0)), some (.int a), some (.int (nI i))] [] (p, I, J, c, w) (fun r S' => e_rcr (some FieldType.int) r = true ∧ Q r S') := by
  intro n
  induction n with
  | zero =>
    intro i a h1 hr hn
    exact absurd hn (Nat.not_lt_zero _)
  | succ n ih =>
    intro i a h1 hr hn
    refine w_op (pc' := 5) dX10_windless_4 rfl ?_
    refine w_iconst (v := 3) dX10_windless_5 rfl ?_
    refine w_icmpge (t := 30) dX10_windless_6 (by decide) (fun c6 => ?_) (fun c6 => ?_)
    · have hi : 3 ≤ i := (nI_leI (a := 3) (by omega) (by omega)).mp c6
      refine w_op (pc' := 31) dX10_windless_30 rfl ?_
      exact w_ireturn dX10_windless_31 ⟨rfl, by rw [s_run_z hi] at hr; subst hr; exact k⟩
    · have hi : i < 3 := Nat.lt_of_not_le (fun z => c6 ((nI_leI (a := 3) (by omega) (by omega)).mpr z))
      refine w_op (pc' := 10) dX10_windless_9 rfl ?_
      refine t_getG0 (G := g_w_winds) dX10_windless_10 rfl rfl (by decide) rfl (fun _ => rfl) (hp.1 _ rfl) ?_
      refine w_op (pc' := 14) dX10_windless_13 rfl ?_
      refine t_iald0 (F := f_a_winds) dX10_windless_14 rfl (by decide) rfl (hp.1 _ rfl) (s_ix.nI (N := 3) hi (by decide)) hi ?_
      refine w_ifne (t := 24) dX10_windless_15 (by decide) (fun c15 => ?_) (fun c15 => ?_)
      · refine w_op (pc' := 27) (ll' := [_, _, _]) dX10_windless_24 rfl ?_
        refine w_goto (t := 4) dX10_windless_27 (by decide) ?_
        rw [show nI i + Int32.ofInt 1 = nI (i + 1) from nI_1 i]
        have ef : s_wl1 I i a = a := if_neg c15
        rw [s_run_s hi, ef] at hr
        exact ih (i + 1) _ (by omega) hr (by omega)
      · refine w_op (pc' := 19) dX10_windless_18 rfl ?_
        refine w_iconst (v := 1) dX10_windless_19 rfl ?_
        refine w_op (pc' := 21) dX10_windless_20 rfl ?_
        refine w_op (pc' := 22) dX10_windless_21 rfl ?_
        refine w_op (pc' := 23) dX10_windless_22 rfl ?_
        refine w_op (pc' := 24) (ll' := [_, _, _]) dX10_windless_23 rfl ?_
        refine w_op (pc' := 27) (ll' := [_, _, _]) dX10_windless_24 rfl ?_
        refine w_goto (t := 4) dX10_windless_27 (by decide) ?_
        rw [show nI i + Int32.ofInt 1 = nI (i + 1) from nI_1 i]
        have ef : s_wl1 I i a = a ||| (1 <<< (nI i &&& 31)) := if_pos c15
        rw [s_run_s hi, ef] at hr
        exact ih (i + 1) _ (by omega) hr (by omega)
set_option maxRecDepth 100000 in
set_option maxHeartbeats 4000000 in
theorem c_X10_windless {X : e_XT} {d : Nat} {p : e_Sp} {I : e_I} {J : e_Jt} {c : Nat × Nat} {w : e_Rw1} {Q : e_Rt → e_SS → Prop} (hp : s_ok p) (k : Q (.inl (some (.int (s_wl I)))) (p, I, J, c, w)) : s_c X (d + 0) 125 [.ref (p.1 T_WORKS 0)] (p, I, J, c, w) Q := by
  refine m_X10_windless (Nat.le_of_ble_eq_true rfl) ?_
  show s_w _ _ _ 0 _ _ _ _
  refine w_iconst (v := 0) dX10_windless_0 rfl ?_
  refine w_op (pc' := 2) (ll' := [_, _, _]) dX10_windless_1 rfl ?_
  refine w_iconst (v := 0) dX10_windless_2 rfl ?_
  refine w_op (pc' := 4) (ll' := [_, _, _]) dX10_windless_3 rfl ?_
  exact l_X10_windless hp k 4 0 _ (Nat.zero_le _) rfl (by omega)
