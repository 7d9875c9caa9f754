/-! 55: frames out, faults, the tape read (printed by wip/whole/p55.py) -/
/-- the tape is read -/
def s_en (p : e_Sp) (I : e_I) (x : Int32) : Int32 := if 0 ≤ x ∧ x < I f_tsize 0 ∧ x < nI (p.2.2.1 T_ENTR 0) then I f_entries x.toNatClampNeg else 0
def s_hc (p : e_Sp) (I : e_I) (x : Int32) : Int32 := (s_en p I x / 2 - s_en p I x / 2 / 1280 * 1280) / 128
def s_lc (p : e_Sp) (I : e_I) (x : Int32) : Int32 := s_en p I x / 2 - s_en p I x / 2 / 128 * 128
def s_on (p : e_Sp) (I : e_I) (x : Int32) : Bool := decide (s_en p I x - s_en p I x / 2 * 2 = 1)
def s_tb (p : e_Sp) (I : e_I) (x : Int32) : Int32 := if 0 < x then s_en p I x / 2 / 1280 - s_en p I (x - 1) / 2 / 1280 else 0
/-- a fault among some pipes -/
def s_flt (p : e_Sp) (I : e_I) (r u v n : Nat) : Bool := (decide (u ≤ n) && decide (n ≤ v)) && !decide (I f_p_fault (p.2.2.2.2 r + n) = 45)
def s_hf (p : e_Sp) (I : e_I) (r u v : Nat) : Bool := s_ex (p.2.2.1 T_PARR r) (s_flt p I r u v)
set_option maxRecDepth 100000 in
set_option maxHeartbeats 4000000 in
theorem c_X9_start {X : e_XT} {d : Nat} {p : e_Sp} {I : e_I} {J : e_Jt} {c : Nat × Nat} {w : e_Rw1} {Q : e_Rt → e_SS → Prop} (hp : s_ok p) {x y : Int32} (hx : vp_nar .char x = x) (k : Q (.inl none) (p, s_up (s_up (s_up (s_up I f_recording 0 x) f_tkind 0 x) f_tsize 0 0) f_startedAt 0 y, J, c, w)) : s_c X (d + 0) 101 [.ref (p.1 T_TAPE 0), .int x, .int y] (p, I, J, c, w) Q := by
  refine m_X9_start (Nat.le_of_ble_eq_true rfl) ?_
  show s_w _ _ _ 0 _ _ _ _
  refine w_op (pc' := 1) dX9_start_0 rfl ?_
  refine w_op (pc' := 2) dX9_start_1 rfl ?_
  refine t_putI (F := f_recording) dX9_start_2 rfl rfl (by decide) (by decide) rfl (s_ckc (by assumption)) (Or.inl rfl) (hp.1 _ rfl) ?_
  refine w_op (pc' := 6) dX9_start_5 rfl ?_
  refine w_op (pc' := 7) dX9_start_6 rfl ?_
  refine t_putI (F := f_tkind) dX9_start_7 rfl rfl (by decide) (by decide) rfl (s_ckc (by assumption)) (Or.inl rfl) (hp.1 _ rfl) ?_
  refine w_op (pc' := 11) dX9_start_10 rfl ?_
  refine w_iconst (v := 0) dX9_start_11 rfl ?_
  refine t_putI (F := f_tsize) dX9_start_12 rfl rfl (by decide) (by decide) rfl rfl (Or.inl rfl) (hp.1 _ rfl) ?_
  refine w_op (pc' := 16) dX9_start_15 rfl ?_
  refine w_op (pc' := 17) dX9_start_16 rfl ?_
  refine t_putI (F := f_startedAt) dX9_start_17 rfl rfl (by decide) (by decide) rfl rfl (Or.inl rfl) (hp.1 _ rfl) ?_
  exact w_return dX9_start_20 ⟨rfl, k⟩
set_option maxRecDepth 100000 in
set_option maxHeartbeats 4000000 in
theorem c_X9_entryAt {X : e_XT} {d : Nat} {p : e_Sp} {I : e_I} {J : e_Jt} {c : Nat × Nat} {w : e_Rw1} {Q : e_Rt → e_SS → Prop} {a b : Nat} (hp : s_ok p) (hT : s_Tp p I c a b) {x : Int32} (k : Q (.inl (some (.int (s_en p I x)))) (p, I, J, c, w)) : s_c X (d + 0) 103 [.ref (p.1 T_TAPE 0), .int x] (p, I, J, c, w) Q := by
  have t6 := hT.2.2.2.2.2
  obtain ⟨kk, hlen, hk12, -, -⟩ := hT.2.1
  have hl20 := s_pow12 hk12
  rw [← hlen] at hl20
  refine m_X9_entryAt (Nat.le_of_ble_eq_true rfl) ?_
  show s_w _ _ _ 0 _ _ _ _
  refine w_op (pc' := 1) dX9_entryAt_0 rfl ?_
  refine w_iflt (t := 21) dX9_entryAt_1 (by decide) (fun c1 => ?_) (fun c1 => ?_)
  · refine w_iconst (v := 0) dX9_entryAt_21 rfl ?_
    refine w_goto (t := 31) dX9_entryAt_22 (by decide) ?_
    exact w_ireturn dX9_entryAt_31 ⟨rfl, s_eqi (by unfold s_en; rw [if_neg (fun z => Int32.not_lt.mpr z.1 c1)]) k⟩
  · refine w_op (pc' := 5) dX9_entryAt_4 rfl ?_
    refine w_op (pc' := 6) dX9_entryAt_5 rfl ?_
    refine t_getI (F := f_tsize) dX9_entryAt_6 rfl rfl (by decide) rfl ⟨rfl, fun _ => rfl⟩ (hp.1 _ rfl) ?_
    refine w_icmpge (t := 21) dX9_entryAt_9 (by decide) (fun c9 => ?_) (fun c9 => ?_)
    · refine w_iconst (v := 0) dX9_entryAt_21 rfl ?_
      refine w_goto (t := 31) dX9_entryAt_22 (by decide) ?_
      exact w_ireturn dX9_entryAt_31 ⟨rfl, s_eqi (by unfold s_en; rw [if_neg (fun z => Int32.not_lt.mpr c9 z.2.1)]) k⟩
    · refine w_op (pc' := 13) dX9_entryAt_12 rfl ?_
      refine w_op (pc' := 14) dX9_entryAt_13 rfl ?_
      refine t_getG0 (G := g_t_entries) dX9_entryAt_14 rfl rfl (by decide) rfl (fun _ => rfl) (hp.1 _ rfl) ?_
      refine t_alen dX9_entryAt_17 (by decide) t6 ?_
      refine w_icmplt (t := 25) dX9_entryAt_18 (by decide) (fun c18 => ?_) (fun c18 => ?_)
      · refine w_op (pc' := 26) dX9_entryAt_25 rfl ?_
        refine t_getG0 (G := g_t_entries) dX9_entryAt_26 rfl rfl (by decide) rfl (fun _ => rfl) (hp.1 _ rfl) ?_
        refine w_op (pc' := 30) dX9_entryAt_29 rfl ?_
        refine t_iald (F := f_entries) dX9_entryAt_30 rfl (by decide) rfl t6 (s_ixo (N := p.2.2.1 T_ENTR 0) (Int32.not_lt.mp c1) c18 (by omega)) (by have := (s_ixo (N := p.2.2.1 T_ENTR 0) (Int32.not_lt.mp c1) c18 (by omega)).2.2; omega) ?_
        exact w_ireturn dX9_entryAt_31 ⟨rfl, s_eqi (by unfold s_en; rw [if_pos ⟨Int32.not_lt.mp c1, Int32.not_le.mp c9, c18⟩]; rw [Nat.zero_mul, Nat.zero_add]) k⟩
      · refine w_iconst (v := 0) dX9_entryAt_21 rfl ?_
        refine w_goto (t := 31) dX9_entryAt_22 (by decide) ?_
        exact w_ireturn dX9_entryAt_31 ⟨rfl, s_eqi (by unfold s_en; rw [if_neg (fun z => c18 z.2.2)]) k⟩
set_option maxRecDepth 100000 in
set_option maxHeartbeats 4000000 in
theorem c_X9_highCodeAt {X : e_XT} {d : Nat} {p : e_Sp} {I : e_I} {J : e_Jt} {c : Nat × Nat} {w : e_Rw1} {Q : e_Rt → e_SS → Prop} {a b : Nat} (hp : s_ok p) (hT : s_Tp p I c a b) {x : Int32} (k : Q (.inl (some (.int (s_hc p I x)))) (p, I, J, c, w)) : s_c X (d + 1) 104 [.ref (p.1 T_TAPE 0), .int x] (p, I, J, c, w) Q := by
  refine m_X9_highCodeAt (Nat.le_of_ble_eq_true rfl) ?_
  show s_w _ _ _ 0 _ _ _ _
  refine w_op (pc' := 1) dX9_highCodeAt_0 rfl ?_
  refine w_op (pc' := 2) dX9_highCodeAt_1 rfl ?_
  refine t_callV (t := T_TAPE) (As := [_]) dX9_highCodeAt_2 rfl rM_X9_entryAt (by decide) rfl rfl (by decide) (by decide) (Nat.le_of_ble_eq_true rfl) rfl (hp.1 _ rfl) (c_X9_entryAt hp hT ?_)
  show s_w _ _ _ 5 _ _ _ _
  refine w_iconst (v := 2) dX9_highCodeAt_5 rfl ?_
  refine w_op (pc' := 7) dX9_highCodeAt_6 (by rfl) ?_
  refine w_sipush (v := 1280) dX9_highCodeAt_7 rfl ?_
  refine w_op (pc' := 11) dX9_highCodeAt_10 (by rfl) ?_
  refine w_sipush (v := 128) dX9_highCodeAt_11 rfl ?_
  refine w_op (pc' := 15) dX9_highCodeAt_14 (by rfl) ?_
  exact w_ireturn dX9_highCodeAt_15 ⟨rfl, s_eqi (by unfold s_hc; rfl) k⟩
set_option maxRecDepth 100000 in
set_option maxHeartbeats 4000000 in
theorem c_X9_lowCodeAt {X : e_XT} {d : Nat} {p : e_Sp} {I : e_I} {J : e_Jt} {c : Nat × Nat} {w : e_Rw1} {Q : e_Rt → e_SS → Prop} {a b : Nat} (hp : s_ok p) (hT : s_Tp p I c a b) {x : Int32} (k : Q (.inl (some (.int (s_lc p I x)))) (p, I, J, c, w)) : s_c X (d + 1) 105 [.ref (p.1 T_TAPE 0), .int x] (p, I, J, c, w) Q := by
  refine m_X9_lowCodeAt (Nat.le_of_ble_eq_true rfl) ?_
  show s_w _ _ _ 0 _ _ _ _
  refine w_op (pc' := 1) dX9_lowCodeAt_0 rfl ?_
  refine w_op (pc' := 2) dX9_lowCodeAt_1 rfl ?_
  refine t_callV (t := T_TAPE) (As := [_]) dX9_lowCodeAt_2 rfl rM_X9_entryAt (by decide) rfl rfl (by decide) (by decide) (Nat.le_of_ble_eq_true rfl) rfl (hp.1 _ rfl) (c_X9_entryAt hp hT ?_)
  show s_w _ _ _ 5 _ _ _ _
  refine w_iconst (v := 2) dX9_lowCodeAt_5 rfl ?_
  refine w_op (pc' := 7) dX9_lowCodeAt_6 (by rfl) ?_
  refine w_sipush (v := 128) dX9_lowCodeAt_7 rfl ?_
  refine w_op (pc' := 11) dX9_lowCodeAt_10 (by rfl) ?_
  exact w_ireturn dX9_lowCodeAt_11 ⟨rfl, s_eqi (by unfold s_lc; rfl) k⟩
set_option maxRecDepth 100000 in
set_option maxHeartbeats 4000000 in
theorem c_X9_ticksBefore {X : e_XT} {d : Nat} {p : e_Sp} {I : e_I} {J : e_Jt} {c : Nat × Nat} {w : e_Rw1} {Q : e_Rt → e_SS → Prop} {a b : Nat} (hp : s_ok p) (hT : s_Tp p I c a b) {x : Int32} (k : Q (.inl (some (.int (s_tb p I x)))) (p, I, J, c, w)) : s_c X (d + 1) 102 [.ref (p.1 T_TAPE 0), .int x] (p, I, J, c, w) Q := by
  refine m_X9_ticksBefore (Nat.le_of_ble_eq_true rfl) ?_
  show s_w _ _ _ 0 _ _ _ _
  refine w_op (pc' := 1) dX9_ticksBefore_0 rfl ?_
  refine w_ifgt (t := 8) dX9_ticksBefore_1 (by decide) (fun c1 => ?_) (fun c1 => ?_)
  · refine w_op (pc' := 9) dX9_ticksBefore_8 rfl ?_
    refine w_op (pc' := 10) dX9_ticksBefore_9 rfl ?_
    refine t_callV (t := T_TAPE) (As := [_]) dX9_ticksBefore_10 rfl rM_X9_entryAt (by decide) rfl rfl (by decide) (by decide) (Nat.le_of_ble_eq_true rfl) rfl (hp.1 _ rfl) (c_X9_entryAt hp hT ?_)
    show s_w _ _ _ 13 _ _ _ _
    refine w_iconst (v := 2) dX9_ticksBefore_13 rfl ?_
    refine w_op (pc' := 15) dX9_ticksBefore_14 (by rfl) ?_
    refine w_sipush (v := 1280) dX9_ticksBefore_15 rfl ?_
    refine w_op (pc' := 19) dX9_ticksBefore_18 (by rfl) ?_
    refine w_op (pc' := 20) dX9_ticksBefore_19 rfl ?_
    refine w_op (pc' := 21) dX9_ticksBefore_20 rfl ?_
    refine w_iconst (v := 1) dX9_ticksBefore_21 rfl ?_
    refine w_op (pc' := 23) dX9_ticksBefore_22 rfl ?_
    refine t_callV (t := T_TAPE) (As := [_]) dX9_ticksBefore_23 rfl rM_X9_entryAt (by decide) rfl rfl (by decide) (by decide) (Nat.le_of_ble_eq_true rfl) rfl (hp.1 _ rfl) (c_X9_entryAt hp hT ?_)
    show s_w _ _ _ 26 _ _ _ _
    refine w_iconst (v := 2) dX9_ticksBefore_26 rfl ?_
    refine w_op (pc' := 28) dX9_ticksBefore_27 (by rfl) ?_
    refine w_sipush (v := 1280) dX9_ticksBefore_28 rfl ?_
    refine w_op (pc' := 32) dX9_ticksBefore_31 (by rfl) ?_
    refine w_op (pc' := 33) dX9_ticksBefore_32 rfl ?_
    exact w_ireturn dX9_ticksBefore_33 ⟨rfl, s_eqi (by unfold s_tb; grind) k⟩
  · refine w_iconst (v := 0) dX9_ticksBefore_4 rfl ?_
    refine w_goto (t := 33) dX9_ticksBefore_5 (by decide) ?_
    exact w_ireturn dX9_ticksBefore_33 ⟨rfl, s_eqi (by unfold s_tb; grind) k⟩
set_option maxRecDepth 100000 in
set_option maxHeartbeats 4000000 in
theorem c_X9_isOnAt {X : e_XT} {d : Nat} {p : e_Sp} {I : e_I} {J : e_Jt} {c : Nat × Nat} {w : e_Rw1} {Q : e_Rt → e_SS → Prop} {a b : Nat} (hp : s_ok p) (hT : s_Tp p I c a b) {x : Int32} (k : Q (.inl (some (.int (bI (s_on p I x))))) (p, I, J, c, w)) : s_c X (d + 1) 106 [.ref (p.1 T_TAPE 0), .int x] (p, I, J, c, w) Q := by
  refine m_X9_isOnAt (Nat.le_of_ble_eq_true rfl) ?_
  show s_w _ _ _ 0 _ _ _ _
  refine w_op (pc' := 1) dX9_isOnAt_0 rfl ?_
  refine w_op (pc' := 2) dX9_isOnAt_1 rfl ?_
  refine t_callV (t := T_TAPE) (As := [_]) dX9_isOnAt_2 rfl rM_X9_entryAt (by decide) rfl rfl (by decide) (by decide) (Nat.le_of_ble_eq_true rfl) rfl (hp.1 _ rfl) (c_X9_entryAt hp hT ?_)
  show s_w _ _ _ 5 _ _ _ _
  refine w_iconst (v := 2) dX9_isOnAt_5 rfl ?_
  refine w_op (pc' := 7) dX9_isOnAt_6 (by rfl) ?_
  refine w_iconst (v := 1) dX9_isOnAt_7 rfl ?_
  refine w_icmpne (t := 15) dX9_isOnAt_8 (by decide) (fun c8 => ?_) (fun c8 => ?_)
  · refine w_iconst (v := 0) dX9_isOnAt_15 rfl ?_
    exact w_ireturn dX9_isOnAt_16 ⟨s_rcb (by first | exact Or.inl rfl | exact Or.inr rfl | exact bI_or _), s_eqi (by unfold s_on; grind) k⟩
  · refine w_iconst (v := 1) dX9_isOnAt_11 rfl ?_
    refine w_goto (t := 16) dX9_isOnAt_12 (by decide) ?_
    exact w_ireturn dX9_isOnAt_16 ⟨s_rcb (by first | exact Or.inl rfl | exact Or.inr rfl | exact bI_or _), s_eqi (by unfold s_on; grind) k⟩
set_option maxRecDepth 100000 in
set_option maxHeartbeats 4000000 in
theorem l_X7_hasFault {X : e_XT} {d : Nat} {p : e_Sp} {I : e_I} {J : e_Jt} {c : Nat × Nat} {w : e_Rw1} {Q : e_Rt → e_SS → Prop} {r u v : Nat} (hR : s_Rk p I r) (hu : u < 1000) (hv : v < 1000) (k : Q (.inl (some (.int (bI (s_hf p I r u v))))) (p, I, J, c, w)) : ∀ (n : Nat) (i : Nat), (h1 : u ≤ i) → (h2 : i < 2000) → (hf : ∀ n, u ≤ n → n < i → I f_p_fault (p.2.2.2.2 r + n) = 45) → (hn : 2000 - i < n) → s_w X (d + 0) K_X7_hasFault 6 [some (.ref (p.1 T_PARR r)), some (.int (nI u)), some (.int (nI v)), some (.int (nI i))] [] (p, I, J, c, w) (fun r S' => e_rcr (some FieldType.boolean) r = true ∧ Q r S') := by
  intro n
  induction n with
  | zero =>
    intro i h1 h2 hf hn
    exact absurd hn (Nat.not_lt_zero _)
  | succ n ih =>
    intro i h1 h2 hf hn
    obtain ⟨lo, elo, hlo⟩ := hR.2.2.2.1
    refine w_op (pc' := 7) dX7_hasFault_6 rfl ?_
    refine w_op (pc' := 8) dX7_hasFault_7 rfl ?_
    refine w_icmpgt (t := 36) dX7_hasFault_8 (by decide) (fun c8 => ?_) (fun c8 => ?_)
    · refine w_iconst (v := 0) dX7_hasFault_36 rfl ?_
      exact w_ireturn dX7_hasFault_37 ⟨s_rcb (Or.inl rfl), s_eqi (by rw [show s_hf p I r u v = false from Bool.eq_false_iff.mpr (fun z => by obtain ⟨n, hn1, hn2⟩ := s_ex_iff.mp z; unfold s_flt at hn2; simp only [Bool.and_eq_true, decide_eq_true_eq, Bool.not_eq_true', decide_eq_false_iff_not] at hn2; exact hn2.2 (hf n hn2.1.1 (by have := (nI_ltI (by omega) (by omega)).mp c8; omega)))]; rfl) k⟩
    · refine w_op (pc' := 12) dX7_hasFault_11 rfl ?_
      refine w_op (pc' := 13) dX7_hasFault_12 rfl ?_
      refine t_alen dX7_hasFault_13 (by decide) hR.2.1 ?_
      refine w_icmpge (t := 36) dX7_hasFault_14 (by decide) (fun c14 => ?_) (fun c14 => ?_)
      · refine w_iconst (v := 0) dX7_hasFault_36 rfl ?_
        exact w_ireturn dX7_hasFault_37 ⟨s_rcb (Or.inl rfl), s_eqi (by rw [show s_hf p I r u v = false from Bool.eq_false_iff.mpr (fun z => by obtain ⟨n, hn1, hn2⟩ := s_ex_iff.mp z; unfold s_flt at hn2; simp only [Bool.and_eq_true, decide_eq_true_eq, Bool.not_eq_true', decide_eq_false_iff_not] at hn2; exact hn2.2 (hf n hn2.1.1 (by have := (nI_leI (a := p.2.2.1 T_PARR r) (by omega) (by omega)).mp c14; omega)))]; rfl) k⟩
      · have hi : i < p.2.2.1 T_PARR r := Nat.lt_of_not_le (fun z => c14 ((nI_leI (a := p.2.2.1 T_PARR r) (by omega) (by omega)).mpr z))
        have hiv : i ≤ v := Nat.le_of_not_lt (fun z => c8 ((nI_ltI (by omega) (by omega)).mpr z))
        refine w_op (pc' := 18) dX7_hasFault_17 rfl ?_
        refine w_op (pc' := 19) dX7_hasFault_18 rfl ?_
        refine t_aaldP dX7_hasFault_19 hR.1 (s_ix.nI hi (by omega)) ?_
        refine t_getI (F := f_p_fault) dX7_hasFault_20 rfl rfl (by decide) rfl ⟨rfl, fun _ => rfl⟩ (hR.2.2.1 i hi) ?_
        refine w_bipush (v := 45) dX7_hasFault_23 rfl ?_
        refine w_icmpeq (t := 30) dX7_hasFault_25 (by decide) (fun c25 => ?_) (fun c25 => ?_)
        · refine w_op (pc' := 33) (ll' := [_, _, _, _]) dX7_hasFault_30 rfl ?_
          refine w_goto (t := 6) dX7_hasFault_33 (by decide) ?_
          rw [show nI i + Int32.ofInt 1 = nI (i + 1) from nI_1 i]
          refine ih (i + 1) (by omega) (by omega) (fun n h3 h4 => ?_) (by omega)
          by_cases h5 : n < i
          · exact hf n h3 h5
          · obtain rfl : n = i := by omega
            exact c25
        · refine w_iconst (v := 1) dX7_hasFault_28 rfl ?_
          exact w_ireturn dX7_hasFault_29 ⟨s_rcb (Or.inr rfl), s_eqi (by rw [show s_hf p I r u v = true from s_ex_iff.mpr ⟨i, hi, by unfold s_flt; rw [decide_eq_true h1, decide_eq_true hiv, decide_eq_false c25]; rfl⟩]; rfl) k⟩
set_option maxRecDepth 100000 in
set_option maxHeartbeats 4000000 in
theorem c_X7_hasFault {X : e_XT} {d : Nat} {p : e_Sp} {I : e_I} {J : e_Jt} {c : Nat × Nat} {w : e_Rw1} {Q : e_Rt → e_SS → Prop} {r u v : Nat} (hR : s_Rk p I r) (hu : u < 1000) (hv : v < 1000) (k : Q (.inl (some (.int (bI (s_hf p I r u v))))) (p, I, J, c, w)) : s_c X (d + 1) 85 [.ref (p.1 T_PARR r), .int (nI u), .int (nI v)] (p, I, J, c, w) Q := by
  refine m_X7_hasFault (Nat.le_of_ble_eq_true rfl) ?_
  show s_w _ _ _ 0 _ _ _ _
  refine w_iconst (v := 0) dX7_hasFault_0 rfl ?_
  refine w_op (pc' := 2) dX7_hasFault_1 rfl ?_
  refine t_callS (As := [_, _]) dX7_hasFault_2 rfl rM_J9_max_7cf53 (by decide) rfl rfl (by decide) (Nat.le_of_ble_eq_true rfl) (c_max ?_)
  show s_w _ _ _ 5 _ _ _ _
  refine w_op (pc' := 6) (ll' := [_, _, _, _]) dX7_hasFault_5 rfl ?_
  rw [show s_max 0 (nI u) = nI u from (by unfold s_max; have := nI_pos' (n := u) (by omega); grind)]
  exact l_X7_hasFault hR hu hv k 2001 u (Nat.le_refl _) (by omega) (fun n h3 h4 => absurd h4 (by omega)) (by omega)
