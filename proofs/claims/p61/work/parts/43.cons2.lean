/-! 43: lists' elements by name; console's loops (printed by wip/whole/p43.py) -/
section
variable {X : e_XT} {d : Nat} {p : e_Sp} {I : e_I} {J : e_Jt} {c : Nat × Nat} {w : e_Rw1} {Q : e_Rt → e_SS → Prop} {j m : Nat}
theorem c_get0 (hp : s_ok p) (hz : I f_l_size 0 = nI m) (hm : m < 2147483648) (hj : j < m) (k : Q (.inl (some (.ref (p.1 T_RANK j)))) (p, I, J, c, w)) : s_c X (d + 2) 6 [.ref (p.1 T_LIST 0), .int (nI j)] (p, I, J, c, w) Q := c_get (hp.2 _ (by decide)) hz hm hj k
theorem c_get1 (hp : s_ok p) (hz : I f_l_size 1 = nI m) (hm : m < 2147483648) (hj : j < m) (k : Q (.inl (some (.ref (p.1 T_KNOB j)))) (p, I, J, c, w)) : s_c X (d + 2) 6 [.ref (p.1 T_LIST 1), .int (nI j)] (p, I, J, c, w) Q := c_get (hp.2 _ (by decide)) hz hm hj k
end
def s_ex : Nat → (Nat → Bool) → Bool
  | 0, _ => false
  | n + 1, f => s_ex n f || f n
def s_sum : Nat → (Nat → Nat) → Nat
  | 0, _ => 0
  | n + 1, f => s_sum n f + f n
theorem s_ex_iff {n : Nat} {f : Nat → Bool} : s_ex n f = true ↔ ∃ i, i < n ∧ f i = true := by
  induction n with
  | zero => exact ⟨fun h => (by cases h), fun ⟨i, h, _⟩ => absurd h (Nat.not_lt_zero _)⟩
  | succ n ih =>
    show (s_ex n f || f n) = true ↔ _
    rw [Bool.or_eq_true, ih]
    constructor
    · rintro (⟨i, h, e⟩ | e)
      · exact ⟨i, Nat.lt_succ_of_lt h, e⟩
      · exact ⟨n, Nat.lt_succ_self n, e⟩
    · rintro ⟨i, h, e⟩
      rcases Nat.lt_or_ge i n with h2 | h2
      · exact Or.inl ⟨i, h2, e⟩
      · have : i = n := by omega
        subst this; exact Or.inr e
theorem s_sum_le {n b : Nat} {f : Nat → Nat} (h : ∀ i, i < n → f i ≤ b) : s_sum n f ≤ n * b := by
  induction n with
  | zero => exact Nat.zero_le _
  | succ n ih =>
    show s_sum n f + f n ≤ _
    have h1 := ih (fun i hi => h i (Nat.lt_succ_of_lt hi))
    have h2 := h n (Nat.lt_succ_self n)
    rw [Nat.succ_mul]; omega
/-- class' static values are the same -/
def s_cs : List Nat := [f_k_kind, f_k_division, f_c_from, f_c_to, f_c_shift, f_c_kind, f_r_lowest, f_r_division, f_r_use, f_r_delay, f_r_rest, f_r_power, f_s_rows]
def s_eqC (I I' : e_I) : Prop := (∀ l, l < 2 → I' f_l_size l = I f_l_size l) ∧ ∀ F, F ∈ s_cs → ∀ i, I' F i = I F i
theorem s_eqC.rfl' {I : e_I} : s_eqC I I := ⟨fun _ _ => rfl, fun _ _ _ => rfl⟩
theorem s_eqC.trans {I I' I'' : e_I} (h : s_eqC I I') (h' : s_eqC I' I'') : s_eqC I I'' := ⟨fun l hl => (h'.1 l hl).trans (h.1 l hl), fun F hF i => (h'.2 F hF i).trans (h.2 F hF i)⟩
theorem s_eqC.up {I : e_I} {F i : Nat} {x : Int32} (h : (decide (F ≠ f_l_size) && !s_cs.contains F) = true) : s_eqC I (s_up I F i x) := by
  rw [Bool.and_eq_true] at h
  refine ⟨fun l _ => s_up_F (Ne.symm (of_decide_eq_true h.1)), fun F' hF' j => s_up_F (fun z => ?_)⟩
  subst z
  have := h.2
  rw [List.contains_iff_mem.mpr hF'] at this
  cases this
theorem s_eqC.fill {I : e_I} {F n : Nat} {x : Int32} (h : (decide (F ≠ f_l_size) && !s_cs.contains F) = true) : s_eqC I (s_fill I F n x) := by
  rw [Bool.and_eq_true] at h
  refine ⟨fun l _ => s_fill_F (Ne.symm (of_decide_eq_true h.1)), fun F' hF' j => s_fill_F (fun z => ?_)⟩
  subst z
  have := h.2
  rw [List.contains_iff_mem.mpr hF'] at this
  cases this
theorem s_C.eq {p : e_Sp} {I I' : e_I} {nk nr : Nat} (h : s_C p I nk nr) (e : s_eqC I I') : s_C p I' nk nr := by
  obtain ⟨a, b, c, d, f⟩ := h
  refine ⟨a, ⟨b.1, (e.1 1 (by decide)).trans b.2⟩, ⟨c.1, (e.1 0 (by decide)).trans c.2⟩, fun k hk => ?_, f⟩
  rw [e.2 f_k_kind (by decide) k, e.2 f_k_division (by decide) k]
  exact d k hk
def s_trm (I : e_I) (nk : Nat) (x : Int32) : Bool := s_ex nk (fun i => decide (I f_k_kind i = 116) && (decide (I f_k_division i = x) && s_dr I i))
def s_wo (I : e_I) (nk : Nat) (x y now : Int32) : Nat := s_sum nk (fun i => if (s_isco I i && (decide (I f_c_to i = x) && (s_wy I i && s_tks I i (y - I f_c_shift i) now))) = true then 1 else 0)
def s_rel (I : e_I) (nk : Nat) : Nat → e_I
  | 0 => I
  | r + 1 => s_up (s_rel I nk r) f_a_relaysOn r (bI (s_cmb (s_rel I nk r f_a_operations r) (bI (s_src (s_rel I nk r) nk (s_rel I nk r f_a_sources r))) (bI (s_src (s_rel I nk r) nk (s_rel I nk r f_a_others r)))))
theorem s_eqC.rel {I : e_I} {nk : Nat} : ∀ r, s_eqC I (s_rel I nk r)
  | 0 => s_eqC.rfl'
  | r + 1 => (s_eqC.rel r).trans (s_eqC.up (by decide))
set_option maxRecDepth 100000 in
set_option maxHeartbeats 4000000 in
theorem l_X0_trembles {X : e_XT} {d : Nat} {p : e_Sp} {I : e_I} {J : e_Jt} {c : Nat × Nat} {w : e_Rw1} {Q : e_Rt → e_SS → Prop} {nk nr : Nat} (hC : s_C p I nk nr) {x : Int32} (k : Q (.inl (some (.int (bI (s_trm I nk x))))) (p, I, J, c, w)) : ∀ (n : Nat) (i : Nat) (o3 : Option Value), (h1 : i ≤ nk) → (hf : s_ex i (fun i => decide (I f_k_kind i = 116) && (decide (I f_k_division i = x) && s_dr I i)) = false) → (hn : nk - i < n) → s_w X (d + 3) K_X0_trembles 2 [some (.ref (p.1 T_CONS 0)), some (.int x), some (.int (nI i)), o3] [] (p, I, J, c, w) (fun r S' => e_rcr (some FieldType.boolean) r = true ∧ Q r S') := by
  intro n
  induction n with
  | zero =>
    intro i o3 h1 hf hn
    exact absurd hn (Nat.not_lt_zero _)
  | succ n ih =>
    intro i o3 h1 hf hn
    have hp := hC.1
    have hk40 := hC.2.1.1
    have hsz := hC.2.1.2
    refine w_op (pc' := 3) dX0_trembles_2 rfl ?_
    refine w_op (pc' := 4) dX0_trembles_3 rfl ?_
    refine t_getG0 (G := g_n_knobs) dX0_trembles_4 rfl rfl (by decide) rfl (fun _ => rfl) (hp.1 _ rfl) ?_
    refine t_callV (t := T_LIST) (As := []) dX0_trembles_7 rfl rM_Jx4a65c_size_8abf5 (by decide) rfl rfl (by decide) (by decide) (Nat.le_of_ble_eq_true rfl) rfl (hp.2 _ (by decide)) (c_size (hp.2 _ (by decide)) ?_)
    show s_w _ _ _ 10 _ _ _ _
    rw [hsz]
    refine w_icmpge (t := 58) dX0_trembles_10 (by decide) (fun c10 => ?_) (fun c10 => ?_)
    · have hi : nk ≤ i := (nI_leI (by omega) (by omega)).mp c10
      refine w_iconst (v := 0) dX0_trembles_58 rfl ?_
      exact w_ireturn dX0_trembles_59 ⟨s_rcb (Or.inl rfl), s_eqi (by obtain rfl : i = nk := (by omega); unfold s_trm; rw [hf]; rfl) k⟩
    · have hi : i < nk := Nat.lt_of_not_le (fun z => c10 ((nI_leI (by omega) (by omega)).mpr z))
      refine w_op (pc' := 14) dX0_trembles_13 rfl ?_
      refine t_getG0 (G := g_n_knobs) dX0_trembles_14 rfl rfl (by decide) rfl (fun _ => rfl) (hp.1 _ rfl) ?_
      refine w_op (pc' := 18) dX0_trembles_17 rfl ?_
      refine t_callV (t := T_LIST) (As := [_]) dX0_trembles_18 rfl rM_Jx4a65c_get_915e3 (by decide) rfl rfl (by decide) (by decide) (Nat.le_of_ble_eq_true rfl) rfl (hp.2 _ (by decide)) (c_get1 hp hsz (by omega) hi ?_)
      show s_w _ _ _ 21 _ _ _ _
      refine t_chk dX0_trembles_21 rfl rfl (by decide) (hC.kn hi) ?_
      refine w_op (pc' := 25) (ll' := [_, _, _, _]) dX0_trembles_24 rfl ?_
      refine w_op (pc' := 26) dX0_trembles_25 rfl ?_
      refine t_getI (F := f_k_kind) dX0_trembles_26 rfl rfl (by decide) rfl ⟨rfl, fun _ => rfl⟩ (hC.kn hi) ?_
      refine w_bipush (v := 116) dX0_trembles_29 rfl ?_
      refine w_icmpne (t := 52) dX0_trembles_31 (by decide) (fun c31 => ?_) (fun c31 => ?_)
      · refine w_op (pc' := 55) (ll' := [_, _, _, _]) dX0_trembles_52 rfl ?_
        refine w_goto (t := 2) dX0_trembles_55 (by decide) ?_
        rw [show nI i + Int32.ofInt 1 = nI (i + 1) from nI_1 i]
        refine ih _ _ (by omega) ?_ (by omega)
        show (_ || _) = false
        rw [hf]
        grind
      · refine w_op (pc' := 35) dX0_trembles_34 rfl ?_
        refine t_getI (F := f_k_division) dX0_trembles_35 rfl rfl (by decide) rfl ⟨rfl, fun _ => rfl⟩ (hC.kn hi) ?_
        refine w_op (pc' := 39) dX0_trembles_38 rfl ?_
        refine w_icmpne (t := 52) dX0_trembles_39 (by decide) (fun c39 => ?_) (fun c39 => ?_)
        · refine w_op (pc' := 55) (ll' := [_, _, _, _]) dX0_trembles_52 rfl ?_
          refine w_goto (t := 2) dX0_trembles_55 (by decide) ?_
          rw [show nI i + Int32.ofInt 1 = nI (i + 1) from nI_1 i]
          refine ih _ _ (by omega) ?_ (by omega)
          show (_ || _) = false
          rw [hf]
          grind
        · refine w_op (pc' := 43) dX0_trembles_42 rfl ?_
          refine w_op (pc' := 44) dX0_trembles_43 rfl ?_
          refine t_callV (t := T_CONS) (As := [_]) dX0_trembles_44 rfl rM_X0_countsAsDrawn (by decide) rfl rfl (by decide) (by decide) (Nat.le_of_ble_eq_true rfl) rfl (hp.1 _ rfl) (c_X0_countsAsDrawn hp (hC.kn hi) ?_)
          show s_w _ _ _ 47 _ _ _ _
          refine w_ifeq (t := 52) dX0_trembles_47 (by decide) (fun c47 => ?_) (fun c47 => ?_)
          · refine w_op (pc' := 55) (ll' := [_, _, _, _]) dX0_trembles_52 rfl ?_
            refine w_goto (t := 2) dX0_trembles_55 (by decide) ?_
            rw [show nI i + Int32.ofInt 1 = nI (i + 1) from nI_1 i]
            refine ih _ _ (by omega) ?_ (by omega)
            show (_ || _) = false
            rw [hf]
            grind
          · refine w_iconst (v := 1) dX0_trembles_50 rfl ?_
            exact w_ireturn dX0_trembles_51 ⟨s_rcb (Or.inr rfl), s_eqi (by rw [show s_trm I nk x = true from s_ex_iff.mpr ⟨i, hi, by grind⟩]; rfl) k⟩
set_option maxRecDepth 100000 in
set_option maxHeartbeats 4000000 in
theorem c_X0_trembles {X : e_XT} {d : Nat} {p : e_Sp} {I : e_I} {J : e_Jt} {c : Nat × Nat} {w : e_Rw1} {Q : e_Rt → e_SS → Prop} {nk nr : Nat} (hC : s_C p I nk nr) {x : Int32} (k : Q (.inl (some (.int (bI (s_trm I nk x))))) (p, I, J, c, w)) : s_c X (d + 3) 24 [.ref (p.1 T_CONS 0), .int x] (p, I, J, c, w) Q := by
  refine m_X0_trembles (Nat.le_of_ble_eq_true rfl) ?_
  show s_w _ _ _ 0 _ _ _ _
  refine w_iconst (v := 0) dX0_trembles_0 rfl ?_
  refine w_op (pc' := 2) (ll' := [_, _, _, _]) dX0_trembles_1 rfl ?_
  exact l_X0_trembles hC k (nk + 1) 0 _ (Nat.zero_le _) rfl (by omega)
set_option maxRecDepth 100000 in
set_option maxHeartbeats 4000000 in
theorem l_X0_waysOf {X : e_XT} {d : Nat} {p : e_Sp} {I : e_I} {J : e_Jt} {c : Nat × Nat} {w : e_Rw1} {Q : e_Rt → e_SS → Prop} {nk nr : Nat} (hC : s_C p I nk nr) {x y z : Int32} (k : Q (.inl (some (.int (nI (s_wo I nk x y z))))) (p, I, J, c, w)) : ∀ (n : Nat) (i : Nat) (o7 o8 : Option Value), (h1 : i ≤ nk) → (hn : nk - i < n) → s_w X (d + 3) K_X0_waysOf 6 [some (.ref (p.1 T_CONS 0)), some (.int x), some (.int y), some (.ref (p.1 T_KEYS 0)), some (.int z), some (.int (nI (s_sum i (fun i => if (s_isco I i && (decide (I f_c_to i = x) && (s_wy I i && s_tks I i (y - I f_c_shift i) z))) = true then 1 else 0)))), some (.int (nI i)), o7, o8] [] (p, I, J, c, w) (fun r S' => e_rcr (some FieldType.int) r = true ∧ Q r S') := by
  intro n
  induction n with
  | zero =>
    intro i o7 o8 h1 hn
    exact absurd hn (Nat.not_lt_zero _)
  | succ n ih =>
    intro i o7 o8 h1 hn
    have hp := hC.1
    have hk40 := hC.2.1.1
    have hsz := hC.2.1.2
    refine w_op (pc' := 8) dX0_waysOf_6 rfl ?_
    refine w_op (pc' := 9) dX0_waysOf_8 rfl ?_
    refine t_getG0 (G := g_n_knobs) dX0_waysOf_9 rfl rfl (by decide) rfl (fun _ => rfl) (hp.1 _ rfl) ?_
    refine t_callV (t := T_LIST) (As := []) dX0_waysOf_12 rfl rM_Jx4a65c_size_8abf5 (by decide) rfl rfl (by decide) (by decide) (Nat.le_of_ble_eq_true rfl) rfl (hp.2 _ (by decide)) (c_size (hp.2 _ (by decide)) ?_)
    show s_w _ _ _ 15 _ _ _ _
    rw [hsz]
    refine w_icmpge (t := 89) dX0_waysOf_15 (by decide) (fun c15 => ?_) (fun c15 => ?_)
    · have hi : nk ≤ i := (nI_leI (by omega) (by omega)).mp c15
      refine w_op (pc' := 91) dX0_waysOf_89 rfl ?_
      exact w_ireturn dX0_waysOf_91 ⟨rfl, by obtain rfl : i = nk := (by omega); exact k⟩
    · have hi : i < nk := Nat.lt_of_not_le (fun z => c15 ((nI_leI (by omega) (by omega)).mpr z))
      refine w_op (pc' := 19) dX0_waysOf_18 rfl ?_
      refine t_getG0 (G := g_n_knobs) dX0_waysOf_19 rfl rfl (by decide) rfl (fun _ => rfl) (hp.1 _ rfl) ?_
      refine w_op (pc' := 24) dX0_waysOf_22 rfl ?_
      refine t_callV (t := T_LIST) (As := [_]) dX0_waysOf_24 rfl rM_Jx4a65c_get_915e3 (by decide) rfl rfl (by decide) (by decide) (Nat.le_of_ble_eq_true rfl) rfl (hp.2 _ (by decide)) (c_get1 hp hsz (by omega) hi ?_)
      show s_w _ _ _ 27 _ _ _ _
      refine t_chk dX0_waysOf_27 rfl rfl (by decide) (hC.kn hi) ?_
      refine w_op (pc' := 32) (ll' := [_, _, _, _, _, _, _, _, _]) dX0_waysOf_30 rfl ?_
      refine w_op (pc' := 34) dX0_waysOf_32 rfl ?_
      refine t_getCoup dX0_waysOf_34 rfl (hC.kn hi) ?_
      by_cases z34 : p.2.1 T_COUP (i) = true
      · rw [if_pos z34]
        refine w_op (pc' := 39) (ll' := [_, _, _, _, _, _, _, _, _]) dX0_waysOf_37 rfl ?_
        refine w_op (pc' := 41) dX0_waysOf_39 rfl ?_
        refine w_ifnull_f dX0_waysOf_41 ?_
        refine w_op (pc' := 46) dX0_waysOf_44 rfl ?_
        refine t_getI (F := f_c_to) dX0_waysOf_46 rfl rfl (by decide) rfl ⟨rfl, fun _ => rfl⟩ (by assumption) ?_
        refine w_op (pc' := 50) dX0_waysOf_49 rfl ?_
        refine w_icmpne (t := 83) dX0_waysOf_50 (by decide) (fun c50 => ?_) (fun c50 => ?_)
        · refine w_op (pc' := 86) (ll' := [_, _, _, _, _, _, _, _, _]) dX0_waysOf_83 rfl ?_
          refine w_goto (t := 6) dX0_waysOf_86 (by decide) ?_
          rw [show nI i + Int32.ofInt 1 = nI (i + 1) from nI_1 i]
          have e9 : s_sum (i + 1) (fun i => if (s_isco I i && (decide (I f_c_to i = x) && (s_wy I i && s_tks I i (y - I f_c_shift i) z))) = true then 1 else 0) = s_sum i (fun i => if (s_isco I i && (decide (I f_c_to i = x) && (s_wy I i && s_tks I i (y - I f_c_shift i) z))) = true then 1 else 0) + 0 := by
            show s_sum i _ + (if _ then 1 else 0) = _
            have h9 := hC.co hi
            congr 1
            unfold s_isco
            grind
          rw [← Nat.add_zero (s_sum i _), ← e9]
          exact ih _ _ _ (by omega) (by omega)
        · refine w_op (pc' := 54) dX0_waysOf_53 rfl ?_
          refine w_op (pc' := 56) dX0_waysOf_54 rfl ?_
          refine t_callV (t := T_CONS) (As := [_]) dX0_waysOf_56 rfl rM_X0_isWay (by decide) rfl rfl (by decide) (by decide) (Nat.le_of_ble_eq_true rfl) rfl (hp.1 _ rfl) (c_X0_isWay hp (hC.kn hi) (hC.co hi) ?_)
          show s_w _ _ _ 59 _ _ _ _
          refine w_ifeq (t := 83) dX0_waysOf_59 (by decide) (fun c59 => ?_) (fun c59 => ?_)
          · refine w_op (pc' := 86) (ll' := [_, _, _, _, _, _, _, _, _]) dX0_waysOf_83 rfl ?_
            refine w_goto (t := 6) dX0_waysOf_86 (by decide) ?_
            rw [show nI i + Int32.ofInt 1 = nI (i + 1) from nI_1 i]
            have e9 : s_sum (i + 1) (fun i => if (s_isco I i && (decide (I f_c_to i = x) && (s_wy I i && s_tks I i (y - I f_c_shift i) z))) = true then 1 else 0) = s_sum i (fun i => if (s_isco I i && (decide (I f_c_to i = x) && (s_wy I i && s_tks I i (y - I f_c_shift i) z))) = true then 1 else 0) + 0 := by
              show s_sum i _ + (if _ then 1 else 0) = _
              have h9 := hC.co hi
              congr 1
              unfold s_isco
              grind
            rw [← Nat.add_zero (s_sum i _), ← e9]
            exact ih _ _ _ (by omega) (by omega)
          · refine w_op (pc' := 64) dX0_waysOf_62 rfl ?_
            refine w_op (pc' := 65) dX0_waysOf_64 rfl ?_
            refine w_op (pc' := 67) dX0_waysOf_65 rfl ?_
            refine t_getI (F := f_c_shift) dX0_waysOf_67 rfl rfl (by decide) rfl ⟨rfl, fun _ => rfl⟩ (by assumption) ?_
            refine w_op (pc' := 71) dX0_waysOf_70 rfl ?_
            refine w_op (pc' := 72) dX0_waysOf_71 rfl ?_
            refine w_op (pc' := 74) dX0_waysOf_72 rfl ?_
            refine t_callV (t := T_COUP) (As := [_, _, _]) dX0_waysOf_74 rfl rM_X2_takes (by decide) rfl rfl (by decide) (by decide) (Nat.le_of_ble_eq_true rfl) rfl (by assumption) (c_X2_takes hp (by assumption) ?_)
            show s_w _ _ _ 77 _ _ _ _
            refine w_ifeq (t := 83) dX0_waysOf_77 (by decide) (fun c77 => ?_) (fun c77 => ?_)
            · refine w_op (pc' := 86) (ll' := [_, _, _, _, _, _, _, _, _]) dX0_waysOf_83 rfl ?_
              refine w_goto (t := 6) dX0_waysOf_86 (by decide) ?_
              rw [show nI i + Int32.ofInt 1 = nI (i + 1) from nI_1 i]
              have e9 : s_sum (i + 1) (fun i => if (s_isco I i && (decide (I f_c_to i = x) && (s_wy I i && s_tks I i (y - I f_c_shift i) z))) = true then 1 else 0) = s_sum i (fun i => if (s_isco I i && (decide (I f_c_to i = x) && (s_wy I i && s_tks I i (y - I f_c_shift i) z))) = true then 1 else 0) + 0 := by
                show s_sum i _ + (if _ then 1 else 0) = _
                have h9 := hC.co hi
                congr 1
                unfold s_isco
                grind
              rw [← Nat.add_zero (s_sum i _), ← e9]
              exact ih _ _ _ (by omega) (by omega)
            · refine w_op (pc' := 83) (ll' := [_, _, _, _, _, _, _, _, _]) dX0_waysOf_80 rfl ?_
              refine w_op (pc' := 86) (ll' := [_, _, _, _, _, _, _, _, _]) dX0_waysOf_83 rfl ?_
              refine w_goto (t := 6) dX0_waysOf_86 (by decide) ?_
              rw [show nI i + Int32.ofInt 1 = nI (i + 1) from nI_1 i]
              rw [show ∀ a : Nat, nI a + Int32.ofInt 1 = nI (a + 1) from fun a => nI_1 a]
              have e9 : s_sum (i + 1) (fun i => if (s_isco I i && (decide (I f_c_to i = x) && (s_wy I i && s_tks I i (y - I f_c_shift i) z))) = true then 1 else 0) = s_sum i (fun i => if (s_isco I i && (decide (I f_c_to i = x) && (s_wy I i && s_tks I i (y - I f_c_shift i) z))) = true then 1 else 0) + 1 := by
                show s_sum i _ + (if _ then 1 else 0) = _
                have h9 := hC.co hi
                congr 1
                unfold s_isco
                grind
              rw [← e9]
              exact ih _ _ _ (by omega) (by omega)
      · rw [if_neg z34]
        refine w_op (pc' := 39) (ll' := [_, _, _, _, _, _, _, _, _]) dX0_waysOf_37 rfl ?_
        refine w_op (pc' := 41) dX0_waysOf_39 rfl ?_
        refine w_ifnull_t (t := 83) dX0_waysOf_41 (by decide) ?_
        refine w_op (pc' := 86) (ll' := [_, _, _, _, _, _, _, _, _]) dX0_waysOf_83 rfl ?_
        refine w_goto (t := 6) dX0_waysOf_86 (by decide) ?_
        rw [show nI i + Int32.ofInt 1 = nI (i + 1) from nI_1 i]
        have e9 : s_sum (i + 1) (fun i => if (s_isco I i && (decide (I f_c_to i = x) && (s_wy I i && s_tks I i (y - I f_c_shift i) z))) = true then 1 else 0) = s_sum i (fun i => if (s_isco I i && (decide (I f_c_to i = x) && (s_wy I i && s_tks I i (y - I f_c_shift i) z))) = true then 1 else 0) + 0 := by
          show s_sum i _ + (if _ then 1 else 0) = _
          have h9 := hC.co hi
          congr 1
          unfold s_isco
          grind
        rw [← Nat.add_zero (s_sum i _), ← e9]
        exact ih _ _ _ (by omega) (by omega)
set_option maxRecDepth 100000 in
set_option maxHeartbeats 4000000 in
theorem c_X0_waysOf {X : e_XT} {d : Nat} {p : e_Sp} {I : e_I} {J : e_Jt} {c : Nat × Nat} {w : e_Rw1} {Q : e_Rt → e_SS → Prop} {nk nr : Nat} (hC : s_C p I nk nr) {x y z : Int32} (k : Q (.inl (some (.int (nI (s_wo I nk x y z))))) (p, I, J, c, w)) : s_c X (d + 3) 26 [.ref (p.1 T_CONS 0), .int x, .int y, .ref (p.1 T_KEYS 0), .int z] (p, I, J, c, w) Q := by
  refine m_X0_waysOf (Nat.le_of_ble_eq_true rfl) ?_
  show s_w _ _ _ 0 _ _ _ _
  refine w_iconst (v := 0) dX0_waysOf_0 rfl ?_
  refine w_op (pc' := 3) (ll' := [_, _, _, _, _, _, _, _, _]) dX0_waysOf_1 rfl ?_
  refine w_iconst (v := 0) dX0_waysOf_3 rfl ?_
  refine w_op (pc' := 6) (ll' := [_, _, _, _, _, _, _, _, _]) dX0_waysOf_4 rfl ?_
  exact l_X0_waysOf hC k (nk + 1) 0 _ _ (Nat.zero_le _) (by omega)
set_option maxRecDepth 100000 in
set_option maxHeartbeats 4000000 in
theorem c_X0_knobAt {X : e_XT} {d : Nat} {p : e_Sp} {I : e_I} {J : e_Jt} {c : Nat × Nat} {w : e_Rw1} {Q : e_Rt → e_SS → Prop} {nk nr : Nat} (hC : s_C p I nk nr) {x : Int32} (k1 : ∀ j, j < nk → x = nI j → Q (.inl (some (.ref (p.1 T_KNOB j)))) (p, I, J, c, w)) (k2 : (x < 0 ∨ nI nk ≤ x) → Q (.inl (some .null)) (p, I, J, c, w)) : s_c X (d + 3) 19 [.ref (p.1 T_CONS 0), .int x] (p, I, J, c, w) Q := by
  have hp := hC.1
  have hk40 := hC.2.1.1
  have hsz := hC.2.1.2
  refine m_X0_knobAt (Nat.le_of_ble_eq_true rfl) ?_
  show s_w _ _ _ 0 _ _ _ _
  refine w_op (pc' := 1) dX0_knobAt_0 rfl ?_
  refine w_iflt (t := 15) dX0_knobAt_1 (by decide) (fun c1 => ?_) (fun c1 => ?_)
  · refine w_op (pc' := 16) dX0_knobAt_15 rfl ?_
    refine w_goto (t := 30) dX0_knobAt_16 (by decide) ?_
    exact w_areturnN dX0_knobAt_30 ⟨rfl, k2 (Or.inl c1)⟩
  · refine w_op (pc' := 5) dX0_knobAt_4 rfl ?_
    refine w_op (pc' := 6) dX0_knobAt_5 rfl ?_
    refine t_getG0 (G := g_n_knobs) dX0_knobAt_6 rfl rfl (by decide) rfl (fun _ => rfl) (hp.1 _ rfl) ?_
    refine t_callV (t := T_LIST) (As := []) dX0_knobAt_9 rfl rM_Jx4a65c_size_8abf5 (by decide) rfl rfl (by decide) (by decide) (Nat.le_of_ble_eq_true rfl) rfl (hp.2 _ (by decide)) (c_size (hp.2 _ (by decide)) ?_)
    show s_w _ _ _ 12 _ _ _ _
    rw [hsz]
    refine w_icmplt (t := 19) dX0_knobAt_12 (by decide) (fun c12 => ?_) (fun c12 => ?_)
    · obtain ⟨i, hi, rfl⟩ := s_nat (Int32.not_lt.mp c1) c12 (by omega)
      refine w_op (pc' := 20) dX0_knobAt_19 rfl ?_
      refine t_getG0 (G := g_n_knobs) dX0_knobAt_20 rfl rfl (by decide) rfl (fun _ => rfl) (hp.1 _ rfl) ?_
      refine w_op (pc' := 24) dX0_knobAt_23 rfl ?_
      refine t_callV (t := T_LIST) (As := [_]) dX0_knobAt_24 rfl rM_Jx4a65c_get_915e3 (by decide) rfl rfl (by decide) (by decide) (Nat.le_of_ble_eq_true rfl) rfl (hp.2 _ (by decide)) (c_get1 hp hsz (by omega) hi ?_)
      show s_w _ _ _ 27 _ _ _ _
      refine t_chk dX0_knobAt_27 rfl rfl (by decide) (hC.kn hi) ?_
      exact w_areturn dX0_knobAt_30 ⟨rfl, k1 i hi rfl⟩
    · refine w_op (pc' := 16) dX0_knobAt_15 rfl ?_
      refine w_goto (t := 30) dX0_knobAt_16 (by decide) ?_
      exact w_areturnN dX0_knobAt_30 ⟨rfl, k2 (Or.inr (Int32.not_lt.mp c12))⟩
set_option maxRecDepth 100000 in
set_option maxHeartbeats 4000000 in
theorem c_X0_isSourceOn {X : e_XT} {d : Nat} {p : e_Sp} {I : e_I} {J : e_Jt} {c : Nat × Nat} {w : e_Rw1} {Q : e_Rt → e_SS → Prop} {nk nr : Nat} (hC : s_C p I nk nr) {x : Int32} (k : Q (.inl (some (.int (bI (s_src I nk x))))) (p, I, J, c, w)) : s_c X (d + 4) 17 [.ref (p.1 T_CONS 0), .int x, .ref (p.1 T_KEYS 0)] (p, I, J, c, w) Q := by
  have hp := hC.1
  have hk40 := hC.2.1.1
  have hsz := hC.2.1.2
  refine m_X0_isSourceOn (Nat.le_of_ble_eq_true rfl) ?_
  show s_w _ _ _ 0 _ _ _ _
  refine w_op (pc' := 1) dX0_isSourceOn_0 rfl ?_
  refine w_sipush (v := 400) dX0_isSourceOn_1 rfl ?_
  refine w_icmplt (t := 17) dX0_isSourceOn_4 (by decide) (fun c4 => ?_) (fun c4 => ?_)
  · refine w_op (pc' := 18) dX0_isSourceOn_17 rfl ?_
    refine w_bipush (v := 100) dX0_isSourceOn_18 rfl ?_
    refine w_icmplt (t := 38) dX0_isSourceOn_20 (by decide) (fun c20 => ?_) (fun c20 => ?_)
    · refine w_op (pc' := 39) dX0_isSourceOn_38 rfl ?_
      refine w_op (pc' := 40) dX0_isSourceOn_39 rfl ?_
      refine t_callV (t := T_CONS) (As := [_]) dX0_isSourceOn_40 rfl rM_X0_knobAt (by decide) rfl rfl (by decide) (by decide) (Nat.le_of_ble_eq_true rfl) rfl (hp.1 _ rfl) (c_X0_knobAt hC (fun j hj hx => ?_) (fun hx => ?_))
      · show s_w _ _ _ 43 _ _ _ _
        refine w_op (pc' := 44) (ll' := [_, _, _, _]) dX0_isSourceOn_43 rfl ?_
        refine w_op (pc' := 45) dX0_isSourceOn_44 rfl ?_
        refine w_ifnull_f dX0_isSourceOn_45 ?_
        refine w_op (pc' := 49) dX0_isSourceOn_48 rfl ?_
        refine t_getI (F := f_k_isOut) dX0_isSourceOn_49 rfl rfl (by decide) rfl ⟨rfl, fun _ => rfl⟩ (hC.kn hj) ?_
        refine w_ifeq (t := 59) dX0_isSourceOn_52 (by decide) (fun c52 => ?_) (fun c52 => ?_)
        · refine w_iconst (v := 0) dX0_isSourceOn_59 rfl ?_
          exact w_ireturn dX0_isSourceOn_60 ⟨s_rcb (by first | exact Or.inl rfl | exact Or.inr rfl), s_eqi (by subst hx; unfold s_src; rw [if_neg (Int32.not_le.mpr c4), if_neg (Int32.not_le.mpr c20), nI_clamp (by omega)]; have h1 := nI_pos' (n := j) (by omega); have h2 : nI j < nI nk := (nI_ltI (by omega) (by omega)).mpr hj; grind) k⟩
        · refine w_iconst (v := 1) dX0_isSourceOn_55 rfl ?_
          refine w_goto (t := 60) dX0_isSourceOn_56 (by decide) ?_
          exact w_ireturn dX0_isSourceOn_60 ⟨s_rcb (by first | exact Or.inl rfl | exact Or.inr rfl), s_eqi (by subst hx; unfold s_src; rw [if_neg (Int32.not_le.mpr c4), if_neg (Int32.not_le.mpr c20), nI_clamp (by omega)]; have h1 := nI_pos' (n := j) (by omega); have h2 : nI j < nI nk := (nI_ltI (by omega) (by omega)).mpr hj; grind) k⟩
      · show s_w _ _ _ 43 _ _ _ _
        refine w_op (pc' := 44) (ll' := [_, _, _, _]) dX0_isSourceOn_43 rfl ?_
        refine w_op (pc' := 45) dX0_isSourceOn_44 rfl ?_
        refine w_ifnull_t (t := 59) dX0_isSourceOn_45 (by decide) ?_
        refine w_iconst (v := 0) dX0_isSourceOn_59 rfl ?_
        exact w_ireturn dX0_isSourceOn_60 ⟨s_rcb (Or.inl rfl), s_eqi (by unfold s_src; rw [if_neg (Int32.not_le.mpr c4), if_neg (Int32.not_le.mpr c20)]; grind) k⟩
    · refine w_op (pc' := 24) dX0_isSourceOn_23 rfl ?_
      refine w_op (pc' := 25) dX0_isSourceOn_24 rfl ?_
      refine w_bipush (v := 100) dX0_isSourceOn_25 rfl ?_
      refine w_op (pc' := 28) dX0_isSourceOn_27 (by rfl) ?_
      refine w_iconst (v := 1) dX0_isSourceOn_28 rfl ?_
      refine w_op (pc' := 30) dX0_isSourceOn_29 rfl ?_
      refine w_op (pc' := 31) dX0_isSourceOn_30 rfl ?_
      refine w_bipush (v := 100) dX0_isSourceOn_31 rfl ?_
      refine w_op (pc' := 34) dX0_isSourceOn_33 (by rfl) ?_
      refine t_callV (t := T_KEYS) (As := [_, _]) dX0_isSourceOn_34 rfl rM_X3_isPressed (by decide) rfl rfl (by decide) (by decide) (Nat.le_of_ble_eq_true rfl) rfl (hp.1 _ rfl) (c_X3_isPressed hp ?_)
      show s_w _ _ _ 37 _ _ _ _
      exact w_ireturn dX0_isSourceOn_37 ⟨s_rcb (bI_or _), s_eqi (by unfold s_src; grind) k⟩
  · refine w_op (pc' := 8) dX0_isSourceOn_7 rfl ?_
    refine w_op (pc' := 9) dX0_isSourceOn_8 rfl ?_
    refine w_sipush (v := 400) dX0_isSourceOn_9 rfl ?_
    refine w_op (pc' := 13) dX0_isSourceOn_12 rfl ?_
    refine t_callV (t := T_CONS) (As := [_]) dX0_isSourceOn_13 rfl rM_X0_isRelayOn (by decide) rfl rfl (by decide) (by decide) (Nat.le_of_ble_eq_true rfl) rfl (hp.1 _ rfl) (c_X0_isRelayOn hp ?_)
    show s_w _ _ _ 16 _ _ _ _
    exact w_ireturn dX0_isSourceOn_16 ⟨s_rcb (bI_or _), s_eqi (by unfold s_src; grind) k⟩
set_option maxRecDepth 100000 in
set_option maxHeartbeats 4000000 in
theorem l_X0_findRelays {X : e_XT} {d : Nat} {p : e_Sp} {I : e_I} {J : e_Jt} {c : Nat × Nat} {w : e_Rw1} {Q : e_Rt → e_SS → Prop} {nk nr : Nat} (hC : s_C p I nk nr) (k : Q (.inl none) (p, s_rel I nk 16, J, c, w)) : ∀ (n : Nat) (i : Nat) (o3 o4 : Option Value), (h1 : i ≤ 16) → (hn : 16 - i < n) → s_w X (d + 5) K_X0_findRelays 2 [some (.ref (p.1 T_CONS 0)), some (.ref (p.1 T_KEYS 0)), some (.int (nI i)), o3, o4] [] (p, s_rel I nk i, J, c, w) (fun r S' => e_rcr (none) r = true ∧ Q r S') := by
  intro n
  induction n with
  | zero =>
    intro i o3 o4 h1 hn
    exact absurd hn (Nat.not_lt_zero _)
  | succ n ih =>
    intro i o3 o4 h1 hn
    have hp := hC.1
    have hk40 := hC.2.1.1
    have hsz := hC.2.1.2
    refine w_op (pc' := 3) dX0_findRelays_2 rfl ?_
    refine w_bipush (v := 16) dX0_findRelays_3 rfl ?_
    refine w_icmpge (t := 57) dX0_findRelays_5 (by decide) (fun c5 => ?_) (fun c5 => ?_)
    · have hi : 16 ≤ i := (nI_leI (a := 16) (by omega) (by omega)).mp c5
      exact w_return dX0_findRelays_57 ⟨rfl, by obtain rfl : i = 16 := (by omega); exact k⟩
    · have hi : i < 16 := Nat.lt_of_not_le (fun z => c5 ((nI_leI (a := 16) (by omega) (by omega)).mpr z))
      refine w_op (pc' := 9) dX0_findRelays_8 rfl ?_
      refine w_op (pc' := 10) dX0_findRelays_9 rfl ?_
      refine t_getG0 (G := g_n_sources) dX0_findRelays_10 rfl rfl (by decide) rfl (fun _ => rfl) (hp.1 _ rfl) ?_
      refine w_op (pc' := 14) dX0_findRelays_13 rfl ?_
      refine t_iald0 (F := f_a_sources) dX0_findRelays_14 rfl (by decide) rfl (hp.1 _ rfl) (s_ix.nI (N := 16) hi (by decide)) hi ?_
      refine w_op (pc' := 16) dX0_findRelays_15 rfl ?_
      refine t_callV (t := T_CONS) (As := [_, _]) dX0_findRelays_16 rfl rM_X0_isSourceOn (by decide) rfl rfl (by decide) (by decide) (Nat.le_of_ble_eq_true rfl) rfl (hp.1 _ rfl) (c_X0_isSourceOn (hC.eq (s_eqC.rel i)) ?_)
      show s_w _ _ _ 19 _ _ _ _
      refine w_op (pc' := 20) (ll' := [_, _, _, _, _]) dX0_findRelays_19 rfl ?_
      refine w_op (pc' := 21) dX0_findRelays_20 rfl ?_
      refine w_op (pc' := 22) dX0_findRelays_21 rfl ?_
      refine t_getG0 (G := g_n_others) dX0_findRelays_22 rfl rfl (by decide) rfl (fun _ => rfl) (hp.1 _ rfl) ?_
      refine w_op (pc' := 26) dX0_findRelays_25 rfl ?_
      refine t_iald0 (F := f_a_others) dX0_findRelays_26 rfl (by decide) rfl (hp.1 _ rfl) (s_ix.nI (N := 16) hi (by decide)) hi ?_
      refine w_op (pc' := 28) dX0_findRelays_27 rfl ?_
      refine t_callV (t := T_CONS) (As := [_, _]) dX0_findRelays_28 rfl rM_X0_isSourceOn (by decide) rfl rfl (by decide) (by decide) (Nat.le_of_ble_eq_true rfl) rfl (hp.1 _ rfl) (c_X0_isSourceOn (hC.eq (s_eqC.rel i)) ?_)
      show s_w _ _ _ 31 _ _ _ _
      refine w_op (pc' := 33) (ll' := [_, _, _, _, _]) dX0_findRelays_31 rfl ?_
      refine w_op (pc' := 34) dX0_findRelays_33 rfl ?_
      refine t_getG0 (G := g_n_relaysOn) dX0_findRelays_34 rfl rfl (by decide) rfl (fun _ => rfl) (hp.1 _ rfl) ?_
      refine w_op (pc' := 38) dX0_findRelays_37 rfl ?_
      refine w_op (pc' := 39) dX0_findRelays_38 rfl ?_
      refine t_getG0 (G := g_n_operations) dX0_findRelays_39 rfl rfl (by decide) rfl (fun _ => rfl) (hp.1 _ rfl) ?_
      refine w_op (pc' := 43) dX0_findRelays_42 rfl ?_
      refine t_cald0 (F := f_a_operations) dX0_findRelays_43 rfl (by decide) rfl (hp.1 _ rfl) (s_ix.nI (N := 16) hi (by decide)) hi ?_
      refine w_op (pc' := 45) dX0_findRelays_44 rfl ?_
      refine w_op (pc' := 47) dX0_findRelays_45 rfl ?_
      refine t_callS (As := [_, _, _]) dX0_findRelays_47 rfl rM_X0_combines (by decide) rfl rfl (by decide) (Nat.le_of_ble_eq_true rfl) (c_X0_combines ?_)
      show s_w _ _ _ 50 _ _ _ _
      refine t_bast0 (F := f_a_relaysOn) dX0_findRelays_50 rfl (by decide) (by decide) rfl (hp.1 _ rfl) (s_ix.nI (N := 16) hi (by decide)) hi (bI_or _) ?_
      refine w_op (pc' := 54) (ll' := [_, _, _, _, _]) dX0_findRelays_51 rfl ?_
      refine w_goto (t := 2) dX0_findRelays_54 (by decide) ?_
      rw [show nI i + Int32.ofInt 1 = nI (i + 1) from nI_1 i]
      exact ih (i + 1) _ _ (by omega) (by omega)
set_option maxRecDepth 100000 in
set_option maxHeartbeats 4000000 in
theorem c_X0_findRelays {X : e_XT} {d : Nat} {p : e_Sp} {I : e_I} {J : e_Jt} {c : Nat × Nat} {w : e_Rw1} {Q : e_Rt → e_SS → Prop} {nk nr : Nat} (hC : s_C p I nk nr) (k : Q (.inl none) (p, s_rel I nk 16, J, c, w)) : s_c X (d + 5) 16 [.ref (p.1 T_CONS 0), .ref (p.1 T_KEYS 0)] (p, I, J, c, w) Q := by
  refine m_X0_findRelays (Nat.le_of_ble_eq_true rfl) ?_
  show s_w _ _ _ 0 _ _ _ _
  refine w_iconst (v := 0) dX0_findRelays_0 rfl ?_
  refine w_op (pc' := 2) (ll' := [_, _, _, _, _]) dX0_findRelays_1 rfl ?_
  exact l_X0_findRelays hC k 17 0 _ _ (Nat.zero_le _) (by omega)
