/-! 60: a key that a figure asks for (printed by wip/whole/p60.py) -/
def s_r7 (x : Int32) : Int32 := x - x / nI 7 * nI 7
def s_askP (X : e_XT) (dg f : Int32) (g i : Nat) : Bool := decide (s_r7 (dg + (X g).2 i) = f)
def s_ask (X : e_XT) (I : e_I) (dg : Int32) (g : Nat) (x : Int32) : Bool := !decide (s_deg X I x < 0) && s_ex (X g).1 (s_askP X dg (s_deg X I x) g)
set_option maxRecDepth 100000 in
set_option maxHeartbeats 4000000 in
theorem l_X1_asks {X : e_XT} {d : Nat} {p : e_Sp} {I : e_I} {J : e_Jt} {c : Nat × Nat} {w : e_Rw1} {Q : e_Rt → e_SS → Prop} (hp : s_ok p) (hc : c.1 < e_xb) (hl : (X 6).1 = 7 ∧ (X 7).1 = 7) {g : Nat} (hg : g < 6) (hgl : (X g).1 ≤ 100) {dg x : Int32} (hd : ¬ s_deg X I x < 0) (k : Q (.inl (some (.int (bI (s_ask X I dg g x))))) (p, I, J, c, w)) : ∀ (n : Nat) (i : Nat) (o8 : Option Value), (h1 : i ≤ (X g).1) → (hf : s_ex i (s_askP X dg (s_deg X I x) g) = false) → (hn : (X g).1 - i < n) → s_w X (d + 1) K_X1_asks 25 [some (.ref (p.1 T_CONT 0)), some (.int dg), some (.ref (e_xb + g)), some (.int x), some (.int (s_deg X I x)), some (.ref (e_xb + g)), some (.int (nI (X g).1)), some (.int (nI i)), o8] [] (p, I, J, c, w) (fun r S' => e_rcr (some FieldType.boolean) r = true ∧ Q r S') := by
  intro n
  induction n with
  | zero =>
    intro i o8 h1 hf hn
    exact absurd hn (Nat.not_lt_zero _)
  | succ n ih =>
    intro i o8 h1 hf hn
    refine w_op (pc' := 27) dX1_asks_25 rfl ?_
    refine w_op (pc' := 29) dX1_asks_27 rfl ?_
    refine w_icmpge (t := 61) dX1_asks_29 (by decide) (fun c29 => ?_) (fun c29 => ?_)
    · refine w_iconst (v := 0) dX1_asks_61 rfl ?_
      exact w_ireturn dX1_asks_62 ⟨s_rcb (Or.inl rfl), s_eqi (by rw [show s_ask X I dg g x = false from (by unfold s_ask; rw [show (X g).1 = i by (have := (nI_leI (a := (X g).1) (by omega) (by omega)).mp c29; omega), hf]; exact Bool.and_false _)]; rfl) k⟩
    · have hi : i < (X g).1 := Nat.lt_of_not_le (fun z => c29 ((nI_leI (a := (X g).1) (by omega) (by omega)).mpr z))
      refine w_op (pc' := 34) dX1_asks_32 rfl ?_
      refine w_op (pc' := 36) dX1_asks_34 rfl ?_
      refine t_xald dX1_asks_36 (by omega) (s_ix.nI hi (by omega)) hc ?_
      refine w_op (pc' := 39) (ll' := [_, _, _, _, _, _, _, _, _]) dX1_asks_37 rfl ?_
      refine w_op (pc' := 40) dX1_asks_39 rfl ?_
      refine w_op (pc' := 42) dX1_asks_40 rfl ?_
      refine w_op (pc' := 43) dX1_asks_42 rfl ?_
      refine w_gets dX1_asks_43 rfl ?_
      refine t_xlen dX1_asks_46 (by decide) hc ?_
      rw [hl.1]
      refine w_op (pc' := 48) dX1_asks_47 (by rfl) ?_
      refine w_op (pc' := 50) dX1_asks_48 rfl ?_
      refine w_icmpne (t := 55) dX1_asks_50 (by decide) (fun c50 => ?_) (fun c50 => ?_)
      · refine w_op (pc' := 58) (ll' := [_, _, _, _, _, _, _, _, _]) dX1_asks_55 rfl ?_
        refine w_goto (t := 25) dX1_asks_58 (by decide) ?_
        rw [show nI i + Int32.ofInt 1 = nI (i + 1) from nI_1 i]
        refine ih (i + 1) _ (by omega) ?_ (by omega)
        show (_ || s_askP X dg (s_deg X I x) g i) = false
        rw [hf]
        exact decide_eq_false c50
      · refine w_iconst (v := 1) dX1_asks_53 rfl ?_
        exact w_ireturn dX1_asks_54 ⟨s_rcb (Or.inr rfl), s_eqi (by rw [show s_ask X I dg g x = true from (by unfold s_ask; rw [decide_eq_false hd, s_ex_iff.mpr ⟨i, hi, decide_eq_true c50⟩]; rfl)]; rfl) k⟩
set_option maxRecDepth 100000 in
set_option maxHeartbeats 4000000 in
theorem c_X1_asks {X : e_XT} {d : Nat} {p : e_Sp} {I : e_I} {J : e_Jt} {c : Nat × Nat} {w : e_Rw1} {Q : e_Rt → e_SS → Prop} (hp : s_ok p) (hc : c.1 < e_xb) (hl : (X 6).1 = 7 ∧ (X 7).1 = 7) {g : Nat} (hg : g < 6) (hgl : (X g).1 ≤ 100) {dg x : Int32} (k : Q (.inl (some (.int (bI (s_ask X I dg g x))))) (p, I, J, c, w)) : s_c X (d + 1) 38 [.ref (p.1 T_CONT 0), .int dg, .ref (e_xb + g), .int x] (p, I, J, c, w) Q := by
  refine m_X1_asks (Nat.le_of_ble_eq_true rfl) ?_
  show s_w _ _ _ 0 _ _ _ _
  refine w_op (pc' := 1) dX1_asks_0 rfl ?_
  refine w_op (pc' := 2) dX1_asks_1 rfl ?_
  refine t_callV (t := T_CONT) (As := [_]) dX1_asks_2 rfl rM_X1_degreeOf (by decide) rfl rfl (by decide) (by decide) (Nat.le_of_ble_eq_true rfl) rfl (hp.1 _ rfl) (c_X1_degreeOf hp hc ⟨by omega, by omega⟩ ?_)
  show s_w _ _ _ 5 _ _ _ _
  refine w_op (pc' := 7) (ll' := [_, _, _, _, _, _, _, _, _]) dX1_asks_5 rfl ?_
  refine w_op (pc' := 9) dX1_asks_7 rfl ?_
  refine w_ifge (t := 14) dX1_asks_9 (by decide) (fun c9 => ?_) (fun c9 => ?_)
  · refine w_op (pc' := 15) dX1_asks_14 rfl ?_
    refine w_op (pc' := 17) (ll' := [_, _, _, _, _, _, _, _, _]) dX1_asks_15 rfl ?_
    refine w_op (pc' := 19) dX1_asks_17 rfl ?_
    refine t_xlen dX1_asks_19 (by omega) hc ?_
    refine w_op (pc' := 22) (ll' := [_, _, _, _, _, _, _, _, _]) dX1_asks_20 rfl ?_
    refine w_iconst (v := 0) dX1_asks_22 rfl ?_
    refine w_op (pc' := 25) (ll' := [_, _, _, _, _, _, _, _, _]) dX1_asks_23 rfl ?_
    exact l_X1_asks hp hc hl hg hgl (Int32.not_lt.mpr c9) k ((X g).1 + 1) 0 _ (Nat.zero_le _) rfl (by omega)
  · refine w_iconst (v := 0) dX1_asks_12 rfl ?_
    exact w_ireturn dX1_asks_13 ⟨s_rcb (Or.inl rfl), s_eqi (by unfold s_ask; rw [decide_eq_true (Int32.not_le.mp c9)]; rfl) k⟩
