/-! 76: things that are being made: their fields, their rows -/
def s_rw (w : e_Rw1) (b : Nat) (o : Nat × Nat × (Nat → Value)) : e_Rw1 := fun b' => if b' = b then some o else w b'
def s_fu (f : Nat → Value) (sl : Nat) (v : Value) : Nat → Value := fun s => if s = sl then v else f s
def s_nul : Nat → Value := fun _ => .null
theorem s_rw_rw {w : e_Rw1} {b : Nat} {o o' : Nat × Nat × (Nat → Value)} : s_rw (s_rw w b o) b o' = s_rw w b o' := by
  funext b'
  unfold s_rw
  by_cases e : b' = b
  · rw [if_pos e, if_pos e]
  · rw [if_neg e, if_neg e, if_neg e]
theorem s_rw_s {w : e_Rw1} {b : Nat} {o : Nat × Nat × (Nat → Value)} : s_rw w b o b = some o := if_pos rfl
theorem s_rw_n {w : e_Rw1} {b b' : Nat} {o : Nat × Nat × (Nat → Value)} (h : b' ≠ b) : s_rw w b o b' = w b' := if_neg h
theorem s_rw_un {w : e_Rw1} {b : Nat} {o : Nat × Nat × (Nat → Value)} (h : w b = none) : (fun b' => if b' = b then none else s_rw w b o b') = w := by
  funext b'
  by_cases e : b' = b
  · rw [if_pos e, e, h]
  · rw [if_neg e, s_rw_n e]
section s_rwr
variable {X : e_XT} {d : Nat} {K : e_KT} {pc ix pl ho b ci sl ln mi n : Nat} {ll : e_LL} {st rest As : List Value} {p : e_Sp} {I : e_I} {J : e_Jt} {c : Nat × Nat} {w : e_Rw1} {Q : e_Rt → e_SS → Prop} {f : Nat → Value} {v : Value} {row : e_MT} {x : Int32}
theorem t_putR (hd : decode K.2.2.1 pc = .ok (.putfield ix, 3)) (hfl : e_fl K.1 ix = some (ix, ci, sl, pl, ho)) (hck : e_ck (e_cY ci sl) v = true) (hfin : (e_cT ci sl).2.2.2 = false ∨ (K.2.1 = true ∧ ci = K.1 ∧ ho = 0)) (k : s_w X d K (pc + 3) ll st (p, I, J, c, s_rw w b (ci, ln, s_fu f sl v)) Q) : s_w X d K pc ll (v :: .ref b :: st) (p, I, J, c, s_rw w b (ci, ln, f)) Q := by
  refine w_putR (S := (p, I, J, c, s_rw w b (ci, ln, f))) hd hfl s_rw_s hck hfin ?_
  refine w_show (S' := (p, I, J, c, s_rw (s_rw w b (ci, ln, f)) b (ci, ln, s_fu f sl v))) rfl ?_
  rw [s_rw_rw]
  exact k
theorem t_getR (hd : decode K.2.2.1 pc = .ok (.getfield ix, 3)) (hfl : e_fl K.1 ix = some (ix, ci, sl, pl, ho)) (hv : e_rd (e_cY ci sl) (f sl) = v) (k : s_w X d K (pc + 3) ll (v :: st) (p, I, J, c, s_rw w b (ci, ln, f)) Q) : s_w X d K pc ll (.ref b :: st) (p, I, J, c, s_rw w b (ci, ln, f)) Q := w_getR (S := (p, I, J, c, s_rw w b (ci, ln, f))) hd hfl s_rw_s hv k
theorem t_callI (hd : decode K.2.2.1 pc = .ok (.invokespecial ix, 3)) (hcl : e_cl2 K.1 ix = some (ix, mi, pl, ho)) (hrow : e_M[mi]? = some row) (hmi : mi < 1000) (hho : ho ≠ 0 → row.1.2 ≠ 21) (hst : row.2.1.2 = false) (hn : As.length = row.2.1.1) (hni : row.1.1.name = "<init>") (hcat : (rest.map fun v => v.category).sum ≤ 8)
    (hc : s_c X d mi (.ref b :: As) (p, I, J, c, w) (fun r S' => r = .inl none ∧ s_w X (d + 1) K (pc + 3) ll rest S' Q)) : s_w X (d + 1) K pc ll (As.reverse ++ .ref b :: rest) (p, I, J, c, w) Q := w_callI hd hcl hrow hmi hho hst hn hni hcat hc (fun _ _ h => h)
theorem t_new (hd : decode K.2.2.1 pc = .ok (.new ix, 3)) (hk : e_nl K.1 ix = some (ix, ci, pl)) (hc : c.1 < e_xb) (k : ∀ a, s_fr (p, I, J, c, w) a → s_w X d K (pc + 3) ll (.ref a :: st) (p, I, J, (c.1 + 1, c.2 + e_cF ci), s_rw w a (ci, 0, s_nul)) Q) : s_w X d K pc ll st (p, I, J, c, w) Q := w_new hd hk hc (fun a ha => w_show rfl (k a ha))
/-- zeros in a row's places -/
def s_z {α : Type} [OfNat α 0] (I : Nat → Nat → α) (F i W : Nat) : Nat → Nat → α := fun F' m => if F' = F ∧ m / W = i then 0 else I F' m
theorem t_newrow {ty : ArrayType} {t i F G W W' : Nat} (hd : decode K.2.2.1 pc = .ok (.newarray ty, 2)) (hx : 0 ≤ x ∧ x.toNatClampNeg = W) (hty : e_at ty = (e_T t).1) (h100 : 100 ≤ (e_T t).1) (hW : (e_T t).2 = W ∨ (e_T t).2 = 1000000000) (hF : e_FI F = (t, 0, W')) (hN : F < e_NI) (ht : t < e_NT) (eI : s_FI t = [F]) (eJ : s_FJ t = []) (eG : s_FG t = []) (eP : s_PG t = [G]) (hT : t ≠ T_LARR ∧ t ≠ T_PARR ∧ t ≠ T_RANK ∧ t ≠ T_LIST ∧ t ≠ T_KNOB ∧ t ≠ T_STOP ∧ t ≠ T_COUP) (hW9 : W' ≤ 67108864) (hWl : W ≤ 67108864)
    (hnv : p.2.1 t i = false) (hP : ∀ j, p.2.1 (e_FG G).1 j = true → (if (e_FG G).2.2.2.1 = 1 then j else (e_FG G).2.2.2.2) ≠ i) (hc : c.1 < e_xb)
    (k : ∀ a, s_fr (p, I, J, c, w) a → s_w X d K (pc + 2) ll (.ref a :: st) (s_pv p t i a W, s_z I F i W', J, (c.1 + 1, c.2 + W), w) Q) : s_w X d K pc ll (.int x :: st) (p, I, J, c, w) Q := by
  refine w_newarr (n := W) hd (by rw [hty]; exact h100) hx (by omega) hc (fun a ha => ?_)
  refine w_ghost (S' := (s_pv p t i a W, s_z I F i W', J, (c.1 + 1, c.2 + W), w)) (fun h hs => ?_) (k a ha)
  have hs : s_is (p, I, J, (c.1 + 1, c.2 + W), s_rw w a (e_at ty, W, s_nul)) h := hs
  rw [hty] at hs
  have c1 := e_all e_c1 hN
  rw [Bool.and_eq_true] at c1
  have hW0 := (of_decide_eq_true c1.1).1
  rw [hF] at hW0
  have hW0 : 0 < W' := hW0
  have hs1 := hs.gI (I' := s_z I F i W') (J' := J) (fun F' m hF' hv => if_neg (fun z => by
    obtain ⟨rfl, e2⟩ := z
    rw [hF] at hv
    have hv : p.2.1 t (m / W') = true := hv
    rw [e2, hnv] at hv
    cases hv)) (fun _ _ _ _ => rfl)
  have hs2 := hs1.pub (t := t) (i := i) (a := a) (n := W) (ln := W) (f := s_nul) s_rw_s ht (by
    rcases hW with e | e
    · rw [e]; split
      · rfl
      · rfl
    · rw [e]; rfl) hnv ⟨hT.1, hT.2.1, hT.2.2.1, fun z => absurd z hT.2.2.2.1⟩ (s_hol.row eI eJ eG (by rw [hF]) hT.2.2.2.2.1 (fun k hk => by
      show (0 : Int32) = s_z I F i W' F (i * W' + k)
      unfold s_z
      rw [if_pos ⟨rfl, by rw [Nat.mul_comm, Nat.mul_add_div hW0, Nat.div_eq_of_lt hk, Nat.add_zero]⟩])) (fun G' hG' e9 j hj e8 => by
      have := s_mPG hG' e9
      rw [eP] at this
      obtain rfl := List.mem_singleton.mp this
      exact absurd e8 (hP j hj)) (fun z => absurd z (fun y => y.elim hT.2.2.2.2.2.1 hT.2.2.2.2.2.2))
  rw [s_rw_un ha.1] at hs2
  exact hs2
theorem t_newrowJ {ty : ArrayType} {t i F G W : Nat} (hd : decode K.2.2.1 pc = .ok (.newarray ty, 2)) (hx : 0 ≤ x ∧ x.toNatClampNeg = W) (hty : e_at ty = (e_T t).1) (h100 : 100 ≤ (e_T t).1) (hW : (e_T t).2 = W) (hF : e_FJ F = (t, 0, W)) (hN : F < e_NJ) (ht : t < e_NT) (eI : s_FI t = []) (eJ : s_FJ t = [F]) (eG : s_FG t = []) (eP : s_PG t = [G]) (hT : t ≠ T_LARR ∧ t ≠ T_PARR ∧ t ≠ T_RANK ∧ t ≠ T_LIST ∧ t ≠ T_KNOB ∧ t ≠ T_STOP ∧ t ≠ T_COUP) (hWl : W ≤ 67108864)
    (hnv : p.2.1 t i = false) (hP : ∀ j, p.2.1 (e_FG G).1 j = true → (if (e_FG G).2.2.2.1 = 1 then j else (e_FG G).2.2.2.2) ≠ i) (hc : c.1 < e_xb)
    (k : ∀ a, s_fr (p, I, J, c, w) a → s_w X d K (pc + 2) ll (.ref a :: st) (s_pv p t i a W, I, s_z J F i W, (c.1 + 1, c.2 + W), w) Q) : s_w X d K pc ll (.int x :: st) (p, I, J, c, w) Q := by
  refine w_newarr (n := W) hd (by rw [hty]; exact h100) hx (by omega) hc (fun a ha => ?_)
  refine w_ghost (S' := (s_pv p t i a W, I, s_z J F i W, (c.1 + 1, c.2 + W), w)) (fun h hs => ?_) (k a ha)
  have hs : s_is (p, I, J, (c.1 + 1, c.2 + W), s_rw w a (e_at ty, W, s_nul)) h := hs
  rw [hty] at hs
  have c1 := e_all e_c2 hN
  rw [Bool.and_eq_true] at c1
  have hW0 := (of_decide_eq_true c1.1).1
  rw [hF] at hW0
  have hW0 : 0 < W := hW0
  have hs1 := hs.gI (I' := I) (J' := s_z J F i W) (fun _ _ _ _ => rfl) (fun F' m hF' hv => if_neg (fun z => by
    obtain ⟨rfl, e2⟩ := z
    rw [hF] at hv
    have hv : p.2.1 t (m / W) = true := hv
    rw [e2, hnv] at hv
    cases hv))
  have hs2 := hs1.pub (t := t) (i := i) (a := a) (n := W) (ln := W) (f := s_nul) s_rw_s ht (by
    rw [hW]
    split
    · rfl
    · rfl) hnv ⟨hT.1, hT.2.1, hT.2.2.1, fun z => absurd z hT.2.2.2.1⟩ (s_hol.rowJ eI eJ eG (by rw [hF]) hT.2.2.2.2.1 (fun k hk => by
      show (0 : Int64) = s_z J F i W F (i * W + k)
      unfold s_z
      rw [if_pos ⟨rfl, by rw [Nat.mul_comm, Nat.mul_add_div hW0, Nat.div_eq_of_lt hk, Nat.add_zero]⟩])) (fun G' hG' e9 j hj e8 => by
      have := s_mPG hG' e9
      rw [eP] at this
      obtain rfl := List.mem_singleton.mp this
      exact absurd e8 (hP j hj)) (fun z => absurd z (fun y => y.elim hT.2.2.2.2.2.1 hT.2.2.2.2.2.2))
  rw [s_rw_un ha.1] at hs2
  exact hs2
end s_rwr
