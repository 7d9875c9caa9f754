/-! 70: things that were made are published: they join the shape -/
set_option maxRecDepth 100000 in
theorem s_is.gI {p : e_Sp} {I I' : e_I} {J J' : e_Jt} {c : Nat × Nat} {w : e_Rw1} {h : e_Hp} (hs : s_is (p, I, J, c, w) h) (hO : ∀ F m, F < e_NI → p.2.1 (e_FI F).1 (m / (e_FI F).2.2) = true → I' F m = I F m) (hJ : ∀ F m, F < e_NJ → p.2.1 (e_FJ F).1 (m / (e_FJ F).2.2) = true → J' F m = J F m) : s_is (p, I', J', c, w) h := by
  obtain ⟨⟨r1, r2, r3, r4, r5, r6, r7⟩, h2, h3⟩ := hs
  have r5' : e_rp5 p I h := r5
  refine ⟨⟨r1, fun F m hF hv => (r2 F m hF hv).trans (hO F m hF hv).symm, fun F m hF hv => (r3 F m hF hv).trans (hJ F m hF hv).symm, r4, fun l j hl hj => ?_, r6, r7⟩, h2, h3⟩
  have e : I' f_l_size l = I f_l_size l := hO f_l_size l (by decide) (show p.2.1 T_LIST (l / 1) = true by rw [Nat.div_one]; exact hl)
  have hj : j < (I' f_l_size l).toNatClampNeg := hj
  rw [e] at hj
  obtain ⟨q1, q2, q3⟩ := r5' l j hl hj
  exact ⟨q1, by show (I' f_l_size l).toNatClampNeg ≤ _; rw [e]; exact q2, q3⟩
def s_pv (p : e_Sp) (t i a n : Nat) : e_Sp := (fun t' i' => if t' = t ∧ i' = i then a else p.1 t' i', fun t' i' => if t' = t ∧ i' = i then true else p.2.1 t' i', fun t' i' => if t' = t ∧ i' = i then n else p.2.2.1 t' i', fun b => if b = a then (t, i) else p.2.2.2.1 b, p.2.2.2.2)
theorem s_pv_s {p : e_Sp} {t i a n : Nat} : (s_pv p t i a n).1 t i = a := if_pos ⟨rfl, rfl⟩
theorem s_pv_v {p : e_Sp} {t i a n : Nat} : (s_pv p t i a n).2.1 t i = true := if_pos ⟨rfl, rfl⟩
theorem s_pv_n {p : e_Sp} {t i a n t' i' : Nat} (h : ¬ (t' = t ∧ i' = i)) : (s_pv p t i a n).1 t' i' = p.1 t' i' := if_neg h
theorem s_pv_nv {p : e_Sp} {t i a n t' i' : Nat} (h : ¬ (t' = t ∧ i' = i)) : (s_pv p t i a n).2.1 t' i' = p.2.1 t' i' := if_neg h
theorem s_pv_nl {p : e_Sp} {t i a n t' i' : Nat} (h : ¬ (t' = t ∧ i' = i)) : (s_pv p t i a n).2.2.1 t' i' = p.2.2.1 t' i' := if_neg h
theorem s_pv_k {p : e_Sp} {t i a n t' i' : Nat} (h : p.2.1 t' i' = true) : (s_pv p t i a n).2.1 t' i' = true := by
  show (if t' = t ∧ i' = i then true else p.2.1 t' i') = true
  split
  · rfl
  · exact h
/-- what the thing i of the type t holds, in the shape p -/
def s_hol (p : e_Sp) (I : e_I) (J : e_Jt) (t i : Nat) (f : Nat → Value) : Prop :=
  (∀ F, F < e_NI → (e_FI F).1 = t → ∀ k, k < (e_FI F).2.2 → e_toI (f ((e_FI F).2.1 + k)) = I F (i * (e_FI F).2.2 + k)) ∧
  (∀ F, F < e_NJ → (e_FJ F).1 = t → ∀ k, k < (e_FJ F).2.2 → e_toJ (f ((e_FJ F).2.1 + k)) = J F (i * (e_FJ F).2.2 + k)) ∧
  (∀ G, G < e_NG → (e_FG G).1 = t → e_toO (f (e_FG G).2.1) = some (p.1 (e_FG G).2.2.1 (if (e_FG G).2.2.2.1 = 1 then i else (e_FG G).2.2.2.2))) ∧
  (t = T_KNOB → e_toO (f 2) = (if p.2.1 T_STOP i = true then some (p.1 T_STOP i) else none) ∧ e_toO (f 3) = (if p.2.1 T_COUP i = true then some (p.1 T_COUP i) else none))
theorem s_is.pubG {p : e_Sp} {I : e_I} {J : e_Jt} {c : Nat × Nat} {w : e_Rw1} {h : e_Hp} {t i a ln n : Nat} {f : Nat → Value} (hs : s_is (p, I, J, c, w) h)
    (hw : w a = some ((e_T t).1, ln, f)) (ht : t < e_NT) (hln : ln = if (e_T t).2 = 1000000000 then n else (e_T t).2) (hnv : p.2.1 t i = false)
    (hT : t ≠ T_LARR ∧ (t = T_LIST → (I f_l_size i).toNatClampNeg = 0)) (hPA : t = T_PARR → p.2.1 T_RANK i = false) (hR : t = T_RANK → p.2.1 T_PARR i = true ∧ ∀ j, j < p.2.2.1 T_PARR i → p.2.1 T_PIPE (p.2.2.2.2 i + j) = true ∧ e_toO (e_v h (p.1 T_PARR i) j) = some (p.1 T_PIPE (p.2.2.2.2 i + j)))
    (hH : s_hol (s_pv p t i a n) I J t i f)
    (hP : ∀ G, G < e_NG → (e_FG G).2.2.1 = t → ∀ j, p.2.1 (e_FG G).1 j = true → (if (e_FG G).2.2.2.1 = 1 then j else (e_FG G).2.2.2.2) = i → p.1 t i = a)
    (hSC : (t = T_STOP ∨ t = T_COUP) → p.2.1 T_KNOB i = false) : s_is (s_pv p t i a n, I, J, c, fun b => if b = a then none else w b) h := by
  obtain ⟨⟨r1, r2, r3, r4, r5, r6, r7⟩, h2, h3⟩ := hs
  obtain ⟨⟨g1, g2, g3, g4⟩, g5⟩ := h3 a _ hw
  have g5 : ∀ t i, p.2.1 t i = true → p.1 t i ≠ a := g5
  have vl : ∀ t' i', (s_pv p t i a n).2.1 t' i' = true → (t' = t ∧ i' = i) ∨ (¬ (t' = t ∧ i' = i) ∧ p.2.1 t' i' = true) := fun t' i' hv => by
    by_cases e : t' = t ∧ i' = i
    · exact Or.inl e
    · rw [s_pv_nv e] at hv; exact Or.inr ⟨e, hv⟩
  refine ⟨⟨fun t' i' hv => ?_, fun F m hF hv => ?_, fun F m hF hv => ?_, fun G j hG hv => ?_, fun l j hl hj => ?_, fun r hr => ?_, fun k hk => ?_⟩, h2, fun b o ho => ?_⟩
  · rcases vl t' i' hv with ⟨rfl, rfl⟩ | ⟨e, hv⟩
    · rw [s_pv_s]
      exact ⟨ht, g1, g2, if_pos rfl, by rw [show (s_pv p t' i' a n).2.2.1 t' i' = n from if_pos ⟨rfl, rfl⟩, ← hln]; exact g3⟩
    · rw [s_pv_n e, s_pv_nl e]
      obtain ⟨a1, a2, a3, a4, a5⟩ := r1 t' i' hv
      exact ⟨a1, a2, a3, (if_neg (g5 t' i' hv)).trans a4, a5⟩
  · have c1 := e_all e_c1 hF
    rw [Bool.and_eq_true] at c1
    have hW := (of_decide_eq_true c1.1).1
    rcases vl _ _ hv with ⟨e1, e2⟩ | ⟨e, hv⟩
    · rw [e1, e2, s_pv_s, g4, hH.1 F hF e1 _ (Nat.mod_lt _ hW), ← e2, Nat.mul_comm, Nat.div_add_mod]
    · rw [s_pv_n e]; exact r2 F m hF hv
  · have c1 := e_all e_c2 hF
    rw [Bool.and_eq_true] at c1
    have hW := (of_decide_eq_true c1.1).1
    rcases vl _ _ hv with ⟨e1, e2⟩ | ⟨e, hv⟩
    · rw [e1, e2, s_pv_s, g4, hH.2.1 F hF e1 _ (Nat.mod_lt _ hW), ← e2, Nat.mul_comm, Nat.div_add_mod]
    · rw [s_pv_n e]; exact r3 F m hF hv
  · rcases vl _ _ hv with ⟨e1, e2⟩ | ⟨e, hv⟩
    · rw [e1, e2, s_pv_s, g4]; exact hH.2.2.1 G hG e1
    · rw [s_pv_n e]
      refine (r4 G j hG hv).trans (congrArg some ?_)
      by_cases e3 : (e_FG G).2.2.1 = t ∧ (if (e_FG G).2.2.2.1 = 1 then j else (e_FG G).2.2.2.2) = i
      · have := hP G hG e3.1 j hv e3.2
        rw [e3.1, e3.2, s_pv_s, this]
      · rw [s_pv_n e3]
  · rcases vl _ _ hl with ⟨e1, e2⟩ | ⟨e, hl⟩
    · exfalso
      have := hT.2 e1.symm
      have hj : j < (I f_l_size l).toNatClampNeg := hj
      rw [e2, this] at hj
      exact Nat.not_lt_zero _ hj
    · obtain ⟨q1, q2, q3, q4⟩ := r5 l j hl hj
      have e3 : ¬ (T_LARR = t ∧ l = i) := fun z => hT.1 z.1.symm
      have e4 : ¬ (e_elT l = t ∧ e_elI l j = i) := fun z => by rw [z.1, z.2, hnv] at q3; cases q3
      rw [s_pv_n e3, s_pv_nl e3, s_pv_n e4, s_pv_nv e3, s_pv_nv e4]
      exact ⟨q1, q2, q3, q4⟩
  · have pip : ∀ r j, p.2.1 T_PIPE (p.2.2.2.2 r + j) = true → ¬ (T_PIPE = t ∧ (s_pv p t i a n).2.2.2.2 r + j = i) := fun r j q3 z => by
      rw [z.1, show p.2.2.2.2 r + j = i from z.2, hnv] at q3; cases q3
    rcases vl _ _ hr with ⟨e1, e2⟩ | ⟨e, hr⟩
    · have e3 : ¬ (T_PARR = t ∧ r = i) := fun z => absurd (z.1.trans e1.symm) (by decide)
      obtain ⟨q1, q2⟩ := hR e1.symm
      rw [s_pv_n e3, s_pv_nl e3, s_pv_nv e3, e2]
      refine ⟨q1, fun j hj => ?_⟩
      obtain ⟨q3, q4⟩ := q2 j hj
      have e4 := pip i j q3
      rw [s_pv_n e4, s_pv_nv e4]
      exact ⟨q3, q4⟩
    · obtain ⟨q1, q2⟩ := r6 r hr
      have e3 : ¬ (T_PARR = t ∧ r = i) := fun z => by
        have := hPA z.1.symm
        rw [← z.2] at this
        rw [this] at hr; cases hr
      rw [s_pv_n e3, s_pv_nl e3, s_pv_nv e3]
      refine ⟨q1, fun j hj => ?_⟩
      obtain ⟨q3, q4⟩ := q2 j hj
      have e4 := pip r j q3
      rw [s_pv_n e4, s_pv_nv e4]
      exact ⟨q3, q4⟩
  · rcases vl _ _ hk with ⟨e1, e2⟩ | ⟨e, hk⟩
    · subst e1 e2
      rw [s_pv_s, g4, g4]
      exact hH.2.2.2 rfl
    · rw [s_pv_n e]
      have e3 : ¬ (T_STOP = t ∧ k = i) := fun z => by rw [← z.2, hk] at hSC; cases hSC (Or.inl z.1.symm)
      have e4 : ¬ (T_COUP = t ∧ k = i) := fun z => by rw [← z.2, hk] at hSC; cases hSC (Or.inr z.1.symm)
      rw [s_pv_n e3, s_pv_nv e3, s_pv_n e4, s_pv_nv e4]
      exact r7 k hk
  · have ho : (if b = a then none else w b) = some o := ho
    by_cases e : b = a
    · rw [if_pos e] at ho; cases ho
    · rw [if_neg e] at ho
      obtain ⟨k1, k2⟩ := h3 b o ho
      refine ⟨k1, fun t' i' hv => ?_⟩
      rcases vl t' i' hv with ⟨rfl, rfl⟩ | ⟨e9, hv⟩
      · show (s_pv p t' i' a n).1 t' i' ≠ b
        rw [s_pv_s]; exact fun z => e z.symm
      · show (s_pv p t i a n).1 t' i' ≠ b
        rw [s_pv_n e9]; exact k2 t' i' hv
theorem s_is.pub {p : e_Sp} {I : e_I} {J : e_Jt} {c : Nat × Nat} {w : e_Rw1} {h : e_Hp} {t i a ln n : Nat} {f : Nat → Value} (hs : s_is (p, I, J, c, w) h)
    (hw : w a = some ((e_T t).1, ln, f)) (ht : t < e_NT) (hln : ln = if (e_T t).2 = 1000000000 then n else (e_T t).2) (hnv : p.2.1 t i = false)
    (hT : t ≠ T_LARR ∧ t ≠ T_PARR ∧ t ≠ T_RANK ∧ (t = T_LIST → (I f_l_size i).toNatClampNeg = 0))
    (hH : s_hol (s_pv p t i a n) I J t i f)
    (hP : ∀ G, G < e_NG → (e_FG G).2.2.1 = t → ∀ j, p.2.1 (e_FG G).1 j = true → (if (e_FG G).2.2.2.1 = 1 then j else (e_FG G).2.2.2.2) = i → p.1 t i = a)
    (hSC : (t = T_STOP ∨ t = T_COUP) → p.2.1 T_KNOB i = false) : s_is (s_pv p t i a n, I, J, c, fun b => if b = a then none else w b) h := hs.pubG hw ht hln hnv ⟨hT.1, hT.2.2.2⟩ (fun z => absurd z hT.2.1) (fun z => absurd z hT.2.2.1) hH hP hSC
/-- the fields of a type, as lists -/
def s_FI (t : Nat) : List Nat := (List.range e_NI).filter fun F => (e_FI F).1 == t
def s_FJ (t : Nat) : List Nat := (List.range e_NJ).filter fun F => (e_FJ F).1 == t
def s_FG (t : Nat) : List Nat := (List.range e_NG).filter fun G => (e_FG G).1 == t
def s_PG (t : Nat) : List Nat := (List.range e_NG).filter fun G => (e_FG G).2.2.1 == t
theorem s_mFI {t F : Nat} (h : F < e_NI) (e : (e_FI F).1 = t) : F ∈ s_FI t := List.mem_filter.mpr ⟨List.mem_range.mpr h, by rw [e]; exact beq_self_eq_true t⟩
theorem s_mFJ {t F : Nat} (h : F < e_NJ) (e : (e_FJ F).1 = t) : F ∈ s_FJ t := List.mem_filter.mpr ⟨List.mem_range.mpr h, by rw [e]; exact beq_self_eq_true t⟩
theorem s_mFG {t F : Nat} (h : F < e_NG) (e : (e_FG F).1 = t) : F ∈ s_FG t := List.mem_filter.mpr ⟨List.mem_range.mpr h, by rw [e]; exact beq_self_eq_true t⟩
theorem s_mPG {t F : Nat} (h : F < e_NG) (e : (e_FG F).2.2.1 = t) : F ∈ s_PG t := List.mem_filter.mpr ⟨List.mem_range.mpr h, by rw [e]; exact beq_self_eq_true t⟩
/-- what a thing holds, field by field -/
theorem s_hol.of {p : e_Sp} {I : e_I} {J : e_Jt} {t i : Nat} {f : Nat → Value} {LI LJ LG : List Nat} (eI : s_FI t = LI) (eJ : s_FJ t = LJ) (eG : s_FG t = LG)
    (hI : ∀ F ∈ LI, ∀ k, k < (e_FI F).2.2 → e_toI (f ((e_FI F).2.1 + k)) = I F (i * (e_FI F).2.2 + k)) (hJ : ∀ F ∈ LJ, ∀ k, k < (e_FJ F).2.2 → e_toJ (f ((e_FJ F).2.1 + k)) = J F (i * (e_FJ F).2.2 + k))
    (hG : ∀ G ∈ LG, e_toO (f (e_FG G).2.1) = some (p.1 (e_FG G).2.2.1 (if (e_FG G).2.2.2.1 = 1 then i else (e_FG G).2.2.2.2)))
    (hK : t = T_KNOB → e_toO (f 2) = (if p.2.1 T_STOP i = true then some (p.1 T_STOP i) else none) ∧ e_toO (f 3) = (if p.2.1 T_COUP i = true then some (p.1 T_COUP i) else none)) : s_hol p I J t i f := by
  subst eI eJ eG
  exact ⟨fun F hF e => hI F (s_mFI hF e), fun F hF e => hJ F (s_mFJ hF e), fun F hF e => hG F (s_mFG hF e), hK⟩
/-- one value in a field of width 1 -/
theorem s_hI1 {F i : Nat} {I : e_I} {f : Nat → Value} {sl : Nat} (hF : (e_FI F).2 = (sl, 1)) (h : e_toI (f sl) = I F i) : ∀ k, k < (e_FI F).2.2 → e_toI (f ((e_FI F).2.1 + k)) = I F (i * (e_FI F).2.2 + k) := fun k hk => by
  rw [hF] at hk ⊢
  have hk : k < 1 := hk
  obtain rfl : k = 0 := by omega
  show e_toI (f (sl + 0)) = I F (i * 1 + 0)
  rw [Nat.add_zero, Nat.add_zero, Nat.mul_one]
  exact h
theorem s_hJ1 {F i : Nat} {J : e_Jt} {f : Nat → Value} {sl : Nat} (hF : (e_FJ F).2 = (sl, 1)) (h : e_toJ (f sl) = J F i) : ∀ k, k < (e_FJ F).2.2 → e_toJ (f ((e_FJ F).2.1 + k)) = J F (i * (e_FJ F).2.2 + k) := fun k hk => by
  rw [hF] at hk ⊢
  have hk : k < 1 := hk
  obtain rfl : k = 0 := by omega
  show e_toJ (f (sl + 0)) = J F (i * 1 + 0)
  rw [Nat.add_zero, Nat.add_zero, Nat.mul_one]
  exact h
/-- a row of ints (of longs) fresh from the machine holds zeros -/
theorem s_hol.row {p : e_Sp} {I : e_I} {J : e_Jt} {t i F W : Nat} {f : Nat → Value} (eI : s_FI t = [F]) (eJ : s_FJ t = []) (eG : s_FG t = []) (hF : (e_FI F).2 = (0, W)) (hK : t ≠ T_KNOB) (h : ∀ k, k < W → e_toI (f k) = I F (i * W + k)) : s_hol p I J t i f :=
  s_hol.of eI eJ eG (fun F' h' k hk => by
    obtain rfl := List.mem_singleton.mp h'
    rw [hF] at hk ⊢
    show e_toI (f (0 + k)) = _
    rw [Nat.zero_add]
    exact h k hk) (fun F' h' => nomatch h') (fun G' h' => nomatch h') (fun z => absurd z hK)
theorem s_hol.rowJ {p : e_Sp} {I : e_I} {J : e_Jt} {t i F W : Nat} {f : Nat → Value} (eI : s_FI t = []) (eJ : s_FJ t = [F]) (eG : s_FG t = []) (hF : (e_FJ F).2 = (0, W)) (hK : t ≠ T_KNOB) (h : ∀ k, k < W → e_toJ (f k) = J F (i * W + k)) : s_hol p I J t i f :=
  s_hol.of eI eJ eG (fun F' h' => nomatch h') (fun F' h' k hk => by
    obtain rfl := List.mem_singleton.mp h'
    rw [hF] at hk ⊢
    show e_toJ (f (0 + k)) = _
    rw [Nat.zero_add]
    exact h k hk) (fun G' h' => nomatch h') (fun z => absurd z hK)
