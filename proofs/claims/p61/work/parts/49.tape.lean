/-! 49: the tape grows (printed by wip/whole/p49.py) -/
theorem s_is.rowset {S : e_SS} {h : e_Hp} {a kd ln : Nat} {f g : Nat → Value} (hs : s_is S h) (hw : S.2.2.2.2 a = some (kd, ln, f)) : s_is (s_rs S a kd ln g) (e_rowset h a g) := by
  obtain ⟨h1, h2, h5⟩ := hs
  obtain ⟨⟨g1, g2, g3, g4⟩, g5⟩ := h5 a _ hw
  have key : ∀ t i s', S.1.2.1 t i = true → e_v (e_rowset h a g) (S.1.1 t i) s' = e_v h (S.1.1 t i) s' := fun t i s' hv => by rw [e_rowset_ne (g5 t i hv)]
  have hrep : e_rep S.1 S.2.1 S.2.2.1 (e_rowset h a g) := by
    obtain ⟨r1, r2, r3, r4, r5, r6, r7⟩ := h1
    refine ⟨r1, fun F' i' hF' hv' => by rw [key _ _ _ hv']; exact r2 F' i' hF' hv', fun F' i' hF' hv' => by rw [key _ _ _ hv']; exact r3 F' i' hF' hv', fun G i' hG hv' => by rw [key _ _ _ hv']; exact r4 G i' hG hv', fun l j hl hj => ?_, fun r hr => ?_, fun k hk => by rw [key _ _ _ hk, key _ _ _ hk]; exact r7 k hk⟩
    · obtain ⟨q1, q2, q3, q4⟩ := r5 l j hl hj
      exact ⟨q1, q2, q3, by rw [key _ _ _ q1]; exact q4⟩
    · obtain ⟨q1, q2⟩ := r6 r hr
      exact ⟨q1, fun j hj => ⟨(q2 j hj).1, by rw [key _ _ _ q1]; exact (q2 j hj).2⟩⟩
  refine ⟨hrep, h2, fun b o ho => ?_⟩
  · have ho : (if b = a then some (kd, ln, g) else S.2.2.2.2 b) = some o := ho
    by_cases e : b = a
    · rw [if_pos e] at ho
      cases ho
      subst e
      exact ⟨⟨g1, g2, g3, fun s' => by rw [e_rowset_v]⟩, g5⟩
    · rw [if_neg e] at ho
      obtain ⟨⟨k1, k2, k3, k4⟩, k5⟩ := h5 b o ho
      exact ⟨⟨k1, k2, k3, fun s' => by rw [e_rowset_ne e]; exact k4 s'⟩, k5⟩
section s_cpy
variable {X : e_XT} {d : Nat} {K : e_KT} {pc ix pl ho t F W m n a : Nat} {ll : e_LL} {st rest : List Value} {p : e_Sp} {I : e_I} {J : e_Jt} {c : Nat × Nat} {w : e_Rw1} {Q : e_Rt → e_SS → Prop} {f : Nat → Value}
/-- ints are copied into a row that is being made -/
theorem w_copyI (ho31 : K.1 < 33) (hcl : e_cl2 K.1 ix = some (ix, 1001, pl, 0)) (hcat : (rest.map fun v => v.category).sum ≤ 8) (hd : decode K.2.2.1 pc = .ok (.invokestatic ix, 3)) (hF : e_FI F = (t, 0, W)) (hN : F < e_NI) (hT : (e_T t).1 = 100) (hv : p.2.1 t 0 = true) (hm : m ≤ s_ln p t 0) (hmW : m ≤ W) (hw : w a = some (100, n, f)) (hmn : m ≤ n) (hm31 : m < 2147483648)
    (k : ∀ g : Nat → Value, (∀ s, s < m → e_toI (g s) = I F s) → (∀ s, m ≤ s → g s = f s) → s_w X d K (pc + 3) ll rest (p, I, J, c, fun b => if b = a then some (100, n, g) else w b) Q) : s_w X d K pc ll (.int (nI m) :: .int 0 :: .ref a :: .int 0 :: .ref (p.1 t 0) :: rest) (p, I, J, c, w) Q := fun h hs => by
  obtain ⟨⟨g1, g2, g3, g4⟩, g5⟩ := hs.2.2 a _ hw
  obtain ⟨q1, q2, q3, q4, q5⟩ := hs.1.1 t 0 hv
  have hz : (0 : Int32).toNatClampNeg = 0 := rfl
  have hcm := nI_clamp (n := m) hm31
  have hs1 := hs.rowset (g := e_cpyv (e_v h (p.1 t 0)) (e_v h a) 0 0 m) hw
  obtain ⟨r, h', S', q, z, j⟩ := k (e_cpyv (e_v h (p.1 t 0)) (e_v h a) 0 0 m) (fun s hsm => by
    unfold e_cpyv
    rw [if_pos ⟨Nat.zero_le _, by omega⟩]
    have hW : s / W = 0 := Nat.div_eq_of_lt (by omega)
    have r2 := hs.1.2.1 F s hN (by rw [hF]; show p.2.1 t (s / W) = true; rw [hW]; exact hv)
    rw [hF] at r2
    have r2 : e_toI (e_v h (p.1 t (s / W)) (0 + s % W)) = I F s := r2
    rw [hW, Nat.mod_eq_of_lt (by omega : s < W)] at r2
    rw [show 0 + (s - 0) = 0 + s by omega]
    exact r2) (fun s hsm => by unfold e_cpyv; rw [if_neg (by omega)]; exact g4 s) _ hs1
  refine ⟨r, h', S', q, z, e_J.copy (kd := 100) (ci := 0) ho31 hcl hcat hd q2 g1 (q3.trans hT) g2 (by decide) (by decide) (nI_pos hm31) ?_ ?_ (Or.inl rfl) ?_⟩
  · rw [hz, hcm, q5]; show 0 + m ≤ s_ln p t 0; omega
  · rw [hz, hcm, g3]; show 0 + m ≤ n; omega
  · rw [hz, hcm]; exact j
/-- Arrays.copyOf over ints, to a greater length -/
theorem c_copyOfI (hF : e_FI F = (t, 0, W)) (hN : F < e_NI) (hT : (e_T t).1 = 100) (hv : p.2.1 t 0 = true) (hm : s_ln p t 0 = m) (hmW : m ≤ W) (hmn : m < n) (hn : n * 8 ≤ 536870912) (hc : c.1 < e_xb)
    (k : ∀ (a : Nat) (g : Nat → Value), s_fr (p, I, J, c, w) a → (∀ s, s < m → e_toI (g s) = I F s) → (∀ s, m ≤ s → g s = .null) → Q (.inl (some (.ref a))) (p, I, J, (c.1 + 1, c.2 + n), fun b => if b = a then some (100, n, g) else w b)) : s_c X (d + 1) 378 [.ref (p.1 t 0), .int (nI n)] (p, I, J, c, w) Q := by
  refine m_J7_copyOf_59c91 (Nat.le_of_ble_eq_true rfl) ?_
  show s_w _ _ _ 0 _ _ _ _
  refine w_op (pc' := 1) dJ7_copyOf_59c91_0 rfl ?_
  refine w_op (pc' := 2) dJ7_copyOf_59c91_1 rfl ?_
  refine t_alen dJ7_copyOf_59c91_2 (by rw [hT]; decide) hv ?_
  rw [hm]
  refine w_icmpne (t := 14) dJ7_copyOf_59c91_3 (by decide) (fun c3 => ?_) (fun c3 => absurd ((nI_eq (by omega) (by omega)).mp c3) (by omega))
  refine w_op (pc' := 15) dJ7_copyOf_59c91_14 rfl ?_
  refine w_newarr (n := n) dJ7_copyOf_59c91_15 (by decide) ⟨nI_pos' (by omega), nI_clamp (by omega)⟩ hn hc (fun a ha => ?_)
  refine w_show (S' := (p, I, J, (c.1 + 1, c.2 + n), fun b => if b = a then some (100, n, fun _ => .null) else w b)) rfl ?_
  refine w_op (pc' := 18) (ll' := [_, _, _]) dJ7_copyOf_59c91_17 rfl ?_
  refine w_op (pc' := 19) dJ7_copyOf_59c91_18 rfl ?_
  refine w_iconst (v := 0) dJ7_copyOf_59c91_19 rfl ?_
  refine w_op (pc' := 21) dJ7_copyOf_59c91_20 rfl ?_
  refine w_iconst (v := 0) dJ7_copyOf_59c91_21 rfl ?_
  refine w_op (pc' := 23) dJ7_copyOf_59c91_22 rfl ?_
  refine t_alen dJ7_copyOf_59c91_23 (by rw [hT]; decide) hv ?_
  rw [hm]
  refine w_op (pc' := 25) dJ7_copyOf_59c91_24 rfl ?_
  refine t_callS (As := [_, _]) dJ7_copyOf_59c91_25 rfl rM_J9_min_7cf53 (by decide) rfl rfl (by decide) (Nat.le_of_ble_eq_true rfl) (c_min ?_)
  show s_w _ _ _ 28 _ _ _ _
  rw [show s_min (nI m) (nI n) = nI m from if_neg (nI_nlt (by omega) (by omega))]
  refine w_copyI (n := n) (f := fun _ => .null) (by decide) rfl (by decide) dJ7_copyOf_59c91_28 hF hN hT hv (by omega) hmW (if_pos rfl) (by omega) (by omega) (fun g hg1 hg2 => ?_)
  refine w_show (S' := (p, I, J, (c.1 + 1, c.2 + n), fun b => if b = a then some (100, n, g) else w b)) ?_ ?_
  · congr 4; funext b; by_cases e : b = a <;> simp [e]
  refine w_op (pc' := 32) dJ7_copyOf_59c91_31 rfl ?_
  exact w_areturn dJ7_copyOf_59c91_32 ⟨rfl, k a g ha hg1 hg2⟩
end s_cpy
/-! what grows -/
def s_gr (t : Nat) : Bool := decide (t = T_ENTR)
/-- the shape p' goes on from p -/
def s_xt (p p' : e_Sp) : Prop := (∀ t, s_gr t = false → p'.1 t = p.1 t ∧ p'.2.1 t = p.2.1 t ∧ p'.2.2.1 t = p.2.2.1 t) ∧ (∀ t i, p.2.1 t i = true → p'.2.1 t i = true) ∧ p'.2.2.2.2 = p.2.2.2.2 ∧ p.2.2.1 T_ENTR 0 ≤ p'.2.2.1 T_ENTR 0
theorem s_xt.rfl' {p : e_Sp} : s_xt p p := ⟨fun _ _ => ⟨rfl, rfl, rfl⟩, fun _ _ h => h, rfl, Nat.le_refl _⟩
theorem s_xt.trans {p p' p'' : e_Sp} (h : s_xt p p') (h' : s_xt p' p'') : s_xt p p'' := ⟨fun t ht => ⟨(h'.1 t ht).1.trans (h.1 t ht).1, (h'.1 t ht).2.1.trans (h.1 t ht).2.1, (h'.1 t ht).2.2.trans (h.1 t ht).2.2⟩, fun t i hv => h'.2.1 t i (h.2.1 t i hv), h'.2.2.1.trans h.2.2.1, Nat.le_trans h.2.2.2 h'.2.2.2⟩
theorem s_ok.xt {p p' : e_Sp} (h : s_ok p) (x : s_xt p p') : s_ok p' := ⟨fun t ht => x.2.1 _ _ (h.1 t ht), fun l hl => x.2.1 _ _ (h.2 l hl)⟩
theorem s_C.xt {p p' : e_Sp} {I : e_I} {nk nr : Nat} (h : s_C p I nk nr) (x : s_xt p p') : s_C p' I nk nr := by
  obtain ⟨a, b, c, d, e⟩ := h
  refine ⟨a.xt x, b, c, fun k hk => ?_, fun r hr => x.2.1 _ _ (e r hr)⟩
  rw [(x.1 T_KNOB rfl).2.1, (x.1 T_STOP rfl).2.1, (x.1 T_COUP rfl).2.1]
  exact d k hk
theorem s_Rk.xt {p p' : e_Sp} {I : e_I} {r : Nat} (h : s_Rk p I r) (x : s_xt p p') : s_Rk p' I r := by
  unfold s_Rk at h ⊢
  rw [(x.1 T_RANK rfl).2.1, (x.1 T_PARR rfl).2.1, (x.1 T_PARR rfl).2.2, (x.1 T_PIPE rfl).2.1, x.2.2.1]
  exact h
theorem s_D.xt {p p' : e_Sp} {I : e_I} {nk nr : Nat} (h : s_D p I nk nr) (x : s_xt p p') : s_D p' I nk nr := by
  obtain ⟨a, b, c, d⟩ := h
  refine ⟨a.xt x, fun r hr => (b r hr).xt x, by rw [x.2.2.1, (x.1 T_PARR rfl).2.2]; exact c, fun k hk h9 => ?_⟩
  obtain ⟨d1, d2⟩ := d k hk h9
  exact ⟨fun t ht => x.2.1 _ _ (d1 t ht), d2⟩
/-- the tape's row is another -/
def s_te (p : e_Sp) (a n : Nat) : e_Sp := (fun t i => if t = T_ENTR ∧ i = 0 then a else p.1 t i, p.2.1, fun t i => if t = T_ENTR ∧ i = 0 then n else p.2.2.1 t i, fun b => if b = a then (T_ENTR, 0) else p.2.2.2.1 b, p.2.2.2.2)
theorem s_te.xt {p : e_Sp} {a n : Nat} (hn : p.2.2.1 T_ENTR 0 ≤ n) : s_xt p (s_te p a n) := by
  refine ⟨fun t ht => ?_, fun _ _ h => h, rfl, by
    show p.2.2.1 T_ENTR 0 ≤ (if T_ENTR = T_ENTR ∧ (0 : Nat) = 0 then n else p.2.2.1 T_ENTR 0)
    rw [if_pos ⟨rfl, rfl⟩]
    exact hn⟩
  have hne : t ≠ T_ENTR := fun z => by subst z; cases ht
  exact ⟨by funext i; exact if_neg (fun z => hne z.1), rfl, by funext i; exact if_neg (fun z => hne z.1)⟩
theorem e_cE1 : ((List.range e_NI).all fun F => decide (F = f_entries) || decide ((e_FI F).1 ≠ T_ENTR)) = true := by decide +kernel
theorem e_cE2 : ((List.range e_NJ).all fun F => decide ((e_FJ F).1 ≠ T_ENTR)) = true := by decide +kernel
theorem e_cE3 : ((List.range e_NG).all fun G => decide ((e_FG G).1 ≠ T_ENTR) && (decide (G = g_t_entries) || (decide ((e_FG G).2.2.1 ≠ T_ENTR) && (decide ((e_FG G).1 ≠ T_TAPE) || decide ((e_FG G).2.1 ≠ 4))))) = true := by decide +kernel
theorem e_cE4 : ((List.range e_NI).all fun F => decide ((e_FI F).1 ≠ T_TAPE) || decide ((e_FI F).2.1 + (e_FI F).2.2 ≤ 4)) = true := by decide +kernel
theorem e_cE5 : ((List.range e_NJ).all fun F => decide ((e_FJ F).1 ≠ T_TAPE)) = true := by decide +kernel
theorem e_elT_ne (l : Nat) : e_elT l ≠ T_ENTR := by
  unfold e_elT
  split <;> decide
theorem e_rep.te {p : e_Sp} {I : e_I} {J : e_Jt} {h : e_Hp} {a n : Nat} (hR : e_rep p I J h) (hv : p.2.1 T_TAPE 0 = true) (hv0 : ∀ i, p.2.1 T_TAPE i = true → i = 0) (ha : a < e_n h) (hk : e_kd h a = 100) (hl : e_ln h a = n) (hnt : ∀ t i, p.2.1 t i = true → p.1 t i ≠ a) (hg : ∀ s, s < 1048576 → e_toI (e_v h a s) = I f_entries s) : e_rep (s_te p a n) I J (e_set h (p.1 T_TAPE 0) 4 (.ref a)) := by
  obtain ⟨r1, r2, r3, r4, r5, r6, r7⟩ := hR
  have old : ∀ t i, ¬ (t = T_ENTR ∧ i = 0) → (s_te p a n).1 t i = p.1 t i := fun t i hn => if_neg hn
  have key : ∀ t i s, p.2.1 t i = true → ¬ (t = T_TAPE ∧ i = 0 ∧ s = 4) → e_v (e_set h (p.1 T_TAPE 0) 4 (.ref a)) (p.1 t i) s = e_v h (p.1 t i) s := fun t i s hv1 hn => by
    refine e_v_ne ?_
    by_cases e : t = T_TAPE ∧ i = 0
    · exact Or.inr (fun z => hn ⟨e.1, e.2, z⟩)
    · exact Or.inl (r1.apart hv1 hv e)
  refine ⟨fun t i hv1 => ?_, fun F i hF hv1 => ?_, fun F i hF hv1 => ?_, fun G i hG hv1 => ?_, fun l j hl1 hj => ?_, fun r hr => ?_, fun k hk1 => ?_⟩
  · have hv1 : p.2.1 t i = true := hv1
    by_cases e : t = T_ENTR ∧ i = 0
    · obtain ⟨rfl, rfl⟩ := e
      rw [show (s_te p a n).1 T_ENTR 0 = a from rfl]
      exact ⟨by decide, ha, hk, if_pos rfl, by rw [show (s_te p a n).2.2.1 T_ENTR 0 = n from rfl]; exact hl⟩
    · rw [old t i e, show (s_te p a n).2.2.1 t i = p.2.2.1 t i from if_neg e]
      obtain ⟨a1, a2, a3, a4, a5⟩ := r1 t i hv1
      exact ⟨a1, a2, a3, (if_neg (hnt t i hv1)).trans a4, a5⟩
  · have hv1 : p.2.1 (e_FI F).1 (i / (e_FI F).2.2) = true := hv1
    rcases (Bool.or_eq_true _ _).mp (e_all e_cE1 hF) with c | c
    · have c := of_decide_eq_true c
      subst c
      by_cases e : i / 1048576 = 0
      · have hi : i < 1048576 := by omega
        show e_toI (e_v _ (if T_ENTR = T_ENTR ∧ i / 1048576 = 0 then a else _) (0 + i % 1048576)) = _
        rw [if_pos ⟨rfl, e⟩, e_v_ne (Or.inl (fun z => hnt _ _ hv z.symm)), Nat.zero_add, Nat.mod_eq_of_lt hi]
        exact hg i hi
      · have e2 : ¬ (i / (e_FI f_entries).2.2 = 0) := e
        rw [old _ _ (fun z => e2 z.2), key _ _ _ hv1 (fun z => absurd z.1 (by decide))]
        exact r2 f_entries i hF hv1
    · have c := of_decide_eq_true c
      rw [old _ _ (fun z => c z.1), key _ _ _ hv1 (fun z => ?_)]
      · exact r2 F i hF hv1
      · rcases (Bool.or_eq_true _ _).mp (e_all e_cE4 hF) with c2 | c2
        · exact of_decide_eq_true c2 z.1
        · have c1 := e_all e_c1 hF
          rw [Bool.and_eq_true] at c1
          have := Nat.mod_lt i (of_decide_eq_true c1.1).1
          have := of_decide_eq_true c2
          have := z.2.2
          omega
  · have hv1 : p.2.1 (e_FJ F).1 (i / (e_FJ F).2.2) = true := hv1
    rw [old _ _ (fun z => of_decide_eq_true (e_all e_cE2 hF) z.1), key _ _ _ hv1 (fun z => of_decide_eq_true (e_all e_cE5 hF) z.1)]
    exact r3 F i hF hv1
  · have hv1 : p.2.1 (e_FG G).1 i = true := hv1
    have c := e_all e_cE3 hG
    rw [Bool.and_eq_true] at c
    rw [old _ _ (fun z => of_decide_eq_true c.1 z.1)]
    rcases (Bool.or_eq_true _ _).mp c.2 with c2 | c2
    · have c2 := of_decide_eq_true c2
      subst c2
      show e_toO (e_v (e_set h (p.1 T_TAPE 0) 4 (.ref a)) (p.1 T_TAPE i) 4) = some a
      obtain rfl : i = 0 := hv0 i hv1
      rw [e_v_eq]; rfl
    · rw [Bool.and_eq_true] at c2
      rw [old _ _ (fun z => of_decide_eq_true c2.1 z.1), key _ _ _ hv1 (fun z => ?_)]
      · exact r4 G i hG hv1
      · rcases (Bool.or_eq_true _ _).mp c2.2 with c3 | c3
        · exact of_decide_eq_true c3 z.1
        · exact of_decide_eq_true c3 z.2.2
  · have hl1 : p.2.1 T_LIST l = true := hl1
    obtain ⟨q1, q2, q3, q4⟩ := r5 l j hl1 hj
    rw [old T_LARR l (fun z => absurd z.1 (by decide)), show (s_te p a n).2.2.1 T_LARR l = p.2.2.1 T_LARR l from rfl, old (e_elT l) _ (fun z => e_elT_ne l z.1), key _ _ _ q1 (fun z => absurd z.1 (by decide))]
    exact ⟨q1, q2, q3, q4⟩
  · have hr : p.2.1 T_RANK r = true := hr
    obtain ⟨q1, q2⟩ := r6 r hr
    rw [show (s_te p a n).2.2.1 T_PARR r = p.2.2.1 T_PARR r from rfl, old T_PARR r (fun z => absurd z.1 (by decide))]
    refine ⟨q1, fun j hj => ⟨(q2 j hj).1, ?_⟩⟩
    rw [key _ _ _ q1 (fun z => absurd z.1 (by decide)), old T_PIPE _ (fun z => absurd z.1 (by decide))]
    exact (q2 j hj).2
  · have hk1 : p.2.1 T_KNOB k = true := hk1
    rw [old T_KNOB k (fun z => absurd z.1 (by decide)), old T_STOP k (fun z => absurd z.1 (by decide)), old T_COUP k (fun z => absurd z.1 (by decide)), key _ _ _ hk1 (fun z => absurd z.1 (by decide)), key _ _ _ hk1 (fun z => absurd z.1 (by decide))]
    exact r7 k hk1
/-- the tape's row gets another -/
theorem w_putEntr {X : e_XT} {d : Nat} {K : e_KT} {pc ix pl ho a n : Nat} {ll : e_LL} {st : List Value} {p : e_Sp} {I : e_I} {J : e_Jt} {c : Nat × Nat} {w : e_Rw1} {Q : e_Rt → e_SS → Prop} {g : Nat → Value} (hd : decode K.2.2.1 pc = .ok (.putfield ix, 3)) (hfl : e_fl K.1 ix = some (ix, 13, 4, pl, ho)) (hfin : (e_cT 13 4).2.2.2 = false ∨ (K.2.1 = true ∧ 13 = K.1 ∧ ho = 0)) (hv : p.2.1 T_TAPE 0 = true) (hv0 : ∀ i, p.2.1 T_TAPE i = true → i = 0) (hf : w a = none) (hg : ∀ s, s < 1048576 → e_toI (g s) = I f_entries s) (k : s_w X d K (pc + 3) ll st (s_te p a n, I, J, c, w) Q) : s_w X d K pc ll (.ref a :: .ref (p.1 T_TAPE 0) :: st) (p, I, J, c, fun b => if b = a then some (100, n, g) else w b) Q := by
  refine w_hop hd (fun h hs => ⟨e_set h (p.1 T_TAPE 0) 4 (.ref a), e_hopA ?_, ?_⟩) k
  · obtain ⟨q1, q2, q3, -, -⟩ := hs.1.1 T_TAPE 0 hv
    show (match e_fl K.1 ix with
      | some r => if p.1 T_TAPE 0 < e_n h ∧ e_kd h (p.1 T_TAPE 0) = r.2.1 ∧ e_ck (e_cY r.2.1 r.2.2.1) (.ref a) = true ∧ ((e_cT r.2.1 r.2.2.1).2.2.2 = false ∨ (K.2.1 = true ∧ r.2.1 = K.1 ∧ r.2.2.2.2 = 0)) then some (st, e_set h (p.1 T_TAPE 0) r.2.2.1 (.ref a)) else none
      | none => none) = _
    rw [hfl]
    exact if_pos ⟨q2, q3, rfl, hfin⟩
  · obtain ⟨h1, h2, h5⟩ := hs
    obtain ⟨⟨g1, g2, g3, g4⟩, g5⟩ := h5 a _ (if_pos rfl)
    refine ⟨h1.te hv hv0 g1 g2 g3 g5 (fun s hs9 => by rw [g4 s]; exact hg s hs9), h2, fun b o ho => ?_⟩
    have hba : b ≠ a := fun z => by subst z; have ho : w b = some o := ho; rw [hf] at ho; cases ho
    obtain ⟨⟨k1, k2, k3, k4⟩, k5⟩ := h5 b o ((if_neg hba).trans ho)
    refine ⟨⟨k1, k2, k3, fun s => by rw [e_v_ne (Or.inl (Ne.symm (k5 T_TAPE 0 hv)))]; exact k4 s⟩, fun t i hv1 => ?_⟩
    by_cases e : t = T_ENTR ∧ i = 0
    · obtain ⟨rfl, rfl⟩ := e; exact hba.symm
    · show (if t = T_ENTR ∧ i = 0 then a else p.1 t i) ≠ b
      rw [if_neg e]; exact k5 t i hv1
/-- the tape, and the room: a, b are what is spent on other things -/
def s_Tp (p : e_Sp) (I : e_I) (c : Nat × Nat) (a b : Nat) : Prop := (∀ i, p.2.1 T_TAPE i = true → i = 0) ∧ (∃ k, p.2.2.1 T_ENTR 0 = 256 * 2 ^ k ∧ k ≤ 12 ∧ c.1 = a + k ∧ c.2 + 512 = b + 2 * p.2.2.1 T_ENTR 0 ∧ a ≤ c.1 ∧ b ≤ c.2) ∧ (∃ z, I f_tsize 0 = nI z ∧ z ≤ p.2.2.1 T_ENTR 0) ∧ (∀ i, p.2.2.1 T_ENTR 0 ≤ i → i < 1048576 → I f_entries i = 0) ∧ a ≤ 4294960000 ∧ p.2.1 T_ENTR 0 = true
def s_kev (I : e_I) (cd on now : Int32) : Int32 := ((now - I f_startedAt 0) * 1280 + cd) * 2 + (if on = 0 then 0 else 1)
def s_ke (I : e_I) (cd on now : Int32) : e_I := if 1048576 ≤ I f_tsize 0 then I else s_up (s_up I f_entries (I f_tsize 0).toNatClampNeg (s_kev I cd on now)) f_tsize 0 (I f_tsize 0 + 1)
theorem s_eqC.ke {I : e_I} {cd on now : Int32} : s_eqC I (s_ke I cd on now) := by
  unfold s_ke
  split
  · exact s_eqC.rfl'
  · exact (s_eqC.up (by decide)).trans (s_eqC.up (by decide))
theorem s_pow12 {k : Nat} (h : k ≤ 12) : 256 * 2 ^ k ≤ 1048576 := by
  have : 2 ^ k ≤ 2 ^ 12 := Nat.pow_le_pow_right (by decide) h
  omega
theorem s_pow12' {k : Nat} (h : 256 * 2 ^ k < 1048576) : k + 1 ≤ 12 := by
  rcases Nat.lt_or_ge k 12 with h1 | h1
  · exact h1
  · have : 2 ^ 12 ≤ 2 ^ k := Nat.pow_le_pow_right (by decide) h1
    omega
set_option maxRecDepth 100000 in
set_option maxHeartbeats 4000000 in
theorem l_X9_keepEntry {X : e_XT} {d : Nat} {p : e_Sp} {I : e_I} {J : e_Jt} {c : Nat × Nat} {w : e_Rw1} {Q : e_Rt → e_SS → Prop} {a b : Nat} (hp : s_ok p) (hT : s_Tp p I c a b) {x y now : Int32} {z : Nat} (hz : I f_tsize 0 = nI z) (hzl : z < p.2.2.1 T_ENTR 0) (k : s_Tp p (s_up (s_up I f_entries (I f_tsize 0).toNatClampNeg (s_kev I x y now)) f_tsize 0 (I f_tsize 0 + 1)) c a b → Q (.inl none) (p, s_up (s_up I f_entries (I f_tsize 0).toNatClampNeg (s_kev I x y now)) f_tsize 0 (I f_tsize 0 + 1), J, c, w)) : s_w X (d + 2) K_X9_keepEntry 40 [some (.ref (p.1 T_TAPE 0)), some (.int x), some (.int y), some (.int now)] [] (p, I, J, c, w) (fun r S' => e_rcr none r = true ∧ Q r S') := by
  obtain ⟨t1, ⟨kk, hlen, hk12, hc1, hc2⟩, ⟨z0, hz0, hzl0⟩, t4, t5, t6⟩ := hT
  have hl20 := s_pow12 hk12
  rw [← hlen] at hl20
  have hcl : (I f_tsize 0).toNatClampNeg = z := by rw [hz, nI_clamp (by omega)]
  have ht2 : s_Tp p (s_up (s_up I f_entries (I f_tsize 0).toNatClampNeg (s_kev I x y now)) f_tsize 0 (I f_tsize 0 + 1)) c a b := ⟨t1, ⟨kk, hlen, hk12, hc1, hc2⟩, ⟨z + 1, (by show s_up _ _ _ _ _ _ = _; rw [s_up_s, hz]; exact nI_1 z), by omega⟩, fun i h1 h2 => (by rw [s_up_F (by decide), s_up_i (by omega)]; exact t4 i h1 h2), t5, t6⟩
  refine w_op (pc' := 41) dX9_keepEntry_40 rfl ?_
  refine t_getG0 (G := g_t_entries) dX9_keepEntry_41 rfl rfl (by decide) rfl (fun _ => rfl) (hp.1 _ rfl) ?_
  refine w_op (pc' := 45) dX9_keepEntry_44 rfl ?_
  refine t_getI (F := f_tsize) dX9_keepEntry_45 rfl rfl (by decide) rfl ⟨rfl, fun _ => rfl⟩ (hp.1 _ rfl) ?_
  refine w_op (pc' := 49) dX9_keepEntry_48 rfl ?_
  refine w_op (pc' := 50) dX9_keepEntry_49 rfl ?_
  refine t_getI (F := f_startedAt) dX9_keepEntry_50 rfl rfl (by decide) rfl ⟨rfl, fun _ => rfl⟩ (hp.1 _ rfl) ?_
  refine w_op (pc' := 54) dX9_keepEntry_53 rfl ?_
  refine w_sipush (v := 1280) dX9_keepEntry_54 rfl ?_
  refine w_op (pc' := 58) dX9_keepEntry_57 rfl ?_
  refine w_op (pc' := 59) dX9_keepEntry_58 rfl ?_
  refine w_op (pc' := 60) dX9_keepEntry_59 rfl ?_
  refine w_iconst (v := 2) dX9_keepEntry_60 rfl ?_
  refine w_op (pc' := 62) dX9_keepEntry_61 rfl ?_
  refine w_op (pc' := 63) dX9_keepEntry_62 rfl ?_
  refine w_ifeq (t := 70) dX9_keepEntry_63 (by decide) (fun c63 => ?_) (fun c63 => ?_)
  · refine w_iconst (v := 0) dX9_keepEntry_70 rfl ?_
    refine w_op (pc' := 72) dX9_keepEntry_71 rfl ?_
    refine t_iast (F := f_entries) dX9_keepEntry_72 rfl (by decide) (by decide) rfl t6 (by rw [hz]; exact s_ix.nI (N := p.2.2.1 T_ENTR 0) hzl (by omega)) (by omega) ?_
    refine w_op (pc' := 74) dX9_keepEntry_73 rfl ?_
    refine w_op (pc' := 75) dX9_keepEntry_74 rfl ?_
    refine t_getI (F := f_tsize) dX9_keepEntry_75 rfl rfl (by decide) rfl ⟨rfl, fun _ => rfl⟩ (hp.1 _ rfl) ?_
    refine w_iconst (v := 1) dX9_keepEntry_78 rfl ?_
    refine w_op (pc' := 80) dX9_keepEntry_79 rfl ?_
    refine t_putI (F := f_tsize) dX9_keepEntry_80 rfl rfl (by decide) (by decide) rfl rfl (Or.inl rfl) (hp.1 _ rfl) ?_
    exact w_return dX9_keepEntry_83 ⟨rfl, (by rw [show 0 * 1048576 + z = z by omega, s_up_F (show f_tsize ≠ f_entries by decide)]; have k2 := k ht2; unfold s_kev at k2; rw [if_pos c63, hcl] at k2; exact k2)⟩
  · refine w_iconst (v := 1) dX9_keepEntry_66 rfl ?_
    refine w_goto (t := 71) dX9_keepEntry_67 (by decide) ?_
    refine w_op (pc' := 72) dX9_keepEntry_71 rfl ?_
    refine t_iast (F := f_entries) dX9_keepEntry_72 rfl (by decide) (by decide) rfl t6 (by rw [hz]; exact s_ix.nI (N := p.2.2.1 T_ENTR 0) hzl (by omega)) (by omega) ?_
    refine w_op (pc' := 74) dX9_keepEntry_73 rfl ?_
    refine w_op (pc' := 75) dX9_keepEntry_74 rfl ?_
    refine t_getI (F := f_tsize) dX9_keepEntry_75 rfl rfl (by decide) rfl ⟨rfl, fun _ => rfl⟩ (hp.1 _ rfl) ?_
    refine w_iconst (v := 1) dX9_keepEntry_78 rfl ?_
    refine w_op (pc' := 80) dX9_keepEntry_79 rfl ?_
    refine t_putI (F := f_tsize) dX9_keepEntry_80 rfl rfl (by decide) (by decide) rfl rfl (Or.inl rfl) (hp.1 _ rfl) ?_
    exact w_return dX9_keepEntry_83 ⟨rfl, (by rw [show 0 * 1048576 + z = z by omega, s_up_F (show f_tsize ≠ f_entries by decide)]; have k2 := k ht2; unfold s_kev at k2; rw [if_neg c63, hcl] at k2; exact k2)⟩
set_option maxRecDepth 100000 in
set_option maxHeartbeats 4000000 in
theorem c_X9_keepEntry {X : e_XT} {d : Nat} {p : e_Sp} {I : e_I} {J : e_Jt} {c : Nat × Nat} {w : e_Rw1} {Q : e_Rt → e_SS → Prop} {a b : Nat} (hp : s_ok p) (hT : s_Tp p I c a b) {x y now : Int32} (k : ∀ p' c', s_xt p p' → s_Tp p' (s_ke I x y now) c' a b → Q (.inl none) (p', s_ke I x y now, J, c', w)) : s_c X (d + 2) 99 [.ref (p.1 T_TAPE 0), .int x, .int y, .int now] (p, I, J, c, w) Q := by
  obtain ⟨t1, ⟨kk, hlen, hk12, hc1, hc2⟩, ⟨z, hz, hzl⟩, t4, t5, t6⟩ := hT
  have hl20 := s_pow12 hk12
  rw [← hlen] at hl20
  refine m_X9_keepEntry (Nat.le_of_ble_eq_true rfl) ?_
  show s_w _ _ _ 0 _ _ _ _
  refine w_op (pc' := 1) dX9_keepEntry_0 rfl ?_
  refine t_getI (F := f_tsize) dX9_keepEntry_1 rfl rfl (by decide) rfl ⟨rfl, fun _ => rfl⟩ (hp.1 _ rfl) ?_
  refine w_ldci dX9_keepEntry_4 rfl ?_
  refine w_icmplt (t := 10) dX9_keepEntry_6 (by decide) (fun c6 => ?_) (fun c6 => ?_)
  · refine w_op (pc' := 11) dX9_keepEntry_10 rfl ?_
    refine t_getI (F := f_tsize) dX9_keepEntry_11 rfl rfl (by decide) rfl ⟨rfl, fun _ => rfl⟩ (hp.1 _ rfl) ?_
    refine w_op (pc' := 15) dX9_keepEntry_14 rfl ?_
    refine t_getG0 (G := g_t_entries) dX9_keepEntry_15 rfl rfl (by decide) rfl (fun _ => rfl) (hp.1 _ rfl) ?_
    refine t_alen dX9_keepEntry_18 (by decide) t6 ?_
    refine w_icmplt (t := 40) dX9_keepEntry_19 (by decide) (fun c19 => ?_) (fun c19 => ?_)
    · refine l_X9_keepEntry hp ⟨t1, ⟨kk, hlen, hk12, hc1, hc2⟩, ⟨z, hz, hzl⟩, t4, t5, t6⟩ hz ((nI_ltI (by omega) (by omega)).mp (by rw [← hz]; exact c19)) ?_
      intro hT2
      have e : s_ke I x y now = _ := if_neg (Int32.not_le.mpr c6)
      rw [← e] at hT2 ⊢
      exact k p c s_xt.rfl' hT2
    · refine w_op (pc' := 23) dX9_keepEntry_22 rfl ?_
      refine w_op (pc' := 24) dX9_keepEntry_23 rfl ?_
      refine t_getG0 (G := g_t_entries) dX9_keepEntry_24 rfl rfl (by decide) rfl (fun _ => rfl) (hp.1 _ rfl) ?_
      refine w_iconst (v := 2) dX9_keepEntry_27 rfl ?_
      refine w_op (pc' := 29) dX9_keepEntry_28 rfl ?_
      refine t_getG0 (G := g_t_entries) dX9_keepEntry_29 rfl rfl (by decide) rfl (fun _ => rfl) (hp.1 _ rfl) ?_
      refine t_alen dX9_keepEntry_32 (by decide) t6 ?_
      refine w_op (pc' := 34) dX9_keepEntry_33 rfl ?_
      rw [show (2 : Int32) * nI (s_ln p T_ENTR 0) = nI (2 * p.2.2.1 T_ENTR 0) from (Int32.ofNat_mul 2 _).symm]
      have hzn : p.2.2.1 T_ENTR 0 ≤ z := (nI_leI (by omega) (by omega)).mp (by rw [← hz]; exact Int32.not_lt.mp c19)
      have hz20 : z < 1048576 := (nI_ltI (b := 1048576) (by omega) (by omega)).mp (by rw [← hz]; exact c6)
      have hkk := s_pow12' (k := kk) (by omega)
      have hp2 := Nat.two_pow_pos kk
      refine t_callS (As := [_, _]) dX9_keepEntry_34 rfl rM_J7_copyOf_59c91 (by decide) rfl rfl (by decide) (Nat.le_of_ble_eq_true rfl) (c_copyOfI (F := f_entries) (W := 1048576) (m := p.2.2.1 T_ENTR 0) (n := 2 * p.2.2.1 T_ENTR 0) rfl (by decide) rfl t6 rfl hl20 (by omega) (by omega) (by unfold e_xb; omega) (fun a9 g hf hg1 hg2 => ?_))
      show s_w _ _ _ 37 _ _ _ _
      refine w_putEntr dX9_keepEntry_37 rfl (Or.inl rfl) (hp.1 _ rfl) t1 hf.1 (fun s hs => ?_) ?_
      · by_cases h9 : s < p.2.2.1 T_ENTR 0
        · exact hg1 s h9
        · rw [hg2 s (by omega), t4 s (by omega) hs]; rfl
      have hL : (s_te p a9 (2 * p.2.2.1 T_ENTR 0)).2.2.1 T_ENTR 0 = 2 * p.2.2.1 T_ENTR 0 := rfl
      refine l_X9_keepEntry (p := (s_te p a9 (2 * p.2.2.1 T_ENTR 0))) (c := (c.1 + 1, c.2 + 2 * p.2.2.1 T_ENTR 0)) (hp.xt (s_te.xt (by omega))) ⟨t1, ⟨kk + 1, (by rw [hL, hlen, Nat.pow_succ]; omega), hkk, (by show c.1 + 1 = a + (kk + 1); omega), (by rw [hL]; show c.2 + 2 * p.2.2.1 T_ENTR 0 + 512 = b + 2 * (2 * p.2.2.1 T_ENTR 0); omega), (by show a ≤ c.1 + 1; omega), (by show b ≤ c.2 + 2 * _; omega)⟩, ⟨z, hz, (by rw [hL]; omega)⟩, fun i h1 h2 => (by rw [hL] at h1; exact t4 i (by omega) h2), t5, t6⟩ hz (by rw [hL]; omega) ?_
      intro hT2
      have e : s_ke I x y now = _ := if_neg (Int32.not_le.mpr c6)
      rw [← e] at hT2 ⊢
      exact k _ _ (s_te.xt (by omega)) hT2
  · exact w_return dX9_keepEntry_9 ⟨rfl, (by have e : s_ke I x y now = I := if_pos (Int32.not_lt.mp c6); rw [e] at k; exact k p c s_xt.rfl' ⟨t1, ⟨kk, hlen, hk12, hc1, hc2⟩, ⟨z, hz, hzl⟩, t4, t5, t6⟩)⟩
def s_kp (ch : Int32) (I : e_I) (x y on now : Int32) : e_I := if I f_recording 0 = ch then s_ke I (x * 128 + y) on now else I
theorem s_eqC.kp {ch : Int32} {I : e_I} {x y on now : Int32} : s_eqC I (s_kp ch I x y on now) := by
  unfold s_kp
  split
  · exact s_eqC.ke
  · exact s_eqC.rfl'
set_option maxRecDepth 100000 in
set_option maxHeartbeats 4000000 in
theorem c_X9_keepPipe {X : e_XT} {d : Nat} {p : e_Sp} {I : e_I} {J : e_Jt} {c : Nat × Nat} {w : e_Rw1} {Q : e_Rt → e_SS → Prop} {a b : Nat} (hp : s_ok p) (hT : s_Tp p I c a b) {x y on now : Int32} (k : ∀ p' c', s_xt p p' → s_Tp p' (s_kp 114 I x y on now) c' a b → Q (.inl none) (p', s_kp 114 I x y on now, J, c', w)) : s_c X (d + 3) 98 [.ref (p.1 T_TAPE 0), .int x, .int y, .int on, .int now] (p, I, J, c, w) Q := by
  refine m_X9_keepPipe (Nat.le_of_ble_eq_true rfl) ?_
  show s_w _ _ _ 0 _ _ _ _
  refine w_op (pc' := 1) dX9_keepPipe_0 rfl ?_
  refine t_getI (F := f_recording) dX9_keepPipe_1 rfl rfl (by decide) rfl ⟨rfl, fun _ => rfl⟩ (hp.1 _ rfl) ?_
  refine w_bipush (v := 114) dX9_keepPipe_4 rfl ?_
  refine w_icmpne (t := 23) dX9_keepPipe_6 (by decide) (fun c6 => ?_) (fun c6 => ?_)
  · exact w_return dX9_keepPipe_23 ⟨rfl, (by have e : s_kp 114 I x y on now = I := if_neg c6; rw [e] at k; exact k p c s_xt.rfl' hT)⟩
  · refine w_op (pc' := 10) dX9_keepPipe_9 rfl ?_
    refine w_op (pc' := 11) dX9_keepPipe_10 rfl ?_
    refine w_sipush (v := 128) dX9_keepPipe_11 rfl ?_
    refine w_op (pc' := 15) dX9_keepPipe_14 rfl ?_
    refine w_op (pc' := 16) dX9_keepPipe_15 rfl ?_
    refine w_op (pc' := 17) dX9_keepPipe_16 rfl ?_
    refine w_op (pc' := 18) dX9_keepPipe_17 rfl ?_
    refine w_op (pc' := 20) dX9_keepPipe_18 rfl ?_
    have e : s_kp 114 I x y on now = _ := if_pos c6
    refine t_callV (t := T_TAPE) (As := [_, _, _]) dX9_keepPipe_20 rfl rM_X9_keepEntry (by decide) rfl rfl (by decide) (by decide) (Nat.le_of_ble_eq_true rfl) rfl (hp.1 _ rfl) (c_X9_keepEntry hp hT (fun p' c' hx hT2 => ?_))
    show s_w _ _ _ 23 _ _ _ _
    exact w_return dX9_keepPipe_23 ⟨rfl, by rw [e] at k; exact k _ _ hx hT2⟩
set_option maxRecDepth 100000 in
set_option maxHeartbeats 4000000 in
theorem c_X9_keepKey {X : e_XT} {d : Nat} {p : e_Sp} {I : e_I} {J : e_Jt} {c : Nat × Nat} {w : e_Rw1} {Q : e_Rt → e_SS → Prop} {a b : Nat} (hp : s_ok p) (hT : s_Tp p I c a b) {x y on now : Int32} (k : ∀ p' c', s_xt p p' → s_Tp p' (s_kp 107 I x y on now) c' a b → Q (.inl none) (p', s_kp 107 I x y on now, J, c', w)) : s_c X (d + 3) 100 [.ref (p.1 T_TAPE 0), .int x, .int y, .int on, .int now] (p, I, J, c, w) Q := by
  refine m_X9_keepKey (Nat.le_of_ble_eq_true rfl) ?_
  show s_w _ _ _ 0 _ _ _ _
  refine w_op (pc' := 1) dX9_keepKey_0 rfl ?_
  refine t_getI (F := f_recording) dX9_keepKey_1 rfl rfl (by decide) rfl ⟨rfl, fun _ => rfl⟩ (hp.1 _ rfl) ?_
  refine w_bipush (v := 107) dX9_keepKey_4 rfl ?_
  refine w_icmpne (t := 23) dX9_keepKey_6 (by decide) (fun c6 => ?_) (fun c6 => ?_)
  · exact w_return dX9_keepKey_23 ⟨rfl, (by have e : s_kp 107 I x y on now = I := if_neg c6; rw [e] at k; exact k p c s_xt.rfl' hT)⟩
  · refine w_op (pc' := 10) dX9_keepKey_9 rfl ?_
    refine w_op (pc' := 11) dX9_keepKey_10 rfl ?_
    refine w_sipush (v := 128) dX9_keepKey_11 rfl ?_
    refine w_op (pc' := 15) dX9_keepKey_14 rfl ?_
    refine w_op (pc' := 16) dX9_keepKey_15 rfl ?_
    refine w_op (pc' := 17) dX9_keepKey_16 rfl ?_
    refine w_op (pc' := 18) dX9_keepKey_17 rfl ?_
    refine w_op (pc' := 20) dX9_keepKey_18 rfl ?_
    have e : s_kp 107 I x y on now = _ := if_pos c6
    refine t_callV (t := T_TAPE) (As := [_, _, _]) dX9_keepKey_20 rfl rM_X9_keepEntry (by decide) rfl rfl (by decide) (by decide) (Nat.le_of_ble_eq_true rfl) rfl (hp.1 _ rfl) (c_X9_keepEntry hp hT (fun p' c' hx hT2 => ?_))
    show s_w _ _ _ 23 _ _ _ _
    exact w_return dX9_keepKey_23 ⟨rfl, by rw [e] at k; exact k _ _ hx hT2⟩
