/-! 99999999999: the search for a chord, both sides -/
theorem v_runR {α β : Type} {f : Nat → α → α} {g : Nat → β → β} {R : α → β → Prop} {i0 : Nat} : ∀ n, (∀ i a b, i0 ≤ i → i < i0 + n → R a b → R (f i a) (g i b)) → ∀ a b, R a b → R (s_run f i0 n a) (s_run g i0 n b) := by
  intro n
  induction n with
  | zero => exact fun _ a b h => h
  | succ n ih =>
    intro h a b hab
    rw [s_run_l, s_run_l]
    exact h (i0 + n) _ _ (by omega) (by omega) (ih (fun i a b h1 h2 => h i a b h1 (by omega)) a b hab)
/-- a step that is hit -/
theorem v_runH {α β : Type} {f : Nat → α → α} {g : Nat → β → β} {R : Prop → α → β → Prop} {i0 k : Nat} : ∀ n, i0 ≤ k → k < i0 + n → (∀ fd i a b, i0 ≤ i → i < i0 + n → R fd a b → R fd (f i a) (g i b)) → (∀ a b, R False a b → R True (f k a) (g k b)) → ∀ a b, R False a b → R True (s_run f i0 n a) (s_run g i0 n b) := by
  intro n
  induction n with
  | zero => intro h1 h2; omega
  | succ n ih =>
    intro h1 h2 h hh a b hab
    rw [s_run_l, s_run_l]
    by_cases c : k = i0 + n
    · rw [← c]
      exact hh _ _ (v_runR n (fun i a b z1 z2 => h False i a b z1 (by omega)) a b hab)
    · exact h True (i0 + n) _ _ (by omega) (by omega) (ih h1 (by omega) (fun fd i a b z1 z2 => h fd i a b z1 (by omega)) hh a b hab)
def v_di (a b : Nat) : Nat := if a ≤ b then b - a else a - b
set_option maxRecDepth 100000 in
theorem v_abs : ∀ a, a < 100 → ∀ b, b < 100 → s_abs (nI a - nI b) = nI (v_di a b) := by decide +kernel
theorem v_di_lt {a b : Nat} (ha : a < 100) (hb : b < 100) : v_di a b < 100 := by
  unfold v_di
  split <;> omega
theorem v_di_c (a b : Nat) : v_di a b = v_di b a := by
  unfold v_di
  by_cases c : a ≤ b
  · rw [if_pos c]
    by_cases d : b ≤ a
    · rw [if_pos d]; omega
    · rw [if_neg d]
  · rw [if_neg c, if_pos (by omega)]
theorem v_pfc {m : Nat} (hm : m < 100) : s_pfc (nI m) = true ↔ m % 12 = 7 ∨ (0 < m ∧ m % 12 = 0) := by
  unfold s_pfc
  rw [Bool.or_eq_true, Bool.and_eq_true, decide_eq_true_iff, decide_eq_true_iff, decide_eq_true_iff, v_r12 (by omega), show (7 : Int32) = nI 7 from by decide, show (0 : Int32) = nI 0 from rfl, nI_eq (by omega) (by omega), nI_eq (by omega) (by omega), nI_ltI (by omega) (by omega)]
theorem v_agn {m k : Nat} (hm : m < 100) (hk : k < 100) : s_agn (nI m) (nI k) = true ↔ 0 < m ∧ m % 12 = k % 12 := by
  unfold s_agn
  rw [Bool.and_eq_true, decide_eq_true_iff, decide_eq_true_iff, v_r12 (by omega), v_r12 (by omega), show (0 : Int32) = nI 0 from rfl, nI_eq (by omega) (by omega), nI_ltI (by omega) (by omega)]
/-- chords beside each other: c the last, w the one tried -/
def v_Ch (I I' : e_I) (c : Nat → Nat) : Prop := I f_hasChord 0 = I' f_m_hasChord 0 ∧ (¬ I' f_m_hasChord 0 = 0 → ∀ v, v < 4 → c v < 61 ∧ I' f_m_chord v = nI (c v) ∧ I f_a_chord v = nI (36 + c v))
theorem v_bst {I I' : e_I} {c w : Nat → Nat} {x0 x1 x2 x3 : Int32} {u v : Nat} (hc : ∀ v, v < 4 → c v < 61 ∧ I' f_m_chord v = nI (c v) ∧ I f_a_chord v = nI (36 + c v)) (hw : ∀ v, v < 4 → w v < 61 ∧ q_vo x0 x1 x2 x3 (nI v) = nI (w v) ∧ I f_a_trial v = nI (36 + w v)) (hu : u < 4) (hv : v < 4) : s_bst I u v = q_bsC I' x0 x1 x2 x3 u v := by
  obtain ⟨c1, c2, c3⟩ := hc u hu
  obtain ⟨d1, d2, d3⟩ := hc v hv
  obtain ⟨w1, w2, w3⟩ := hw u hu
  obtain ⟨y1, y2, y3⟩ := hw v hv
  have e36 : ∀ a b : Nat, a < 61 → b < 61 → s_abs (nI (36 + a) - nI (36 + b)) = nI (v_di a b) := by
    intro a b ha hb
    have : nI (36 + a) - nI (36 + b) = nI a - nI b := by
      rw [← nI_add, ← nI_add]; grind
    rw [this, v_abs a (by omega) b (by omega)]
  unfold s_bst q_bsC
  rw [c2, c3, d2, d3, w2, w3, y2, y3, e36 _ _ c1 d1, e36 _ _ w1 y1, v_abs _ (by omega) _ (by omega), v_abs _ (by omega) _ (by omega), v_di_c (c v) (c u), v_di_c (w v) (w u)]
  have l1 := v_di_lt (a := c u) (b := c v) (by omega) (by omega)
  have l2 := v_di_lt (a := w u) (b := w v) (by omega) (by omega)
  generalize v_di (c u) (c v) = p at *
  generalize v_di (w u) (w v) = q at *
  rw [Bool.eq_iff_iff, Bool.and_eq_true, Bool.and_eq_true, Bool.and_eq_true, Bool.and_eq_true, Bool.and_eq_true, Bool.and_eq_true, Bool.and_eq_true, v_pfc l1, v_pfc l2, v_agn l2 l1, Bool.not_eq_true', Bool.not_eq_true', Bool.not_eq_true', Bool.not_eq_true', decide_eq_false_iff_not, decide_eq_false_iff_not, decide_eq_false_iff_not, decide_eq_false_iff_not, decide_eq_true_iff, v_r12 (by omega), v_r12 (by omega), nI_eq (by omega) (by omega), nI_eq (by omega) (by omega), nI_eq (by omega) (by omega), nI_eq (by omega) (by omega), nI_eq (by omega) (by omega)]
  omega
theorem v_bds {I I' : e_I} {c w : Nat → Nat} {x0 x1 x2 x3 : Int32} (hC : v_Ch I I' c) (hw : ∀ v, v < 4 → w v < 61 ∧ q_vo x0 x1 x2 x3 (nI v) = nI (w v) ∧ I f_a_trial v = nI (36 + w v)) : s_bds I = q_bs I' x0 x1 x2 x3 ∧ ∃ m, m ≤ 16 ∧ q_bs I' x0 x1 x2 x3 = nI m := by
  obtain ⟨e1, hc⟩ := hC
  unfold s_bds q_bs
  rw [e1]
  by_cases z : I' f_m_hasChord 0 = 0
  · rw [if_pos z, if_pos z]; exact ⟨rfl, 0, by omega, rfl⟩
  · rw [if_neg z, if_neg z]
    have hc := hc z
    have key := v_run2 (f := s_bdL I) (g := q_bsI I' x0 x1 x2 x3) (m := 4) (R := fun i a b => a = b ∧ ∃ m, m ≤ 4 * i ∧ b = nI m) (fun i a b hi hab => by
      obtain ⟨rfl, m, hm, em⟩ := hab
      have in1 : ∀ n, i + 1 + n ≤ 4 → s_run (s_bdH I i) (i + 1) n a = s_run (q_bsJ I' x0 x1 x2 x3 i) (i + 1) n a ∧ ∃ k, k ≤ m + n ∧ s_run (q_bsJ I' x0 x1 x2 x3 i) (i + 1) n a = nI k := by
        intro n
        induction n with
        | zero => exact fun _ => ⟨rfl, m, by omega, em⟩
        | succ n ih =>
          intro hn
          obtain ⟨j1, k, hk, j2⟩ := ih (by omega)
          rw [s_run_l, s_run_l, j1, j2]
          unfold s_bdH q_bsJ
          rw [v_bst hc hw hi (by omega)]
          cases q_bsC I' x0 x1 x2 x3 i (i + 1 + n)
          · exact ⟨rfl, k, by omega, by show nI k + bI false = nI k; rw [show bI false = 0 from rfl, Int32.add_zero]⟩
          · exact ⟨rfl, k + 1, by omega, by show nI k + bI true = nI (k + 1); rw [show bI true = 1 from rfl, nI_1]⟩
      obtain ⟨j1, k, hk, j2⟩ := in1 (4 - (i + 1)) (by omega)
      exact ⟨j1, k, by omega, j2⟩) (a := (0 : Int32)) (b := (0 : Int32)) ⟨rfl, 0, by omega, rfl⟩ 4 (Nat.le_refl _)
    exact key
theorem v_wayE {I I' : e_I} {c : Nat → Nat} {x y z : Int32} (hC : v_Ch I I' c) : s_wgW I x y z = q_fa I' x y z := by
  obtain ⟨e1, hc⟩ := hC
  unfold s_wgW q_fa s_way
  rw [e1]
  by_cases z : I' f_m_hasChord 0 = 0
  · rw [if_pos z, if_pos z, if_pos z, if_pos z]
  · rw [if_neg z, if_neg z, if_neg z, if_neg z]
    have hc := hc z
    have ck : ∀ v, v < 4 → s_cky I (nI v) = I' f_m_chord v := by
      intro v hv
      obtain ⟨h1, h2, h3⟩ := hc v hv
      unfold s_cky
      rw [if_pos ⟨nI_pos' (by omega), show nI v < (4 : Int32) from nI_lt (b := 4) hv (by omega)⟩, nI_clamp (by omega), h2, h3, show (36 : Int32) = nI 36 from by decide, nI_sub (by omega)]
      congr 1; omega
    have k1 : s_cky I 1 = I' f_m_chord 1 := ck 1 (by omega)
    have k2 : s_cky I 2 = I' f_m_chord 2 := ck 2 (by omega)
    have k3 : s_cky I 3 = I' f_m_chord 3 := ck 3 (by omega)
    rw [k1, k2, k3]
/-- found -/
def v_Fo (b : Nat) (I : e_I) (a : e_I × Int32 × Int32) : Prop := I f_bestBad 0 = a.2.1 ∧ I f_bestWay 0 = a.2.2 ∧ I f_a_best 0 = nI (36 + b) ∧ ∀ j, j < 3 → ∃ c, c ≤ 48 ∧ a.1 f_m_best j = nI c ∧ I f_a_best (j + 1) = nI (36 + c)
def v_sT : List Nat := [f_a_trial, f_bestBad, f_bestWay, f_a_best]
def v_Se (I0 I0' : e_I) (b : Nat) (fd : Prop) (I : e_I) (a : e_I × Int32 × Int32) : Prop := s_eqN v_sT I0 I ∧ s_eqN [f_m_best] I0' a.1 ∧ I f_a_trial 0 = nI (36 + b) ∧ (v_Fo b I a ∨ (¬ fd ∧ I f_bestBad 0 = 1000000 ∧ a.2.1 = 99))
theorem v_Ch.N {T T' : List Nat} {I I' I1 I1' : e_I} {c : Nat → Nat} (h : v_Ch I I' c) (e : s_eqN T I I1) (e' : s_eqN T' I' I1') (hT : v_dj [f_hasChord, f_a_chord] T = true) (hT' : v_dj [f_m_hasChord, f_m_chord] T' = true) : v_Ch I1 I1' c := by
  unfold v_Ch at h ⊢
  simp only [e f_hasChord (v_dj.o hT (by decide)), e f_a_chord (v_dj.o hT (by decide)), e' f_m_hasChord (v_dj.o hT' (by decide)), e' f_m_chord (v_dj.o hT' (by decide))]
  exact h
/-- one chord is weighed -/
theorem v_weigh {I0 I0' I : e_I} {a : e_I × Int32 × Int32} {b u v t : Nat} {fd : Prop} {c : Nat → Nat} (hC : v_Ch I0 I0' c) (hb : b < 61) (hu : u ≤ 48) (hv : v ≤ 48) (ht : t ≤ 48) (h : v_Se I0 I0' b fd I a) : v_Se I0 I0' b True (s_wgB (s_wgT I (nI u) (nI v) (nI t)) (nI u) (nI v) (nI t)) (if ¬ a.2.1 < q_bs a.1 (nI b) (nI u) (nI v) (nI t) ∧ (q_bs a.1 (nI b) (nI u) (nI v) (nI t) = a.2.1 → q_fa a.1 (nI u) (nI v) (nI t) < a.2.2) then (s_up (s_up (s_up a.1 f_m_best 0 (nI u)) f_m_best 1 (nI v)) f_m_best 2 (nI t), q_bs a.1 (nI b) (nI u) (nI v) (nI t), q_fa a.1 (nI u) (nI v) (nI t)) else a) := by
  obtain ⟨e, e', h0, hf⟩ := h
  have eT : s_eqN v_sT I (s_wgT I (nI u) (nI v) (nI t)) := ((s_eqN.up (by decide)).trans (s_eqN.up (by decide))).trans (s_eqN.up (by decide))
  have t0 : s_wgT I (nI u) (nI v) (nI t) f_a_trial 0 = nI (36 + b) := by
    unfold s_wgT
    rw [s_up_i (by decide), s_up_i (by decide), s_up_i (by decide)]; exact h0
  have t1 : s_wgT I (nI u) (nI v) (nI t) f_a_trial 1 = nI (36 + u) := by
    unfold s_wgT
    rw [s_up_i (by decide), s_up_i (by decide), s_up_s, v_36]
  have t2 : s_wgT I (nI u) (nI v) (nI t) f_a_trial 2 = nI (36 + v) := by
    unfold s_wgT
    rw [s_up_i (by decide), s_up_s, v_36]
  have t3 : s_wgT I (nI u) (nI v) (nI t) f_a_trial 3 = nI (36 + t) := by
    unfold s_wgT
    rw [s_up_s, v_36]
  have tF : ∀ F, F ≠ f_a_trial → ∀ i, s_wgT I (nI u) (nI v) (nI t) F i = I F i := fun F hF i => by
    unfold s_wgT
    rw [s_up_F hF, s_up_F hF, s_up_F hF]
  have hC1 : v_Ch (s_wgT I (nI u) (nI v) (nI t)) a.1 c := hC.N (e.trans eT) e' (by decide) (by decide)
  have hw : ∀ j, j < 4 → (if j = 0 then b else if j = 1 then u else if j = 2 then v else t) < 61 ∧ q_vo (nI b) (nI u) (nI v) (nI t) (nI j) = nI (if j = 0 then b else if j = 1 then u else if j = 2 then v else t) ∧ s_wgT I (nI u) (nI v) (nI t) f_a_trial j = nI (36 + (if j = 0 then b else if j = 1 then u else if j = 2 then v else t)) := by
    intro j hj
    rcases (by omega : j = 0 ∨ j = 1 ∨ j = 2 ∨ j = 3) with z | z | z | z <;> subst z
    · exact ⟨hb, rfl, t0⟩
    · exact ⟨by show u < 61; omega, rfl, t1⟩
    · exact ⟨by show v < 61; omega, rfl, t2⟩
    · exact ⟨by show t < 61; omega, rfl, t3⟩
  obtain ⟨b1, m, hm, b2⟩ := v_bds hC1 hw
  have b3 := v_wayE (x := nI u) (y := nI v) (z := nI t) hC1
  have tB : s_wgT I (nI u) (nI v) (nI t) f_bestBad 0 = I f_bestBad 0 := tF _ (by decide) 0
  have tW : s_wgT I (nI u) (nI v) (nI t) f_bestWay 0 = I f_bestWay 0 := tF _ (by decide) 0
  have tb : ∀ j, s_wgT I (nI u) (nI v) (nI t) f_a_best j = I f_a_best j := tF _ (by decide)
  unfold s_wgB
  rw [b1, b3, tB, tW]
  generalize s_wgT I (nI u) (nI v) (nI t) = T at *
  generalize q_bs a.1 (nI b) (nI u) (nI v) (nI t) = B at *
  generalize q_fa a.1 (nI u) (nI v) (nI t) = W at *
  have hit : v_Se I0 I0' b True (s_cpI (s_up (s_up T f_bestBad 0 B) f_bestWay 0 W) f_a_trial f_a_best 4) (s_up (s_up (s_up a.1 f_m_best 0 (nI u)) f_m_best 1 (nI v)) f_m_best 2 (nI t), B, W) := by
    have g1 : ∀ j, j < 4 → s_cpI (s_up (s_up T f_bestBad 0 B) f_bestWay 0 W) f_a_trial f_a_best 4 f_a_best j = T f_a_trial j := by
      intro j hj
      unfold s_cpI
      rw [if_pos ⟨rfl, hj⟩, s_up_F (by decide), s_up_F (by decide)]
    have g2 : ∀ F, F ≠ f_a_best → ∀ j, s_cpI (s_up (s_up T f_bestBad 0 B) f_bestWay 0 W) f_a_trial f_a_best 4 F j = s_up (s_up T f_bestBad 0 B) f_bestWay 0 W F j := by
      intro F hF j
      unfold s_cpI
      rw [if_neg (fun z => hF z.1)]
    refine ⟨?_, ?_, ?_, .inl ⟨?_, ?_, ?_, ?_⟩⟩
    · intro F hF
      have n1 : F ≠ f_a_best := fun z => by rw [z] at hF; exact absurd hF (by decide)
      have n2 : F ≠ f_bestWay := fun z => by rw [z] at hF; exact absurd hF (by decide)
      have n3 : F ≠ f_bestBad := fun z => by rw [z] at hF; exact absurd hF (by decide)
      funext j
      rw [g2 F n1, s_up_F n2, s_up_F n3, eT F hF, e F hF]
    · exact ((e'.trans (s_eqN.up (by decide))).trans (s_eqN.up (by decide))).trans (s_eqN.up (by decide))
    · rw [g2 _ (by decide), s_up_F (by decide), s_up_F (by decide)]; exact t0
    · rw [g2 _ (by decide), s_up_F (by decide), s_up_s]
    · rw [g2 _ (by decide), s_up_s]
    · rw [g1 0 (by omega), t0]
    · intro j hj
      dsimp only
      rcases (by omega : j = 0 ∨ j = 1 ∨ j = 2) with z | z | z <;> subst z
      · exact ⟨u, hu, by rw [s_up_i (by decide), s_up_i (by decide), s_up_s], by rw [g1 1 (by omega), t1]⟩
      · exact ⟨v, hv, by rw [s_up_i (by decide), s_up_s], by rw [g1 2 (by omega), t2]⟩
      · exact ⟨t, ht, by rw [s_up_s], by rw [g1 3 (by omega), t3]⟩
  rcases hf with ⟨f1, f2, f3, f4⟩ | ⟨f1, f2, f3⟩
  · by_cases q : B < I f_bestBad 0 ∨ (B = I f_bestBad 0 ∧ W < I f_bestWay 0)
    · rw [if_pos q, if_pos]
      · exact hit
      · rw [f1, f2] at q
        refine ⟨fun z => ?_, fun z => ?_⟩
        · rcases q with q | q
          · exact Int32.lt_asymm z q
          · rw [q.1] at z; exact Int32.lt_irrefl z
        · rcases q with q | q
          · rw [z] at q; exact absurd q Int32.lt_irrefl
          · exact q.2
    · rw [if_neg q, if_neg]
      · exact ⟨e.trans eT, e', t0, .inl ⟨tB.trans f1, tW.trans f2, (tb 0).trans f3, fun j hj => by
          obtain ⟨c, h1, h2, h3⟩ := f4 j hj
          exact ⟨c, h1, h2, (tb _).trans h3⟩⟩⟩
      · rintro ⟨z1, z2⟩
        rw [f1, f2] at q
        rcases Int32.lt_or_le B a.2.1 with z | z
        · exact q (.inl z)
        · have : B = a.2.1 := Int32.le_antisymm (Int32.not_lt.mp z1) z
          exact q (.inr ⟨this, z2 this⟩)
  · rw [if_pos (.inl (by rw [f2, b2, show (1000000 : Int32) = nI 1000000 from by decide]; exact nI_lt (by omega) (by omega))), if_pos]
    · exact hit
    · rw [f3, b2, show (99 : Int32) = nI 99 from by decide]
      exact ⟨fun z => by have := (nI_ltI (by omega) (by omega)).mp z; omega, fun z => by have := (nI_eq (by omega) (by omega)).mp z; omega⟩
