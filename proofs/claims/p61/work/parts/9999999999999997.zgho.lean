/-! 9999999999999997: how often pipes have begun and ended (the ghost's numbers) -/
def z_sm (f : Nat → Nat) : Nat → Nat
  | 0 => 0
  | n + 1 => z_sm f n + f n
theorem z_sm_c {f g : Nat → Nat} : ∀ n, (∀ q, q < n → f q = g q) → z_sm f n = z_sm g n := by
  intro n
  induction n with
  | zero => intro _; rfl
  | succ n ih =>
    intro h
    show z_sm f n + f n = z_sm g n + g n
    rw [ih (fun q hq => h q (by omega)), h n (by omega)]
theorem z_sm_u {f : Nat → Nat} {i x : Nat} : ∀ n, i < n → z_sm (fun q => if q = i then f q + x else f q) n = z_sm f n + x := by
  intro n
  induction n with
  | zero => intro h; omega
  | succ n ih =>
    intro h
    show z_sm (fun q => if q = i then f q + x else f q) n + (if n = i then f n + x else f n) = z_sm f n + f n + x
    by_cases e : n = i
    · rw [if_pos e, z_sm_c n (g := f) (fun q hq => if_neg (by omega))]; omega
    · rw [if_neg e, ih (by omega)]; omega
theorem z_sm_le {f : Nat → Nat} {K : Nat} : ∀ n, (∀ q, q < n → f q ≤ K) → z_sm f n ≤ n * K := by
  intro n
  induction n with
  | zero => intro _; exact Nat.zero_le _
  | succ n ih =>
    intro h
    have h1 := ih (fun q hq => h q (by omega))
    have h2 := h n (by omega)
    show z_sm f n + f n ≤ (n + 1) * K
    rw [Nat.succ_mul]; omega
theorem z_sm_d {f g : Nat → Nat} {D : Nat} : ∀ n, (∀ q, q < n → f q ≤ g q ∧ g q ≤ f q + D) → z_sm f n ≤ z_sm g n ∧ z_sm g n ≤ z_sm f n + n * D := by
  intro n
  induction n with
  | zero => intro _; exact ⟨Nat.le_refl _, Nat.zero_le _⟩
  | succ n ih =>
    intro h
    have h1 := ih (fun q hq => h q (by omega))
    have h2 := h n (by omega)
    show z_sm f n + f n ≤ z_sm g n + g n ∧ z_sm g n + g n ≤ z_sm f n + f n + (n + 1) * D
    rw [Nat.succ_mul]; omega
/-- x lies lo ticks back at least -/
def z_ag (lo m : Nat) (x : Int32) : Prop := ∃ a, lo ≤ a ∧ a ≤ m + 1000000 ∧ x = nI m - nI a
theorem z_ag.now {m : Nat} : z_ag 0 m (nI m) := ⟨0, Nat.le_refl _, by omega, (Int32.sub_zero _).symm⟩
theorem z_ag.up {lo m : Nat} {x : Int32} (h : z_ag lo m x) : z_ag (lo + 1) (m + 1) x := by
  obtain ⟨a, h1, h2, h3⟩ := h
  refine ⟨a + 1, by omega, by omega, ?_⟩
  rw [h3, ← nI_1, ← nI_1 a]
  have : ∀ u v : Int32, u - v = u + 1 - (v + 1) := fun u v => by
    rw [Int32.sub_eq_add_neg, Int32.sub_eq_add_neg, Int32.neg_add, Int32.sub_eq_add_neg, ← Int32.add_assoc, Int32.add_assoc u 1, Int32.add_comm 1 (-v), ← Int32.add_assoc, Int32.add_assoc, Int32.add_right_neg, Int32.add_zero]
  exact this _ _
theorem z_ag.mono {lo lo' m : Nat} {x : Int32} (h : z_ag lo m x) (hl : lo' ≤ lo) : z_ag lo' m x := by
  obtain ⟨a, h1, h2, h3⟩ := h
  exact ⟨a, by omega, h2, h3⟩
theorem z_ag.ge {lo m dl : Nat} {x : Int32} (h : z_ag lo m x) (hd : dl ≤ lo) (hm : m ≤ 1000000000) : nI dl ≤ nI m - x := by
  obtain ⟨a, h1, h2, h3⟩ := h
  have : ∀ u v : Int32, u - (u - v) = v := fun u v => by
    rw [Int32.sub_eq_add_neg, Int32.neg_sub, Int32.sub_eq_add_neg, Int32.add_comm v, ← Int32.add_assoc, Int32.add_right_neg, Int32.zero_add]
  rw [h3, this]
  exact nI_le (by omega) (by omega)
/-- when pipes were wanted and closed -/
def z_Sn (K np : Nat) (I : e_I) : Prop := ∃ m : Nat, m ≤ K ∧ I f_m_tick 0 = nI m ∧ ∀ q, q < np → z_ag 0 m (I f_m_since q) ∧ z_ag 0 m (I f_m_closedSince q)
theorem z_Sn.N {K np : Nat} {T : List Nat} {I I' : e_I} (h : z_Sn K np I) (e : s_eqN T I I') (hT : v_dj [f_m_tick, f_m_since, f_m_closedSince] T = true) : z_Sn K np I' := by
  unfold z_Sn at h ⊢
  rw [e f_m_tick (v_dj.o hT (by decide)), e f_m_since (v_dj.o hT (by decide)), e f_m_closedSince (v_dj.o hT (by decide))]
  exact h
theorem z_Sn.mono {K K' np : Nat} {I : e_I} (h : z_Sn K np I) (hK : K ≤ K') : z_Sn K' np I := by
  obtain ⟨m, h1, h2⟩ := h
  exact ⟨m, by omega, h2⟩
theorem z_Sn.sc {K np i : Nat} {I : e_I} (h : z_Sn K np I) : z_Sn K np (s_up I f_m_since i (I f_m_tick 0)) := by
  obtain ⟨m, h1, h2, h3⟩ := h
  refine ⟨m, h1, by rw [s_up_F (by decide)]; exact h2, fun q hq => ⟨?_, by rw [s_up_F (by decide)]; exact (h3 q hq).2⟩⟩
  by_cases e : q = i
  · rw [e, s_up_s, h2]; exact z_ag.now
  · rw [s_up_i e]; exact (h3 q hq).1
theorem z_Sn.cl {K np i : Nat} {I : e_I} {x : Int32} (hx : x = I f_m_tick 0) (h : z_Sn K np I) : z_Sn K np (s_up I f_m_closedSince i x) := by
  obtain ⟨m, h1, h2, h3⟩ := h
  refine ⟨m, h1, by rw [s_up_F (by decide)]; exact h2, fun q hq => ⟨by rw [s_up_F (by decide)]; exact (h3 q hq).1, ?_⟩⟩
  by_cases e : q = i
  · rw [e, s_up_s, hx, h2]; exact z_ag.now
  · rw [s_up_i e]; exact (h3 q hq).2
theorem z_Sn.stA {K np q : Nat} {I : e_I} (h : z_Sn K np I) : z_Sn K np (q_stA q I) := by
  have h1 : z_Sn K np (q_stK q I) := h.N (v_stKN (q := q) (I := I)) (by decide)
  unfold q_stA
  generalize q_stK q I = A at h1
  unfold q_stB
  have h2 : z_Sn K np (s_up A f_m_isCalled q (q_is I q)) := h1.N (s_eqN.up (T := [f_m_isCalled]) (by decide)) (by decide)
  generalize s_up A f_m_isCalled q (q_is I q) = B at h2
  unfold q_stV
  have h3 : ∀ C : e_I, z_Sn K np C → ∀ x, z_Sn K np (s_up C f_m_isWanted q x) := fun C hC x => hC.N (s_eqN.up (T := [f_m_isWanted]) (by decide)) (by decide)
  split
  · exact h3 _ h2 _
  · exact h3 _ h2.sc _
theorem z_Sn.mv {K np q : Nat} {I : e_I} (h : z_Sn K np I) : z_Sn K np (q_mv q I) := by
  unfold q_mv
  split
  · exact h.N (s_eqN.up (T := [f_m_isOpen]) (by decide)) (by decide)
  · split
    · refine (h.N (s_eqN.up (T := [f_m_isOpen]) (F := f_m_isOpen) (i := q) (x := 0) (by decide)) (by decide)).cl ?_
      rw [s_up_F (by decide)]
    · exact h
theorem z_Sn.tk {K np : Nat} {I : e_I} (h : z_Sn K np I) : z_Sn (K + 1) np (s_up I f_m_tick 0 (I f_m_tick 0 + 1)) := by
  obtain ⟨m, h1, h2, h3⟩ := h
  refine ⟨m + 1, by omega, by rw [s_up_s, h2, nI_1], fun q hq => ?_⟩
  rw [s_up_F (by decide), s_up_F (by decide)]
  exact ⟨(h3 q hq).1.up.mono (by omega), (h3 q hq).2.up.mono (by omega)⟩
theorem z_Sn.st0 {K nk nr np : Nat} {I : e_I} (h : z_Sn K np I) : z_Sn K np (q_bws nk np (s_run q_mv 0 np (s_run q_stA 0 np (q_rc nk nr np I)))) := by
  have h1 : z_Sn K np (q_rc nk nr np I) := h.N s_eqN.qrc (by decide)
  have h2 : z_Sn K np (s_run q_stA 0 np (q_rc nk nr np I)) := s_run_ind (P := fun A B => z_Sn K np A → z_Sn K np B) (fun _ k => k) (fun k1 k2 k => k2 (k1 k)) (fun _ _ => z_Sn.stA) np 0 _ h1
  have h3 : z_Sn K np (s_run q_mv 0 np (s_run q_stA 0 np (q_rc nk nr np I))) := s_run_ind (P := fun A B => z_Sn K np A → z_Sn K np B) (fun _ k => k) (fun k1 k2 k => k2 (k1 k)) (fun _ _ => z_Sn.mv) np 0 _ h2
  exact h3.N s_eqN.qbws (by decide)
theorem z_Sn.st {K nk nr np : Nat} {a : e_I × e_Jt} (h : z_Sn K np a.1) : z_Sn K np (q_st nk nr np a).1 := by
  unfold q_st
  exact (h.st0 (nk := nk) (nr := nr)).N (s_eqN.runP s_eqN.qsp _ _ (_, a.2)) (by decide)
/-- f: how often pipes have ended, g: which speak -/
def z_Ef (f g : Nat → Nat) (K np : Nat) (b : e_I × e_Jt) : Prop := (∀ q, q < np → f q ≤ K ∧ g q ≤ 1 ∧ b.1 f_m_begun q = nI (f q + g q) ∧ b.1 f_m_speaks q = nI (g q)) ∧ b.2 j_m_ended 0 = lN (z_sm f np) ∧ b.2 j_m_allBegun 0 = lN (z_sm (fun q => f q + g q) np) ∧ z_Sn K np b.1
def z_E (K np : Nat) (b : e_I × e_Jt) : Prop := ∃ f g, z_Ef f g K np b
/-- D settlings lie between a and b at most -/
def z_T (D np : Nat) (a b : e_I × e_Jt) : Prop := ∀ f g K, z_Ef f g K np a → ∃ f' g', z_Ef f' g' (K + D) np b ∧ ∀ q, q < np → f q + g q ≤ f' q + g' q ∧ f' q + g' q ≤ f q + g q + D
theorem z_T.rfl' {np : Nat} {a : e_I × e_Jt} : z_T 0 np a a := fun f g _ h => ⟨f, g, h, fun _ _ => ⟨Nat.le_refl _, Nat.le_refl _⟩⟩
theorem z_T.trans {D E np : Nat} {a b c : e_I × e_Jt} (h : z_T D np a b) (k : z_T E np b c) : z_T (D + E) np a c := fun f g K hf => by
  obtain ⟨f1, g1, h1, h2⟩ := h f g K hf
  obtain ⟨f2, g2, h3, h4⟩ := k f1 g1 (K + D) h1
  refine ⟨f2, g2, ?_, fun q hq => ?_⟩
  · rw [← Nat.add_assoc]; exact h3
  · have := h2 q hq
    have := h4 q hq
    omega
theorem z_T.N {np : Nat} {a b : e_I × e_Jt} {T : List Nat} (e : s_eqN T a.1 b.1) (hT : v_dj [f_m_begun, f_m_speaks, f_m_tick, f_m_since, f_m_closedSince] T = true) (h1 : b.2 j_m_ended = a.2 j_m_ended) (h2 : b.2 j_m_allBegun = a.2 j_m_allBegun) : z_T 0 np a b := fun f g K h => by
  refine ⟨f, g, ⟨fun q hq => ?_, ?_, ?_, h.2.2.2.N e (h_sub hT (by decide))⟩, fun _ _ => ⟨Nat.le_refl _, Nat.le_refl _⟩⟩
  · rw [e f_m_begun (v_dj.o hT (by decide)), e f_m_speaks (v_dj.o hT (by decide))]
    exact h.1 q hq
  · rw [h1]; exact h.2.1
  · rw [h2]; exact h.2.2.1
theorem z_lN1 (n : Nat) : lN n + 1 = lN (n + 1) := lN_1 n
theorem z_sp1 {f g : Nat → Nat} {K np i : Nat} {b : e_I × e_Jt} (hi : i < np) (h : (∀ q, q < np → g q ≤ 1 ∧ b.1 f_m_begun q = nI (f q + g q) ∧ b.1 f_m_speaks q = nI (g q)) ∧ b.2 j_m_ended 0 = lN (z_sm f np) ∧ b.2 j_m_allBegun 0 = lN (z_sm (fun q => f q + g q) np)) : ∃ f' g' : Nat → Nat, ((∀ q, q < np → g' q ≤ 1 ∧ (q_sp i b).1 f_m_begun q = nI (f' q + g' q) ∧ (q_sp i b).1 f_m_speaks q = nI (g' q)) ∧ (q_sp i b).2 j_m_ended 0 = lN (z_sm f' np) ∧ (q_sp i b).2 j_m_allBegun 0 = lN (z_sm (fun q => f' q + g' q) np)) ∧ (∀ q, q ≠ i → f' q = f q ∧ g' q = g q) ∧ f i ≤ f' i ∧ f' i ≤ f i + 1 ∧ f i + g i ≤ f' i + g' i ∧ f' i + g' i ≤ f i + g i + 1 := by
  obtain ⟨h1, h2, h3⟩ := h
  obtain ⟨gi, bi, si⟩ := h1 i hi
  have hsp : decide (b.1 f_m_speaks i = 0) = decide (g i = 0) := by
    rw [si]
    exact decide_eq_decide.mpr (nI_eq (b := 0) (by omega) (by decide))
  have hsn : decide (b.1 f_m_speaks i ≠ 0) = decide (¬ g i = 0) := by
    rw [si]
    exact decide_eq_decide.mpr (not_congr (nI_eq (b := 0) (by omega) (by decide)))
  have ob : ∀ q, q ≠ i → (q_sp i b).1 f_m_begun q = b.1 f_m_begun q ∧ (q_sp i b).1 f_m_speaks q = b.1 f_m_speaks q := fun q hq => by
    unfold q_sp
    dsimp only
    rw [s_up_F (by decide), s_up_i hq, s_up_i hq, s_up_F (by decide)]
    exact ⟨rfl, rfl⟩
  have eb : (q_sp i b).1 f_m_begun i = b.1 f_m_begun i + bI (q_sis b.1 i && decide (g i = 0)) := by
    unfold q_sp
    dsimp only
    rw [s_up_F (by decide), s_up_s, hsp]
  have es : (q_sp i b).1 f_m_speaks i = bI (q_sis b.1 i) := by
    unfold q_sp
    dsimp only
    rw [s_up_s]
  have ee : (q_sp i b).2 j_m_ended 0 = b.2 j_m_ended 0 + (if (!q_sis b.1 i && decide (¬ g i = 0)) = true then 1 else 0) := by
    unfold q_sp
    dsimp only
    rw [s_up_s, s_up_F (by decide), hsn]
  have ea : (q_sp i b).2 j_m_allBegun 0 = b.2 j_m_allBegun 0 + (if (q_sis b.1 i && decide (g i = 0)) = true then 1 else 0) := by
    unfold q_sp
    dsimp only
    rw [s_up_F (by decide), s_up_s, hsp]
  cases hs : q_sis b.1 i
  · rw [hs] at eb es ee ea
    by_cases g0 : g i = 0
    · rw [decide_eq_true g0] at eb ea
      rw [decide_eq_false (not_not_intro g0)] at ee
      refine ⟨f, g, ⟨fun q hq => ?_, ?_, ?_⟩, fun q _ => ⟨rfl, rfl⟩, by omega, by omega, by omega, by omega⟩
      · by_cases e : q = i
        · rw [e, eb, es, g0, bi, g0]
          exact ⟨by omega, Int32.add_zero _, rfl⟩
        · rw [(ob q e).1, (ob q e).2]; exact h1 q hq
      · rw [ee, h2]; exact Int64.add_zero _
      · rw [ea, h3]; exact Int64.add_zero _
    · have g1 : g i = 1 := by omega
      rw [decide_eq_false g0] at eb ea
      rw [decide_eq_true g0] at ee
      refine ⟨fun q => if q = i then f q + 1 else f q, fun q => if q = i then 0 else g q, ⟨fun q hq => ?_, ?_, ?_⟩, fun q hq => ⟨if_neg hq, if_neg hq⟩, ?_, ?_, ?_, ?_⟩
      · dsimp only
        by_cases e : q = i
        · rw [e, if_pos rfl, if_pos rfl, eb, es, bi, g1]
          exact ⟨by omega, Int32.add_zero _, rfl⟩
        · rw [if_neg e, if_neg e, (ob q e).1, (ob q e).2]; exact h1 q hq
      · rw [ee, h2]
        rw [z_sm_u np hi]
        exact z_lN1 _
      · rw [ea, h3]
        have e9 : z_sm (fun q => (fun q => if q = i then f q + 1 else f q) q + (fun q => if q = i then 0 else g q) q) np = z_sm (fun q => f q + g q) np := by
         refine z_sm_c np (fun q hq => ?_)
         by_cases e : q = i
         · dsimp only; rw [if_pos e, if_pos e, e]; omega
         · dsimp only; rw [if_neg e, if_neg e]
        rw [e9]
        exact Int64.add_zero _
      · dsimp only; rw [if_pos rfl]; omega
      · dsimp only; rw [if_pos rfl]; omega
      · dsimp only; rw [if_pos rfl, if_pos rfl]; omega
      · dsimp only; rw [if_pos rfl, if_pos rfl]; omega
  · rw [hs] at eb es ee ea
    by_cases g0 : g i = 0
    · rw [decide_eq_true g0] at eb ea
      rw [decide_eq_false (not_not_intro g0)] at ee
      refine ⟨f, fun q => if q = i then 1 else g q, ⟨fun q hq => ?_, ?_, ?_⟩, fun q hq => ⟨rfl, if_neg hq⟩, by omega, by omega, ?_, ?_⟩
      · dsimp only
        by_cases e : q = i
        · rw [e, if_pos rfl, eb, es, bi, g0]
          exact ⟨by omega, nI_1 _, rfl⟩
        · rw [if_neg e, (ob q e).1, (ob q e).2]; exact h1 q hq
      · rw [ee, h2]; exact Int64.add_zero _
      · rw [ea, h3]
        have e9 : z_sm (fun q => f q + (fun q => if q = i then 1 else g q) q) np = z_sm (fun q => if q = i then (f q + g q) + 1 else f q + g q) np := by
         refine z_sm_c np (fun q hq => ?_)
         by_cases e : q = i
         · dsimp only; rw [if_pos e, if_pos e, e]; omega
         · dsimp only; rw [if_neg e, if_neg e]
        rw [e9, z_sm_u (f := fun q => f q + g q) np hi]
        exact z_lN1 _
      · dsimp only; rw [if_pos rfl]; omega
      · dsimp only; rw [if_pos rfl]; omega
    · have g1 : g i = 1 := by omega
      rw [decide_eq_false g0] at eb ea
      rw [decide_eq_true g0] at ee
      refine ⟨f, g, ⟨fun q hq => ?_, ?_, ?_⟩, fun q _ => ⟨rfl, rfl⟩, by omega, by omega, by omega, by omega⟩
      · by_cases e : q = i
        · rw [e, eb, es, bi, g1]
          exact ⟨by omega, Int32.add_zero _, rfl⟩
        · rw [(ob q e).1, (ob q e).2]; exact h1 q hq
      · rw [ee, h2]; exact Int64.add_zero _
      · rw [ea, h3]; exact Int64.add_zero _
theorem z_spR {f g : Nat → Nat} {K np : Nat} {b : e_I × e_Jt} (h : z_Ef f g K np b) : ∀ n, n ≤ np → ∃ f' g' : Nat → Nat, ((∀ q, q < np → g' q ≤ 1 ∧ (s_run q_sp 0 n b).1 f_m_begun q = nI (f' q + g' q) ∧ (s_run q_sp 0 n b).1 f_m_speaks q = nI (g' q)) ∧ (s_run q_sp 0 n b).2 j_m_ended 0 = lN (z_sm f' np) ∧ (s_run q_sp 0 n b).2 j_m_allBegun 0 = lN (z_sm (fun q => f' q + g' q) np)) ∧ (∀ q, n ≤ q → f' q = f q ∧ g' q = g q) ∧ ∀ q, q < n → f' q ≤ f q + 1 ∧ f q + g q ≤ f' q + g' q ∧ f' q + g' q ≤ f q + g q + 1 := by
  intro n
  induction n with
  | zero => exact fun _ => ⟨f, g, ⟨fun q hq => (h.1 q hq).2, h.2.1, h.2.2.1⟩, fun q _ => ⟨rfl, rfl⟩, fun q hq => by omega⟩
  | succ n ih =>
    intro hn
    obtain ⟨f1, g1, a1, a2, a3⟩ := ih (by omega)
    rw [s_run_l, Nat.zero_add]
    obtain ⟨f2, g2, b1, b2, b3, b4, b5, b6⟩ := z_sp1 (K := K) (show n < np by omega) a1
    refine ⟨f2, g2, b1, fun q hq => ?_, fun q hq => ?_⟩
    · have e1 := b2 q (by omega)
      have e2 := a2 q (by omega)
      exact ⟨e1.1.trans e2.1, e1.2.trans e2.2⟩
    · by_cases e : q = n
      · have e2 := a2 n (Nat.le_refl n)
        rw [e]
        omega
      · have e1 := b2 q e
        have e2 := a3 q (by omega)
        omega
/-- one settling -/
theorem z_T.st {nk nr np : Nat} {a : e_I × e_Jt} : z_T 1 np a (q_st nk nr np a) := fun f g K h => by
  have h9 : z_Sn K np (q_bws nk np (s_run q_mv 0 np (s_run q_stA 0 np (q_rc nk nr np a.1)))) := h.2.2.2.st0
  have h0 : z_Ef f g K np (q_bws nk np (s_run q_mv 0 np (s_run q_stA 0 np (q_rc nk nr np a.1))), a.2) := by
    have e2 : ∀ F, F = f_m_begun ∨ F = f_m_speaks → q_bws nk np (s_run q_mv 0 np (s_run q_stA 0 np (q_rc nk nr np a.1))) F = a.1 F := fun F hF => by
      rcases hF with rfl | rfl
      · rw [s_eqN.qbws _ (by decide), s_eqN.run s_eqN.qmv np 0 _ _ (by decide), s_eqN.run v_stAN np 0 _ _ (by decide), s_eqN.qrc _ (by decide)]
      · rw [s_eqN.qbws _ (by decide), s_eqN.run s_eqN.qmv np 0 _ _ (by decide), s_eqN.run v_stAN np 0 _ _ (by decide), s_eqN.qrc _ (by decide)]
    refine ⟨fun q hq => ?_, h.2.1, h.2.2.1, h9⟩
    dsimp only
    rw [e2 _ (.inl rfl), e2 _ (.inr rfl)]
    exact h.1 q hq
  obtain ⟨f', g', ⟨k1, k2⟩, -, k4⟩ := z_spR h0 np (Nat.le_refl _)
  exact ⟨f', g', ⟨fun q hq => ⟨by have := (k4 q hq).1; have := (h.1 q hq).1; omega, k1 q hq⟩, k2.1, k2.2, (h.2.2.2.st (nk := nk) (nr := nr) (a := a)).mono (by omega)⟩, fun q hq => ⟨(k4 q hq).2.1, (k4 q hq).2.2⟩⟩
theorem z_T.tk {np : Nat} {a : e_I × e_Jt} : z_T 1 np a (s_up a.1 f_m_tick 0 (a.1 f_m_tick 0 + 1), a.2) := fun f g K h => by
  refine ⟨f, g, ⟨fun q hq => ?_, h.2.1, h.2.2.1, h.2.2.2.tk⟩, fun q _ => ⟨Nat.le_refl _, Nat.le_add_right _ _⟩⟩
  dsimp only
  rw [s_up_F (by decide), s_up_F (by decide)]
  have := h.1 q hq
  exact ⟨by omega, this.2⟩
theorem z_T.tc {nk nr np i : Nat} {a : e_I × e_Jt} : z_T 2 np a (q_tc nk nr np i a) := z_T.tk.trans (z_T.st (nk := nk) (nr := nr) (a := (s_up a.1 f_m_tick 0 (a.1 f_m_tick 0 + 1), a.2)))
theorem z_T.tcs {nk nr np : Nat} : ∀ k i (a : e_I × e_Jt), z_T (2 * k) np a (s_run (q_tc nk nr np) i k a) := by
  intro k
  induction k with
  | zero => intro i a; exact z_T.rfl'
  | succ k ih =>
    intro i a
    have h := (z_T.tc (nk := nk) (nr := nr) (np := np) (i := i) (a := a)).trans (ih (i + 1) (q_tc nk nr np i a))
    rw [show 2 + 2 * k = 2 * (k + 1) by omega] at h
    exact h
theorem z_T.E {D K np : Nat} {a b : e_I × e_Jt} (h : z_T D np a b) (k : z_E K np a) : z_E (K + D) np b := by
  obtain ⟨f, g, h1⟩ := k
  obtain ⟨f', g', h2, -⟩ := h f g K h1
  exact ⟨f', g', h2⟩
theorem z_E.mono {K K' np : Nat} {b : e_I × e_Jt} (h : z_E K np b) (hK : K ≤ K') : z_E K' np b := by
  obtain ⟨f, g, h1, h2⟩ := h
  exact ⟨f, g, fun q hq => ⟨Nat.le_trans (h1 q hq).1 hK, (h1 q hq).2⟩, h2.1, h2.2.1, h2.2.2.mono hK⟩
/-- how many have begun in between -/
theorem z_T.ans {D K np : Nat} {a b : e_I × e_Jt} (h : z_T D np a b) (k : z_E K np a) : ∃ d, d ≤ np * D ∧ b.2 j_m_allBegun 0 - a.2 j_m_allBegun 0 = lN d := by
  obtain ⟨f, g, h1⟩ := k
  obtain ⟨f', g', h2, h3⟩ := h f g K h1
  have h4 := z_sm_d (f := fun q => f q + g q) (g := fun q => f' q + g' q) (D := D) np (fun q hq => h3 q hq)
  refine ⟨z_sm (fun q => f' q + g' q) np - z_sm (fun q => f q + g q) np, by omega, ?_⟩
  rw [h2.2.2.1, h1.2.2.1, lN_sub h4.1]
