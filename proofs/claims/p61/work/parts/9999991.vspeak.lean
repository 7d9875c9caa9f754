/-! 9999991: speech alike -/
def v_eqJ (T : List Nat) (J J' : e_Jt) : Prop := ∀ F, T.contains F = false → J' F = J F
theorem v_eqJ.rfl' {T : List Nat} {J : e_Jt} : v_eqJ T J J := fun _ _ => rfl
theorem v_eqJ.trans {T : List Nat} {J J' J'' : e_Jt} (h : v_eqJ T J J') (h' : v_eqJ T J' J'') : v_eqJ T J J'' := fun F hF => (h' F hF).trans (h F hF)
theorem v_eqJ.up {T : List Nat} {J : e_Jt} {F i : Nat} {x : Int64} (h : T.contains F = true) : v_eqJ T J (s_up J F i x) := fun F' hF => by
  funext i'
  exact s_up_F (fun z => by rw [z, h] at hF; exact absurd hF (by decide))
theorem v_eqJ.run {T : List Nat} {f : Nat → e_I × e_Jt → e_I × e_Jt} (h : ∀ i a, v_eqJ T a.2 (f i a).2) (n i : Nat) (a : e_I × e_Jt) : v_eqJ T a.2 (s_run f i n a).2 := s_run_ind (P := fun a b => v_eqJ T a.2 b.2) (fun _ => v_eqJ.rfl') (fun {x y z} (u : v_eqJ T x.2 y.2) (v : v_eqJ T y.2 z.2) => u.trans v) h n i a
/-- does it speak now -/
def v_ssp (rk : Nat → Nat) (I : e_I) (q : Nat) : Bool := decide (0 < I f_a_winds (I f_r_division (rk q)).toNatClampNeg) && s_bl I q
def v_Sg (rk : Nat → Nat) (q : Nat) (a : e_I × e_Jt) : e_I × e_Jt := s_fsE (v_ssp rk a.1 q) q (s_fsB (v_ssp rk a.1 q) q a)
abbrev v_kT : List Nat := [f_p_isSpeaking, f_p_begins, f_p_ends]
theorem v_fsBN {sp : Bool} {j : Nat} {a : e_I × e_Jt} : s_eqN s_tFS a.1 (s_fsB sp j a).1 := by
  unfold s_fsB
  split
  · exact (s_eqN.up (by decide)).trans (s_eqN.up (by decide))
  · split
    · exact s_eqN.up (by decide)
    · exact s_eqN.rfl'
theorem v_fsEN {sp : Bool} {j : Nat} {a : e_I × e_Jt} : s_eqN s_tFS a.1 (s_fsE sp j a).1 := (s_eqN.up (by decide)).trans (s_eqN.up (by decide))
theorem v_SgN {rk : Nat → Nat} (q : Nat) (a : e_I × e_Jt) : s_eqN s_tFS a.1 (v_Sg rk q a).1 := v_fsBN.trans v_fsEN
theorem v_SgJ {rk : Nat → Nat} (q : Nat) (a : e_I × e_Jt) : v_eqJ [j_allEnds] a.2 (v_Sg rk q a).2 := by
  unfold v_Sg s_fsE s_fsB
  split
  · exact v_eqJ.rfl'
  · split
    · exact v_eqJ.up (by decide)
    · exact v_eqJ.rfl'
theorem v_Sga {rk : Nat → Nat} {q : Nat} {a : e_I × e_Jt} : v_at v_kT q a.1 (v_Sg rk q a).1 := by
  unfold v_Sg s_fsE
  refine v_at.trans (I' := (s_fsB (v_ssp rk a.1 q) q a).1) ?_ (v_at.trans (I' := s_up (s_fsB (v_ssp rk a.1 q) q a).1 f_p_isSpeaking q (bI (v_ssp rk a.1 q))) v_at.up (v_at.N (s_eqN.up (T := [f_speakers]) (by decide)) (by decide)))
  unfold s_fsB
  split
  · exact v_at.trans (I' := s_up a.1 f_p_begins q (a.1 f_p_begins q + 1)) v_at.up (v_at.N (s_eqN.up (T := [f_allBegins]) (by decide)) (by decide))
  · split
    · exact v_at.up
    · exact v_at.rfl'
theorem v_Sgv {rk : Nat → Nat} {q : Nat} {a : e_I × e_Jt} {sp : Bool} (h : v_ssp rk a.1 q = sp) : (v_Sg rk q a).1 f_p_isSpeaking q = bI sp ∧ (v_Sg rk q a).1 f_p_begins q = a.1 f_p_begins q + (if sp = true ∧ a.1 f_p_isSpeaking q = 0 then 1 else 0) ∧ (v_Sg rk q a).1 f_p_ends q = a.1 f_p_ends q + (if sp = false ∧ ¬ a.1 f_p_isSpeaking q = 0 then 1 else 0) ∧ (v_Sg rk q a).1 f_speakers 0 = a.1 f_speakers 0 + bI sp ∧ (v_Sg rk q a).1 f_allBegins 0 = a.1 f_allBegins 0 + (if sp = true ∧ a.1 f_p_isSpeaking q = 0 then 1 else 0) ∧ (v_Sg rk q a).2 j_allEnds 0 = a.2 j_allEnds 0 + (if sp = false ∧ ¬ a.1 f_p_isSpeaking q = 0 then 1 else 0) := by
  unfold v_Sg s_fsE
  rw [h]
  have u : ∀ (A : e_I) (x y : Int32) F i, F ≠ f_speakers → F ≠ f_p_isSpeaking → s_up (s_up A f_p_isSpeaking q x) f_speakers 0 y F i = A F i := fun A x y F i h1 h2 => by rw [s_up_F h1, s_up_F h2]
  refine ⟨?_, ?_, ?_, ?_, ?_, ?_⟩
  · dsimp only
    rw [s_up_F (by decide), s_up_s]
  · dsimp only
    rw [u _ _ _ _ _ (by decide) (by decide)]
    unfold s_fsB
    by_cases c : sp = true ∧ a.1 f_p_isSpeaking q = 0
    · rw [if_pos c, if_pos c]
      dsimp only
      rw [s_up_F (by decide), s_up_s]
    · rw [if_neg c, if_neg c, Int32.add_zero]
      split
      · dsimp only; rw [s_up_F (by decide)]
      · rfl
  · dsimp only
    rw [u _ _ _ _ _ (by decide) (by decide)]
    unfold s_fsB
    by_cases c : sp = true ∧ a.1 f_p_isSpeaking q = 0
    · rw [if_pos c, if_neg (fun z => by rw [c.1] at z; exact absurd z.1 (by decide)), Int32.add_zero]
      dsimp only
      rw [s_up_F (by decide), s_up_F (by decide)]
    · rw [if_neg c]
      by_cases c2 : sp = false ∧ ¬ a.1 f_p_isSpeaking q = 0
      · rw [if_pos c2, if_pos c2]; dsimp only; exact s_up_s
      · rw [if_neg c2, if_neg c2, Int32.add_zero]
  · dsimp only
    rw [s_up_s, s_up_F (by decide)]
    congr 1
    unfold s_fsB
    split
    · dsimp only
      rw [s_up_F (by decide), s_up_F (by decide)]
    · split
      · dsimp only; rw [s_up_F (by decide)]
      · rfl
  · dsimp only
    rw [u _ _ _ _ _ (by decide) (by decide)]
    unfold s_fsB
    by_cases c : sp = true ∧ a.1 f_p_isSpeaking q = 0
    · rw [if_pos c, if_pos c]
      dsimp only
      rw [s_up_s, s_up_F (by decide)]
    · rw [if_neg c, if_neg c, Int32.add_zero]
      split
      · dsimp only; rw [s_up_F (by decide)]
      · rfl
  · dsimp only
    unfold s_fsB
    by_cases c : sp = true ∧ a.1 f_p_isSpeaking q = 0
    · rw [if_pos c, if_neg (fun z => by rw [c.1] at z; exact absurd z.1 (by decide)), Int64.add_zero]
    · rw [if_neg c]
      by_cases c2 : sp = false ∧ ¬ a.1 f_p_isSpeaking q = 0
      · rw [if_pos c2, if_pos c2]; dsimp only; exact s_up_s
      · rw [if_neg c2, if_neg c2, Int64.add_zero]
/-- in the flat order -/
theorem v_fspF {p : e_Sp} {I I' : e_I} {nr np : Nat} (h : v_Sh p I I' nr np) {a : e_I × e_Jt} : s_fsp p nr a = s_run (v_Sg (q_rk I')) 0 np (s_up a.1 f_speakers 0 0, a.2) := by
  unfold s_fsp
  rw [h.1.2.2]
  refine v_flat (P := fun b => s_eqN s_tFS a.1 b.1) h.1.1 h.1.2.1 (fun r b hr hb => ?_) (fun q b hb => hb.trans (v_SgN q b)) (show s_eqN s_tFS a.1 (s_up a.1 f_speakers 0 0) from s_eqN.up (by decide))
  unfold s_fsR
  refine v_congr (P := fun b => s_eqN s_tFS a.1 b.1) _ _ _ _ (fun j b2 hj hb2 => ⟨?_, hb2.trans (v_SgN _ b2)⟩) hb
  have e : decide (0 < b.1 f_a_winds (b.1 f_r_division r).toNatClampNeg) = decide (0 < b2.1 f_a_winds (b2.1 f_r_division r).toNatClampNeg) := by
    rw [hb f_a_winds (by decide), hb f_r_division (by decide), hb2 f_a_winds (by decide), hb2 f_r_division (by decide)]
  rw [e, Nat.zero_add]
  unfold s_fsP v_Sg v_ssp
  rw [h.rk hr hj]
/-- speech beside each other -/
def v_S1 (I I' : e_I) (q : Nat) : Prop := (I f_p_isSpeaking q = I' f_m_speaks q ∧ (I' f_m_speaks q = 0 ∨ I' f_m_speaks q = 1)) ∧ I f_p_begins q = I' f_m_begun q ∧ I f_p_ends q = I' f_m_begun q - I' f_m_speaks q
def v_Cn (I : e_I) (J J' : e_Jt) : Prop := I f_allBegins 0 = (J' j_m_allBegun 0).toInt32 ∧ J j_allEnds 0 = J' j_m_ended 0
theorem v_qspa {q : Nat} {b : e_I × e_Jt} : v_at [f_m_speaks, f_m_begun] q b.1 (q_sp q b).1 := v_at.trans (I' := s_up b.1 f_m_begun q (b.1 f_m_begun q + bI (q_sis b.1 q && decide (b.1 f_m_speaks q = 0)))) v_at.up v_at.up
theorem v_qspJ (q : Nat) (b : e_I × e_Jt) : v_eqJ [j_m_allBegun, j_m_ended] b.2 (q_sp q b).2 := (v_eqJ.up (by decide)).trans (v_eqJ.up (by decide))
theorem v_i64 {x y : Int64} : (x + y).toInt32 = x.toInt32 + y.toInt32 := Int64.toInt32_add x y
/-- one pipe, both sides -/
theorem v_step {rk : Nat → Nat} {q : Nat} {a b : e_I × e_Jt} {sp : Bool} (h1 : v_ssp rk a.1 q = sp) (h2 : q_sis b.1 q = sp) (h : v_S1 a.1 b.1 q) (hc : v_Cn a.1 a.2 b.2) : v_S1 (v_Sg rk q a).1 (q_sp q b).1 q ∧ v_Cn (v_Sg rk q a).1 (v_Sg rk q a).2 (q_sp q b).2 ∧ (v_Sg rk q a).1 f_speakers 0 = a.1 f_speakers 0 + (q_sp q b).1 f_m_speaks q ∧ (q_sp q b).1 f_m_speaks q = bI sp := by
  obtain ⟨g1, g2, g3, g4, g5, g6⟩ := v_Sgv h1
  obtain ⟨⟨e1, e2⟩, e3, e4⟩ := h
  obtain ⟨c1, c2⟩ := hc
  have m1 : (q_sp q b).1 f_m_speaks q = bI sp := by
    unfold q_sp; dsimp only
    rw [s_up_s, h2]
  have m2 : (q_sp q b).1 f_m_begun q = b.1 f_m_begun q + bI (sp && decide (b.1 f_m_speaks q = 0)) := by
    unfold q_sp; dsimp only
    rw [s_up_F (by decide), s_up_s, h2]
  have m3 : (q_sp q b).2 j_m_allBegun 0 = b.2 j_m_allBegun 0 + if (sp && decide (b.1 f_m_speaks q = 0)) = true then 1 else 0 := by
    unfold q_sp; dsimp only
    rw [s_up_F (by decide), s_up_s, h2]
  have m4 : (q_sp q b).2 j_m_ended 0 = b.2 j_m_ended 0 + if (!sp && decide (b.1 f_m_speaks q ≠ 0)) = true then 1 else 0 := by
    unfold q_sp; dsimp only
    rw [s_up_s, s_up_F (by decide), h2]
  unfold v_S1 v_Cn
  rw [g1, g2, g3, g4, g5, g6, m1, m2, m3, m4, v_i64, e1, e3, e4, c1, c2]
  refine ⟨⟨⟨rfl, bI_or _⟩, ?_, ?_⟩, ⟨?_, ?_⟩, rfl, rfl⟩
  · rcases e2 with z | z <;> cases sp <;> simp [z, bI]
  · rcases e2 with z | z <;> cases sp <;> simp [z, bI] <;> grind
  · rcases e2 with z | z <;> cases sp <;> simp [z]
  · rcases e2 with z | z <;> cases sp <;> simp [z]
theorem v_speak {p : e_Sp} {a b : e_I × e_Jt} {nr np : Nat} (hS : v_Sh p a.1 b.1 nr np) (hp : v_Pp np a.1 b.1) (hw : v_eq 3 f_a_winds f_m_winds a.1 b.1) (h : ∀ q, q < np → v_S1 a.1 b.1 q) (hc : v_Cn a.1 a.2 b.2) (h0 : a.1 f_speakers 0 = 0) : ∀ n, n ≤ np → (∀ q, q < np → v_S1 (s_run (v_Sg (q_rk b.1)) 0 n a).1 (s_run q_sp 0 n b).1 q) ∧ v_Cn (s_run (v_Sg (q_rk b.1)) 0 n a).1 (s_run (v_Sg (q_rk b.1)) 0 n a).2 (s_run q_sp 0 n b).2 ∧ (s_run (v_Sg (q_rk b.1)) 0 n a).1 f_speakers 0 = v_S n (fun q => (s_run q_sp 0 n b).1 f_m_speaks q) ∧ ∀ q, q < n → (s_run q_sp 0 n b).1 f_m_speaks q = bI (q_sis b.1 q) := by
  intro n
  induction n with
  | zero => exact fun _ => ⟨h, hc, h0, fun q hq => absurd hq (Nat.not_lt_zero _)⟩
  | succ n ih =>
    intro hn
    obtain ⟨i1, i2, i3, i4⟩ := ih (by omega)
    have hE : s_eqN s_tFS a.1 (s_run (v_Sg (q_rk b.1)) 0 n a).1 := s_eqN.runP v_SgN _ _ _
    have hE' : s_eqN [f_m_begun, f_m_speaks] b.1 (s_run q_sp 0 n b).1 := s_eqN.runP s_eqN.qsp _ _ _
    rw [s_run_l, s_run_l, Nat.zero_add]
    generalize s_run (v_Sg (q_rk b.1)) 0 n a = A at *
    generalize s_run q_sp 0 n b = B at *
    obtain ⟨r, j, hr, hj, e, erk⟩ := hS.ex (q := n) (by omega)
    obtain ⟨lo, dv, -, -, hdv, -, -, -, -, g1, g2, -⟩ := hS.2.2 r hr
    have hsis : q_sis B.1 n = q_sis b.1 n := by
      unfold q_sis q_bl q_rk
      simp only [hE' f_m_fault (by decide), hE' f_m_isOpen (by decide), hE' f_m_winds (by decide), hE' f_mr_division (by decide), hE' f_m_rankOf (by decide)]
    have hssp : v_ssp (q_rk b.1) A.1 n = q_sis b.1 n := by
      unfold v_ssp q_sis s_bl
      rw [erk, hE f_a_winds (by decide), hE f_r_division (by decide), hE f_p_fault (by decide), hE f_p_isOpened (by decide), g1, g2, nI_clamp (by omega), hw dv hdv, Bool.and_comm]
      congr 1
      have := v_bl_eq (I := a.1) (I' := b.1) (q := n) (o := a.1 f_p_isOpened n) (hp n (by omega)).2.2.2.2.2 (hp n (by omega)).2.2.2.1.1
      exact this
    obtain ⟨k1, k2, k3, k4⟩ := v_step hssp hsis (i1 n (by omega)) i2
    have ha : v_at v_kT n A.1 (v_Sg (q_rk b.1) n A).1 := v_Sga
    have hb : v_at [f_m_speaks, f_m_begun] n B.1 (q_sp n B).1 := v_qspa
    refine ⟨fun q hq => ?_, k2, ?_, fun q hq => ?_⟩
    · by_cases e2 : q = n
      · rw [e2]; exact k1
      · unfold v_S1
        rw [ha _ _ (by decide) e2, ha _ _ (by decide) e2, ha _ _ (by decide) e2, hb _ _ (by decide) e2, hb _ _ (by decide) e2]
        exact i1 q hq
    · rw [k3, i3]
      show _ = v_S n (fun q => (q_sp n B).1 f_m_speaks q) + (q_sp n B).1 f_m_speaks n
      congr 1
      exact v_S_congr (fun q hq => (hb _ _ (by decide) (by omega)).symm)
    · by_cases e2 : q = n
      · rw [e2]; exact k4
      · rw [hb _ _ (by decide) e2]; exact i4 q (by omega)
