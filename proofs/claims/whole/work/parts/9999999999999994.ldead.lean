/-! 9999999999999994: a knob that found no place -/
def h_mwT : List Nat := [f_mk_wires, f_mk_ranks, f_mk_offsets, f_mk_froms, f_mk_tos]
theorem h_mwE {I : e_I} {j n : Nat} : s_eqN h_mwT I (q_mw I j n) := fun F hF => by
  have h1 : ∀ G, G ∈ h_mwT → F ≠ G := fun G hG z => by
    rw [z, List.contains_iff_mem.mpr hG] at hF
    cases hF
  funext i
  unfold q_mw
  rw [if_neg (fun w => h1 f_mk_wires (by decide) w.1), if_neg (fun w => w.1.elim (h1 f_mk_ranks (by decide)) (fun w => w.elim (h1 f_mk_offsets (by decide)) (fun w => w.elim (h1 f_mk_froms (by decide)) (h1 f_mk_tos (by decide)))))]
theorem h_mwag {I : e_I} {k j : Nat} (h : k ≠ j) : v_ag v_mF1 v_mF4 v_mF61 k I (q_mw I j 61) := by
  refine ⟨fun F hF => ?_, fun F hF i hi => ?_, fun F hF i hi => ?_⟩
  · have h1 : ∀ G, G ∈ h_mwT → F ≠ G := fun G hG z => by
      rw [z] at hF
      have : ∀ G, G ∈ h_mwT → v_mF1.contains G = false := by decide
      rw [this G hG] at hF
      exact absurd hF (by decide)
    unfold q_mw
    rw [if_neg (fun w => h1 f_mk_wires (by decide) w.1), if_neg (fun w => w.1.elim (h1 f_mk_ranks (by decide)) (fun w => w.elim (h1 f_mk_offsets (by decide)) (fun w => w.elim (h1 f_mk_froms (by decide)) (h1 f_mk_tos (by decide)))))]
  · have h1 : F ≠ f_mk_wires := fun z => by rw [z] at hF; exact absurd hF (by decide)
    unfold q_mw
    rw [if_neg (fun w => h1 w.1), if_neg (fun w => h (by have := w.2; omega))]
  · have h1 : F ≠ f_mk_ranks ∧ F ≠ f_mk_offsets ∧ F ≠ f_mk_froms ∧ F ≠ f_mk_tos := ⟨fun z => by rw [z] at hF; exact absurd hF (by decide), fun z => by rw [z] at hF; exact absurd hF (by decide), fun z => by rw [z] at hF; exact absurd hF (by decide), fun z => by rw [z] at hF; exact absurd hF (by decide)⟩
    unfold q_mw
    rw [if_neg (fun w => h (by have := w.2; omega)), if_neg (fun w => w.1.elim h1.1 (fun w => w.elim h1.2.1 (fun w => w.elim h1.2.2.1 h1.2.2.2)))]
theorem h_mwC {I0 I M : e_I} {nk nr q : Nat} (hKn : v_Kn I0 I nk) (e : s_eqN h_mwT I M) (ag : ∀ c, c < nk → v_ag v_mF1 v_mF4 v_mF61 c I M) : v_C M nk nr q = v_C I nk nr q := by
  have hct : ∀ c, q_ct M c = q_ct I c := by
    intro c
    unfold q_ct
    rw [e f_mk_isDrawn (by decide), e f_mk_relay (by decide), e f_m_isRelay (by decide)]
  have hso : ∀ c, q_so M c = q_so I c := by
    intro c
    unfold q_so
    rw [hct c, e f_mk_stage (by decide), e f_m_isTutti (by decide), e f_m_crescendo (by decide)]
  have ipE : q_ip M nr = q_ip I nr := by
    funext u v
    unfold q_ip
    rw [e f_mr_lowest (by decide), e f_mr_highest (by decide)]
  have piE : q_pi M = q_pi I := by
    funext u v
    unfold q_pi q_pp
    rw [e f_mr_lowest (by decide), e f_mr_base (by decide)]
  have hRw : ∀ c, c < nk → I f_mk_kind c = 115 → ∀ b, b < 61 → ∀ q, v_Rw M nr c (nI b) q = v_Rw I nr c (nI b) q := by
    intro c hc hs b hb q
    have g4 := v_rows4 hKn hc hs
    have gb : (nI b).toNatClampNeg = b := nI_clamp (by omega)
    unfold v_Rw q_nt
    rw [e f_mk_rows (by decide), gb, (ag c hc).2.2 f_mk_wires (by decide) b hb, ipE, piE]
    refine v_S_congr (fun i hi => ?_)
    rw [(ag c hc).2.1 f_mk_froms (by decide) i (by omega), (ag c hc).2.1 f_mk_tos (by decide) i (by omega), (ag c hc).2.1 f_mk_ranks (by decide) i (by omega), (ag c hc).2.1 f_mk_offsets (by decide) i (by omega)]
  have hP : ∀ q y b, b < 61 → v_P M nk nr y (nI b) q = v_P I nk nr y (nI b) q := by
    intro q y b hb
    unfold v_P
    refine v_S_congr (fun c hc => ?_)
    rw [e f_mk_kind (by decide), e f_mk_division (by decide), hso c]
    by_cases w : I f_mk_kind c = 115 ∧ I f_mk_division c = y ∧ q_so I c = true
    · rw [if_pos w, if_pos w, hRw c hc w.1 b hb q]
    · rw [if_neg w, if_neg w]
  have hB : ∀ d n c, c < nk → (v_Bc M d n c ↔ v_Bc I d n c) := by
    intro d n c hc
    have g1 : q_tk M c (nI n) = q_tk I c (nI n) := by
      unfold q_tk q_eg q_egs
      rw [e f_mk_letter (by decide), e f_mk_division (by decide), e f_m_isDown (by decide), e f_m_wentDown (by decide), e f_m_tick (by decide)]
    unfold v_Bc
    rw [e f_mk_kind (by decide), e f_mk_division (by decide), hct c, g1, e f_mk_to (by decide), e f_mk_shift (by decide)]
  exact v_C_of (Nat.le_refl _) (e _ (by decide)) (fun d _ => hct d) (hP q) (fun c _ => ⟨by rw [e f_mk_to (by decide)], by rw [e f_mk_shift (by decide)]⟩) hB (fun d n c h1 h2 => absurd h2 (by omega))
theorem h_mwFix {I0 I M : e_I} {nk nr np : Nat} (h : v_Fix nk nr np I) (hKn : v_Kn I0 I nk) (e : s_eqN h_mwT I M) (ag : ∀ c, c < nk → v_ag v_mF1 v_mF4 v_mF61 c I M) : v_Fix nk nr np M := by
  obtain ⟨a1, a2, a3, a4, a5, a6⟩ := h
  refine ⟨?_, fun q hq => by rw [e f_m_counts (by decide), h_mwC hKn e ag]; exact a2 q hq, ?_⟩
  · unfold q_rv q_src at a1 ⊢
    simp only [e f_m_operation (by decide), e f_m_first (by decide), e f_m_second (by decide), e f_m_isRelay (by decide), e f_mk_isDrawn (by decide), e f_m_isDown (by decide)]
    exact a1
  · have h9 := And.intro a3 (And.intro a4 (And.intro a5 a6))
    unfold v_c1 v_c2 q_sis v_sw q_is v_qv q_wd q_tr q_trf q_us q_bl q_rk q_ct at h9 ⊢
    simp only [e f_m_operation (by decide), e f_m_first (by decide), e f_m_second (by decide), e f_m_isRelay (by decide), e f_mk_isDrawn (by decide), e f_m_isDown (by decide), e f_mk_kind (by decide), e f_mk_division (by decide), e f_mk_relay (by decide), e f_mk_letter (by decide), e f_m_wentDown (by decide), e f_m_tick (by decide), e f_mk_to (by decide), e f_mk_shift (by decide), e f_mk_rows (by decide), e f_mr_lowest (by decide), e f_mr_highest (by decide), e f_mr_base (by decide), e f_m_isTutti (by decide), e f_mk_stage (by decide), e f_m_crescendo (by decide), e f_m_counts (by decide), e f_m_isCalled (by decide), e f_m_isHeld (by decide), e f_m_isWanted (by decide), e f_m_isOpen (by decide), e f_mr_delay (by decide), e f_m_rankOf (by decide), e f_m_since (by decide), e f_mr_rest (by decide), e f_m_closedSince (by decide), e f_m_fault (by decide), e f_mr_division (by decide), e f_mr_wind (by decide), e f_m_supply (by decide), e f_m_winds (by decide), e f_m_speaks (by decide)]
    exact h9
theorem h_mwSim {p : e_Sp} {I I' M : e_I} {J J' : e_Jt} {nk nr np n : Nat} {t : Nat → Nat} {s m L : Nat} (h : v_Sim p nk nr np n t s m L (I, J) (I', J')) (e : s_eqN h_mwT I' M) (ag : ∀ c, c < nk → v_ag v_mF1 v_mF4 v_mF61 c I' M) : v_Sim p nk nr np n t s m L (I, J) (M, J') := by
  obtain ⟨⟨hRel, hFin, hFix, hKt⟩, z1, z2, z3, z4, z5, z6⟩ := h
  dsimp only at hRel hFin hFix hKt z1 z2 z3 z4 z5 z6
  have hKn : v_Kn I I' nk := hRel.1.2.1
  have e0 : s_eqN [] I I := s_eqN.rfl'
  have hK9 : v_Kn I M nk := ⟨hKn.1, fun k hk => (hKn.2 k hk).ag v_ag.rfl' (ag k hk)⟩
  have hRh := hRel.2.2.1.2.1
  refine ⟨⟨hRel.rkn e0 e (by decide) (by decide) hK9 (hRel.1.2.2.N e0 e (by decide) (by decide)) (hRh.N e0 e (by decide) (by decide)), hFin.N e0 e (by decide) (by decide), h_mwFix hFix hKn e ag, hKt.N e0 e (by decide) (by decide)⟩, z1.N e0 e (by decide) (by decide), z2.N e0 e (by decide) (by decide), z3.N e0 e (by decide) (by decide), z4.N e0 e (by decide) (by decide), z5.frame e0 e (by decide) (by decide), z6.N e0 e (by decide) (by decide) (fun l _ => by dsimp only; rw [e _ (by decide)]) (fun _ _ => rfl) (fun _ _ => rfl)⟩
theorem h_deadK {T : Nat} {p p1 : e_Sp} {I : e_I} {J : e_Jt} {c : Nat × Nat} {nk nr np n : Nat} {t : Nat → Nat} {s m od ob : Nat} {v : Int32} (hQ : h_Q T p (I, J) I J c nk nr np n t s m od ob) (hT : T < 512) (h40 : nk = 40) (hx : s_xv (q_N6 nk) p p1) (hv : p1.2.1 = p.2.1) : h_Q (T + 1) p1 (s_up (q_mw I nk 61) f_m_thrown 0 v, J) (s_up (q_mw I nk 61) f_m_thrown 0 v) J (c.1 + 7, c.2 + 99) nk nr np n t s m (od + 7) (ob + 99) := by
  have hN := hQ.nums (by omega)
  obtain ⟨h1, h2, h3, h4, h5, h6, h7⟩ := hQ
  have e0 : s_eqN h_mwT I (q_mw I nk 61) := h_mwE
  have ag0 : ∀ c, c < nk → v_ag v_mF1 v_mF4 v_mF61 c I (q_mw I nk 61) := fun c hc => h_mwag (by omega)
  have hS := h_mwSim h1 e0 ag0
  have hrr : v_rr (q_mw I nk 61) nk nr := fun k hk hs i hi => by
    rw [e0 f_mk_kind (by decide)] at hs
    rw [e0 f_mk_rows (by decide)] at hi
    have := v_rows4 h1.1.1.1.2.1 hk hs
    dsimp only at this
    rw [(ag0 k hk).2.1 f_mk_ranks (by decide) i (by omega)]
    exact h5.2.2.2.1 k hk hs i hi
  generalize q_mw I nk 61 = M at *
  have e1 : s_eqN (f_m_thrown :: h_mwT) I (s_up M f_m_thrown 0 v) := (e0.mono (by decide)).trans (s_eqN.up (by decide))
  have e2 : s_eqN [f_m_thrown] M (s_up M f_m_thrown 0 v) := s_eqN.up (by decide)
  have hpa : p1.2.2.1 T_PARR = p.2.2.1 T_PARR := by
    funext i
    exact (hx.1 _ i rfl).2.2
  have xG : h_xG (h_G2 3) p p1 := fun t i h => hx.1 t i (by
    have := (Bool.or_eq_false_iff.mp (h_NK2 (nk := nk) h)).1
    exact (Bool.or_eq_false_iff.mp this).1)
  have hD : s_D p1 I nk nr := h2.v2 xG hx.2
  obtain ⟨⟨l0, l1, l2, l3⟩, ⟨m1, m2, m3⟩, hF, m5, ⟨u1, u2, u3⟩, ⟨w2, w3⟩⟩ := h4
  obtain ⟨d1, d2, d3, d4, d5⟩ := h5
  have la : ∀ l k, s_La p I l k → s_La p1 (s_up M f_m_thrown 0 v) l k := fun l k hla => hla.xv hx rfl rfl (by rw [e1 _ (by decide)])
  have hRa : h_R p1 I (c.1 + 7, c.2 + 99) (od + 7) (ob + 99) n := by
    obtain ⟨a', b', hTp, ha, hb⟩ := h6.tp (by omega)
    exact hb p1 I _ 7 99 ⟨by rw [hv], ⟨(hx.1 _ _ rfl).1, (hx.1 _ _ rfl).2.1, (hx.1 _ _ rfl).2.2⟩, fun j => by rw [hv], Nat.le_of_eq (hx.1 _ _ rfl).2.2.symm⟩ rfl (hTp.v (by rw [hv]) (hx.1 _ _ rfl).2.2 (by rw [hv]) (by omega))
  refine ⟨?_, hD.eq ⟨fun l hl => by rw [e1 _ (by decide)], fun F hF i => by rw [e1 F (v_dj.o (L := s_cs) (by decide) (List.contains_iff_mem.mpr hF))]⟩, h3.N e1 (by decide), ⟨⟨la _ _ l0, la _ _ l1, la _ _ l2, la _ _ l3⟩, ⟨fun j hj => by rw [hv]; exact m1 j hj, by rw [e1 _ (by decide)]; exact m2, by rw [e1 _ (by decide)]; exact m3⟩, hF.xG (N := q_N6 nk) hx.1 (fun _ => rfl) (fun _ _ => rfl) (fun _ => rfl) (fun l _ => by rw [e1 _ (by decide)]), by rw [e1 _ (by decide)]; exact m5, ⟨fun t ht k hk => by rw [hv]; exact u1 t ht k hk, fun r hr => by rw [hv]; exact u2 r hr, fun i hi => by rw [hv]; rw [h_tp hx.2 hpa] at hi; exact u3 i hi⟩, ⟨fun t ht k hk => by rw [hv]; exact w2 t ht k hk, fun r hr => by rw [hv]; exact w3 r hr⟩⟩, ⟨d1.w (fun t i _ => by rw [hv]) (fun F hF => e1 F (v_dj.o (L := q_ms2) (by decide) (List.contains_iff_mem.mpr hF))) (by rw [e1 _ (by decide)]) (by rw [e1 _ (by decide)]), d2.of (fun F q hF _ => by rw [e1 F (v_dj.o (L := h_frF) (by decide) hF)]), d3.N e1 (by decide), hrr.N e2 (by decide), fun k hk => by rw [e1 _ (by decide)]; exact d5 k hk⟩, hRa.N (e1 _ (by decide)) (e1 _ (by decide)) (by rw [e1 _ (by decide)]), ?_⟩
  · exact (((hS.L (Nat.le_succ T)).thrown (x := v)).mv (T' := []) e1 s_eqN.rfl' (by decide) (by decide) (fun _ _ => rfl) (fun _ _ => rfl) (fun _ _ => rfl)).p hx.2 hpa
  · rw [h_Wn.N e1 (by decide)]
    exact h7.q (by omega) (by omega) (by omega)
