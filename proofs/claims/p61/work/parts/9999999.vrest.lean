/-! 9999999: the rest of what stands beside each other (printed by wip/whole/p9999999.py) -/
/-- pipes' tuning, none held; sound; knobs -/
def v_Z1 (nk np : Nat) (I I' : e_I) : Prop := (∀ q, q < np → I f_p_tuning q = I' f_m_tuning q) ∧ (∀ q, q < np → I' f_m_isHeld q = 0) ∧ I f_heat 0 = I' f_m_heat 0 ∧ v_eq 3 f_a_openings f_m_box I I' ∧ v_eq 12 f_a_temperings f_m_temper I I' ∧ v_eq nk f_k_isLocked f_mk_isLocked I I' ∧ v_eq nk f_k_isInScope f_mk_isIn I I'
def v_Z1C : List Nat := [f_p_tuning, f_heat, f_a_openings, f_a_temperings, f_k_isLocked, f_k_isInScope]
def v_Z1M : List Nat := [f_m_tuning, f_m_isHeld, f_m_heat, f_m_box, f_m_temper, f_mk_isLocked, f_mk_isIn]
theorem v_Z1.N {T T' : List Nat} {I I' I1 I1' : e_I} {nk np : Nat} (h : v_Z1 nk np I I') (e : s_eqN T I I1) (e' : s_eqN T' I' I1') (hT : v_dj v_Z1C T = true) (hT' : v_dj v_Z1M T' = true) : v_Z1 nk np I1 I1' := by
  unfold v_Z1 v_eq at h ⊢
  simp only [e f_p_tuning (v_dj.o hT (by decide)), e f_heat (v_dj.o hT (by decide)), e f_a_openings (v_dj.o hT (by decide)), e f_a_temperings (v_dj.o hT (by decide)), e f_k_isLocked (v_dj.o hT (by decide)), e f_k_isInScope (v_dj.o hT (by decide)), e' f_m_tuning (v_dj.o hT' (by decide)), e' f_m_isHeld (v_dj.o hT' (by decide)), e' f_m_heat (v_dj.o hT' (by decide)), e' f_m_box (v_dj.o hT' (by decide)), e' f_m_temper (v_dj.o hT' (by decide)), e' f_mk_isLocked (v_dj.o hT' (by decide)), e' f_mk_isIn (v_dj.o hT' (by decide))]
  exact h
/-- memory: guests, levels -/
def v_Z2 (nk : Nat) (I I' : e_I) : Prop := (∃ g, g < 4 ∧ I f_guest 0 = nI g ∧ I' f_m_guest 0 = nI g) ∧ (∃ v, v < 4 ∧ I f_level 0 = nI v ∧ I' f_m_level 0 = nI v) ∧ (∃ x, x < 8 ∧ I f_next 0 = nI x ∧ I' f_m_next 0 = nI x) ∧ (∀ v, v < 4 → I f_a_owners v = I' f_m_claimed v ∧ (I' f_m_claimed v = -1 ∨ ∃ g, g < 4 ∧ I' f_m_claimed v = nI g)) ∧ ∀ j, j < 16 → I f_a_reversibles j = I' f_m_reversible j ∧ (I' f_m_reversible j = -1 ∨ ∃ k, k < nk ∧ I' f_m_reversible j = nI k)
def v_Z2C : List Nat := [f_guest, f_level, f_next, f_a_owners, f_a_reversibles]
def v_Z2M : List Nat := [f_m_guest, f_m_level, f_m_next, f_m_claimed, f_m_reversible]
theorem v_Z2.N {T T' : List Nat} {I I' I1 I1' : e_I} {nk : Nat} (h : v_Z2 nk I I') (e : s_eqN T I I1) (e' : s_eqN T' I' I1') (hT : v_dj v_Z2C T = true) (hT' : v_dj v_Z2M T' = true) : v_Z2 nk I1 I1' := by
  unfold v_Z2 at h ⊢
  simp only [e f_guest (v_dj.o hT (by decide)), e f_level (v_dj.o hT (by decide)), e f_next (v_dj.o hT (by decide)), e f_a_owners (v_dj.o hT (by decide)), e f_a_reversibles (v_dj.o hT (by decide)), e' f_m_guest (v_dj.o hT' (by decide)), e' f_m_level (v_dj.o hT' (by decide)), e' f_m_next (v_dj.o hT' (by decide)), e' f_m_claimed (v_dj.o hT' (by decide)), e' f_m_reversible (v_dj.o hT' (by decide))]
  exact h
/-- what is kept at a place -/
def v_Kq (c q : Nat) (I I' : e_I) (J J' : e_Jt) : Prop := I f_a_isSet c = I' f_mg_isSet q ∧ J j_a_kept c = J' j_mg_knobs q ∧ J j_a_drawn c = J' j_mg_drawn q
def v_Z6 (I I' : e_I) (J J' : e_Jt) : Prop := (∀ v y, v < 4 → y < 8 → v_Kq (v * 20 + y) (8 * v + y) I I' J J') ∧ (∀ v x y, v < 4 → x < 3 → y < 4 → v_Kq (v * 20 + (8 + x * 4 + y)) (32 + (4 * (3 * v + x) + y)) I I' J J') ∧ ∀ g, g < 4 → ∃ m, m ≤ 20 ∧ I f_a_frameCounts g = nI m ∧ I' f_l_size (8 + g) = nI m ∧ ∀ j, j < m → J j_a_frameKept (g * 20 + j) = J' j_mf_knobs (64 * g + j) ∧ J j_a_frameDrawn (g * 20 + j) = J' j_mf_drawn (64 * g + j)
theorem v_Z6.N {T T' : List Nat} {I I' I1 I1' : e_I} {J J' J1 J1' : e_Jt} (h : v_Z6 I I' J J') (e : s_eqN T I I1) (e' : s_eqN T' I' I1') (hT : v_dj [f_a_isSet, f_a_frameCounts] T = true) (hT' : v_dj [f_mg_isSet] T' = true) (hl : ∀ l, 8 ≤ l → I1' f_l_size l = I' f_l_size l) (hj : v_eqJ [j_allEnds] J J1) (hj' : v_eqJ [j_m_allBegun, j_m_ended] J' J1') : v_Z6 I1 I1' J1 J1' := by
  obtain ⟨h1, h2, h3⟩ := h
  have k : ∀ c q, v_Kq c q I I' J J' → v_Kq c q I1 I1' J1 J1' := fun c q ⟨a, b, d⟩ => ⟨by rw [e _ (v_dj.o hT (by decide)), e' _ (v_dj.o hT' (by decide))]; exact a, by rw [hj _ (by decide), hj' _ (by decide)]; exact b, by rw [hj _ (by decide), hj' _ (by decide)]; exact d⟩
  refine ⟨fun v y hv hy => k _ _ (h1 v y hv hy), fun v x y hv hx hy => k _ _ (h2 v x y hv hx hy), fun g hg => ?_⟩
  obtain ⟨m, a, b, d, f⟩ := h3 g hg
  refine ⟨m, a, by rw [e _ (v_dj.o hT (by decide))]; exact b, by rw [hl _ (by omega)]; exact d, fun j hjm => ?_⟩
  rw [hj _ (by decide), hj' _ (by decide), hj _ (by decide), hj' _ (by decide)]
  exact f j hjm
/-- recording -/
def v_Z3 (s m n L : Nat) (I I' : e_I) : Prop := (I' f_m_recording 0 = 45 ∨ ((I' f_m_recording 0 = 107 ∨ I' f_m_recording 0 = 114) ∧ I' f_m_kindKept 0 = I' f_m_recording 0 ∧ I f_tkind 0 = I' f_m_recording 0 ∧ m - s ≤ 40 * L)) ∧ (n = 0 ∨ (I f_tkind 0 = I' f_m_kindKept 0 ∧ (I' f_m_kindKept 0 = 107 ∨ I' f_m_kindKept 0 = 114)))
def v_Z3C : List Nat := [f_tkind]
def v_Z3M : List Nat := [f_m_recording, f_m_kindKept]
theorem v_Z3.N {T T' : List Nat} {I I' I1 I1' : e_I} {s m n L : Nat} (h : v_Z3 s m n L I I') (e : s_eqN T I I1) (e' : s_eqN T' I' I1') (hT : v_dj v_Z3C T = true) (hT' : v_dj v_Z3M T' = true) : v_Z3 s m n L I1 I1' := by
  unfold v_Z3 at h ⊢
  simp only [e f_tkind (v_dj.o hT (by decide)), e' f_m_recording (v_dj.o hT' (by decide)), e' f_m_kindKept (v_dj.o hT' (by decide))]
  exact h
/-- the chord -/
def v_Z4 (I I' : e_I) : Prop := (∃ x, x < 12 ∧ I f_tonic 0 = nI x ∧ I' f_m_tonic 0 = nI x) ∧ (I f_isMajor 0 = I' f_m_isMajor 0 ∧ I f_hasChord 0 = I' f_m_hasChord 0) ∧ (¬ I' f_m_hasChord 0 = 0 → (∃ b, b < 32 ∧ I' f_m_chord 0 = nI b ∧ I f_a_chord 0 = nI (36 + b)) ∧ ∀ v, 1 ≤ v → v < 4 → ∃ c, c < 61 ∧ I' f_m_chord v = nI c ∧ I f_a_chord v = nI (36 + c)) ∧ ∀ j, j < 3 → ∃ c, c < 61 ∧ I' f_m_best j = nI c
def v_Z4C : List Nat := [f_tonic, f_isMajor, f_hasChord, f_a_chord]
def v_Z4M : List Nat := [f_m_tonic, f_m_isMajor, f_m_hasChord, f_m_chord, f_m_best]
theorem v_Z4.N {T T' : List Nat} {I I' I1 I1' : e_I} (h : v_Z4 I I') (e : s_eqN T I I1) (e' : s_eqN T' I' I1') (hT : v_dj v_Z4C T = true) (hT' : v_dj v_Z4M T' = true) : v_Z4 I1 I1' := by
  unfold v_Z4 at h ⊢
  simp only [e f_tonic (v_dj.o hT (by decide)), e f_isMajor (v_dj.o hT (by decide)), e f_hasChord (v_dj.o hT (by decide)), e f_a_chord (v_dj.o hT (by decide)), e' f_m_tonic (v_dj.o hT' (by decide)), e' f_m_isMajor (v_dj.o hT' (by decide)), e' f_m_hasChord (v_dj.o hT' (by decide)), e' f_m_chord (v_dj.o hT' (by decide)), e' f_m_best (v_dj.o hT' (by decide))]
  exact h
/-- truth values, chars -/
def v_ch (I : e_I) (F : Nat) : Prop := ∀ i, vp_nar .char (I F i) = I F i
def v_bC : List Nat := [f_p_isOpened, f_p_isSpeaking, f_isTutti, f_k_isOut, f_k_isLocked, f_k_isInScope]
def v_bM : List Nat := [f_m_isDown, f_m_isRelay, f_m_isOpen, f_m_speaks, f_mk_isDrawn, f_mk_isLocked, f_mk_isIn, f_m_isTutti]
def v_Z5 (I I' : e_I) : Prop := (∀ F, v_bC.contains F = true → q_bo I F) ∧ (∀ F, v_bM.contains F = true → q_bo I' F) ∧ v_ch I f_p_fault ∧ v_ch I' f_m_fault ∧ v_ch I f_recording ∧ v_ch I' f_m_recording
theorem v_bo_up {I : e_I} {F F' i : Nat} {x : Int32} (h : q_bo I F) (hx : x = 0 ∨ x = 1) : q_bo (s_up I F' i x) F := fun j => by
  unfold s_up
  split
  · exact hx
  · exact h j
theorem v_bo_eq {I I1 : e_I} {F : Nat} (h : q_bo I F) (e : I1 F = I F) : q_bo I1 F := fun i => by rw [e]; exact h i
theorem v_boR {α : Type} {F : Nat} {f : Nat → α → α} {g : α → e_I} (h : ∀ i a, q_bo (g a) F → q_bo (g (f i a)) F) (n i : Nat) (a : α) (ha : q_bo (g a) F) : q_bo (g (s_run f i n a)) F := s_run_pr (P := fun a => q_bo (g a) F) h n i a ha
theorem v_boSt {nk nr np : Nat} {b : e_I × e_Jt} (h : ∀ F, v_bM.contains F = true → q_bo b.1 F) : ∀ F, v_bM.contains F = true → q_bo (q_st nk nr np b).1 F := by
  intro F hF
  have hF' : F = f_m_isDown ∨ F = f_m_isRelay ∨ F = f_m_isOpen ∨ F = f_m_speaks ∨ F = f_mk_isDrawn ∨ F = f_mk_isLocked ∨ F = f_mk_isIn ∨ F = f_m_isTutti := by simpa [v_bM] using hF
  have hE := (q_st_e (nk := nk) (nr := nr) (np := np) (a := b)).1
  rcases hF' with e | e | e | e | e | e | e | e <;> rw [e]
  · exact v_bo_eq (h _ (by decide)) (hE _ (by decide))
  · exact q_bo.st (h _ (by decide))
  · have e0 : q_st nk nr np b = s_run q_sp 0 np (q_bws nk np (s_run q_mv 0 np (s_run q_stA 0 np (q_rc nk nr np b.1))), b.2) := rfl
    rw [e0]
    have hA4 : s_eqN [f_m_begun, f_m_speaks] (q_bws nk np (s_run q_mv 0 np (s_run q_stA 0 np (q_rc nk nr np b.1)))) (s_run q_sp 0 np (q_bws nk np (s_run q_mv 0 np (s_run q_stA 0 np (q_rc nk nr np b.1))), b.2)).1 := s_eqN.runP s_eqN.qsp _ _ (q_bws nk np (s_run q_mv 0 np (s_run q_stA 0 np (q_rc nk nr np b.1))), b.2)
    refine v_bo_eq (I := s_run q_mv 0 np (s_run q_stA 0 np (q_rc nk nr np b.1))) ?_ (by rw [hA4 _ (by decide), s_eqN.qbws _ (by decide)])
    refine v_boR (g := fun I => I) (f := q_mv) (fun i I hI => ?_) _ _ _ ?_
    · unfold q_mv
      split
      · exact v_bo_up hI (.inr rfl)
      · split
        · exact v_bo_eq (v_bo_up (F' := f_m_isOpen) (i := i) hI (.inl rfl)) (by funext j; exact s_up_F (by decide))
        · exact hI
    · have hA1 : s_eqN (q_bT ++ v_qA) (q_rc nk nr np b.1) (s_run q_stA 0 np (q_rc nk nr np b.1)) := s_eqN.run v_stAN _ _ _
      have hA0 : s_eqN [f_m_isRelay, f_m_counts] b.1 (q_rc nk nr np b.1) := s_eqN.qrc
      exact v_bo_eq (h _ (by decide)) (by rw [hA1 _ (by decide), hA0 _ (by decide)])
  · have e0 : q_st nk nr np b = s_run q_sp 0 np (q_bws nk np (s_run q_mv 0 np (s_run q_stA 0 np (q_rc nk nr np b.1))), b.2) := rfl
    rw [e0]
    refine v_boR (g := fun a => a.1) (f := q_sp) (fun i a ha => ?_) _ _ _ ?_
    · show q_bo (s_up (s_up a.1 f_m_begun i _) f_m_speaks i (bI (q_sis a.1 i))) f_m_speaks
      exact v_bo_up (v_bo_eq ha (by funext j; exact s_up_F (by decide))) (bI_or _)
    · have hA1 : s_eqN (q_bT ++ v_qA) (q_rc nk nr np b.1) (s_run q_stA 0 np (q_rc nk nr np b.1)) := s_eqN.run v_stAN _ _ _
      have hA0 : s_eqN [f_m_isRelay, f_m_counts] b.1 (q_rc nk nr np b.1) := s_eqN.qrc
      have hA2 : s_eqN v_oT (s_run q_stA 0 np (q_rc nk nr np b.1)) (s_run q_mv 0 np (s_run q_stA 0 np (q_rc nk nr np b.1))) := s_eqN.run s_eqN.qmv _ _ _
      exact v_bo_eq (h _ (by decide)) (by dsimp only; rw [s_eqN.qbws _ (by decide), hA2 _ (by decide), hA1 _ (by decide), hA0 _ (by decide)])
  · exact v_bo_eq (h _ (by decide)) (hE _ (by decide))
  · exact v_bo_eq (h _ (by decide)) (hE _ (by decide))
  · exact v_bo_eq (h _ (by decide)) (hE _ (by decide))
  · exact v_bo_eq (h _ (by decide)) (hE _ (by decide))
theorem v_boStl {p : e_Sp} {nk nr : Nat} {a : e_I × e_Jt} (h : ∀ F, v_bC.contains F = true → q_bo a.1 F) : ∀ F, v_bC.contains F = true → q_bo (s_stl p nk nr a).1 F := by
  intro F hF
  have hF' : F = f_p_isOpened ∨ F = f_p_isSpeaking ∨ F = f_isTutti ∨ F = f_k_isOut ∨ F = f_k_isLocked ∨ F = f_k_isInScope := by simpa [v_bC] using hF
  have hE : s_eqN s_tST a.1 (s_stl p nk nr a).1 := s_eqN.stl
  have h1 : s_eqN [f_a_relaysOn, f_p_found, f_a_ways] a.1 (s_set1 p nk nr a.1) := s_eqN.set1
  rcases hF' with e | e | e | e | e | e <;> rw [e]
  · have hf : s_eqN s_tFS (s_set2 p nk nr a.1) (s_stl p nk nr a).1 := s_eqN.fsp (a := (s_set2 p nk nr a.1, a.2))
    refine v_bo_eq (I := s_mv p.2.2.2.2 (p.2.2.1 T_PARR) nr (s_set1 p nk nr a.1)) ?_ (by rw [hf _ (by decide)]; exact (s_eqN.wds (nk := nk)) _ (by decide))
    unfold s_mv s_mvR
    refine v_boR (g := fun I => I) (fun r I hI => v_boR (g := fun I => I) (fun n I hI => ?_) _ _ _ hI) _ _ _ ?_
    · unfold s_mvP s_mv3
      refine v_bo_eq (I := s_mp (s_mvA r (p.2.2.2.2 r + n) n (decide (0 < s_ar I (p.2.2.2.2 r + n))) I) (p.2.2.2.2 r + n) (s_mvA r (p.2.2.2.2 r + n) n (decide (0 < s_ar I (p.2.2.2.2 r + n))) I f_now 0) (s_mvA r (p.2.2.2.2 r + n) n (decide (0 < s_ar I (p.2.2.2.2 r + n))) I f_r_delay r) (s_mvA r (p.2.2.2.2 r + n) n (decide (0 < s_ar I (p.2.2.2.2 r + n))) I f_r_rest r)) ?_ ?_
      · have hI2 : q_bo (s_mvA r (p.2.2.2.2 r + n) n (decide (0 < s_ar I (p.2.2.2.2 r + n))) I) f_p_isOpened := v_bo_eq hI (s_eqN.mvA _ (by decide))
        unfold s_mp
        split
        · exact hI2
        · split
          · exact v_bo_eq (v_bo_up (F' := f_p_isOpened) (i := p.2.2.2.2 r + n) hI2 (.inl rfl)) (by funext j; exact s_up_F (by decide))
          · split
            · exact v_bo_up hI2 (.inr rfl)
            · exact hI2
      · funext j
        unfold s_mvU s_mvW
        rw [s_up_F (by decide), s_up_F (by decide)]
    · have hw : s_eqN [f_isWaiting, f_a_uses] (s_set1 p nk nr a.1) (s_fill (s_up (s_set1 p nk nr a.1) f_isWaiting 0 0) f_a_uses 3 0) := (s_eqN.up (by decide)).trans (s_eqN.fill (by decide))
      exact v_bo_eq (h _ (by decide)) (by rw [hw _ (by decide), h1 _ (by decide)])
  · have e0 : s_stl p nk nr a = s_fsp p nr (s_set2 p nk nr a.1, a.2) := rfl
    rw [e0]
    unfold s_fsp s_fsR
    refine v_boR (g := fun a : e_I × e_Jt => a.1) (fun r b hb => v_boR (g := fun a : e_I × e_Jt => a.1) (fun n b hb => ?_) _ _ _ hb) _ _ _ ?_
    · unfold s_fsP s_fsE
      dsimp only
      refine v_bo_eq (I := s_up (s_fsB _ (p.2.2.2.2 r + n) b).1 f_p_isSpeaking (p.2.2.2.2 r + n) (bI _)) (v_bo_up (v_bo_eq hb ?_) (bI_or _)) (by funext j; exact s_up_F (by decide))
      unfold s_fsB
      split
      · funext j; dsimp only; rw [s_up_F (by decide), s_up_F (by decide)]
      · split
        · funext j; dsimp only; rw [s_up_F (by decide)]
        · rfl
    · have h2 : s_eqN s_tMV (s_set1 p nk nr a.1) (s_mv p.2.2.2.2 (p.2.2.1 T_PARR) nr (s_set1 p nk nr a.1)) := s_eqN.mv
      have h3 : s_eqN [f_a_winds] (s_mv p.2.2.2.2 (p.2.2.1 T_PARR) nr (s_set1 p nk nr a.1)) (s_set2 p nk nr a.1) := s_eqN.wds
      refine v_bo_eq (h _ (by decide)) ?_
      funext j
      dsimp only
      rw [s_up_F (by decide), h3 _ (by decide), h2 _ (by decide), h1 _ (by decide)]
  · exact v_bo_eq (h _ (by decide)) (hE _ (by decide))
  · exact v_bo_eq (h _ (by decide)) (hE _ (by decide))
  · exact v_bo_eq (h _ (by decide)) (hE _ (by decide))
  · exact v_bo_eq (h _ (by decide)) (hE _ (by decide))
