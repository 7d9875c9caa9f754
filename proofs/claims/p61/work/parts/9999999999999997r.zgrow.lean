/-! 9999999999999997r: ranks, knobs and rows are made -/
theorem h_NK3 {nk t i : Nat} (h : h_G3 1 t i = false) : s_NK nk t i = false := by
  unfold h_G3 at h
  rw [Bool.or_eq_false_iff, Bool.or_eq_false_iff] at h
  unfold s_NK s_Nk
  rw [h.1.2, h.2]
  rfl
theorem h_kC {p p1 p' : e_Sp} {nk : Nat} (hxv : s_xv (s_NK nk) p p1) (x1 : s_xt p1 p') : h_xG (h_G3 1) p p' ∧ p'.2.2.2.2 = p.2.2.2.2 ∧ p'.2.2.1 T_PARR = p.2.2.1 T_PARR ∧ h_x4 p p' := by
  have hE : ∀ t, t ≠ T_ENTR → p'.1 t = p1.1 t ∧ p'.2.1 t = p1.2.1 t ∧ p'.2.2.1 t = p1.2.2.1 t := fun t ht => x1.1 t (decide_eq_false ht)
  refine ⟨fun t i h => ?_, x1.2.2.1.trans hxv.2, ?_, ?_, ⟨?_, ?_, ?_⟩, fun j => ?_, ?_⟩
  · have ht : t ≠ T_ENTR := fun z => by
      rw [z] at h
      have q : h_G3 1 T_ENTR i = true := rfl
      rw [q] at h
      cases h
    obtain ⟨a, b, c⟩ := hE t ht
    obtain ⟨a', b', c'⟩ := hxv.1 t i (h_NK3 h)
    exact ⟨by rw [a]; exact a', by rw [b]; exact b', by rw [c]; exact c'⟩
  · funext i
    rw [(hE T_PARR (by decide)).2.2]
    exact (hxv.1 _ i rfl).2.2
  · rw [(hE T_LIST (by decide)).2.1]; exact (hxv.1 _ _ rfl).2.1
  · rw [(hE T_LARR (by decide)).1]; exact (hxv.1 _ _ rfl).1
  · rw [(hE T_LARR (by decide)).2.1]; exact (hxv.1 _ _ rfl).2.1
  · rw [(hE T_LARR (by decide)).2.2]; exact (hxv.1 _ _ rfl).2.2
  · rw [(hE T_MKEPT (by decide)).2.1]; exact (hxv.1 _ _ rfl).2.1
  · exact Nat.le_trans (Nat.le_of_eq (hxv.1 T_ENTR 0 rfl).2.2.symm) x1.2.2.2
theorem h_rkE {p p1 : e_Sp} {I : e_I} {J : e_Jt} {nk nr np lo m : Nat} {x3 x4 x5 x6 x7 : Int32} : s_eqN (f_l_modCount :: f_l_size :: (v_pF ++ (v_rF ++ s_tST))) I (s_stl p1 nk (nr + 1) (v_rkA p I nr np lo m x3 x4 x5 x6 x7, J)).1 := by
  have e1 : s_eqN (f_l_modCount :: f_l_size :: (v_pF ++ v_rF)) I (v_rkA p I nr np lo m x3 x4 x5 x6 x7) := v_rkAN
  exact (e1.mono (by decide)).trans (s_eqN.stl.mono (by decide))
theorem h_rkL {p p1 : e_Sp} {I : e_I} {J : e_Jt} {nk nr np lo m l : Nat} {x3 x4 x5 x6 x7 : Int32} (hl : l ≠ 0) : (s_stl p1 nk (nr + 1) (v_rkA p I nr np lo m x3 x4 x5 x6 x7, J)).1 f_l_size l = I f_l_size l := by
  rw [s_eqN.stl _ (by decide)]
  dsimp only
  unfold v_rkA
  rw [s_adI_n hl, v_rkN _ (by decide), v_pkN _ (by decide)]
theorem h_in19 {x : Int32} (h : 1 ≤ x ∧ x ≤ 9) : v_in x 0 9 := by
  obtain ⟨h1, h2⟩ := h
  rw [Int32.le_iff_toInt_le] at h1 h2
  have a : (1 : Int32).toInt = 1 := by decide
  have b : (9 : Int32).toInt = 9 := by decide
  exact ⟨by omega, by omega⟩

theorem s_La.xG {N : Nat → Nat → Bool} {p p' : e_Sp} {I I' : e_I} {l n : Nat} (h : s_La p I l n) (x : h_xG N p p') (h1 : N T_LIST l = false) (h2 : N T_LARR l = false) (e : I' f_l_size l = I f_l_size l) : s_La p' I' l n := by
  unfold s_La at h ⊢
  rw [(x _ l h1).2.1, (x _ l h2).1, (x _ l h2).2.1, (x _ l h2).2.2, e]
  exact h

theorem z_GI.st2 {K nk nr np : Nat} {I' : e_I} {J' : e_Jt} (h : z_GI K np (I', J')) : z_GI (K + 1) np (q_st nk nr np (I', J')) := ⟨h.1.N (q_st_e (nk := nk) (nr := nr) (np := np) (a := (I', J'))).1 (by decide), z_T.st.E h.2⟩
theorem z_sm_ext {f : Nat → Nat} {np : Nat} (h : ∀ q, np ≤ q → f q = 0) : ∀ k, z_sm f (np + k) = z_sm f np := by
  intro k
  induction k with
  | zero => rfl
  | succ k ih =>
    show z_sm f (np + k) + f (np + k) = z_sm f np
    rw [ih, h _ (by omega)]; rfl
/-- the ghost's new rank -/
theorem z_GI.rank {K np nr lo mm : Nat} {I' : e_I} {J' : e_Jt} {x3 x4 x5 x6 x7 : Int32} (h : z_GI K np (I', J')) (hf : v_Fr np I') (hn : np + (mm + 1) ≤ 1280) (h3 : v_in x3 0 9) : z_GI K (np + (mm + 1)) (q_rkI I' nr np lo mm x3 x4 x5 x6 x7, J') := by
  have e : s_eqN q_rF I' (q_rkI I' nr np lo mm x3 x4 x5 x6 x7) := q_rkI_e
  obtain ⟨-, -, v3, -, -, -, -, -, v9⟩ := v_rkBv (I := I') (nr := nr) (np := np) (lo := lo) (m := mm) (x3 := x3) (x4 := x4) (x5 := x5) (x6 := x6) (x7 := x7)
  obtain ⟨⟨g1, g2, g3, g4, g5⟩, f, g, k1, k2, k3, m, k4, k5, k6⟩ := h
  dsimp only at g1 g2 g3 g4 g5 k1 k2 k3 k5 k6
  have hz : ∀ q, np ≤ q → q < np + (mm + 1) → I' f_m_tuning q = 0 ∧ I' f_m_begun q = 0 ∧ I' f_m_speaks q = 0 ∧ I' f_m_since q = 0 ∧ I' f_m_closedSince q = -1000000 := fun q h1 h2 => by
    obtain ⟨a1, a2, -⟩ := hf q h1 (by omega)
    exact ⟨a1 _ (by decide), a1 _ (by decide), a1 _ (by decide), a1 _ (by decide), a2⟩
  refine ⟨⟨fun q hq => ?_, fun i hi => ?_, ?_, fun r hr => ?_, fun d hd => ?_⟩, fun q => if q < np then f q else 0, fun q => if q < np then g q else 0, fun q hq => ?_, ?_, ?_, m, k4, ?_, fun q hq => ?_⟩
  · dsimp only
    rw [e f_m_tuning (by decide)]
    by_cases c : q < np
    · exact g1 q c
    · rw [(hz q (by omega) hq).1]; exact ⟨by decide, by decide⟩
  · dsimp only; rw [e f_m_temper (by decide)]; exact g2 i hi
  · dsimp only; rw [e f_m_heat (by decide)]; exact g3
  · dsimp only
    by_cases c : r = nr
    · rw [c, v3, v9]; exact ⟨⟨by decide, by decide⟩, h3⟩
    · rw [v_rkBr (by decide) c, v_rkBr (by decide) c]; exact g4 r hr
  · dsimp only; rw [e f_m_supply (by decide)]; exact g5 d hd
  · dsimp only
    rw [e f_m_begun (by decide), e f_m_speaks (by decide)]
    by_cases c : q < np
    · rw [if_pos c, if_pos c]; exact k1 q c
    · rw [if_neg c, if_neg c, (hz q (by omega) hq).2.1, (hz q (by omega) hq).2.2.1]
      exact ⟨Nat.zero_le _, by decide, rfl, rfl⟩
  · dsimp only
    rw [k2, z_sm_ext (fun q hq => if_neg (by omega)), z_sm_c np (g := f) (fun q hq => if_pos hq)]
  · dsimp only
    rw [k3, z_sm_ext (f := fun q => (if q < np then f q else 0) + (if q < np then g q else 0)) (fun q hq => by rw [if_neg (by omega), if_neg (by omega)]), z_sm_c np (f := fun q => (if q < np then f q else 0) + (if q < np then g q else 0)) (g := fun q => f q + g q) (fun q hq => by rw [if_pos hq, if_pos hq])]
  · dsimp only; rw [e f_m_tick (by decide)]; exact k5
  · dsimp only
    rw [e f_m_since (by decide), e f_m_closedSince (by decide)]
    by_cases c : q < np
    · exact k6 q c
    · rw [(hz q (by omega) hq).2.2.2.1, (hz q (by omega) hq).2.2.2.2]
      refine ⟨⟨m, Nat.zero_le _, by omega, (Int32.sub_self _).symm⟩, ⟨m + 1000000, Nat.zero_le _, Nat.le_refl _, ?_⟩⟩
      rw [← nI_add, show (-1000000 : Int32) = - nI 1000000 from by decide]
      have : ∀ u v : Int32, -v = u - (u + v) := fun u v => by
        rw [Int32.sub_eq_add_neg, Int32.neg_add, Int32.sub_eq_add_neg, ← Int32.add_assoc, Int32.add_right_neg, Int32.zero_add]
      exact this _ _
theorem z_Fr.st {nk nr np : Nat} {I' : e_I} {J' : e_Jt} (h : v_Fr np I') : v_Fr np (q_st nk nr np (I', J')).1 := h.of (fun F q hF hq => h_frst hF hq)
theorem z_Fr.N {np : Nat} {T : List Nat} {I I1 : e_I} (h : v_Fr np I) (e : s_eqN T I I1) (hT : v_dj h_frF T = true) : v_Fr np I1 := h.of (fun F q hF _ => by rw [e F (v_dj.o hT hF)])
