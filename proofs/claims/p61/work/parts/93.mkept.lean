/-! 93: what is recorded joins the list (printed by wip/whole/p93.py) -/
def s_IMKEPT (I : e_I) (i : Nat) (x0 x1 x2 x3 : Int32) : e_I := (s_up (s_up (s_up (s_up I f_mt_division i x0) f_mt_at i x1) f_mt_tick i x2) f_mt_is i x3)
def s_IMRANK (I : e_I) (i : Nat) (x0 x1 x2 x3 x4 x5 x6 x7 x8 : Int32) : e_I := (s_up (s_up (s_up (s_up (s_up (s_up (s_up (s_up (s_up I f_mr_lowest i x0) f_mr_highest i x1) f_mr_wind i x2) f_mr_division i x3) f_mr_delay i x4) f_mr_rest i x5) f_mr_power i x6) f_mr_base i x7) f_mr_heat i x8)
def s_IMKNOB (I : e_I) (i : Nat) (x0 x1 x2 x3 x4 x5 x6 x7 x8 x9 x10 : Int32) : e_I := (s_up (s_up (s_up (s_up (s_up (s_up (s_up (s_up (s_up (s_up (s_up I f_mk_kind i x0) f_mk_division i x1) f_mk_to i x2) f_mk_shift i x3) f_mk_letter i x4) f_mk_isDrawn i x5) f_mk_isLocked i x6) f_mk_isIn i x7) f_mk_rows i x8) f_mk_stage i x9) f_mk_relay i x10)
def s_IMKEEP (I : e_I) (i : Nat) (x0 : Int32) : e_I := (s_up I f_mg_isSet i x0)
def s_JMKEEP (J : e_Jt) (i : Nat) (y0 y1 : Int64) : e_Jt := (s_up (s_up J j_mg_knobs i y0) j_mg_drawn i y1)
def s_IMFRAME (I : e_I) (i : Nat) (x0 : Int32) : e_I := (s_up I f_mf_isSet i x0)
def s_JMFRAME (J : e_Jt) (i : Nat) (y0 y1 : Int64) : e_Jt := (s_up (s_up J j_mf_knobs i y0) j_mf_drawn i y1)
/-- the capacities of a list's row, one after another; their sum -/
def q_cs : Nat → Nat
  | 0 => 0
  | g + 1 => s_cap (q_cs g)
def q_cq : Nat → Nat
  | 0 => 0
  | g + 1 => q_cq g + s_cap (q_cs g)
def q_cp (p : e_Sp) : Nat := if p.2.1 T_LARR 4 = true then p.2.2.1 T_LARR 4 else 0
/-- the places that grow -/
def q_N (t i : Nat) : Bool := decide (t = T_MKEPT) || (decide (t = T_LARR) && decide (i = 4))
theorem q_N_t {t i : Nat} (h : t ≠ T_MKEPT) (h2 : t ≠ T_LARR) : q_N t i = false := by unfold q_N; rw [decide_eq_false h, decide_eq_false h2]; rfl
/-- a shape goes on: what is recorded keeps its places -/
def q_X (p p' : e_Sp) : Prop := s_xv q_N p p' ∧ ∀ j, p.2.1 T_MKEPT j = true → p'.1 T_MKEPT j = p.1 T_MKEPT j ∧ p'.2.1 T_MKEPT j = true
theorem q_X.rfl' {p : e_Sp} : q_X p p := ⟨s_xv.rfl', fun _ h => ⟨rfl, h⟩⟩
theorem q_X.trans {p p' p'' : e_Sp} (h : q_X p p') (h' : q_X p' p'') : q_X p p'' := ⟨h.1.trans h'.1, fun j hj => ⟨(h'.2 j (h.2 j hj).2).1.trans (h.2 j hj).1, (h'.2 j (h.2 j hj).2).2⟩⟩
/-- fields of T, and the length of the list 4, may differ -/
def q_e (T : List Nat) (I I' : e_I) : Prop := s_eqN (f_l_size :: T) I I' ∧ ∀ l, l ≠ 4 → I' f_l_size l = I f_l_size l
theorem q_e.rfl' {T : List Nat} {I : e_I} : q_e T I I := ⟨s_eqN.rfl', fun _ _ => rfl⟩
theorem q_e.trans {T : List Nat} {I I' I'' : e_I} (h : q_e T I I') (h' : q_e T I' I'') : q_e T I I'' := ⟨h.1.trans h'.1, fun l hl => (h'.2 l hl).trans (h.2 l hl)⟩
theorem q_e.of {L T : List Nat} {I I' : e_I} (h : s_eqN L I I') (h1 : L.contains f_l_size = false) (h2 : s_sub L T = true) : q_e T I I' := ⟨h.mono (by
    unfold s_sub at h2 ⊢
    rw [List.all_eq_true] at h2 ⊢
    intro F hF
    have := h2 F hF
    rw [List.contains_cons, this, Bool.or_true]), fun l _ => congrFun (h _ h1) l⟩
theorem s_up_n {α : Type} {I : Nat → Nat → α} {F F' i j : Nat} {x : α} (h : F' ≠ F) : s_up I F i x F' j = I F' j := if_neg (fun z => h z.1)
theorem q_e.up {T : List Nat} {I : e_I} {F i : Nat} {x : Int32} (h : T.contains F = true) (h2 : F ≠ f_l_size) : q_e T I (s_up I F i x) := ⟨s_eqN.up (by rw [List.contains_cons, h, Bool.or_true]), fun l _ => s_up_n (Ne.symm h2)⟩
theorem q_e.mono {L T : List Nat} {I I' : e_I} (h : q_e L I I') (hs : s_sub L T = true) : q_e T I I' := ⟨h.1.mono (by
    unfold s_sub at hs ⊢
    rw [List.all_eq_true] at hs ⊢
    intro F hF
    rcases List.mem_cons.mp hF with rfl | hF
    · simp
    · rw [List.contains_cons, hs F hF, Bool.or_true]), h.2⟩
theorem q_e.F {T : List Nat} {I I' : e_I} {F : Nat} (h : q_e T I I') (hF : (F != f_l_size && !T.contains F) = true) : I' F = I F := h.1 F (by
  rw [Bool.and_eq_true] at hF
  rw [List.contains_cons]
  simp at hF ⊢
  exact ⟨hF.1, hF.2⟩)
def q_ms2 : List Nat := [f_m_pipes, f_mk_division, f_mk_rows, f_mk_relay, f_mr_lowest, f_mr_highest, f_mr_base, f_mr_division, f_m_rankOf]
/-- something recorded: the ints behind it -/
def q_ka (I : e_I) (n : Nat) (x y z : Int32) : e_I := s_adI (s_IMKEPT I n x y (I f_m_tick 0) z) 4 n
def q_kT9 : List Nat := [f_mt_division, f_mt_at, f_mt_tick, f_mt_is, f_l_modCount]
theorem q_ka_e {I : e_I} {n : Nat} {x y z : Int32} : q_e q_kT9 I (q_ka I n x y z) := by
  refine ⟨?_, fun l hl => ?_⟩
  · unfold q_ka s_adI s_IMKEPT
    exact (((((s_eqN.up (by decide)).trans (s_eqN.up (by decide))).trans (s_eqN.up (by decide))).trans (s_eqN.up (by decide))).trans (s_eqN.up (by decide))).trans (s_eqN.up (by decide))
  · unfold q_ka
    rw [s_adI_n hl]
    unfold s_IMKEPT
    rw [s_up_F (by decide), s_up_F (by decide), s_up_F (by decide), s_up_F (by decide)]
theorem q_ka_n {I : e_I} {n : Nat} {x y z : Int32} : q_ka I n x y z f_l_size 4 = nI (n + 1) := s_adI_s
theorem s_La.x4 {p p' : e_Sp} {I I' : e_I} {n : Nat} (h : s_La p I 4 n) (h1 : p'.2.1 T_LIST 4 = p.2.1 T_LIST 4) (h2 : p'.1 T_LARR 4 = p.1 T_LARR 4 ∧ p'.2.1 T_LARR 4 = p.2.1 T_LARR 4 ∧ p'.2.2.1 T_LARR 4 = p.2.2.1 T_LARR 4) (e : I' f_l_size 4 = I f_l_size 4) : s_La p' I' 4 n := by
  unfold s_La at h ⊢
  rw [e, h1, h2.1, h2.2.1, h2.2.2]
  exact h
