theorem q_bo.eqN {T : List Nat} {I I' : e_I} {F : Nat} (h : q_bo I F) (e : s_eqN T I I') (hT : T.contains F = false) : q_bo I' F := by unfold q_bo; rw [e F hT]; exact h
theorem q_bo.up {I : e_I} {F F' j : Nat} {x : Int32} (h : q_bo I F) (hx : x = 0 ∨ x = 1) : q_bo (s_up I F' j x) F := by
  intro i
  by_cases e : F = F' ∧ i = j
  · obtain ⟨rfl, rfl⟩ := e; rw [s_up_s]; exact hx
  · rw [show s_up I F' j x F i = I F i from if_neg e]; exact h i
/-- what the relays look at is there -/
def q_S (I : e_I) : Prop := ∀ r, r < 16 → ¬ I f_m_operation r = 45 → q_sk (I f_m_first r) ∧ (¬ I f_m_operation r = 33 → q_sk (I f_m_second r))
theorem q_S.eqN {T : List Nat} {I I' : e_I} (h : q_S I) (e : s_eqN T I I') (h1 : T.contains f_m_operation = false) (h2 : T.contains f_m_first = false) (h3 : T.contains f_m_second = false) : q_S I' := by unfold q_S; rw [e _ h1, e _ h2, e _ h3]; exact h
def q_rv (I : e_I) (nk r : Nat) : Bool := if I f_m_operation r = 38 then q_src I nk (I f_m_first r) && q_src I nk (I f_m_second r) else if I f_m_operation r = 124 then q_src I nk (I f_m_first r) || q_src I nk (I f_m_second r) else if I f_m_operation r = 94 then q_src I nk (I f_m_first r) != q_src I nk (I f_m_second r) else !q_src I nk (I f_m_first r)
def q_rl (nk r : Nat) (I : e_I) : e_I := if I f_m_operation r = 45 then I else s_up I f_m_isRelay r (bI (q_rv I nk r))
def q_rel (nk : Nat) (I : e_I) : e_I := s_run (q_rl nk) 0 16 I
theorem s_eqN.qrel {nk : Nat} {I : e_I} : s_eqN [f_m_isRelay] I (q_rel nk I) := s_eqN.run (fun r I => by
  unfold q_rl
  split
  · exact s_eqN.rfl'
  · exact s_eqN.up (by decide)) _ _ _
theorem s_run_pr {α : Type} {P : α → Prop} {f : Nat → α → α} (h : ∀ i a, P a → P (f i a)) : ∀ n i a, P a → P (s_run f i n a)
  | 0, _, _, z => z
  | n + 1, i, a, z => s_run_pr h n (i + 1) (f i a) (h i a z)
theorem q_bo.rel {nk : Nat} {I : e_I} (h : q_bo I f_m_isRelay) : q_bo (q_rel nk I) f_m_isRelay := s_run_pr (P := fun I => q_bo I f_m_isRelay) (fun r I h => by
  unfold q_rl
  split
  · exact h
  · exact h.up (bI_or _)) _ _ _ h
theorem q_isk {x y : Int32} : s_isk x y ↔ (0 ≤ x ∧ x ≤ 2) ∧ (0 ≤ y ∧ y ≤ nI (s_kcn x) - 1) := by
  rw [q_le1 (by have := s_kcn_le x; omega), ← s_kc_nI]
  unfold s_kc
  grind
theorem q_ki {dv i : Nat} (hd : dv < 3) (hi : i < s_kcn (nI dv)) : s_isk (nI dv) (nI i) := by
  have h1 := s_kcn_le (nI dv)
  refine q_isk.mpr ⟨⟨nI_pos' (by omega), (nI_leI (b := 2) (by omega) (by decide)).mpr (by omega)⟩, nI_pos' (by omega), ?_⟩
  rw [q_le1 (by omega)]
  exact (nI_ltI (by omega) (by omega)).mpr hi
/-- the lowest or the highest key that is down -/
def q_egs (I : e_I) (x h : Int32) (i : Nat) (fd : Int32) : Int32 := if I f_m_isDown (s_kn x (nI i)) ≠ 0 ∧ (fd = -1 ∨ h ≠ 0) then nI i else fd
def q_eg (I : e_I) (x h : Int32) : Int32 := s_run (q_egs I x h) 0 (s_kcn x) (-1)
def q_tk (I : e_I) (k : Nat) (y : Int32) : Bool := if I f_mk_letter k = 97 then true else if I f_mk_letter k = 98 then decide (q_eg I (I f_mk_division k) 0 = y) else if I f_mk_letter k = 109 then decide (q_eg I (I f_mk_division k) 1 = y) else decide (I f_m_wentDown (s_kn (I f_mk_division k) y) = I f_m_tick 0)
/-- what a key that plays asks for is counted -/
def q_nt (I : e_I) (k : Nat) (z : Int32) (r : Nat) : Int32 := 36 + z + I f_mk_offsets (k * 4 + r)
def q_plR (nr k : Nat) (z : Int32) (r : Nat) (I : e_I) : e_I := if (I f_mk_froms (k * 4 + r) ≤ z ∧ z ≤ I f_mk_tos (k * 4 + r)) ∧ q_ip I nr (I f_mk_ranks (k * 4 + r)) (q_nt I k z r) = true then s_up I f_m_counts (q_pp I (I f_mk_ranks (k * 4 + r)) (q_nt I k z r)).toNatClampNeg (I f_m_counts (q_pp I (I f_mk_ranks (k * 4 + r)) (q_nt I k z r)).toNatClampNeg + 1) else I
def q_plS (nr : Nat) (x y : Int32) (k : Nat) (I : e_I) : e_I := if I f_mk_kind k = 115 ∧ I f_mk_division k = x ∧ q_so I k = true then s_run (q_plR nr k (I f_mk_wires (k * 61 + y.toNatClampNeg))) 0 (I f_mk_rows k).toNatClampNeg I else I
def q_pl (nk nr : Nat) (x y : Int32) (I : e_I) : e_I := s_run (q_plS nr x y) 0 nk I
theorem s_eqN.qplR {nr k : Nat} {z : Int32} (r : Nat) (I : e_I) : s_eqN [f_m_counts] I (q_plR nr k z r I) := by
  unfold q_plR
  split
  · exact s_eqN.up (by decide)
  · exact s_eqN.rfl'
theorem s_eqN.qplS {nr : Nat} {x y : Int32} (k : Nat) (I : e_I) : s_eqN [f_m_counts] I (q_plS nr x y k I) := by
  unfold q_plS
  split
  · exact s_eqN.run s_eqN.qplR _ _ _
  · exact s_eqN.rfl'
theorem s_eqN.qpl {nk nr : Nat} {x y : Int32} {I : e_I} : s_eqN [f_m_counts] I (q_pl nk nr x y I) := s_eqN.run s_eqN.qplS _ _ _
