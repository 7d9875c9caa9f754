/-! 96: the second implementation's acts, a first part (printed by wip/whole/p96.py) -/
/-- it stands, and may settle -/
def q_G (p : e_Sp) (I : e_I) (c : Nat × Nat) (nk nr np a b n : Nat) : Prop := q_D p I nk nr np ∧ 3 ≤ nk ∧ q_S I ∧ q_bo I f_m_isDown ∧ q_bo I f_m_isRelay ∧ q_L p I c a b n ∧ a + n + 100000000 < 4294960000 ∧ n + 1280 < 39999999
def q_gs : List Nat := q_ms ++ [f_m_operation, f_m_first, f_m_second, f_m_isDown, f_m_isRelay]
def q_fr3 (T : List Nat) : Bool := q_gs.all (fun F => !T.contains F)
theorem q_G.eqN {T : List Nat} {p : e_Sp} {I I' : e_I} {c : Nat × Nat} {nk nr np a b n : Nat} (h : q_G p I c nk nr np a b n) (e : s_eqN T I I') (hT : q_fr3 T = true) : q_G p I' c nk nr np a b n := by
  have hf : ∀ F, F ∈ q_gs → T.contains F = false := fun F hF => by have := List.all_eq_true.mp hT F hF; simpa using this
  obtain ⟨h1, h2, h3, h4, h5, h6, h7⟩ := h
  exact ⟨h1.eqN e (List.all_eq_true.mpr (fun F hF => by rw [hf F (List.mem_append_left _ hF)]; rfl)), h2, h3.eqN e (hf _ (by decide)) (hf _ (by decide)) (hf _ (by decide)), h4.eqN e (hf _ (by decide)), h5.eqN e (hf _ (by decide)), h6.eq (congrFun (e _ (hf f_l_size (by decide))) 4), h7⟩
theorem q_G.up {p : e_Sp} {I : e_I} {c : Nat × Nat} {nk nr np a b n F i : Nat} {x : Int32} (h : q_G p I c nk nr np a b n) (hF : q_fr3 [F] = true) : q_G p (s_up I F i x) c nk nr np a b n := h.eqN (s_eqN.up (by simp)) hF
abbrev q_an (I : e_I) : e_I := s_up I f_m_thrown 0 0
/-- the place of a pipe -/
abbrev q_pi (I : e_I) (x y : Int32) : Nat := (q_pp I x y).toNatClampNeg
def q_ro (I : e_I) (q : Nat) : Int32 := I f_m_counts q + bI (decide (I f_m_isHeld q ≠ 0))
def q_asf (I : e_I) (q : Nat) (u : Int32) : Int32 := u + bI (decide (I f_m_speaks q ≠ 0))
def q_asp (I : e_I) (np : Nat) : Int32 := s_run (q_asf I) 0 np 0
