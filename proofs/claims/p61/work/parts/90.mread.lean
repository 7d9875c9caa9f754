def q_kT : List Nat := [T_K_wires, T_K_ranks, T_K_offsets, T_K_froms, T_K_tos]
def q_K (p : e_Sp) (I : e_I) (k : Nat) : Prop := p.2.1 T_MKNOB k = true ∧ (∀ t, t ∈ q_kT → p.2.1 t k = true) ∧ (∃ dv, dv < 3 ∧ I f_mk_division k = nI dv) ∧ (∃ m, m ≤ 4 ∧ I f_mk_rows k = nI m) ∧ (I f_mk_relay k = -1 ∨ ∃ r, r < 16 ∧ I f_mk_relay k = nI r)
def q_R (p : e_Sp) (I : e_I) (np r : Nat) : Prop := p.2.1 T_MRANK r = true ∧ ∃ lo n b dv, I f_mr_lowest r = nI lo ∧ I f_mr_highest r = nI (lo + n) ∧ I f_mr_base r = nI b ∧ I f_mr_division r = nI dv ∧ lo + n ≤ 127 ∧ b + n < np ∧ dv < 3
/-- the second implementation stands: nk knobs, nr ranks, np pipes -/
def q_D (p : e_Sp) (I : e_I) (nk nr np : Nat) : Prop := s_ok p ∧ (nk ≤ 40 ∧ I f_l_size 3 = nI nk) ∧ (nr ≤ 10 ∧ I f_l_size 2 = nI nr) ∧ (np ≤ 1280 ∧ I f_m_pipes 0 = nI np) ∧ (∀ k, k < nk → q_K p I k) ∧ (∀ r, r < nr → q_R p I np r) ∧ ∀ q, q < np → ∃ r b, r < nr ∧ I f_m_rankOf q = nI r ∧ I f_mr_base r = nI b ∧ b ≤ q
def q_bo (I : e_I) (F : Nat) : Prop := ∀ i, I F i = 0 ∨ I F i = 1
theorem q_le1 {n : Nat} {x : Int32} (hn : n < 2147483648) : x ≤ nI n - 1 ↔ x < nI n := by
  have h := nI_toInt (n := n) hn
  have h1 : (1 : Int32).toInt = 1 := rfl
  rw [Int32.le_iff_toInt_le, Int32.lt_iff_toInt_lt, Int32.toInt_sub, h, h1, Int.bmod_eq_of_le (by omega) (by omega)]
  omega
def q_sk (x : Int32) : Prop := x < 100 ∨ (400 ≤ x ∧ x < 416) ∨ (¬ x < 100 ∧ x < 400 ∧ s_isk (x / 100 - 1) (x - x / 100 * 100))
def q_src (I : e_I) (nk : Nat) (x : Int32) : Bool := if x < 100 then decide (0 ≤ x ∧ x < nI nk) && decide (I f_mk_isDrawn x.toNatClampNeg ≠ 0) else if x < 400 then decide (I f_m_isDown (s_kn (x / 100 - 1) (x - x / 100 * 100)) ≠ 0) else decide (I f_m_isRelay (x - 400).toNatClampNeg ≠ 0)
def q_ct (I : e_I) (k : Nat) : Bool := decide (I f_mk_isDrawn k ≠ 0) || (decide (I f_mk_relay k ≠ -1) && decide (I f_m_isRelay (I f_mk_relay k).toNatClampNeg ≠ 0))
def q_so (I : e_I) (k : Nat) : Bool := q_ct I k || (decide (I f_m_isTutti 0 ≠ 0) || (decide (0 < I f_mk_stage k) && decide (I f_mk_stage k ≤ I f_m_crescendo 0)))
/-- the number of a pipe, and whether there is one -/
def q_ip (I : e_I) (nr : Nat) (x y : Int32) : Bool := decide (0 ≤ x ∧ x < nI nr) && decide (I f_mr_lowest x.toNatClampNeg ≤ y ∧ y ≤ I f_mr_highest x.toNatClampNeg)
def q_pp (I : e_I) (x y : Int32) : Int32 := I f_mr_base x.toNatClampNeg + y - I f_mr_lowest x.toNatClampNeg
