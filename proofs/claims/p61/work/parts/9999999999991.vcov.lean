/-! 9999999999991: pipes that rows cover -/
theorem n_le {n : Nat} {f g : Nat → Nat} (h : ∀ i, i < n → f i ≤ g i) : s_sum n f ≤ s_sum n g := by
  induction n with
  | zero => exact Nat.le_refl _
  | succ n ih =>
    show s_sum n f + f n ≤ s_sum n g + g n
    have := ih (fun i hi => h i (by omega))
    have := h n (by omega)
    omega
theorem n_congr {n : Nat} {f g : Nat → Nat} (h : ∀ i, i < n → f i = g i) : s_sum n f = s_sum n g := Nat.le_antisymm (n_le (fun i hi => Nat.le_of_eq (h i hi))) (n_le (fun i hi => Nat.le_of_eq (h i hi).symm))
theorem n_z {n : Nat} {f : Nat → Nat} (h : ∀ i, i < n → f i = 0) : s_sum n f = 0 := by
  have := s_sum_le (b := 0) (fun i hi => Nat.le_of_eq (h i hi))
  omega
theorem n_add {n : Nat} {f g : Nat → Nat} : s_sum n (fun i => f i + g i) = s_sum n f + s_sum n g := by
  induction n with
  | zero => rfl
  | succ n ih =>
    show s_sum n (fun i => f i + g i) + (f n + g n) = (s_sum n f + f n) + (s_sum n g + g n)
    omega
theorem n_swap {n m : Nat} {f : Nat → Nat → Nat} : s_sum n (fun i => s_sum m (fun j => f i j)) = s_sum m (fun j => s_sum n (fun i => f i j)) := by
  induction n with
  | zero => exact (n_z (fun _ _ => rfl)).symm
  | succ n ih =>
    show s_sum n (fun i => s_sum m (fun j => f i j)) + s_sum m (fun j => f n j) = s_sum m (fun j => s_sum n (fun i => f i j) + f n j)
    rw [ih, n_add]
theorem n_app {n m : Nat} {f : Nat → Nat} : s_sum (n + m) f = s_sum n f + s_sum m (fun j => f (n + j)) := by
  induction m with
  | zero => rfl
  | succ m ih =>
    show s_sum (n + m) f + f (n + m) = s_sum n f + (s_sum m (fun j => f (n + j)) + f (n + m))
    omega
theorem n_mul {n a : Nat} {f : Nat → Nat} : s_sum n (fun i => a * f i) = a * s_sum n f := by
  induction n with
  | zero => rfl
  | succ n ih =>
    show s_sum n (fun i => a * f i) + a * f n = a * (s_sum n f + f n)
    rw [ih, Nat.mul_add]
theorem n_if {n : Nat} {c : Prop} [Decidable c] {f : Nat → Nat} : s_sum n (fun i => if c then f i else 0) = if c then s_sum n f else 0 := by
  by_cases h : c
  · rw [if_pos h]; exact n_congr (fun i _ => if_pos h)
  · rw [if_neg h]; exact n_z (fun i _ => if_neg h)
/-- at most one of them -/
theorem n_one {n : Nat} {f : Nat → Bool} (h : ∀ i j, i < n → j < n → f i = true → f j = true → i = j) : s_sum n (fun i => if f i = true then 1 else 0) ≤ 1 := by
  induction n with
  | zero => exact Nat.zero_le _
  | succ n ih =>
    show s_sum n (fun i => if f i = true then 1 else 0) + (if f n = true then 1 else 0) ≤ 1
    by_cases c : f n = true
    · rw [if_pos c, n_z (fun i hi => if_neg (fun z => by have := h i n (by omega) (by omega) z c; omega))]
      exact Nat.le_refl _
    · rw [if_neg c]
      exact ih (fun i j hi hj => h i j (by omega) (by omega))
theorem n_ex {n : Nat} {f : Nat → Bool} : (if s_ex n f = true then 1 else 0) ≤ s_sum n (fun i => if f i = true then 1 else 0) := by
  induction n with
  | zero => exact Nat.le_refl _
  | succ n ih =>
    show (if (s_ex n f || f n) = true then 1 else 0) ≤ s_sum n (fun i => if f i = true then 1 else 0) + (if f n = true then 1 else 0)
    cases h1 : s_ex n f <;> cases h2 : f n <;> rw [h1] at ih <;> simp at ih ⊢ <;> omega
/-- a row of a knob hits a pipe -/
def v_ht (I : e_I) (nr k i q : Nat) : Bool := s_ex 61 (fun pl => q_ip I nr (I f_mk_ranks (k * 4 + i)) (q_nt I k (nI pl) i) && decide (q_pi I (I f_mk_ranks (k * 4 + i)) (q_nt I k (nI pl) i) = q))
def v_cvk (I : e_I) (nr k q : Nat) : Bool := decide (I f_mk_kind k = 115) && s_ex (I f_mk_rows k).toNatClampNeg (fun i => v_ht I nr k i q)
def v_cov (I : e_I) (nk nr q : Nat) : Bool := s_ex nk (fun k => v_cvk I nr k q)
/-- wires lead to places -/
def v_wr (I : e_I) (nk : Nat) : Prop := ∀ k, k < nk → I f_mk_kind k = 115 → ∀ y, y < 61 → ∃ z, z < 61 ∧ I f_mk_wires (k * 61 + y) = nI z
theorem v_Kn.wr {I I' : e_I} {nk : Nat} (h : v_Kn I I' nk) : v_wr I' nk := fun k hk hs y hy => by
  obtain ⟨⟨e, -⟩, -, -, d⟩ := h.2 k hk
  rw [e] at d
  rcases d with ⟨_, z, _⟩ | ⟨_, z, _⟩ | ⟨_, _, hst⟩ | ⟨_, z⟩
  · rw [hs] at z; exact absurd z (by decide)
  · rw [hs] at z; exact absurd z (by decide)
  · obtain ⟨_, _, h3, h4, _⟩ := hst
    obtain ⟨z, hz, e1, _⟩ := h4 y hy
    exact ⟨z, hz, by rw [← h3 y hy]; exact e1⟩
  · rw [hs] at z; exact absurd z (by decide)
theorem v_RwZ {I : e_I} {nr k q b : Nat} (hc : v_cvk I nr k q = false) (hs : I f_mk_kind k = 115) (hb : b < 61) (hw : ∀ y, y < 61 → ∃ z, z < 61 ∧ I f_mk_wires (k * 61 + y) = nI z) : v_Rw I nr k (nI b) q = 0 := by
  refine v_S_z (fun i hi => ?_)
  rw [nI_clamp (show b < 2 ^ 31 by omega)]
  obtain ⟨z, hz, ez⟩ := hw b hb
  rw [ez]
  refine if_neg (fun c => ?_)
  have : v_cvk I nr k q = true := by
    unfold v_cvk
    rw [Bool.and_eq_true, decide_eq_true_iff, s_ex_iff]
    refine ⟨hs, i, hi, ?_⟩
    unfold v_ht
    rw [s_ex_iff]
    exact ⟨z, hz, by rw [Bool.and_eq_true, decide_eq_true_iff]; exact ⟨c.1.2, c.2⟩⟩
  rw [hc] at this
  cases this
theorem v_cov_k {I : e_I} {nk nr q k : Nat} (h : v_cov I nk nr q = false) (hk : k < nk) : v_cvk I nr k q = false := by
  cases e : v_cvk I nr k q with
  | false => rfl
  | true =>
    have : v_cov I nk nr q = true := by
      unfold v_cov
      rw [s_ex_iff]
      exact ⟨k, hk, e⟩
    rw [h] at this
    cases this
theorem v_PZ {I : e_I} {nk nr q b : Nat} {x : Int32} (h : v_cov I nk nr q = false) (hw : v_wr I nk) (hb : b < 61) : v_P I nk nr x (nI b) q = 0 := by
  refine v_S_z (fun k hk => ?_)
  split
  · rename_i c
    exact v_RwZ (v_cov_k h hk) c.1 hb (hw k hk c.1)
  · rfl
/-- no reason for a pipe that no row covers -/
theorem v_CZ {I : e_I} {nk nr q : Nat} (h : v_cov I nk nr q = false) (hw : v_wr I nk) : v_C I nk nr q = 0 := by
  refine v_S_z (fun d hd => v_S_z (fun n hn => ?_))
  have hn61 : n < 61 := by have := v_kcn d; omega
  split
  · rfl
  · have e1 : (if q_ct I d = true then 0 else v_P I nk nr (nI d) (nI n) q) = 0 := by
      split
      · rfl
      · exact v_PZ h hw hn61
    have e2 : v_S nk (fun c => if v_Bc I d n c then v_P I nk nr (I f_mk_to c) (nI n + I f_mk_shift c) q else 0) = 0 := by
      refine v_S_z (fun c hc => ?_)
      split
      · rename_i z
        obtain ⟨a, b, _, hb, _, _, eb, _⟩ := z.2.2.2.2.nat
        rw [eb]
        exact v_PZ h hw hb
      · rfl
    rw [e1, e2]; rfl
/-- rows, all of them -/
def v_Wn (I : e_I) (nk : Nat) : Nat := s_sum nk (fun k => if I f_mk_kind k = 115 then (I f_mk_rows k).toNatClampNeg else 0)
/-- pipes rank by rank -/
theorem n_flat {p : e_Sp} {I I' : e_I} {nr np : Nat} (h : v_Sh p I I' nr np) {F : Nat → Nat} : s_sum np F = s_sum nr (fun r => s_sum (p.2.2.1 T_PARR r) (fun j => F (p.2.2.2.2 r + j))) := by
  have key : ∀ m, m ≤ nr → s_sum (if m = 0 then 0 else p.2.2.2.2 (m - 1) + p.2.2.1 T_PARR (m - 1)) F = s_sum m (fun r => s_sum (p.2.2.1 T_PARR r) (fun j => F (p.2.2.2.2 r + j))) := by
    intro m
    induction m with
    | zero => exact fun _ => rfl
    | succ m ih =>
      intro hm
      have ih := ih (by omega)
      rw [if_neg (by omega), Nat.add_sub_cancel, n_app]
      show _ = s_sum m (fun r => s_sum (p.2.2.1 T_PARR r) (fun j => F (p.2.2.2.2 r + j))) + s_sum (p.2.2.1 T_PARR m) (fun j => F (p.2.2.2.2 m + j))
      rw [← ih]
      congr 2
      by_cases z : m = 0
      · rw [if_pos z, z, h.1.1]
      · rw [if_neg z]
        have := h.1.2.1 (m - 1) (by omega)
        rw [show m - 1 + 1 = m by omega] at this
        exact this
  rw [← key nr (Nat.le_refl _), ← h.1.2.2]
/-- one row, one rank -/
theorem n_row {p : e_Sp} {I I' : e_I} {nr np r k i : Nat} (h : v_Sh p I I' nr np) (hr : r < nr) : s_sum (p.2.2.1 T_PARR r) (fun j => if v_ht I' nr k i (p.2.2.2.2 r + j) = true then 1 else 0) ≤ if I' f_mk_ranks (k * 4 + i) = nI r then 61 else 0 := by
  obtain ⟨lo, dv, c1, c2, _, a3, a4, _⟩ := h.2.2 r hr
  have hr10 := h.2.1.1
  have hn : ∀ j, j < p.2.2.1 T_PARR r → ∀ pl, (q_ip I' nr (I' f_mk_ranks (k * 4 + i)) (q_nt I' k (nI pl) i) && decide (q_pi I' (I' f_mk_ranks (k * 4 + i)) (q_nt I' k (nI pl) i) = p.2.2.2.2 r + j)) = true → I' f_mk_ranks (k * 4 + i) = nI r ∧ q_nt I' k (nI pl) i = nI (lo + j) := by
    intro j hj pl hh
    rw [Bool.and_eq_true, decide_eq_true_iff] at hh
    obtain ⟨r', j', lo', hr', hj', _, e1, e2, e3, e4, e5⟩ := h.note hh.1
    have e6 : p.2.2.2.2 r' + j' = p.2.2.2.2 r + j := e3.symm.trans hh.2
    have e7 : r' = r := by
      have g1 := h.rk hr' hj'
      have g2 := h.rk hr hj
      rw [e6, g2] at g1
      exact g1.symm
    subst e7
    have e8 : j' = j := by omega
    subst e8
    have e9 : lo' = lo := (nI_eq (by omega) (by omega)).mp (e4.symm.trans a3)
    exact ⟨e1, by rw [e2, e9]⟩
  by_cases c : I' f_mk_ranks (k * 4 + i) = nI r
  · rw [if_pos c]
    have h1 : s_sum (p.2.2.1 T_PARR r) (fun j => if v_ht I' nr k i (p.2.2.2.2 r + j) = true then 1 else 0) ≤ s_sum (p.2.2.1 T_PARR r) (fun j => s_sum 61 (fun pl => if decide (q_nt I' k (nI pl) i = nI (lo + j)) = true then 1 else 0)) := by
      refine n_le (fun j hj => ?_)
      refine Nat.le_trans (m := s_sum 61 (fun pl => if (q_ip I' nr (I' f_mk_ranks (k * 4 + i)) (q_nt I' k (nI pl) i) && decide (q_pi I' (I' f_mk_ranks (k * 4 + i)) (q_nt I' k (nI pl) i) = p.2.2.2.2 r + j)) = true then 1 else 0)) n_ex (n_le (fun pl _ => ?_))
      split
      · rename_i z
        rw [if_pos (decide_eq_true (hn j hj pl z).2)]
        exact Nat.le_refl _
      · exact Nat.zero_le _
    rw [n_swap] at h1
    refine Nat.le_trans h1 (Nat.le_trans (s_sum_le (b := 1) (fun pl _ => n_one (fun x y hx hy h2 h3 => ?_))) (Nat.le_refl _))
    have e := (of_decide_eq_true h2).symm.trans (of_decide_eq_true h3)
    have := (nI_eq (by omega) (by omega)).mp e
    omega
  · rw [if_neg c, n_z (fun j hj => ?_)]
    · exact Nat.le_refl _
    · refine if_neg (fun z => c ?_)
      unfold v_ht at z
      rw [s_ex_iff] at z
      obtain ⟨pl, _, hpl⟩ := z
      exact (hn j hj pl hpl).1
/-- how many rows a rank has -/
def v_wr1 (I : e_I) (nk r : Nat) : Nat := s_sum nk (fun k => if I f_mk_kind k = 115 then s_sum (I f_mk_rows k).toNatClampNeg (fun i => if I f_mk_ranks (k * 4 + i) = nI r then 1 else 0) else 0)
theorem n_rank {p : e_Sp} {I I' : e_I} {nk nr np r : Nat} (h : v_Sh p I I' nr np) (hr : r < nr) : s_sum (p.2.2.1 T_PARR r) (fun j => if v_cov I' nk nr (p.2.2.2.2 r + j) = true then 1 else 0) ≤ 110 + 6 * v_wr1 I' nk r := by
  obtain ⟨lo, dv, c1, c2, _⟩ := h.2.2 r hr
  have b1 : s_sum (p.2.2.1 T_PARR r) (fun j => if v_cov I' nk nr (p.2.2.2.2 r + j) = true then 1 else 0) ≤ 128 := by
    refine Nat.le_trans (s_sum_le (b := 1) (fun j _ => ?_)) (by omega)
    split
    · exact Nat.le_refl _
    · exact Nat.zero_le _
  have b2 : s_sum (p.2.2.1 T_PARR r) (fun j => if v_cov I' nk nr (p.2.2.2.2 r + j) = true then 1 else 0) ≤ 61 * v_wr1 I' nk r := by
    have s1 : s_sum (p.2.2.1 T_PARR r) (fun j => if v_cov I' nk nr (p.2.2.2.2 r + j) = true then 1 else 0) ≤ s_sum (p.2.2.1 T_PARR r) (fun j => s_sum nk (fun k => if v_cvk I' nr k (p.2.2.2.2 r + j) = true then 1 else 0)) := n_le (fun j _ => n_ex)
    rw [n_swap] at s1
    refine Nat.le_trans s1 ?_
    unfold v_wr1
    rw [← n_mul]
    refine n_le (fun k hk => ?_)
    by_cases c : I' f_mk_kind k = 115
    · rw [if_pos c]
      have s2 : s_sum (p.2.2.1 T_PARR r) (fun j => if v_cvk I' nr k (p.2.2.2.2 r + j) = true then 1 else 0) ≤ s_sum (p.2.2.1 T_PARR r) (fun j => s_sum (I' f_mk_rows k).toNatClampNeg (fun i => if v_ht I' nr k i (p.2.2.2.2 r + j) = true then 1 else 0)) := by
        refine n_le (fun j _ => ?_)
        have e : v_cvk I' nr k (p.2.2.2.2 r + j) = s_ex (I' f_mk_rows k).toNatClampNeg (fun i => v_ht I' nr k i (p.2.2.2.2 r + j)) := by
          unfold v_cvk
          rw [decide_eq_true c, Bool.true_and]
        rw [e]
        exact n_ex
      rw [n_swap] at s2
      refine Nat.le_trans s2 ?_
      rw [← n_mul]
      refine n_le (fun i _ => Nat.le_trans (n_row h hr) ?_)
      split <;> omega
    · rw [if_neg c, n_z (fun j _ => ?_)]
      · exact Nat.le_refl _
      · refine if_neg (fun z => ?_)
        unfold v_cvk at z
        rw [Bool.and_eq_true, decide_eq_true_iff] at z
        exact c z.1
  omega
theorem n_ranks {I : e_I} {nk nr : Nat} (h10 : nr ≤ 10) : s_sum nr (fun r => v_wr1 I nk r) ≤ v_Wn I nk := by
  unfold v_wr1 v_Wn
  rw [n_swap]
  refine n_le (fun k hk => ?_)
  rw [n_if]
  split
  · rw [n_swap]
    refine Nat.le_trans (s_sum_le (b := 1) (fun i _ => ?_)) (by omega)
    have := n_one (n := nr) (f := fun r => decide (I f_mk_ranks (k * 4 + i) = nI r)) (fun x y hx hy h1 h2 => (nI_eq (by omega) (by omega)).mp ((of_decide_eq_true h1).symm.trans (of_decide_eq_true h2)))
    refine Nat.le_trans (Nat.le_of_eq (n_congr (fun r _ => ?_))) this
    by_cases z : I f_mk_ranks (k * 4 + i) = nI r
    · rw [if_pos z, if_pos (decide_eq_true z)]
    · rw [if_neg z, if_neg (by rw [decide_eq_true_iff]; exact z)]
  · exact Nat.le_refl _
/-- how many pipes rows cover -/
def v_Bd (nr W : Nat) : Nat := min 1280 (110 * nr + 6 * W)
theorem n_cov {p : e_Sp} {I I' : e_I} {nk nr np : Nat} (h : v_Sh p I I' nr np) : s_sum np (fun q => if v_cov I' nk nr q = true then 1 else 0) ≤ v_Bd nr (v_Wn I' nk) := by
  have b1 : s_sum np (fun q => if v_cov I' nk nr q = true then 1 else 0) ≤ 1280 := by
    refine Nat.le_trans (s_sum_le (b := 1) (fun j _ => ?_)) (by have := h.2.1.2; omega)
    split
    · exact Nat.le_refl _
    · exact Nat.zero_le _
  have b2 : s_sum np (fun q => if v_cov I' nk nr q = true then 1 else 0) ≤ 110 * nr + 6 * v_Wn I' nk := by
    rw [n_flat h]
    refine Nat.le_trans (n_le (fun r hr => n_rank h hr)) ?_
    have e : s_sum nr (fun r => 110 + 6 * v_wr1 I' nk r) = s_sum nr (fun _ => 110) + 6 * s_sum nr (fun r => v_wr1 I' nk r) := by rw [n_add, n_mul]
    have e2 := s_sum_le (n := nr) (b := 110) (f := fun _ => 110) (fun _ _ => Nat.le_refl _)
    have e3 := n_ranks (I := I') (nk := nk) h.2.1.1
    omega
  unfold v_Bd
  omega
