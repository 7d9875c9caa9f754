/-! 999991: what is found by the class -/
theorem v_S_mul {n : Nat} {a : Int32} {f : Nat → Int32} : v_S n (fun i => a * f i) = a * v_S n f := by
  induction n with
  | zero => exact (Int32.mul_zero).symm
  | succ n ih =>
    show v_S n (fun i => a * f i) + a * f n = a * (v_S n f + f n)
    rw [ih]; grind
theorem v_S_rmul {n : Nat} {a : Int32} {f : Nat → Int32} : v_S n (fun i => f i * a) = v_S n f * a := by
  rw [Int32.mul_comm (v_S n f), ← v_S_mul]
  exact v_S_congr (fun i _ => Int32.mul_comm _ _)
theorem v_S_cnt {n b : Nat} {f : Nat → Int32} (h : ∀ i, i < n → ∃ m, m ≤ b ∧ f i = nI m) : ∃ m, m ≤ n * b ∧ v_S n f = nI m := by
  induction n with
  | zero => exact ⟨0, by omega, rfl⟩
  | succ n ih =>
    obtain ⟨m, hm, e⟩ := ih (fun i hi => h i (by omega))
    obtain ⟨k, hk, e2⟩ := h n (by omega)
    exact ⟨m + k, by rw [Nat.succ_mul]; omega, by show v_S n f + f n = _; rw [e, e2, nI_add]⟩
/-- pipes in their flat order -/
theorem v_flatP {α : Type} {p : e_Sp} {I I' : e_I} {nr np : Nat} (h : v_Sh p I I' nr np) {gP : Nat → Nat → α → α} {G : Nat → α → α} {P : α → Prop} (hG : ∀ r n a, r < nr → n < p.2.2.1 T_PARR r → P a → gP r n a = G (p.2.2.2.2 r + n) a) (hP : ∀ q a, P a → P (G q a)) {a : α} (ha : P a) : s_run (fun r => s_run (gP r) 0 (p.2.2.1 T_PARR r)) 0 nr a = s_run G 0 np a := by
  rw [h.1.2.2]
  refine v_flat (P := P) h.1.1 h.1.2.1 (fun r a hr ha => ?_) hP ha
  refine v_congr (P := P) _ _ _ _ (fun j b hj hb => ?_) ha
  rw [Nat.zero_add, hG r j b hr hj hb]
  exact ⟨rfl, hP _ _ hb⟩
theorem v_fg {p : e_Sp} {I I' : e_I} {nr np : Nat} (h : v_Sh p I I' nr np) {q : Nat} (hq : q < np) : s_fg p nr I f_p_found q = 0 := by
  have e : s_fg p nr I = s_run (fun q I => s_up I f_p_found q 0) 0 np I := v_flatP (P := fun _ => True) h (gP := s_fgP p) (G := fun q I => s_up I f_p_found q 0) (fun _ _ _ _ _ _ => rfl) (fun _ _ _ => True.intro) True.intro
  rw [e, v_loc (T := [f_p_found]) (A := []) (m := np) (v := fun _ _ => 0) (fun q I => s_eqN.up (by decide)) (fun q I F i hF hi => s_up_i hi) (fun q I _ _ _ F hF => by
    have : F = f_p_found := by simpa using hF
    rw [this]; exact s_up_s) np (Nat.le_refl _) f_p_found q (by decide), if_pos hq]
/-- ways -/
def v_A (I : e_I) (c n : Nat) : Bool := s_wy I c && (decide (s_isk (I f_c_to c) (nI n + I f_c_shift c)) && s_tks I c (nI n) (I f_now 0))
def v_W (I : e_I) (nk i : Nat) : Int32 := v_S nk (fun c => v_S 61 (fun n => if v_A I c n = true ∧ s_kn (I f_c_to c) (nI n + I f_c_shift c) = i then 1 else 0))
theorem v_A.N {T : List Nat} {I I1 : e_I} (h : s_eqN T I I1) (hT : s_sub T [f_a_ways, f_p_found] = true) : v_A I1 = v_A I := by
  have h' : s_eqN [f_a_ways, f_p_found] I I1 := h.mono hT
  funext c n
  unfold v_A s_wy s_isco s_dr s_ro s_tks s_dn s_hi s_lo s_tk
  simp only [h' f_k_kind (by decide), h' f_k_isOut (by decide), h' f_k_relay (by decide), h' f_a_relaysOn (by decide), h' f_c_to (by decide), h' f_c_from (by decide), h' f_c_shift (by decide), h' f_c_kind (by decide), h' f_now (by decide), h' f_a_pressed (by decide), h' f_a_pressedAt (by decide), h' f_a_lowest (by decide), h' f_a_highest (by decide)]
theorem v_fwK {I I1 : e_I} (h : s_eqN [f_a_ways] I I1) {c n i : Nat} : s_fwK c n I1 f_a_ways i = I1 f_a_ways i + (if v_A I c n = true ∧ s_kn (I f_c_to c) (nI n + I f_c_shift c) = i then 1 else 0) := by
  rw [← congrFun (congrFun (v_A.N h (by decide)) c) n]
  unfold s_fwK
  have e : (s_wy I1 c = true ∧ s_isk (I1 f_c_to c) (nI n + I1 f_c_shift c) ∧ s_tks I1 c (nI n) (I1 f_now 0) = true) ↔ v_A I1 c n = true := by
    unfold v_A
    rw [Bool.and_eq_true, Bool.and_eq_true, decide_eq_true_iff]
  by_cases c1 : v_A I1 c n = true
  · rw [if_pos (e.mpr c1), h f_c_to (by decide), h f_c_shift (by decide)]
    by_cases c2 : s_kn (I f_c_to c) (nI n + I f_c_shift c) = i
    · rw [if_pos ⟨c1, c2⟩, c2, s_up_s]
    · rw [if_neg (fun z => c2 z.2), s_up_i (fun z => c2 z.symm), Int32.add_zero]
  · rw [if_neg (fun z => c1 (e.mp z)), if_neg (fun z => c1 z.1), Int32.add_zero]
theorem v_fwKN {c n : Nat} {I : e_I} : s_eqN [f_a_ways] I (s_fwK c n I) := by
  unfold s_fwK
  split
  · exact s_eqN.up (by decide)
  · exact s_eqN.rfl'
theorem v_fw {I : e_I} {nk i : Nat} (hi : i < 183) : s_fw nk I f_a_ways i = v_W I nk i := by
  have h0 : s_eqN [f_a_ways] I (s_fill I f_a_ways 183 0) := s_eqN.fill (by decide)
  have e := v_acc (f := s_fwN) (T := [f_a_ways]) (F := f_a_ways) (q := i) (m := nk) (I0 := I) (I := s_fill I f_a_ways 183 0) (g := fun c => v_S 61 (fun n => if v_A I c n = true ∧ s_kn (I f_c_to c) (nI n + I f_c_shift c) = i then 1 else 0)) (fun c I => s_eqN.run (fun n I => v_fwKN) _ _ _) (fun c I1 _ h => by
    refine v_acc (f := s_fwK c) (T := [f_a_ways]) (F := f_a_ways) (q := i) (m := 61) (I0 := I) (I := I1) (fun n I => v_fwKN) (fun n I2 _ h2 => ?_) h 61 (Nat.le_refl _)
    exact v_fwK h2) h0 nk (Nat.le_refl _)
  show s_run s_fwN 0 nk (s_fill I f_a_ways 183 0) f_a_ways i = _
  rw [e]
  show (if f_a_ways = f_a_ways ∧ i < 183 then (0 : Int32) else _) + _ = _
  rw [if_pos ⟨rfl, hi⟩, Int32.zero_add]
  rfl
theorem v_W_nn {I : e_I} {nk i : Nat} (hnk : nk ≤ 40) (h : ¬ 0 < v_W I nk i) : v_W I nk i = 0 := by
  obtain ⟨m, hm, e⟩ := v_S_cnt (n := nk) (b := 61) (f := fun c => v_S 61 (fun n => if v_A I c n = true ∧ s_kn (I f_c_to c) (nI n + I f_c_shift c) = i then 1 else 0)) (fun c _ => by
    obtain ⟨m, hm, e⟩ := v_S_cnt (n := 61) (b := 1) (f := fun n => if v_A I c n = true ∧ s_kn (I f_c_to c) (nI n + I f_c_shift c) = i then 1 else 0) (fun n _ => by
      show ∃ m, m ≤ 1 ∧ (if v_A I c n = true ∧ s_kn (I f_c_to c) (nI n + I f_c_shift c) = i then (1 : Int32) else 0) = nI m
      split
      · exact ⟨1, by omega, rfl⟩
      · exact ⟨0, by omega, rfl⟩)
    exact ⟨m, by omega, e⟩)
  have e' : v_W I nk i = nI m := e
  rw [e'] at h ⊢
  have : m = 0 := by
    apply Decidable.byContradiction
    intro z
    have hm2 : m ≤ 40 * 61 := Nat.le_trans hm (Nat.mul_le_mul_right 61 hnk)
    exact h (nI_lt (a := 0) (by omega) (by omega))
  rw [this]; rfl
/-- rows -/
def v_Rc (p : e_Sp) (I : e_I) (nr k key q : Nat) : Int32 := v_S (I f_s_rows k).toNatClampNeg (fun n => if s_pat p I nr (s_rk I k (nI n)) (s_nt I k (nI n) (nI key)) = some q then 1 else 0)
theorem v_pat.N {T : List Nat} {I I1 : e_I} (h : s_eqN T I I1) (hT : s_sub T [f_a_ways, f_p_found] = true) {p : e_Sp} {nr : Nat} : s_pat p I1 nr = s_pat p I nr ∧ s_rk I1 = s_rk I ∧ s_nt I1 = s_nt I := by
  have h' : s_eqN [f_a_ways, f_p_found] I I1 := h.mono hT
  refine ⟨?_, ?_, ?_⟩
  · funext x y; unfold s_pat s_pof; simp only [h' f_r_lowest (by decide)]
  · funext x y; unfold s_rk s_hr; simp only [h' f_s_rows (by decide), h' f_s_ranks (by decide)]
  · funext x y z; unfold s_nt s_pl s_hr; simp only [h' f_s_rows (by decide), h' f_s_offsets (by decide), h' f_s_firsts (by decide), h' f_s_lasts (by decide), h' f_s_places (by decide)]
theorem v_arK {p : e_Sp} {I I1 : e_I} {nr k key q : Nat} {ct : Int32} (h : s_eqN [f_p_found] I I1) : s_run (s_arR p nr k ct key) 0 (I1 f_s_rows k).toNatClampNeg I1 f_p_found q = I1 f_p_found q + ct * v_Rc p I nr k key q := by
  unfold v_Rc
  rw [← v_S_mul, h f_s_rows (by decide)]
  refine v_acc (T := [f_p_found]) (I0 := I) (m := (I f_s_rows k).toNatClampNeg) (fun n I => by
    unfold s_arR
    split
    · exact s_eqN.up (by decide)
    · exact s_eqN.rfl') (fun n I2 _ h2 => ?_) h _ (Nat.le_refl _)
  unfold s_arR
  obtain ⟨e1, e2, e3⟩ := v_pat.N h2 (by decide) (p := p) (nr := nr)
  rw [e1, e2, e3]
  generalize s_pat p I nr (s_rk I k (nI n)) (s_nt I k (nI n) (nI key)) = o
  cases o with
  | none => rw [if_neg (by simp)]; grind
  | some j =>
    show s_up I2 f_p_found j (I2 f_p_found j + ct) f_p_found q = _
    by_cases c : j = q
    · rw [c, if_pos rfl, s_up_s]; grind
    · rw [if_neg (fun z => c (Option.some.inj z)), s_up_i (fun z => c z.symm)]; grind
theorem v_arRN {p : e_Sp} {nr k key m : Nat} {ct : Int32} {I : e_I} : s_eqN [f_p_found] I (s_run (s_arR p nr k ct key) 0 m I) := s_eqN.run (fun n I => by
  unfold s_arR
  split
  · exact s_eqN.up (by decide)
  · exact s_eqN.rfl') _ _ _
theorem v_arC.N {I I1 : e_I} (h : s_eqN [f_p_found] I I1) : s_arC I1 = s_arC I := by
  funext x y; unfold s_arC; simp only [h f_a_ways (by decide)]
theorem v_arS {p : e_Sp} {I I1 : e_I} {nr k q : Nat} {x : Int32} (h : s_eqN [f_p_found] I I1) (h0 : ∀ key, ¬ 0 < s_arC I x key → s_arC I x key = 0) : s_arS p nr k x I1 f_p_found q = I1 f_p_found q + v_S (s_kcn x) (fun key => s_arC I x key * v_Rc p I nr k key q) := by
  refine v_acc (T := [f_p_found]) (I0 := I) (m := s_kcn x) (fun n I => by
    unfold s_arK
    split
    · exact v_arRN
    · exact s_eqN.rfl') (fun key I2 _ h2 => ?_) h _ (Nat.le_refl _)
  unfold s_arK
  rw [v_arC.N h2]
  by_cases c : 0 < s_arC I x key
  · rw [if_pos c]; exact v_arK h2
  · rw [if_neg c, h0 key c, Int32.zero_mul, Int32.add_zero]
theorem v_soN {T : List Nat} {I I1 : e_I} (h : s_eqN T I I1) (hT : s_sub T [f_a_ways, f_p_found] = true) : s_so I1 = s_so I := by
  have h' : s_eqN [f_a_ways, f_p_found] I I1 := h.mono hT
  funext k
  unfold s_so s_dr s_ro
  simp only [h' f_k_kind (by decide), h' f_k_isOut (by decide), h' f_k_relay (by decide), h' f_a_relaysOn (by decide), h' f_isTutti (by decide), h' f_s_stage (by decide), h' f_crescendo (by decide)]
theorem v_fs {p : e_Sp} {I : e_I} {nk nr q : Nat} (h0 : ∀ x key, ¬ 0 < s_arC I x key → s_arC I x key = 0) : s_fs p nk nr I f_p_found q = I f_p_found q + v_S nk (fun k => if s_so I k = true then v_S (s_kcn (I f_k_division k)) (fun key => s_arC I (I f_k_division k) key * v_Rc p I nr k key q) else 0) := by
  refine v_acc (T := [f_p_found]) (I0 := I) (m := nk) (fun n I => by
    unfold s_frK
    split
    · exact s_eqN.arS
    · exact s_eqN.rfl') (fun k I2 _ h2 => ?_) s_eqN.rfl' _ (Nat.le_refl _)
  unfold s_frK
  rw [v_soN h2 (by decide), h2 f_k_division (by decide)]
  by_cases c : s_so I k = true
  · rw [if_pos c, if_pos c]; exact v_arS h2 (h0 _)
  · rw [if_neg c, if_neg c, Int32.add_zero]
