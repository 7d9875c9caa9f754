/-! 99999999998: chords in numbers -/
def v_sc (j : Bool) (i : Nat) : Nat := if i = 0 then 0 else if i = 1 then 2 else if i = 2 then (if j = true then 4 else 3) else if i = 3 then 5 else if i = 4 then 7 else if i = 5 then (if j = true then 9 else 8) else (if j = true then 11 else 10)
def v_fgr (g n : Nat) : Nat := if n = 0 then (if g = 4 then 2 else 0) else if n = 1 then (if g = 3 then 3 else if g = 4 then 4 else 2) else (if g = 1 then 4 else if g = 4 then 6 else 5)
/-- the rows of the scale and of figures -/
def v_X (X : e_XT) : Prop := (∀ g, 1 ≤ g → g ≤ 4 → (X g).1 = 3 ∧ ∀ n, n < 3 → (X g).2 n = nI (v_fgr g n)) ∧ (X 5).1 = 0 ∧ ((X 6).1 = 7 ∧ (X 7).1 = 7) ∧ ∀ i, i < 7 → (X 6).2 i = nI (v_sc true i) ∧ (X 7).2 i = nI (v_sc false i)
theorem v_sc_lt : ∀ j i, v_sc j i < 12 := by
  intro j i
  unfold v_sc
  cases j <;> (repeat' split) <;> first | decide | omega
theorem v_sc_inj {j : Bool} {i k : Nat} (hi : i < 7) (hk : k < 7) (h : v_sc j i = v_sc j k) : i = k := by
  have key : ∀ j, ∀ i, i < 7 → ∀ k, k < 7 → v_sc j i = v_sc j k → i = k := by decide
  exact key j i hi k hk h
theorem v_r12 {m : Nat} (hm : m < 2147483648) : s_r12 (nI m) = nI (m % 12) := by
  unfold s_r12
  rw [show (12 : Int32) = nI 12 from by decide, v_ndiv hm (by decide), v_nmul, nI_sub (by omega)]
  congr 1; omega
theorem v_r7 {m : Nat} (hm : m < 2147483648) : s_r7 (nI m) = nI (m % 7) := by
  unfold s_r7
  rw [v_ndiv hm (by decide), v_nmul, nI_sub (by omega)]
  congr 1; omega
/-- the degree of a key; 7 if none -/
def v_dg (j : Bool) (x k : Nat) : Nat → Nat → Nat
  | 0, i => i
  | n + 1, i => if (x + v_sc j i) % 12 = k % 12 then i else v_dg j x k n (i + 1)
theorem v_dg_s {j : Bool} {x k : Nat} : ∀ n i, i + n = 7 → (v_dg j x k n i < 7 → (x + v_sc j (v_dg j x k n i)) % 12 = k % 12) ∧ v_dg j x k n i ≤ 7 := by
  intro n
  induction n with
  | zero => intro i h; exact ⟨fun z => absurd z (by show ¬ i < 7; omega), by show i ≤ 7; omega⟩
  | succ n ih =>
    intro i h
    unfold v_dg
    by_cases c : (x + v_sc j i) % 12 = k % 12
    · rw [if_pos c]; exact ⟨fun _ => c, by omega⟩
    · rw [if_neg c]; exact ih (i + 1) (by omega)
theorem v_dg_u {j : Bool} {x k d : Nat} (hd : d < 7) (h : (x + v_sc j d) % 12 = k % 12) : v_dg j x k 7 0 = d := by
  have key : ∀ n i, i + n = 7 → i ≤ d → v_dg j x k n i = d := by
    intro n
    induction n with
    | zero => intro i h1 h2; omega
    | succ n ih =>
      intro i h1 h2
      unfold v_dg
      by_cases c : (x + v_sc j i) % 12 = k % 12
      · rw [if_pos c]
        have a := v_sc_lt j i
        have b := v_sc_lt j d
        exact v_sc_inj (j := j) (by omega) hd (by omega)
      · rw [if_neg c]
        refine ih (i + 1) (by omega) ?_
        rcases Nat.lt_or_ge i d with z | z
        · omega
        · have : i = d := by omega
          rw [this] at c
          exact absurd h c
  exact key 7 0 rfl (Nat.zero_le _)
def v_mj (I : e_I) (F : Nat) : Bool := decide (¬ I F 0 = 0)
/-- the second implementation's classes -/
theorem v_cla {I : e_I} {x s : Nat} (hx : x < 12) (ht : I f_m_tonic 0 = nI x) (hs : s < 1000) : q_cla I (nI s) = nI ((x + v_sc (v_mj I f_m_isMajor) (s % 7)) % 12) := by
  have e1 : nI s - nI s / 7 * 7 = nI (s % 7) := v_r7 (m := s) (by omega)
  have e2 : ∀ u, u < 7 → q_cs2 I (nI u) = nI (v_sc (v_mj I f_m_isMajor) u) := by
    intro u hu
    unfold q_cs2 v_mj
    by_cases c : I f_m_isMajor 0 = 0
    · rw [c]
      rcases (by omega : u = 0 ∨ u = 1 ∨ u = 2 ∨ u = 3 ∨ u = 4 ∨ u = 5 ∨ u = 6) with z | z | z | z | z | z | z <;> rw [z] <;> decide
    · rw [if_neg (fun z => c z.1), decide_eq_true c]
      rcases (by omega : u = 0 ∨ u = 1 ∨ u = 2 ∨ u = 3 ∨ u = 4 ∨ u = 5 ∨ u = 6) with z | z | z | z | z | z | z <;> rw [z] <;> decide
  unfold q_cla
  have := v_sc_lt (v_mj I f_m_isMajor) (s % 7)
  rw [e1, e2 _ (Nat.mod_lt _ (by omega)), ht, nI_add, v_r12 (by omega)]
theorem v_36 (k : Nat) : (36 : Int32) + nI k = nI (36 + k) := by
  rw [show (36 : Int32) = nI 36 from by decide, nI_add]
theorem v_s7 {I : e_I} {x k : Nat} (hx : x < 12) (ht : I f_m_tonic 0 = nI x) (hk : k < 1000) : ∀ n i, i + n = 7 → q_s7 I (nI k) n i = v_dg (v_mj I f_m_isMajor) x k n i := by
  intro n
  induction n with
  | zero => intro i _; rfl
  | succ n ih =>
    intro i hi
    unfold q_s7 v_dg
    rw [v_cla hx ht (by omega), v_36, v_r12 (by omega), Nat.mod_eq_of_lt (show i < 7 by omega), ih (i + 1) (by omega)]
    by_cases c : (x + v_sc (v_mj I f_m_isMajor) i) % 12 = k % 12
    · rw [if_pos c, if_pos (by rw [c]; congr 1; omega)]
    · rw [if_neg c, if_neg (fun z => c (by have := (nI_eq (by omega) (by omega)).mp z; omega))]
/-- the class' degrees -/
theorem v_deg {X : e_XT} {I : e_I} {x k : Nat} (hX : v_X X) (hx : x < 12) (ht : I f_tonic 0 = nI x) (hk : k < 1000) : s_deg X I (nI k) = if v_dg (v_mj I f_isMajor) x k 7 0 < 7 then nI (v_dg (v_mj I f_isMajor) x k 7 0) else -1 := by
  obtain ⟨-, -, ⟨h6, h7⟩, h8⟩ := hX
  have key : ∀ g j, (∀ i, i < 7 → (X g).2 i = nI (v_sc j i)) → ∀ n i, i + n = 7 → s_dgf X I g (nI k) n i = if v_dg j x k n i < 7 then nI (v_dg j x k n i) else -1 := by
    intro g j hg n
    induction n with
    | zero =>
      intro i hi
      show (-1 : Int32) = if i < 7 then nI i else -1
      rw [if_neg (by omega)]
    | succ n ih =>
      intro i hi
      unfold s_dgf v_dg
      have := v_sc_lt j i
      rw [hg i (by omega), ht, nI_add, v_r12 (by omega), v_r12 (by omega), ih (i + 1) (by omega)]
      by_cases c : (x + v_sc j i) % 12 = k % 12
      · rw [if_pos (by rw [c]), if_pos c, if_pos (by omega)]
      · rw [if_neg (fun z => c ((nI_eq (by omega) (by omega)).mp z)), if_neg c]
  unfold s_deg v_mj
  by_cases c : I f_isMajor 0 = 0
  · rw [if_pos c, h7, decide_eq_false (fun z => z c)]
    exact key 7 false (fun i hi => (h8 i hi).2) 7 0 rfl
  · rw [if_neg c, h6, decide_eq_true c]
    exact key 6 true (fun i hi => (h8 i hi).1) 7 0 rfl
/-- what a figure asks for -/
def v_pcl (j : Bool) (x st g n : Nat) : Nat := (x + v_sc j ((st + v_fgr g n) % 7)) % 12
theorem v_fgr_lt : ∀ g n, v_fgr g n < 7 := by
  intro g n
  unfold v_fgr
  (repeat' split) <;> omega
theorem v_pcl_ne {j : Bool} {x st g : Nat} (hg : 1 ≤ g ∧ g ≤ 4) : ¬ v_pcl j x st g 0 = v_pcl j x st g 1 ∧ ¬ v_pcl j x st g 1 = v_pcl j x st g 2 ∧ ¬ v_pcl j x st g 0 = v_pcl j x st g 2 := by
  have key : ∀ u v, v_pcl j x st g u = v_pcl j x st g v → (st + v_fgr g u) % 7 = (st + v_fgr g v) % 7 := by
    intro u v h
    unfold v_pcl at h
    have a := v_sc_lt j ((st + v_fgr g u) % 7)
    have b := v_sc_lt j ((st + v_fgr g v) % 7)
    exact v_sc_inj (j := j) (Nat.mod_lt _ (by omega)) (Nat.mod_lt _ (by omega)) (by omega)
  have f : ∀ g, g ≤ 4 → 1 ≤ g → v_fgr g 0 < v_fgr g 1 ∧ v_fgr g 1 < v_fgr g 2 ∧ v_fgr g 2 < 7 := by decide
  obtain ⟨f1, f2, f3⟩ := f g hg.2 hg.1
  refine ⟨fun z => ?_, fun z => ?_, fun z => ?_⟩
  · have := key _ _ z; omega
  · have := key _ _ z; omega
  · have := key _ _ z; omega
theorem v_ask {X : e_XT} {I : e_I} {x k st g : Nat} (hX : v_X X) (hx : x < 12) (ht : I f_tonic 0 = nI x) (hk : k < 1000) (hst : st < 7) (hg : 1 ≤ g ∧ g ≤ 4) : s_ask X I (nI st) g (nI k) = true ↔ k % 12 = v_pcl (v_mj I f_isMajor) x st g 0 ∨ k % 12 = v_pcl (v_mj I f_isMajor) x st g 1 ∨ k % 12 = v_pcl (v_mj I f_isMajor) x st g 2 := by
  have hd := v_deg hX hx ht hk
  obtain ⟨g3, gv⟩ := hX.1 g hg.1 hg.2
  have e3 : (k % 12 = v_pcl (v_mj I f_isMajor) x st g 0 ∨ k % 12 = v_pcl (v_mj I f_isMajor) x st g 1 ∨ k % 12 = v_pcl (v_mj I f_isMajor) x st g 2) ↔ ∃ n, n < 3 ∧ k % 12 = v_pcl (v_mj I f_isMajor) x st g n := by
    constructor
    · rintro (z | z | z)
      · exact ⟨0, by omega, z⟩
      · exact ⟨1, by omega, z⟩
      · exact ⟨2, by omega, z⟩
    · rintro ⟨n, hn, z⟩
      rcases (by omega : n = 0 ∨ n = 1 ∨ n = 2) with e | e | e <;> rw [e] at z
      · exact .inl z
      · exact .inr (.inl z)
      · exact .inr (.inr z)
  rw [e3]
  unfold s_ask
  obtain ⟨s1, s2⟩ := v_dg_s (j := v_mj I f_isMajor) (x := x) (k := k) 7 0 rfl
  have hu : ∀ d, d < 7 → (x + v_sc (v_mj I f_isMajor) d) % 12 = k % 12 → v_dg (v_mj I f_isMajor) x k 7 0 = d := fun d => v_dg_u
  generalize v_dg (v_mj I f_isMajor) x k 7 0 = D at *
  rw [hd, g3, Bool.and_eq_true, s_ex_iff]
  by_cases c : D < 7
  · rw [if_pos c]
    constructor
    · rintro ⟨_, n, hn, h⟩
      refine ⟨n, hn, ?_⟩
      unfold s_askP at h
      have hf := v_fgr_lt g n
      rw [decide_eq_true_iff, gv n hn, nI_add, v_r7 (by omega)] at h
      have h' := (nI_eq (by omega) (by omega)).mp h
      unfold v_pcl
      rw [h', s1 c]
    · rintro ⟨n, hn, h⟩
      refine ⟨by rw [decide_eq_false (nI_pos (by omega))]; rfl, n, hn, ?_⟩
      unfold s_askP
      have hf := v_fgr_lt g n
      rw [decide_eq_true_iff, gv n hn, nI_add, v_r7 (by omega), hu _ (Nat.mod_lt _ (by omega)) h.symm]
  · rw [if_neg c]
    constructor
    · rintro ⟨h, _⟩
      exact absurd h (by decide)
    · rintro ⟨n, hn, h⟩
      exact absurd (hu _ (Nat.mod_lt _ (by omega)) h.symm) (by have := Nat.mod_lt (st + v_fgr g n) (show 0 < 7 by omega); omega)
/-- figures as chars -/
theorem v_fig {X : e_XT} (hX : v_X X) (ch : Int32) : (nI (X (s_fig ch)).1 = 0 ↔ ¬ (ch = 53 ∨ ch = 54 ∨ ch = 52 ∨ ch = 55)) ∧ ((ch = 53 ∨ ch = 54 ∨ ch = 52 ∨ ch = 55) → 1 ≤ s_fig ch ∧ s_fig ch ≤ 4) := by
  have h5 := hX.2.1
  have h14 : ∀ g, 1 ≤ g → g ≤ 4 → ¬ nI (X g).1 = 0 := fun g a b => by rw [(hX.1 g a b).1]; decide
  unfold s_fig
  by_cases c1 : ch = 53
  · rw [if_pos c1]; exact ⟨⟨fun z => absurd z (h14 1 (by omega) (by omega)), fun z => absurd (.inl c1) z⟩, fun _ => by omega⟩
  · rw [if_neg c1]
    by_cases c2 : ch = 54
    · rw [if_pos c2]; exact ⟨⟨fun z => absurd z (h14 2 (by omega) (by omega)), fun z => absurd (.inr (.inl c2)) z⟩, fun _ => by omega⟩
    · rw [if_neg c2]
      by_cases c3 : ch = 52
      · rw [if_pos c3]; exact ⟨⟨fun z => absurd z (h14 3 (by omega) (by omega)), fun z => absurd (.inr (.inr (.inl c3))) z⟩, fun _ => by omega⟩
      · rw [if_neg c3]
        by_cases c4 : ch = 55
        · rw [if_pos c4]; exact ⟨⟨fun z => absurd z (h14 4 (by omega) (by omega)), fun z => absurd (.inr (.inr (.inr c4))) z⟩, fun _ => by omega⟩
        · rw [if_neg c4, h5]
          exact ⟨⟨fun _ z => by rcases z with z | z | z | z <;> contradiction, fun _ => rfl⟩, fun z => by rcases z with z | z | z | z <;> contradiction⟩
/-- the second implementation's test -/
theorem v_ac {I : e_I} {x a b c st : Nat} {ch : Int32} (hx : x < 12) (ht : I f_m_tonic 0 = nI x) (ha : a < 100) (hb : b < 100) (hc : c < 100) (hst : st < 7) (hch : ch = 53 ∨ ch = 54 ∨ ch = 52 ∨ ch = 55) : q_ac I (nI a) (nI b) (nI c) (nI st) ch = true ↔ ∀ n, n < 3 → (a % 12 = v_pcl (v_mj I f_m_isMajor) x st (s_fig ch) n ∨ b % 12 = v_pcl (v_mj I f_m_isMajor) x st (s_fig ch) n ∨ c % 12 = v_pcl (v_mj I f_m_isMajor) x st (s_fig ch) n) := by
  have key : ∀ (s n : Nat) (u : Bool), s < 7 → q_stp ch (nI n) = nI s → (q_acS I (nI a) (nI b) (nI c) (nI st) ch n u = true ↔ u = true ∧ (a % 12 = (x + v_sc (v_mj I f_m_isMajor) ((st + s) % 7)) % 12 ∨ b % 12 = (x + v_sc (v_mj I f_m_isMajor) ((st + s) % 7)) % 12 ∨ c % 12 = (x + v_sc (v_mj I f_m_isMajor) ((st + s) % 7)) % 12)) := by
    intro s n u hs e
    unfold q_acS
    have hm : ∀ y, y < 100 → (s_r12 (36 + nI y) = nI ((x + v_sc (v_mj I f_m_isMajor) ((st + s) % 7)) % 12) ↔ y % 12 = (x + v_sc (v_mj I f_m_isMajor) ((st + s) % 7)) % 12) := by
      intro y hy
      rw [v_36, v_r12 (by omega), nI_eq (by omega) (by omega)]
      constructor <;> intro z <;> omega
    rw [e, nI_add, v_cla hx ht (by omega), Bool.and_eq_true, Bool.or_eq_true, Bool.or_eq_true, decide_eq_true_iff, decide_eq_true_iff, decide_eq_true_iff, hm a ha, hm b hb, hm c hc]
  have run : ∀ s0 s1 s2, s0 < 7 → s1 < 7 → s2 < 7 → q_stp ch (nI 0) = nI s0 → q_stp ch (nI 1) = nI s1 → q_stp ch (nI 2) = nI s2 → (q_ac I (nI a) (nI b) (nI c) (nI st) ch = true ↔ ∀ s, (s = s0 ∨ s = s1 ∨ s = s2) → (a % 12 = (x + v_sc (v_mj I f_m_isMajor) ((st + s) % 7)) % 12 ∨ b % 12 = (x + v_sc (v_mj I f_m_isMajor) ((st + s) % 7)) % 12 ∨ c % 12 = (x + v_sc (v_mj I f_m_isMajor) ((st + s) % 7)) % 12)) := by
    intro s0 s1 s2 h0 h1 h2 e0 e1 e2
    show q_acS I (nI a) (nI b) (nI c) (nI st) ch 2 (q_acS I (nI a) (nI b) (nI c) (nI st) ch 1 (q_acS I (nI a) (nI b) (nI c) (nI st) ch 0 true)) = true ↔ _
    rw [key s2 2 _ h2 e2, key s1 1 _ h1 e1, key s0 0 _ h0 e0]
    constructor
    · rintro ⟨⟨⟨_, z0⟩, z1⟩, z2⟩ s (rfl | rfl | rfl) <;> assumption
    · intro z
      exact ⟨⟨⟨rfl, z _ (.inl rfl)⟩, z _ (.inr (.inl rfl))⟩, z _ (.inr (.inr rfl))⟩
  have fin : ∀ g s0 s1 s2, s_fig ch = g → s0 < 7 → s1 < 7 → s2 < 7 → q_stp ch (nI 0) = nI s0 → q_stp ch (nI 1) = nI s1 → q_stp ch (nI 2) = nI s2 → (∀ s, (s = s0 ∨ s = s1 ∨ s = s2) ↔ (s = v_fgr g 0 ∨ s = v_fgr g 1 ∨ s = v_fgr g 2)) → (q_ac I (nI a) (nI b) (nI c) (nI st) ch = true ↔ ∀ n, n < 3 → (a % 12 = v_pcl (v_mj I f_m_isMajor) x st (s_fig ch) n ∨ b % 12 = v_pcl (v_mj I f_m_isMajor) x st (s_fig ch) n ∨ c % 12 = v_pcl (v_mj I f_m_isMajor) x st (s_fig ch) n)) := by
    intro g s0 s1 s2 eg h0 h1 h2 e0 e1 e2 hs
    rw [run s0 s1 s2 h0 h1 h2 e0 e1 e2, eg]
    constructor
    · intro z n hn
      refine z (v_fgr g n) ((hs _).mpr ?_)
      rcases (by omega : n = 0 ∨ n = 1 ∨ n = 2) with e | e | e <;> rw [e]
      · exact .inl rfl
      · exact .inr (.inl rfl)
      · exact .inr (.inr rfl)
    · intro z s h
      rcases (hs s).mp h with e | e | e <;> rw [e]
      · exact z 0 (by omega)
      · exact z 1 (by omega)
      · exact z 2 (by omega)
  rcases hch with e | e | e | e <;> subst e
  · exact fin 1 2 4 0 (by decide) (by omega) (by omega) (by omega) (by decide) (by decide) (by decide) (fun s => by show _ ↔ (s = 0 ∨ s = 2 ∨ s = 4); omega)
  · exact fin 2 2 5 0 (by decide) (by omega) (by omega) (by omega) (by decide) (by decide) (by decide) (fun s => by show _ ↔ (s = 0 ∨ s = 2 ∨ s = 5); omega)
  · exact fin 3 3 5 0 (by decide) (by omega) (by omega) (by omega) (by decide) (by decide) (by decide) (fun s => by show _ ↔ (s = 0 ∨ s = 3 ∨ s = 5); omega)
  · exact fin 4 2 4 6 (by decide) (by omega) (by omega) (by omega) (by decide) (by decide) (by decide) (fun s => by show _ ↔ (s = 2 ∨ s = 4 ∨ s = 6); omega)
theorem v_apt {a b c : Nat} (h1 : a < b) (h2 : b < c) (hc : c < 100) : s_apt (nI a) (nI b) (nI c) = true ↔ ¬ a % 12 = b % 12 ∧ ¬ b % 12 = c % 12 ∧ ¬ a % 12 = c % 12 := by
  have z0 : ∀ m, m < 100 → (s_r12 (nI m) = 0 ↔ m % 12 = 0) := by
    intro m hm
    rw [v_r12 (by omega), show (0 : Int32) = nI 0 from rfl, nI_eq (by omega) (by omega)]
  unfold s_apt
  rw [nI_sub (by omega), nI_sub (by omega), nI_sub (by omega), Bool.and_eq_true, Bool.and_eq_true, Bool.not_eq_true', Bool.not_eq_true', Bool.not_eq_true', decide_eq_false_iff_not, decide_eq_false_iff_not, decide_eq_false_iff_not, z0 _ (by omega), z0 _ (by omega), z0 _ (by omega)]
  constructor
  · rintro ⟨z1, z2, z3⟩; exact ⟨by omega, by omega, by omega⟩
  · rintro ⟨z1, z2, z3⟩; exact ⟨by omega, by omega, by omega⟩
/-- three of three -/
theorem v_33 {A B C p0 p1 p2 : Nat} (h1 : ¬ p0 = p1) (h2 : ¬ p1 = p2) (h3 : ¬ p0 = p2) : ((A = p0 ∨ A = p1 ∨ A = p2) ∧ (B = p0 ∨ B = p1 ∨ B = p2) ∧ (C = p0 ∨ C = p1 ∨ C = p2) ∧ ¬ A = B ∧ ¬ B = C ∧ ¬ A = C) ↔ ((A = p0 ∨ B = p0 ∨ C = p0) ∧ (A = p1 ∨ B = p1 ∨ C = p1) ∧ (A = p2 ∨ B = p2 ∨ C = p2)) := by
  omega
/-- there is a chord -/
theorem v_ex3 {p0 p1 p2 : Nat} (h0 : p0 < 12) (h1 : p1 < 12) (h2 : p2 < 12) (d1 : ¬ p0 = p1) (d2 : ¬ p1 = p2) (d3 : ¬ p0 = p2) : ∃ u v w, u < v ∧ v < w ∧ w < 12 ∧ (u = p0 ∨ v = p0 ∨ w = p0) ∧ (u = p1 ∨ v = p1 ∨ w = p1) ∧ (u = p2 ∨ v = p2 ∨ w = p2) := by
  rcases Nat.lt_or_ge p0 p1 with a | a <;> rcases Nat.lt_or_ge p1 p2 with b | b <;> rcases Nat.lt_or_ge p0 p2 with c | c
  · exact ⟨p0, p1, p2, by omega, by omega, by omega, by omega, by omega, by omega⟩
  · omega
  · exact ⟨p0, p2, p1, by omega, by omega, by omega, by omega, by omega, by omega⟩
  · exact ⟨p2, p0, p1, by omega, by omega, by omega, by omega, by omega, by omega⟩
  · exact ⟨p1, p0, p2, by omega, by omega, by omega, by omega, by omega, by omega⟩
  · exact ⟨p1, p2, p0, by omega, by omega, by omega, by omega, by omega, by omega⟩
  · omega
  · exact ⟨p2, p1, p0, by omega, by omega, by omega, by omega, by omega, by omega⟩
