/-! 99997: sums, runs -/
def v_S : Nat → (Nat → Int32) → Int32
  | 0, _ => 0
  | n + 1, f => v_S n f + f n
theorem v_S_congr {n : Nat} {f g : Nat → Int32} (h : ∀ i, i < n → f i = g i) : v_S n f = v_S n g := by
  induction n with
  | zero => rfl
  | succ n ih =>
    show v_S n f + f n = v_S n g + g n
    rw [ih (fun i hi => h i (by omega)), h n (by omega)]
theorem v_S_z {n : Nat} {f : Nat → Int32} (h : ∀ i, i < n → f i = 0) : v_S n f = 0 := by
  induction n with
  | zero => rfl
  | succ n ih =>
    show v_S n f + f n = 0
    rw [ih (fun i hi => h i (by omega)), h n (by omega)]; rfl
theorem v_S_add {n : Nat} {f g : Nat → Int32} : v_S n (fun i => f i + g i) = v_S n f + v_S n g := by
  induction n with
  | zero => rfl
  | succ n ih =>
    show v_S n (fun i => f i + g i) + (f n + g n) = (v_S n f + f n) + (v_S n g + g n)
    rw [ih]; grind
theorem v_S_comm {n m : Nat} {f : Nat → Nat → Int32} : v_S n (fun i => v_S m (fun j => f i j)) = v_S m (fun j => v_S n (fun i => f i j)) := by
  induction n with
  | zero => exact (v_S_z (fun _ _ => rfl)).symm
  | succ n ih =>
    show v_S n (fun i => v_S m (fun j => f i j)) + v_S m (fun j => f n j) = v_S m (fun j => v_S n (fun i => f i j) + f n j)
    rw [ih, v_S_add]
theorem v_S_one {n k : Nat} {f : Nat → Int32} (hk : k < n) (h : ∀ i, i < n → i ≠ k → f i = 0) : v_S n f = f k := by
  induction n with
  | zero => omega
  | succ n ih =>
    show v_S n f + f n = f k
    by_cases e : k = n
    · subst e
      rw [v_S_z (fun i hi => h i (by omega) (by omega))]
      exact Int32.zero_add _
    · rw [ih (by omega) (fun i hi => h i (by omega)), h n (by omega) (fun z => e z.symm)]
      exact Int32.add_zero _
theorem v_S_app {n m : Nat} {f : Nat → Int32} : v_S (n + m) f = v_S n f + v_S m (fun j => f (n + j)) := by
  induction m with
  | zero => exact (Int32.add_zero _).symm
  | succ m ih =>
    show v_S (n + m) f + f (n + m) = v_S n f + (v_S m (fun j => f (n + j)) + f (n + m))
    rw [ih, Int32.add_assoc]
theorem v_S_if {n : Nat} {c : Prop} [Decidable c] {f : Nat → Int32} : v_S n (fun i => if c then f i else 0) = if c then v_S n f else 0 := by
  by_cases h : c
  · rw [if_pos h]; exact v_S_congr (fun i _ => if_pos h)
  · rw [if_neg h]; exact v_S_z (fun i _ => if_neg h)
/-- terms behind m are nothing -/
theorem v_S_le {n m : Nat} {f : Nat → Int32} (h : m ≤ n) (h0 : ∀ i, m ≤ i → i < n → f i = 0) : v_S n f = v_S m f := by
  obtain ⟨k, rfl⟩ : ∃ k, n = m + k := ⟨n - m, by omega⟩
  rw [v_S_app, v_S_z (fun j hj => h0 (m + j) (by omega) (by omega))]
  exact Int32.add_zero _
/-! runs -/
section v_rn
variable {α : Type}
theorem v_app {f : Nat → α → α} : ∀ (n m i : Nat) (a : α), s_run f i (n + m) a = s_run f (i + n) m (s_run f i n a) := by
  intro n
  induction n with
  | zero => intro m i a; rw [Nat.zero_add]; rfl
  | succ n ih =>
    intro m i a
    rw [show n + 1 + m = (n + m) + 1 by omega]
    show s_run f (i + 1) (n + m) (f i a) = s_run f (i + (n + 1)) m (s_run f (i + 1) n (f i a))
    rw [ih, show i + 1 + n = i + (n + 1) by omega]
theorem v_congr {f g : Nat → α → α} {P : α → Prop} : ∀ (n i k : Nat) (a : α), (∀ j a, j < n → P a → f (i + j) a = g (k + j) a ∧ P (g (k + j) a)) → P a → s_run f i n a = s_run g k n a := by
  intro n
  induction n with
  | zero => intro i k a _ _; rfl
  | succ n ih =>
    intro i k a h hp
    show s_run f (i + 1) n (f i a) = s_run g (k + 1) n (g k a)
    have h0 := h 0 a (by omega) hp
    rw [Nat.add_zero, Nat.add_zero] at h0
    rw [h0.1]
    refine ih (i + 1) (k + 1) (g k a) (fun j b hj hb => ?_) h0.2
    have h1 := h (j + 1) b (by omega) hb
    rw [show i + (j + 1) = i + 1 + j by omega, show k + (j + 1) = k + 1 + j by omega] at h1
    exact h1
theorem v_keep {f : Nat → α → α} {P : α → Prop} : ∀ (n i : Nat) (a : α), (∀ j a, j < n → P a → P (f (i + j) a)) → P a → P (s_run f i n a) := by
  intro n
  induction n with
  | zero => intro i a _ h; exact h
  | succ n ih =>
    intro i a h hp
    have h0 := h 0 a (by omega) hp
    rw [Nat.add_zero] at h0
    refine ih (i + 1) (f i a) (fun j b hj hb => ?_) h0
    have h1 := h (j + 1) b (by omega) hb
    rw [show i + (j + 1) = i + 1 + j by omega] at h1
    exact h1
/-- rank by rank, pipe by pipe, is pipe by pipe -/
theorem v_flat {bs ls : Nat → Nat} {G : Nat → α → α} {g : Nat → α → α} {nr : Nat} {P : α → Prop} (hb0 : bs 0 = 0) (hb : ∀ r, r + 1 < nr → bs (r + 1) = bs r + ls r) (hg : ∀ r a, r < nr → P a → g r a = s_run G (bs r) (ls r) a) (hP : ∀ q a, P a → P (G q a)) {a : α} (ha : P a) : s_run g 0 nr a = s_run G 0 (if nr = 0 then 0 else bs (nr - 1) + ls (nr - 1)) a := by
  have key : ∀ m, m ≤ nr → s_run g 0 m a = s_run G 0 (if m = 0 then 0 else bs (m - 1) + ls (m - 1)) a := by
    intro m
    induction m with
    | zero => intro _; rfl
    | succ m ih =>
      intro hm
      rw [s_run_l, Nat.zero_add, ih (by omega), if_neg (show ¬ m + 1 = 0 by omega), Nat.add_sub_cancel]
      have e : (if m = 0 then 0 else bs (m - 1) + ls (m - 1)) = bs m := by
        by_cases z : m = 0
        · rw [if_pos z, z, hb0]
        · rw [if_neg z]
          have := hb (m - 1) (by omega)
          rw [show m - 1 + 1 = m by omega] at this
          exact this.symm
      rw [e, hg m _ (by omega) (v_keep _ _ _ (fun j b _ hb => hP _ _ hb) ha), v_app, Nat.zero_add]
  exact key nr (Nat.le_refl _)
end v_rn
/-- a sum in a field -/
theorem v_acc {f : Nat → e_I → e_I} {T : List Nat} {F q m : Nat} {g : Nat → Int32} {I0 I : e_I} (hfr : ∀ i I, s_eqN T I (f i I)) (hf : ∀ i I, i < m → s_eqN T I0 I → f i I F q = I F q + g i) (hI : s_eqN T I0 I) : ∀ n, n ≤ m → s_run f 0 n I F q = I F q + v_S n g := by
  intro n
  induction n with
  | zero => intro _; exact (Int32.add_zero _).symm
  | succ n ih =>
    intro hn
    rw [s_run_l, Nat.zero_add, hf n _ (by omega) (hI.trans (s_eqN.run hfr _ _ _)), ih (by omega), Int32.add_assoc]
    rfl
/-- each step changes its own place alone, but for sums and the like -/
theorem v_loc {f : Nat → e_I → e_I} {T A : List Nat} {m : Nat} {v : Nat → Nat → Int32} {I0 : e_I} (h0 : ∀ q I, s_eqN (T ++ A) I (f q I)) (h1 : ∀ q I F i, T.contains F = true → i ≠ q → f q I F i = I F i) (h2 : ∀ q I, q < m → s_eqN (T ++ A) I0 I → (∀ F, T.contains F = true → I F q = I0 F q) → ∀ F, T.contains F = true → f q I F q = v F q) : ∀ n, n ≤ m → ∀ F i, T.contains F = true → s_run f 0 n I0 F i = if i < n then v F i else I0 F i := by
  intro n
  induction n with
  | zero => intro _ F i _; rw [if_neg (Nat.not_lt_zero _)]; rfl
  | succ n ih =>
    intro hn F i hF
    rw [s_run_l, Nat.zero_add]
    have hR : s_eqN (T ++ A) I0 (s_run f 0 n I0) := s_eqN.run h0 _ _ _
    by_cases e : i = n
    · subst e
      rw [if_pos (by omega)]
      exact h2 i _ (by omega) hR (fun F hF => by rw [ih (by omega) F i hF, if_neg (Nat.lt_irrefl _)]) F hF
    · rw [h1 n _ F i hF e, ih (by omega) F i hF]
      by_cases e2 : i < n
      · rw [if_pos e2, if_pos (by omega)]
      · rw [if_neg e2, if_neg (by omega)]
theorem v_locS {f : Nat → e_I → e_I} {T A : List Nat} {m F9 k9 : Nat} {v : Nat → Nat → Int32} {g : Nat → Int32} {I0 : e_I} (h0 : ∀ q I, s_eqN (T ++ A) I (f q I)) (h1 : ∀ q I F i, T.contains F = true → i ≠ q → f q I F i = I F i) (h2 : ∀ q I, q < m → s_eqN (T ++ A) I0 I → (∀ F, T.contains F = true → I F q = I0 F q) → ∀ F, T.contains F = true → f q I F q = v F q) (h3 : ∀ q I, q < m → s_eqN (T ++ A) I0 I → (∀ F, T.contains F = true → I F q = I0 F q) → f q I F9 k9 = I F9 k9 + g q) : ∀ n, n ≤ m → s_run f 0 n I0 F9 k9 = I0 F9 k9 + v_S n g := by
  intro n
  induction n with
  | zero => intro _; exact (Int32.add_zero _).symm
  | succ n ih =>
    intro hn
    rw [s_run_l, Nat.zero_add, h3 n _ (by omega) (s_eqN.run h0 _ _ _) (fun F hF => by rw [v_loc h0 h1 h2 n (by omega) F n hF, if_neg (Nat.lt_irrefl _)]), ih (by omega), Int32.add_assoc]
    rfl
