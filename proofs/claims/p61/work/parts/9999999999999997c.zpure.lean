/-! 9999999999999997c: what acts do, in numbers: keys, knobs that are moved, masks -/
theorem z_put_pr {I : e_I} {x y b now : Int32} {i : Nat} : s_put I x y b now f_a_pressed i = if i = s_kn x y then b else I f_a_pressed i := by
  have h1 : s_put I x y b now f_a_pressed i = s_put1 I (s_kn x y) b now f_a_pressed i := by
    unfold s_put s_put2
    rw [s_up_F (by decide), s_up_F (by decide)]
  rw [h1]
  unfold s_put1
  by_cases hb : b = 0
  · rw [if_pos hb]
    by_cases e : i = s_kn x y
    · rw [if_pos e, e, s_up_s]
    · rw [if_neg e, s_up_i e]
  · rw [if_neg hb, s_up_F (by decide), s_up_F (by decide)]
    by_cases e : i = s_kn x y
    · rw [if_pos e, e, s_up_s]
    · rw [if_neg e, s_up_i e]
theorem z_prk_pr {I : e_I} {x y b : Int32} {i : Nat} (hk : s_isk x y) : s_prk I x y b f_a_pressed i = if i = s_kn x y then b else I f_a_pressed i := by
  unfold s_prk
  by_cases h : s_isk x y ∧ I f_a_pressed (s_kn x y) ≠ b
  · rw [if_pos h, s_eqN.kp f_a_pressed (by decide), z_put_pr]
  · rw [if_neg h]
    by_cases e : i = s_kn x y
    · rw [if_pos e, e]
      exact Decidable.not_not.mp (fun z => h ⟨hk, z⟩)
    · rw [if_neg e]
theorem z_dn {I : e_I} {x y : Int32} (hk : s_isk x y) : s_dn I x y = decide (I f_a_pressed (s_kn x y) ≠ 0) := by
  unfold s_dn
  rw [decide_eq_false (fun z => s_idx_neg.mp z hk)]
  rfl
theorem z_dn_stl {p : e_Sp} {I : e_I} {J : e_Jt} {nk nr : Nat} {x y : Int32} : s_dn (s_stl p nk nr (I, J)).1 x y = s_dn I x y := by
  unfold s_dn
  rw [s_eqN.stl (a := (I, J)) f_a_pressed (by decide)]
theorem z_dn_prk {I : e_I} {x y b : Int32} (hk : s_isk x y) : s_dn (s_prk I x y b) x y = decide (b ≠ 0) := by
  rw [z_dn hk, z_prk_pr hk, if_pos rfl]
/-- how many keys of a division are down, up to one -/
def z_ct (I : e_I) (d : Nat) : Nat → Nat
  | 0 => 0
  | n + 1 => z_ct I d n + (if I f_a_pressed (d * 61 + n) = 0 then 0 else 1)
theorem z_ct_c {I I' : e_I} {d : Nat} : ∀ n, (∀ i, i < n → I' f_a_pressed (d * 61 + i) = I f_a_pressed (d * 61 + i)) → z_ct I' d n = z_ct I d n := by
  intro n
  induction n with
  | zero => intro _; rfl
  | succ n ih =>
    intro h
    show z_ct I' d n + (if I' f_a_pressed (d * 61 + n) = 0 then 0 else 1) = z_ct I d n + (if I f_a_pressed (d * 61 + n) = 0 then 0 else 1)
    rw [ih (fun i hi => h i (by omega)), h n (by omega)]
theorem z_ct_le {I : e_I} {d : Nat} : ∀ n, z_ct I d n ≤ n := by
  intro n
  induction n with
  | zero => exact Nat.le_refl 0
  | succ n ih =>
    show z_ct I d n + (if I f_a_pressed (d * 61 + n) = 0 then 0 else 1) ≤ n + 1
    split <;> omega
theorem z_ct0 {I : e_I} {d : Nat} : ∀ n, (∀ i, i < n → I f_a_pressed (d * 61 + i) = 0) → z_ct I d n = 0 := by
  intro n
  induction n with
  | zero => intro _; rfl
  | succ n ih =>
    intro h
    show z_ct I d n + (if I f_a_pressed (d * 61 + n) = 0 then 0 else 1) = 0
    rw [ih (fun i hi => h i (by omega)), if_pos (h n (by omega))]
theorem z_rlK {d N q : Nat} (hd : d < 3) (hN : N ≤ 61) (h0 : d = 0 → N ≤ 32) {a : e_I × Int32} (ha : a.2 = nI q) : ∀ n, n ≤ N → (∀ i, (s_run (s_rlK (nI d)) 0 n a).1 f_a_pressed i = if d * 61 ≤ i ∧ i < d * 61 + n then 0 else a.1 f_a_pressed i) ∧ (s_run (s_rlK (nI d)) 0 n a).2 = nI (q + z_ct a.1 d n) := by
  intro n
  induction n with
  | zero => exact fun _ => ⟨fun i => (if_neg (by omega)).symm, ha⟩
  | succ n ih =>
    intro hn
    obtain ⟨i1, i2⟩ := ih (by omega)
    rw [s_run_l, Nat.zero_add]
    generalize s_run (s_rlK (nI d)) 0 n a = b at i1 i2
    obtain ⟨k1, k2⟩ := z_isk (n := n) hd (by omega) (fun z => by have := h0 z; omega)
    have e0 : b.1 f_a_pressed (d * 61 + n) = a.1 f_a_pressed (d * 61 + n) := by rw [i1, if_neg (by omega)]
    unfold s_rlK
    rw [z_dn k1, k2, e0]
    show _ ∧ _ = nI (q + (z_ct a.1 d n + (if a.1 f_a_pressed (d * 61 + n) = 0 then 0 else 1)))
    by_cases h : a.1 f_a_pressed (d * 61 + n) = 0
    · rw [if_neg (by rw [decide_eq_true_iff]; exact not_not_intro h), if_pos h]
      refine ⟨fun i => ?_, i2⟩
      rw [i1]
      by_cases e : i = d * 61 + n
      · rw [if_neg (by omega), if_pos (by omega), e, h]
      · by_cases e2 : d * 61 ≤ i ∧ i < d * 61 + n
        · rw [if_pos e2, if_pos (by omega)]
        · rw [if_neg e2, if_neg (by omega)]
    · rw [if_pos (decide_eq_true h), if_neg h]
      refine ⟨fun i => ?_, ?_⟩
      · dsimp only
        rw [z_prk_pr k1, k2, i1]
        by_cases e : i = d * 61 + n
        · rw [if_pos e, if_pos (by omega)]
        · rw [if_neg e]
          by_cases e2 : d * 61 ≤ i ∧ i < d * 61 + n
          · rw [if_pos e2, if_pos (by omega)]
          · rw [if_neg e2, if_neg (by omega)]
      · dsimp only
        rw [i2, nI_1]
        congr 1
/-- all keys that are down -/
def z_all (I : e_I) : Nat := z_ct I 0 32 + z_ct I 1 61 + z_ct I 2 61
theorem z_rla {I : e_I} : (∀ i, (s_rla I).1 f_a_pressed i = if i < 183 ∧ ¬ (32 ≤ i ∧ i < 61) then 0 else I f_a_pressed i) ∧ (s_rla I).2 = nI (z_all I) := by
  have h : s_rla I = s_run (s_rlK (nI 2)) 0 61 (s_run (s_rlK (nI 1)) 0 61 (s_run (s_rlK (nI 0)) 0 32 (I, 0))) := rfl
  rw [h]
  obtain ⟨a1, a2⟩ := z_rlK (d := 0) (N := 32) (q := 0) (by decide) (by decide) (fun _ => by decide) (a := (I, (0 : Int32))) rfl 32 (Nat.le_refl _)
  generalize s_run (s_rlK (nI 0)) 0 32 (I, (0 : Int32)) = a at a1 a2
  obtain ⟨b1, b2⟩ := z_rlK (d := 1) (N := 61) (by decide) (by decide) (fun z => by cases z) a2 61 (Nat.le_refl _)
  generalize s_run (s_rlK (nI 1)) 0 61 a = b at b1 b2
  obtain ⟨c1, c2⟩ := z_rlK (d := 2) (N := 61) (by decide) (by decide) (fun z => by cases z) b2 61 (Nat.le_refl _)
  generalize s_run (s_rlK (nI 2)) 0 61 b = c at c1 c2
  dsimp only at a1 a2
  have e1 : z_ct a.1 1 61 = z_ct I 1 61 := z_ct_c 61 (fun i hi => by rw [a1, if_neg (by omega)])
  have e2 : z_ct b.1 2 61 = z_ct I 2 61 := z_ct_c 61 (fun i hi => by rw [b1, if_neg (by omega), a1, if_neg (by omega)])
  refine ⟨fun i => ?_, ?_⟩
  · rw [c1, b1, a1]
    by_cases h1 : 122 ≤ i ∧ i < 183
    · rw [if_pos (by omega), if_pos (by omega)]
    · rw [if_neg (by omega)]
      by_cases h2 : 61 ≤ i ∧ i < 122
      · rw [if_pos (by omega), if_pos (by omega)]
      · rw [if_neg (by omega)]
        by_cases h3 : i < 32
        · rw [if_pos (by omega), if_pos (by omega)]
        · rw [if_neg (by omega), if_neg (by omega)]
  · rw [c2, e1, e2]
    unfold z_all
    show nI (0 + z_ct I 0 32 + z_ct I 1 61 + z_ct I 2 61) = nI (z_ct I 0 32 + z_ct I 1 61 + z_ct I 2 61)
    rw [Nat.zero_add]
theorem z_all_le {I : e_I} : z_all I ≤ 154 := by
  have := z_ct_le (I := I) (d := 0) 32
  have := z_ct_le (I := I) (d := 1) 61
  have := z_ct_le (I := I) (d := 2) 61
  unfold z_all
  omega
theorem z_all0 {I : e_I} (h : ∀ i, i < 183 → ¬ (32 ≤ i ∧ i < 61) → I f_a_pressed i = 0) : z_all I = 0 := by
  unfold z_all
  rw [z_ct0 32 (fun i hi => h _ (by omega) (by omega)), z_ct0 61 (fun i hi => h _ (by omega) (by omega)), z_ct0 61 (fun i hi => h _ (by omega) (by omega))]
/-- knobs are moved -/
theorem z_mt {y z : Int64} {I : e_I} : ∀ n, (∀ i, (s_run (s_mtK y z) 0 n (I, (0 : Int32))).1 f_k_isOut i = if i < n ∧ s_bt y i = true ∧ I f_k_isLocked i = 0 then bI (s_bt z i) else I f_k_isOut i) ∧ (∀ i, (s_run (s_mtK y z) 0 n (I, (0 : Int32))).1 f_k_isLocked i = I f_k_isLocked i) ∧ ∃ q, q ≤ n ∧ (s_run (s_mtK y z) 0 n (I, (0 : Int32))).2 = nI q ∧ ((∀ i, i < n → s_bt y i = true → I f_k_isLocked i = 0 → I f_k_isOut i = bI (s_bt z i)) → q = 0) := by
  intro n
  induction n with
  | zero => exact ⟨fun i => (if_neg (by omega)).symm, fun _ => rfl, 0, Nat.le_refl _, rfl, fun _ => rfl⟩
  | succ n ih =>
    obtain ⟨i1, i2, q, hq, e, h0⟩ := ih
    rw [s_run_l, Nat.zero_add]
    generalize s_run (s_mtK y z) 0 n (I, (0 : Int32)) = b at i1 i2 e
    have eo : b.1 f_k_isOut n = I f_k_isOut n := by rw [i1, if_neg (by omega)]
    unfold s_mtK
    rw [i2, eo]
    by_cases h : s_bt y n = true ∧ I f_k_isLocked n = 0 ∧ ¬ I f_k_isOut n = bI (s_bt z n)
    · rw [if_pos h]
      refine ⟨fun i => ?_, fun i => ?_, q + 1, by omega, ?_, fun hh => absurd (hh n (by omega) h.1 h.2.1) h.2.2⟩
      · dsimp only
        by_cases e2 : i = n
        · rw [e2, s_up_s, if_pos ⟨by omega, h.1, h.2.1⟩]
        · rw [s_up_i e2, i1]
          by_cases c : i < n ∧ s_bt y i = true ∧ I f_k_isLocked i = 0
          · rw [if_pos c, if_pos ⟨by omega, c.2⟩]
          · rw [if_neg c, if_neg (fun w => c ⟨by omega, w.2⟩)]
      · dsimp only
        rw [s_up_F (by decide)]; exact i2 i
      · dsimp only
        rw [e, nI_1]
    · rw [if_neg h]
      refine ⟨fun i => ?_, i2, q, by omega, e, fun hh => h0 (fun i hi => hh i (by omega))⟩
      rw [i1]
      by_cases e2 : i = n
      · rw [e2, if_neg (by omega)]
        by_cases c : s_bt y n = true ∧ I f_k_isLocked n = 0
        · rw [if_pos ⟨by omega, c⟩]
          exact Decidable.not_not.mp (fun w => h ⟨c.1, c.2, w⟩)
        · rw [if_neg (fun w => c w.2)]
      · by_cases c : i < n ∧ s_bt y i = true ∧ I f_k_isLocked i = 0
        · rw [if_pos c, if_pos ⟨by omega, c.2⟩]
        · rw [if_neg c, if_neg (fun w => c ⟨by omega, w.2⟩)]
def z_b9 (b0 b1 b2 b3 b4 b5 b6 b7 b8 : Bool) (i : Nat) : Bool := match i with
  | 0 => b0 | 1 => b1 | 2 => b2 | 3 => b3 | 4 => b4 | 5 => b5 | 6 => b6 | 7 => b7 | _ => b8
set_option maxRecDepth 100000 in
theorem z_or9 : ∀ b0 b1 b2 b3 b4 b5 b6 b7 b8 : Bool, ((List.range 9).all fun i => s_bt (v_OR (z_b9 b0 b1 b2 b3 b4 b5 b6 b7 b8) 9) i == z_b9 b0 b1 b2 b3 b4 b5 b6 b7 b8 i) = true := by decide +kernel
theorem z_bt {c : Nat → Bool} {i : Nat} (hi : i < 9) : s_bt (v_OR c 9) i = c i := by
  have e : ∀ j, j < 9 → c j = z_b9 (c 0) (c 1) (c 2) (c 3) (c 4) (c 5) (c 6) (c 7) (c 8) j := fun j hj => by
    rcases (show j = 0 ∨ j = 1 ∨ j = 2 ∨ j = 3 ∨ j = 4 ∨ j = 5 ∨ j = 6 ∨ j = 7 ∨ j = 8 by omega) with rfl | rfl | rfl | rfl | rfl | rfl | rfl | rfl | rfl <;> rfl
  rw [v_ORc e, e i hi]
  have h := List.all_eq_true.mp (z_or9 (c 0) (c 1) (c 2) (c 3) (c 4) (c 5) (c 6) (c 7) (c 8)) i (List.mem_range.mpr hi)
  exact beq_iff_eq.mp h
