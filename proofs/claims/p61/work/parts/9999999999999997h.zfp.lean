/-! 9999999999999997h: quotients: a share is from 0 to 1, a mean of great numbers is great -/
theorem z_log {n : Nat} (h0 : 0 < n) : 2 ^ n.log2 ≤ n ∧ n < 2 ^ (n.log2 + 1) := ⟨Nat.log2_self_le (by omega), Nat.lt_log2_self⟩
theorem z_log53 {n : Nat} (h0 : 0 < n) (h : n < 2 ^ 53) : n.log2 ≤ 52 := by
  have h1 := (z_log h0).1
  apply Decidable.byContradiction
  intro w
  have : 2 ^ 53 ≤ 2 ^ n.log2 := Nat.pow_le_pow_right (by decide) (by omega)
  omega
theorem z_dec {c : Nat} {q : Int} (h1 : 2 ^ 52 ≤ c) (h2 : c < 2 ^ 53) (h3 : -1074 ≤ q) (h4 : q ≤ 971) : FP.Core.decode FP.Core.b64 (FP.Core.encode FP.Core.b64 (.fin false c q)) = .fin false c q := by
  have hT : FP.Core.b64.tails = 4503599627370496 := by decide
  have hE : FP.Core.b64.exps = 2048 := by decide
  have hq : FP.Core.b64.qmin = -1074 := by decide
  have e1 : FP.Core.encode FP.Core.b64 (.fin false c q) = ((q + 1074).toNat + 1) * 4503599627370496 + (c - 4503599627370496) := by
    show (if c < FP.Core.b64.tails then FP.Core.assemble FP.Core.b64 false 0 c else FP.Core.assemble FP.Core.b64 false ((q - FP.Core.b64.qmin).toNat + 1) (c - FP.Core.b64.tails)) = _
    rw [if_neg (by rw [hT]; omega)]
    unfold FP.Core.assemble
    rw [hT, hE, hq]
    have : q - -1074 = q + 1074 := by omega
    rw [this]
    show (0 * 2048 + ((q + 1074).toNat + 1)) * 4503599627370496 + _ = _
    rw [Nat.zero_mul, Nat.zero_add]
  rw [e1]
  generalize hx : (q + 1074).toNat = x
  have hx2 : x ≤ 2045 := by omega
  have fT : FP.Core.fieldT FP.Core.b64 ((x + 1) * 4503599627370496 + (c - 4503599627370496)) = c - 4503599627370496 := by
    unfold FP.Core.fieldT
    rw [hT]; omega
  have fE : FP.Core.fieldE FP.Core.b64 ((x + 1) * 4503599627370496 + (c - 4503599627370496)) = x + 1 := by
    unfold FP.Core.fieldE
    rw [hT, hE]; omega
  have fS : FP.Core.fieldS FP.Core.b64 ((x + 1) * 4503599627370496 + (c - 4503599627370496)) = false := by
    unfold FP.Core.fieldS
    rw [hT, hE, show ((x + 1) * 4503599627370496 + (c - 4503599627370496)) / 4503599627370496 / 2048 % 2 = 0 by omega]
    rfl
  unfold FP.Core.decode
  rw [fT, fE, fS, hE, hT, hq, if_neg (by omega), if_neg (by omega)]
  have a1 : 4503599627370496 + (c - 4503599627370496) = c := by omega
  have a2 : (-1074 : Int) + (((x + 1 : Nat) : Int) - 1) = q := by omega
  rw [a1, a2]
theorem z_near {num den : Nat} : num / den ≤ FP.Core.nearest num den ∧ FP.Core.nearest num den ≤ num / den + 1 := by
  unfold FP.Core.nearest
  split
  · omega
  · split <;> omega
theorem z_near1 {num : Nat} : FP.Core.nearest num 1 = num := by
  unfold FP.Core.nearest
  rw [Nat.mod_one, if_pos (by decide), Nat.div_one]
theorem z_int {n : Nat} (h0 : 0 < n) (h : n < 2 ^ 53) : FP.Core.decode FP.Core.b64 (FP.Core.fromInt FP.Core.b64 (n : Int)) = .fin false (n * 2 ^ (52 - n.log2)) ((n.log2 : Int) - 52) := by
  obtain ⟨l1, l2⟩ := z_log h0
  have l3 := z_log53 h0 h
  have c1 : 2 ^ 52 ≤ n * 2 ^ (52 - n.log2) := by
    have : 2 ^ n.log2 * 2 ^ (52 - n.log2) ≤ n * 2 ^ (52 - n.log2) := Nat.mul_le_mul_right _ l1
    rwa [← Nat.pow_add, show n.log2 + (52 - n.log2) = 52 by omega] at this
  have c2 : n * 2 ^ (52 - n.log2) < 2 ^ 53 := by
    have : n * 2 ^ (52 - n.log2) < 2 ^ (n.log2 + 1) * 2 ^ (52 - n.log2) := Nat.mul_lt_mul_of_pos_right l2 (Nat.pow_pos (by decide))
    rwa [← Nat.pow_add, show n.log2 + 1 + (52 - n.log2) = 53 by omega] at this
  have e : FP.Core.round FP.Core.b64 (FP.Core.ofInt (n : Int)) = .fin false (n * 2 ^ (52 - n.log2)) ((n.log2 : Int) - 52) := by
    have e0 : FP.Core.ofInt (n : Int) = .fin false n 0 := by
      unfold FP.Core.ofInt
      rw [decide_eq_false (by omega), Int.natAbs_natCast]
    rw [e0]
    show FP.Core.roundRatio FP.Core.b64 false n 1 0 = _
    unfold FP.Core.roundRatio
    rw [if_neg (by omega)]
    have hl : FP.Core.leading n 1 = (n.log2 : Int) := by
      unfold FP.Core.leading
      have : ((1 : Nat).log2 : Int) = 0 := by decide
      dsimp only
      rw [this, Int.sub_zero, if_pos]
      rw [Int.toNat_natCast, Nat.one_mul, show (-(n.log2 : Int)).toNat = 0 by omega, Nat.pow_zero, Nat.mul_one]
      exact l1
    have hq : FP.Core.quantum FP.Core.b64 n 1 0 = (n.log2 : Int) - 52 := by
      unfold FP.Core.quantum
      rw [hl, show FP.Core.b64.qmin = -1074 by decide, show (FP.Core.b64.p : Int) = 53 by decide]
      omega
    rw [hq]
    unfold FP.Core.roundAt FP.Core.unitsNum FP.Core.unitsDen
    rw [show (0 - ((n.log2 : Int) - 52)).toNat = 52 - n.log2 by omega, show ((n.log2 : Int) - 52 - 0).toNat = 0 by omega, Nat.pow_zero, Nat.mul_one, z_near1]
    unfold FP.Core.settle
    rw [show FP.Core.b64.p = 53 by decide, if_pos c2]
    unfold FP.Core.bound
    rw [if_pos (by rw [show FP.Core.b64.qmax = 971 by decide]; omega)]
  unfold FP.Core.fromInt
  rw [e]
  exact z_dec c1 c2 (by omega) (by omega)
theorem z_3000 : FP.Core.decode FP.Core.b64 (4658815484840378368 : UInt64).toNat = .fin false (3000 * 2 ^ 41) (-41) := by decide
/-- the order of two numbers -/
theorem z_ord {c a : Nat} (h : 3000 * 2 ^ a < c) : FP.Core.order (.fin false c (-(a : Int))) (.fin false (3000 * 2 ^ 41) (-41)) = some .gt := by
  unfold FP.Core.order FP.Core.signed FP.Core.inUnits
  dsimp only
  rw [if_neg (by decide), if_neg (by decide)]
  congr 1
  rw [Int.compare_eq_gt]
  apply Int.ofNat_lt.mpr
  by_cases z : a ≤ 41
  · rw [show (-(a : Int) - min (-(a : Int)) (-41)).toNat = 41 - a by omega, show ((-41 : Int) - min (-(a : Int)) (-41)).toNat = 0 by omega, Nat.pow_zero, Nat.mul_one]
    have : 3000 * 2 ^ a * 2 ^ (41 - a) < c * 2 ^ (41 - a) := Nat.mul_lt_mul_of_pos_right h (Nat.pow_pos (by decide))
    rwa [Nat.mul_assoc, ← Nat.pow_add, show a + (41 - a) = 41 by omega] at this
  · rw [show (-(a : Int) - min (-(a : Int)) (-41)).toNat = 0 by omega, show ((-41 : Int) - min (-(a : Int)) (-41)).toNat = a - 41 by omega, Nat.pow_zero, Nat.mul_one, Nat.mul_assoc, ← Nat.pow_add, show 41 + (a - 41) = a by omega]
    exact h
theorem z_mul53 {n : Nat} (h0 : 0 < n) (h : n < 2 ^ 53) : 2 ^ 52 ≤ n * 2 ^ (52 - n.log2) ∧ n * 2 ^ (52 - n.log2) < 2 ^ 53 := by
  obtain ⟨l1, l2⟩ := z_log h0
  have l3 := z_log53 h0 h
  constructor
  · have : 2 ^ n.log2 * 2 ^ (52 - n.log2) ≤ n * 2 ^ (52 - n.log2) := Nat.mul_le_mul_right _ l1
    rwa [← Nat.pow_add, show n.log2 + (52 - n.log2) = 52 by omega] at this
  · have : n * 2 ^ (52 - n.log2) < 2 ^ (n.log2 + 1) * 2 ^ (52 - n.log2) := Nat.mul_lt_mul_of_pos_right l2 (Nat.pow_pos (by decide))
    rwa [← Nat.pow_add, show n.log2 + 1 + (52 - n.log2) = 53 by omega] at this
theorem z_log52 {c : Nat} (h1 : 2 ^ 52 ≤ c) (h2 : c < 2 ^ 53) : c.log2 = 52 := (Nat.log2_eq_iff (by omega)).mpr ⟨h1, h2⟩
/-- a mean of numbers of 3540 at least -/
theorem z_mean {s k : Nat} (hk : 0 < k) (hk2 : k ≤ 1000) (h : 3540 * k ≤ s) (hs : s < 2 ^ 30) : FP.Core.cmp FP.Core.b64 (FP.Core.div FP.Core.b64 (FP.Core.fromInt FP.Core.b64 (s : Int)) (FP.Core.fromInt FP.Core.b64 (k : Int))) (4658815484840378368 : UInt64).toNat = some .gt := by
  unfold FP.Core.cmp FP.Core.div
  rw [z_3000, z_int hk (by omega), z_int (show 0 < s by omega) (by omega)]
  obtain ⟨a1, a2⟩ := z_mul53 hk (show k < 2 ^ 53 by omega)
  obtain ⟨b1, b2⟩ := z_mul53 (show 0 < s by omega) (show s < 2 ^ 53 by omega)
  have ls := z_log (show 0 < s by omega)
  have lk := z_log hk
  have lk3 : k.log2 ≤ 9 := by
    apply Decidable.byContradiction
    intro w
    have : 2 ^ 10 ≤ 2 ^ k.log2 := Nat.pow_le_pow_right (by decide) (by omega)
    omega
  have ls3 : s.log2 ≤ 29 := by
    apply Decidable.byContradiction
    intro w
    have : 2 ^ 30 ≤ 2 ^ s.log2 := Nat.pow_le_pow_right (by decide) (by omega)
    omega
  have hE : k.log2 ≤ s.log2 := by
    apply Decidable.byContradiction
    intro w
    have : 2 ^ (s.log2 + 1) ≤ 2 ^ k.log2 := Nat.pow_le_pow_right (by decide) (by omega)
    omega
  have key : ∀ x y, s * 2 ^ (52 - s.log2) = x → k * 2 ^ (52 - k.log2) = y → ∀ a m, m = a + (s.log2 - k.log2) → 3540 * 2 ^ a ≤ x * 2 ^ m / y := by
    intro x y hx hy a m hm
    rw [Nat.le_div_iff_mul_le (by rw [← hy]; exact Nat.mul_pos hk (Nat.pow_pos (by decide))), ← hx, ← hy, hm]
    have e1 : s * 2 ^ (52 - s.log2) * 2 ^ (a + (s.log2 - k.log2)) = s * (2 ^ a * 2 ^ (52 - k.log2)) := by
      rw [Nat.mul_assoc, ← Nat.pow_add, ← Nat.pow_add]
      congr 2; omega
    rw [e1]
    calc 3540 * 2 ^ a * (k * 2 ^ (52 - k.log2)) = 3540 * k * (2 ^ a * 2 ^ (52 - k.log2)) := by
          rw [Nat.mul_mul_mul_comm]
      _ ≤ s * (2 ^ a * 2 ^ (52 - k.log2)) := Nat.mul_le_mul_right _ h
  generalize hx : s * 2 ^ (52 - s.log2) = x at *
  generalize hy : k * 2 ^ (52 - k.log2) = y at *
  have key := key x y rfl rfl
  have q1 : FP.Core.quotient FP.Core.b64 (.fin false x ((s.log2 : Int) - 52)) (.fin false y ((k.log2 : Int) - 52)) = FP.Core.roundRatio FP.Core.b64 false x y ((s.log2 : Int) - (k.log2 : Int)) := by
    show (if y = 0 then (if x = 0 then FP.Core.Datum.nan else .inf (false != false)) else FP.Core.roundRatio FP.Core.b64 (false != false) x y (((s.log2 : Int) - 52) - ((k.log2 : Int) - 52))) = _
    rw [if_neg (by omega), show ((s.log2 : Int) - 52) - ((k.log2 : Int) - 52) = (s.log2 : Int) - (k.log2 : Int) by omega]
    rfl
  rw [q1]
  unfold FP.Core.roundRatio
  rw [if_neg (by omega)]
  have hl : ∃ l : Nat, l ≤ 1 ∧ FP.Core.leading x y = -(l : Int) ∧ ((l = 0 ∧ y ≤ x) ∨ (l = 1 ∧ x < y)) := by
    unfold FP.Core.leading
    rw [z_log52 a1 a2, z_log52 b1 b2]
    dsimp only
    have e0 : ((52 : Nat) : Int) - ((52 : Nat) : Int) = 0 := by decide
    rw [e0]
    by_cases z : y ≤ x
    · rw [if_pos (by show y * 2 ^ 0 ≤ x * 2 ^ 0; omega)]
      exact ⟨0, by omega, by omega, .inl ⟨rfl, z⟩⟩
    · rw [if_neg (by show ¬ y * 2 ^ 0 ≤ x * 2 ^ 0; omega)]
      exact ⟨1, by omega, by omega, .inr ⟨rfl, by omega⟩⟩
  obtain ⟨l, hl1, hl2, hl3⟩ := hl
  obtain ⟨a, ha⟩ : ∃ a : Nat, a + (s.log2 - k.log2) = 52 + l := ⟨52 + l - (s.log2 - k.log2), by omega⟩
  have hq : FP.Core.quantum FP.Core.b64 x y ((s.log2 : Int) - (k.log2 : Int)) = -(a : Int) := by
    unfold FP.Core.quantum
    rw [hl2, show FP.Core.b64.qmin = -1074 by decide, show (FP.Core.b64.p : Int) = 53 by decide]
    omega
  rw [hq]
  unfold FP.Core.roundAt FP.Core.unitsNum FP.Core.unitsDen
  rw [show ((s.log2 : Int) - (k.log2 : Int) - -(a : Int)).toNat = 52 + l by omega, show (-(a : Int) - ((s.log2 : Int) - (k.log2 : Int))).toNat = 0 by omega, Nat.pow_zero, Nat.mul_one]
  have k1 := key a (52 + l) ha.symm
  obtain ⟨n1, n2⟩ := z_near (num := x * 2 ^ (52 + l)) (den := y)
  have hlo : 2 ^ 52 ≤ x * 2 ^ (52 + l) / y ∧ x * 2 ^ (52 + l) / y < 2 ^ 53 := by
    rw [Nat.le_div_iff_mul_le (by omega), Nat.div_lt_iff_lt_mul (by omega)]
    rcases hl3 with ⟨z, z2⟩ | ⟨z, z2⟩
    · rw [z]; omega
    · rw [z]; omega
  generalize hN : FP.Core.nearest (x * 2 ^ (52 + l)) y = N at *
  have hN1 : 3540 * 2 ^ a ≤ N := Nat.le_trans k1 n1
  generalize x * 2 ^ (52 + l) / y = M at *
  have hpa : 0 < 2 ^ a := Nat.pow_pos (by decide)
  unfold FP.Core.settle
  rw [show FP.Core.b64.p = 53 by decide, show FP.Core.b64.tails = 2 ^ 52 by decide]
  unfold FP.Core.bound
  rw [show FP.Core.b64.qmax = 971 by decide]
  by_cases z : N < 2 ^ 53
  · rw [if_pos z, if_pos (by omega), z_dec (by omega) z (by omega) (by omega)]
    exact z_ord (by omega)
  · rw [if_neg z, if_pos (by omega), z_dec (by decide) (by decide) (by omega) (by omega)]
    obtain ⟨a', rfl⟩ : ∃ a', a = a' + 1 := ⟨a - 1, by
      rcases Nat.eq_zero_or_pos a with w | w
      · omega
      · omega⟩
    rw [show -((a' + 1 : Nat) : Int) + 1 = -(a' : Int) by omega]
    refine z_ord ?_
    rw [Nat.pow_succ] at hN1
    omega
/-- an answer that is no number's quotient -/
theorem z_m74 : FP.dcmp 13858279740860792832 13858279740860792832 = some .eq := by decide
theorem z_shr : ∀ n : Fin 127, ∀ k : Fin 127, 0 < n.val → k.val ≤ n.val → (Op.cmpValue (FP.fcmp (FP.fdiv (FP.i2f (nI k.val)) (FP.i2f (nI n.val))) 0) .l = 0 ∨ Op.cmpValue (FP.fcmp (FP.fdiv (FP.i2f (nI k.val)) (FP.i2f (nI n.val))) 0) .l = 1) ∧ (Op.cmpValue (FP.fcmp (FP.fdiv (FP.i2f (nI k.val)) (FP.i2f (nI n.val))) 1065353216) .g = 0 ∨ Op.cmpValue (FP.fcmp (FP.fdiv (FP.i2f (nI k.val)) (FP.i2f (nI n.val))) 1065353216) .g = -1) := by decide +kernel
