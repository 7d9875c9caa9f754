/-! 9999999993: quotients of whole numbers are numbers -/
def v_okd (f : FP.Core.Fmt) : FP.Core.Datum → Prop
  | .nan => False
  | .inf _ => True
  | .fin _ c q => c < 2 ^ f.p ∧ f.qmin ≤ q ∧ q ≤ f.qmax
theorem v_okR {f : FP.Core.Fmt} {s : Bool} {num den : Nat} {e : Int} (hq : f.qmin ≤ f.qmax) (hp : 1 ≤ f.p) : v_okd f (FP.Core.roundRatio f s num den e) := by
  have hb : ∀ c q, c < 2 ^ f.p → f.qmin ≤ q → v_okd f (FP.Core.bound f s c q) := by
    intro c q h1 h2
    unfold FP.Core.bound
    by_cases c1 : q ≤ f.qmax
    · rw [if_pos c1]; exact ⟨h1, h2, c1⟩
    · rw [if_neg c1]; exact True.intro
  unfold FP.Core.roundRatio
  by_cases c : num = 0
  · rw [if_pos c]
    exact ⟨Nat.pow_pos (by decide), Int.le_refl _, hq⟩
  · rw [if_neg c]
    unfold FP.Core.roundAt FP.Core.settle
    have hqu : f.qmin ≤ FP.Core.quantum f num den e := by unfold FP.Core.quantum; exact Int.le_max_left _ _
    generalize FP.Core.quantum f num den e = q at *
    generalize FP.Core.nearest (FP.Core.unitsNum num e q) (FP.Core.unitsDen den e q) = c9
    by_cases c1 : c9 < 2 ^ f.p
    · rw [if_pos c1]; exact hb _ _ c1 hqu
    · rw [if_neg c1]
      refine hb _ _ ?_ (by omega)
      unfold FP.Core.Fmt.tails
      exact Nat.pow_lt_pow_right (by decide) (by omega)
theorem v_okE {f : FP.Core.Fmt} {d : FP.Core.Datum} {T E : Nat} (h : v_okd f d) (hT : f.tails = T) (hE : f.exps = E) (h2 : 2 ^ f.p = 2 * T) (hT0 : 0 < T) (hq : f.qmax - f.qmin + 2 < (E : Int)) (hE2 : 2 ≤ E) : ∃ s e t, FP.Core.encode f d = (s * E + e) * T + t ∧ s ≤ 1 ∧ t < T ∧ (e < E - 1 ∨ (e = E - 1 ∧ t = 0)) := by
  cases d with
  | nan => exact absurd h id
  | inf s =>
    refine ⟨s.toNat, E - 1, 0, ?_, by cases s <;> decide, hT0, .inr ⟨rfl, rfl⟩⟩
    show FP.Core.assemble f s (f.exps - 1) 0 = _
    unfold FP.Core.assemble
    rw [hT, hE]
  | fin s c q =>
    obtain ⟨h1, h3, h4⟩ := h
    show ∃ s' e t, (if c < f.tails then FP.Core.assemble f s 0 c else FP.Core.assemble f s ((q - f.qmin).toNat + 1) (c - f.tails)) = _ ∧ _
    by_cases c1 : c < f.tails
    · rw [if_pos c1]
      refine ⟨s.toNat, 0, c, ?_, by cases s <;> decide, by rw [hT] at c1; exact c1, .inl (by omega)⟩
      unfold FP.Core.assemble
      rw [hT, hE]
    · rw [if_neg c1]
      refine ⟨s.toNat, (q - f.qmin).toNat + 1, c - T, ?_, by cases s <;> decide, by rw [h2] at h1; rw [hT] at c1; omega, .inl (by omega)⟩
      unfold FP.Core.assemble
      rw [hT, hE]
theorem v_n64 {d : FP.Core.Datum} (h : v_okd FP.Core.b64 d) : e_n64 (.ofNat (FP.Core.encode FP.Core.b64 d)) = true := by
  obtain ⟨s, e, t, h1, h2, h3, h4⟩ := v_okE (T := 4503599627370496) (E := 2048) h (by decide) (by decide) (by decide) (by decide) (by decide) (by decide)
  unfold e_n64
  refine @decide_eq_true _ (_) ?_
  show (_ : UInt64) ≤ _
  rw [h1, UInt64.le_iff_toNat_le, UInt64.toNat_and, UInt64.toNat_ofNat', show (9223372036854775807 : UInt64).toNat = 2 ^ 63 - 1 from rfl, Nat.and_two_pow_sub_one_eq_mod]
  show _ ≤ 9218868437227405312
  omega
theorem v_n32 {d : FP.Core.Datum} (h : v_okd FP.Core.b32 d) : e_n32 (.ofNat (FP.Core.encode FP.Core.b32 d)) = true := by
  obtain ⟨s, e, t, h1, h2, h3, h4⟩ := v_okE (T := 8388608) (E := 256) h (by decide) (by decide) (by decide) (by decide) (by decide) (by decide)
  unfold e_n32
  refine @decide_eq_true _ (_) ?_
  show (_ : UInt32) ≤ _
  rw [h1, UInt32.le_iff_toNat_le, UInt32.toNat_and, UInt32.toNat_ofNat', show (2147483647 : UInt32).toNat = 2 ^ 31 - 1 from rfl, Nat.and_two_pow_sub_one_eq_mod]
  show _ ≤ 2139095040
  omega
