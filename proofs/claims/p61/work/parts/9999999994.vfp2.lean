/-! 9999999994: quotients of whole numbers, the end -/
theorem v_dec {f : FP.Core.Fmt} {d : FP.Core.Datum} {T E : Nat} (h : v_okd f d) (hT : f.tails = T) (hE : f.exps = E) (h2 : 2 ^ f.p = 2 * T) (hT0 : 0 < T) (hq : f.qmax - f.qmin + 2 < (E : Int)) (hE2 : 2 ≤ E) : FP.Core.decode f (FP.Core.encode f d) ≠ .nan := by
  obtain ⟨s, e, t, h1, h2, h3, h4⟩ := v_okE h hT hE h2 hT0 hq hE2
  rw [h1]
  have eE : ((s * E + e) * T + t) / T = s * E + e := by
    rw [Nat.mul_comm, Nat.mul_add_div hT0, Nat.div_eq_of_lt h3, Nat.add_zero]
  have e1 : FP.Core.fieldE f ((s * E + e) * T + t) = e := by
    unfold FP.Core.fieldE
    rw [hT, hE, eE, Nat.mul_comm, Nat.mul_add_mod]
    exact Nat.mod_eq_of_lt (by omega)
  have e2 : FP.Core.fieldT f ((s * E + e) * T + t) = t := by
    unfold FP.Core.fieldT
    rw [hT, Nat.mul_comm, Nat.mul_add_mod]
    exact Nat.mod_eq_of_lt h3
  unfold FP.Core.decode
  rw [e1, e2, hE]
  rcases h4 with h | ⟨h, h'⟩
  · rw [if_neg (by omega)]
    split <;> (intro z; exact absurd z (by simp))
  · rw [if_pos h, if_pos h']
    intro z; exact absurd z (by simp)
theorem v_quo {f : FP.Core.Fmt} {x y : FP.Core.Datum} (hx : x ≠ .nan) (hy : ∃ s c q, y = .fin s c q ∧ c ≠ 0) (hq : f.qmin ≤ f.qmax) (hp : 1 ≤ f.p) : v_okd f (FP.Core.quotient f x y) := by
  obtain ⟨s, c, q, rfl, hc⟩ := hy
  cases x with
  | nan => exact absurd rfl hx
  | inf s' => exact True.intro
  | fin s' c' q' =>
    show v_okd f (if c = 0 then _ else FP.Core.roundRatio f (s' != s) c' c (q' - q))
    rw [if_neg hc]
    exact v_okR hq hp
def v_fin : FP.Core.Datum → Bool
  | .fin _ c _ => !decide (c = 0)
  | _ => false
theorem v_finE {d : FP.Core.Datum} (h : v_fin d = true) : ∃ s c q, d = .fin s c q ∧ c ≠ 0 := by
  cases d with
  | nan => exact absurd h (by decide)
  | inf s => exact absurd h (by simp [v_fin])
  | fin s c q => exact ⟨s, c, q, rfl, by simpa [v_fin] using h⟩
theorem v_den64 {n : Nat} (h0 : 0 < n) (h : n < 1281) : v_fin (FP.Core.decode FP.Core.b64 (FP.Core.fromInt FP.Core.b64 (n : Int))) = true := by
  have key : ∀ n : Fin 1281, 0 < n.val → v_fin (FP.Core.decode FP.Core.b64 (FP.Core.fromInt FP.Core.b64 (n.val : Int))) = true := by decide +kernel
  exact key ⟨n, h⟩ h0
theorem v_den32 {n : Nat} (h0 : 0 < n) (h : n < 1281) : v_fin (FP.Core.decode FP.Core.b32 (FP.Core.fromInt FP.Core.b32 (n : Int))) = true := by
  have key : ∀ n : Fin 1281, 0 < n.val → v_fin (FP.Core.decode FP.Core.b32 (FP.Core.fromInt FP.Core.b32 (n.val : Int))) = true := by decide +kernel
  exact key ⟨n, h⟩ h0
theorem v_okI {f : FP.Core.Fmt} {i : Int} (hq : f.qmin ≤ f.qmax) (hp : 1 ≤ f.p) : v_okd f (FP.Core.round f (FP.Core.ofInt i)) := v_okR hq hp
theorem v_lt64 {i : Int} : FP.Core.fromInt FP.Core.b64 i < 2 ^ 64 := by
  obtain ⟨s, e, t, h1, h2, h3, h4⟩ := v_okE (f := FP.Core.b64) (T := 4503599627370496) (E := 2048) (v_okI (i := i) (by decide) (by decide)) (by decide) (by decide) (by decide) (by decide) (by decide) (by decide)
  unfold FP.Core.fromInt
  rw [h1]
  omega
theorem v_lt32 {i : Int} : FP.Core.fromInt FP.Core.b32 i < 2 ^ 32 := by
  obtain ⟨s, e, t, h1, h2, h3, h4⟩ := v_okE (f := FP.Core.b32) (T := 8388608) (E := 256) (v_okI (i := i) (by decide) (by decide)) (by decide) (by decide) (by decide) (by decide) (by decide) (by decide)
  unfold FP.Core.fromInt
  rw [h1]
  omega
theorem v_ddiv {i : Int} {n : Nat} (h0 : 0 < n) (h : n < 1281) : e_n64 (FP.ddiv (.ofNat (FP.Core.fromInt FP.Core.b64 i)) (.ofNat (FP.Core.fromInt FP.Core.b64 (n : Int)))) = true := by
  show e_n64 (.ofNat (FP.Core.encode FP.Core.b64 (FP.Core.quotient FP.Core.b64 (FP.Core.decode FP.Core.b64 (UInt64.ofNat (FP.Core.fromInt FP.Core.b64 i)).toNat) (FP.Core.decode FP.Core.b64 (UInt64.ofNat (FP.Core.fromInt FP.Core.b64 (n : Int))).toNat)))) = true
  rw [UInt64.toNat_ofNat_of_lt' v_lt64, UInt64.toNat_ofNat_of_lt' v_lt64]
  refine v_n64 (v_quo ?_ (v_finE (v_den64 h0 h)) (by decide) (by decide))
  exact v_dec (T := 4503599627370496) (E := 2048) (v_okI (by decide) (by decide)) (by decide) (by decide) (by decide) (by decide) (by decide) (by decide)
theorem v_fdiv {i : Int} {n : Nat} (h0 : 0 < n) (h : n < 1281) : e_n32 (FP.fdiv (.ofNat (FP.Core.fromInt FP.Core.b32 i)) (.ofNat (FP.Core.fromInt FP.Core.b32 (n : Int)))) = true := by
  show e_n32 (.ofNat (FP.Core.encode FP.Core.b32 (FP.Core.quotient FP.Core.b32 (FP.Core.decode FP.Core.b32 (UInt32.ofNat (FP.Core.fromInt FP.Core.b32 i)).toNat) (FP.Core.decode FP.Core.b32 (UInt32.ofNat (FP.Core.fromInt FP.Core.b32 (n : Int))).toNat)))) = true
  rw [UInt32.toNat_ofNat_of_lt' v_lt32, UInt32.toNat_ofNat_of_lt' v_lt32]
  refine v_n32 (v_quo ?_ (v_finE (v_den32 h0 h)) (by decide) (by decide))
  exact v_dec (T := 8388608) (E := 256) (v_okI (by decide) (by decide)) (by decide) (by decide) (by decide) (by decide) (by decide) (by decide)
