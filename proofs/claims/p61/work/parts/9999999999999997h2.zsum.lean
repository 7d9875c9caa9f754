/-! 9999999999999997g: sums over all pipes -/
theorem z_sm_add {f g : Nat → Nat} : ∀ n, z_sm (fun q => f q + g q) n = z_sm f n + z_sm g n := by
  intro n
  induction n with
  | zero => rfl
  | succ n ih =>
    show z_sm (fun q => f q + g q) n + (f n + g n) = z_sm f n + f n + (z_sm g n + g n)
    rw [ih]; omega
theorem z_i2l {n : Nat} (h : n < 2 ^ 31) : (nI n).toInt64 = lN n := by
  apply Int64.toInt_inj.mp
  rw [Int32.toInt_toInt64, nI_toInt h]
  have : (lN n).toInt = n := by
    unfold lN
    rw [Int64.toInt_ofNat_of_lt (by omega)]
  rw [this]
theorem z_lNadd (a b : Nat) : lN a + lN b = lN (a + b) := (Int64.ofNat_add a b).symm
theorem z_Q.sums {p : e_Sp} {I I' : e_I} {J J' : e_Jt} {np : Nat} (h : z_Q p I J np I' J') : ∃ f g, (∀ q, q < np → f q ≤ 300000000 ∧ g q ≤ 1 ∧ I f_p_isSpeaking q = nI (g q) ∧ I f_p_begins q = nI (f q + g q) ∧ I' f_m_speaks q = nI (g q)) ∧ I f_speakers 0 = nI (z_sm g np) ∧ J j_allEnds 0 = lN (z_sm f np) ∧ z_sm g np ≤ np := by
  obtain ⟨e1, e2⟩ := h.en
  have hsp : ∀ q, q < np → I f_p_isSpeaking q = I' f_m_speaks q ∧ I f_p_begins q = I' f_m_begun q := fun q hq => h.sp hq
  obtain ⟨-, ⟨K, hK, hR⟩, -⟩ := h
  obtain ⟨f, g, h1, h2, h3⟩ := hR.2
  dsimp only at h1 h2 h3
  have hg : ∀ n, n ≤ np → v_S n (fun q => I' f_m_speaks q) = nI (z_sm g n) := by
    intro n
    induction n with
    | zero => intro _; rfl
    | succ n ih =>
      intro hn
      show v_S n (fun q => I' f_m_speaks q) + I' f_m_speaks n = nI (z_sm g n + g n)
      rw [ih (by omega), (h1 n (by omega)).2.2.2, nI_add]
  refine ⟨f, g, fun q hq => ?_, ?_, ?_, ?_⟩
  · obtain ⟨a1, a2, a3, a4⟩ := h1 q hq
    exact ⟨by omega, a2, (hsp q hq).1.trans a4, (hsp q hq).2.trans a3, a4⟩
  · rw [e2]; exact hg np (Nat.le_refl _)
  · rw [e1]; exact h2
  · have := z_sm_le (f := g) (K := 1) np (fun q hq => (h1 q hq).2.1)
    omega
/-- the mean pitch of those that speak -/
theorem z_Q.mean {p : e_Sp} {I I' : e_I} {J J' : e_Jt} {np k : Nat} (h : z_Q p I J np I' J') (hk : I f_speakers 0 = nI k) (hk0 : 0 < k) (hk2 : k ≤ np) : Op.cmpValue (FP.dcmp (FP.ddiv (FP.i2d (s_pts p I 3)) (FP.i2d (I f_speakers 0))) 4658815484840378368) .l = 1 := by
  have hnp := h.2.2.2.2.2
  obtain ⟨f, g, h1, h2, -, h4⟩ := h.sums
  have ek : z_sm g np = k := (nI_eq (by omega) (by omega)).mp (h2.symm.trans hk)
  have e1 := h.pts
  have hpq : ∀ q, q < np → ∃ a, 3540 ≤ a ∧ a ≤ 7800 ∧ q_pt I' q = nI a := fun q hq => by
    obtain ⟨r, j, lo, hr, hj, e, el, hlo, hin⟩ := h.pit hq
    unfold v_in at hin
    refine ⟨(q_pt I' q).toInt.toNat, by omega, by omega, ?_⟩
    apply Int32.toInt_inj.mp
    rw [nI_toInt (by omega)]
    omega
  have go : ∀ n, n ≤ np → ∃ s, 3540 * z_sm g n ≤ s ∧ s ≤ 7800 * n ∧ v_S n (fun q => if I' f_m_speaks q = 0 then 0 else q_pt I' q) = nI s := by
    intro n
    induction n with
    | zero => intro _; exact ⟨0, Nat.le_refl _, Nat.le_refl _, rfl⟩
    | succ n ih =>
      intro hn
      obtain ⟨s, a1, a2, a3⟩ := ih (by omega)
      obtain ⟨-, b1, -, -, b2⟩ := h1 n (by omega)
      obtain ⟨a, c1, c2, c3⟩ := hpq n (by omega)
      by_cases z : g n = 0
      · refine ⟨s, ?_, by omega, ?_⟩
        · show 3540 * (z_sm g n + g n) ≤ s
          omega
        · show v_S n (fun q => if I' f_m_speaks q = 0 then 0 else q_pt I' q) + (if I' f_m_speaks n = 0 then 0 else q_pt I' n) = nI s
          rw [a3, if_pos (by rw [b2, z]; rfl)]
          exact Int32.add_zero _
      · refine ⟨s + a, ?_, by omega, ?_⟩
        · show 3540 * (z_sm g n + g n) ≤ s + a
          omega
        · show v_S n (fun q => if I' f_m_speaks q = 0 then 0 else q_pt I' q) + (if I' f_m_speaks n = 0 then 0 else q_pt I' n) = nI (s + a)
          rw [a3, if_neg (by
            rw [b2]
            intro w
            exact z ((nI_eq (b := 0) (by omega) (by decide)).mp w)), c3, nI_add]
  obtain ⟨s, a1, a2, a3⟩ := go np (Nat.le_refl _)
  rw [ek] at a1
  rw [e1, a3, hk]
  have hS : FP.i2d (nI s) = UInt64.ofNat (FP.Core.fromInt FP.Core.b64 (s : Int)) := by
    show UInt64.ofNat (FP.Core.fromInt FP.Core.b64 (nI s).toInt) = _
    rw [nI_toInt (by omega)]
  have hK : FP.i2d (nI k) = UInt64.ofNat (FP.Core.fromInt FP.Core.b64 (k : Int)) := by
    show UInt64.ofNat (FP.Core.fromInt FP.Core.b64 (nI k).toInt) = _
    rw [nI_toInt (by omega)]
  rw [hS, hK]
  have hm := z_mean (s := s) (k := k) hk0 (by omega) a1 (by omega)
  have hd : FP.dcmp (FP.ddiv (UInt64.ofNat (FP.Core.fromInt FP.Core.b64 (s : Int))) (UInt64.ofNat (FP.Core.fromInt FP.Core.b64 (k : Int)))) 4658815484840378368 = some .gt := by
    show FP.Core.cmp FP.Core.b64 (UInt64.ofNat (FP.Core.div FP.Core.b64 (UInt64.ofNat (FP.Core.fromInt FP.Core.b64 (s : Int))).toNat (UInt64.ofNat (FP.Core.fromInt FP.Core.b64 (k : Int))).toNat)).toNat (4658815484840378368 : UInt64).toNat = some .gt
    rw [UInt64.toNat_ofNat_of_lt' v_lt64, UInt64.toNat_ofNat_of_lt' v_lt64]
    have hlt : FP.Core.div FP.Core.b64 (FP.Core.fromInt FP.Core.b64 (s : Int)) (FP.Core.fromInt FP.Core.b64 (k : Int)) < 2 ^ 64 := by
      unfold FP.Core.div
      obtain ⟨s9, e9, t9, g1, g2, g3, g4⟩ := v_okE (f := FP.Core.b64) (T := 4503599627370496) (E := 2048) (v_quo (f := FP.Core.b64) (v_dec (T := 4503599627370496) (E := 2048) (v_okI (f := FP.Core.b64) (i := (s : Int)) (by decide) (by decide)) (by decide) (by decide) (by decide) (by decide) (by decide) (by decide)) (v_finE (v_den64 hk0 (show k < 1281 by omega))) (by decide) (by decide)) (by decide) (by decide) (by decide) (by decide) (by decide) (by decide)
      unfold FP.Core.fromInt at g1 ⊢
      rw [g1]
      omega
    rw [UInt64.toNat_ofNat_of_lt' hlt]
    exact hm
  rw [hd]
  rfl
/-- the share of those that speak -/
theorem z_Q.share {p : e_Sp} {I I' : e_I} {J J' : e_Jt} {np k : Nat} (h : z_Q p I J np I' J') (hk : I f_speakers 0 = nI k) (hk2 : k ≤ np) : ¬ Op.cmpValue (FP.fcmp (FP.fdiv (FP.i2f (I f_speakers 0)) (FP.i2f (s_aps p 3))) 0) .l < 0 ∧ ¬ 0 < Op.cmpValue (FP.fcmp (FP.fdiv (FP.i2f (I f_speakers 0)) (FP.i2f (s_aps p 3))) 1065353216) .g := by
  have hnp := h.2.2.2.2.2
  rw [hk, h.aps]
  obtain ⟨a, b⟩ := z_shr ⟨np, by omega⟩ ⟨k, by omega⟩ hnp.1 hk2
  dsimp only at a b
  constructor
  · rcases a with e | e <;> rw [e] <;> decide
  · rcases b with e | e <;> rw [e] <;> decide
theorem z_Q.n32 {p : e_Sp} {I I' : e_I} {J J' : e_Jt} {np : Nat} (h : z_Q p I J np I' J') : e_n32 (FP.fdiv (FP.i2f (I f_speakers 0)) (FP.i2f (s_aps p 3))) = true ∧ ¬ s_aps p 3 = 0 := by
  have e := h.aps
  obtain ⟨⟨n, t, s, m, L, hS, -⟩, -, -, -, -, h0, h126⟩ := h
  rw [e]
  have q := v_share hS h0
  dsimp only at q
  refine ⟨q, fun z => ?_⟩
  have := (nI_eq (b := 0) (by omega) (by decide)).mp z
  omega
theorem z_Q.n64 {p : e_Sp} {I I' : e_I} {J J' : e_Jt} {np : Nat} (h : z_Q p I J np I' J') (h0 : ¬ I f_speakers 0 = 0) : e_n64 (FP.ddiv (FP.i2d (s_pts p I 3)) (FP.i2d (I f_speakers 0))) = true := by
  obtain ⟨⟨n, t, s, m, L, hS, -⟩, -⟩ := h
  have q := v_mean (i := (s_pts p I 3).toInt) hS h0
  dsimp only at q
  exact q
