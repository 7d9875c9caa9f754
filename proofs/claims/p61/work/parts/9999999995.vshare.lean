/-! 9999999995: shares -/
theorem v_aps {p : e_Sp} {I I' : e_I} {nr np : Nat} (h : v_Sh p I I' nr np) : s_aps p nr = nI np := by
  have key : ∀ m, m ≤ nr → s_run (fun r a => a + nI (p.2.2.1 T_PARR r)) 0 m (0 : Int32) = nI (if m = 0 then 0 else p.2.2.2.2 (m - 1) + p.2.2.1 T_PARR (m - 1)) := by
    intro m
    induction m with
    | zero => exact fun _ => rfl
    | succ m ih =>
      intro hm
      rw [s_run_l, Nat.zero_add, ih (by omega), nI_add, if_neg (show ¬ m + 1 = 0 by omega), Nat.add_sub_cancel]
      congr 2
      by_cases z : m = 0
      · rw [if_pos z, z, h.1.1]
      · rw [if_neg z]
        have := h.1.2.1 (m - 1) (by omega)
        rw [show m - 1 + 1 = m by omega] at this
        exact this.symm
  unfold s_aps
  rw [key nr (Nat.le_refl _), ← h.1.2.2]
/-- how many speak -/
theorem v_spkN {p : e_Sp} {nk nr np n s m L : Nat} {t : Nat → Nat} {a b : e_I × e_Jt} (h : v_Sim p nk nr np n t s m L a b) : ∃ k, k ≤ np ∧ a.1 f_speakers 0 = nI k := by
  obtain ⟨k, hk, e⟩ := v_S_cnt (n := np) (b := 1) (f := fun q => b.1 f_m_speaks q) (fun q hq => by
    rcases (h.1.1.2.2.2.1 q hq).1.2 with w | w
    · exact ⟨0, by omega, w⟩
    · exact ⟨1, by omega, w⟩)
  exact ⟨k, by omega, h.1.2.1.2.1.trans e⟩
theorem v_i2f {n : Nat} (h : n < 2147483648) : FP.i2f (nI n) = .ofNat (FP.Core.fromInt FP.Core.b32 (n : Int)) := by
  show UInt32.ofNat (FP.Core.fromInt FP.Core.b32 (nI n).toInt) = _
  rw [nI_toInt (by omega)]
theorem v_i2d {n : Nat} (h : n < 2147483648) : FP.i2d (nI n) = .ofNat (FP.Core.fromInt FP.Core.b64 (n : Int)) := by
  show UInt64.ofNat (FP.Core.fromInt FP.Core.b64 (nI n).toInt) = _
  rw [nI_toInt (by omega)]
theorem v_share {p : e_Sp} {nk nr np n s m L : Nat} {t : Nat → Nat} {a b : e_I × e_Jt} (h : v_Sim p nk nr np n t s m L a b) (h0 : 0 < np) : e_n32 (FP.fdiv (FP.i2f (a.1 f_speakers 0)) (FP.i2f (nI np))) = true := by
  have := h.1.1.1.1.2.1
  rw [v_i2f (n := np) (by omega)]
  exact v_fdiv (i := (a.1 f_speakers 0).toInt) h0 (by omega)
theorem v_mean {p : e_Sp} {nk nr np n s m L : Nat} {t : Nat → Nat} {a b : e_I × e_Jt} {i : Int} (h : v_Sim p nk nr np n t s m L a b) (h0 : ¬ a.1 f_speakers 0 = 0) : e_n64 (FP.ddiv (.ofNat (FP.Core.fromInt FP.Core.b64 i)) (FP.i2d (a.1 f_speakers 0))) = true := by
  have := h.1.1.1.1.2.1
  obtain ⟨k, hk, e⟩ := v_spkN h
  rw [e, v_i2d (by omega)]
  have hk0 : 0 < k := by
    apply Decidable.byContradiction
    intro z
    apply h0
    rw [e, show k = 0 by omega]
    rfl
  exact v_ddiv hk0 (by omega)
