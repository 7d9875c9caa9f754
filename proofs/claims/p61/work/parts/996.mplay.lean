/-! 996: playing, from end to end (printed by wip/whole/p996.py) -/
theorem q_Kp.eqN {T : List Nat} {I I' : e_I} {t : Nat → Nat} {n : Nat} (h : q_Kp I t n) (e : s_eqN T I I') (hT : ([f_mt_tick, f_mt_is, f_mt_at, f_mt_division, f_m_kindKept].all (fun F => !T.contains F)) = true) : q_Kp I' t n := by
  have hF : ∀ F, F ∈ [f_mt_tick, f_mt_is, f_mt_at, f_mt_division, f_m_kindKept] → I' F = I F := fun F hF => e F (by have := List.all_eq_true.mp hT F hF; simpa using this)
  unfold q_Kp
  rw [hF f_mt_tick (by decide), hF f_mt_is (by decide), hF f_mt_at (by decide), hF f_mt_division (by decide), hF f_m_kindKept (by decide)]
  exact h
theorem q_lfK_off {dd i : Nat} {a : e_I × Int32} (h : ¬ a.1 f_m_recording 0 = 107) : s_eqN [f_m_isDown, f_m_wentDown] a.1 (q_lfK dd i a).1 := q_mdv_off h
theorem q_offrun {β : Type} {T : List Nat} {v : Int32} {f : Nat → e_I × β → e_I × β} (hT : T.contains f_m_recording = false) (hf : ∀ i a, ¬ a.1 f_m_recording 0 = v → s_eqN T a.1 (f i a).1) (n i : Nat) (a : e_I × β) (h : ¬ a.1 f_m_recording 0 = v) : s_eqN T a.1 (s_run f i n a).1 :=
  s_run_ind (P := fun (a b : e_I × β) => ¬ a.1 f_m_recording 0 = v → s_eqN T a.1 b.1) (fun _ _ => s_eqN.rfl') (fun {x y z} (u : ¬ x.1 f_m_recording 0 = v → s_eqN T x.1 y.1) (w : ¬ y.1 f_m_recording 0 = v → s_eqN T y.1 z.1) h => (u h).trans (w (by rw [u h f_m_recording hT]; exact h))) hf n i a h
theorem q_lf_off {I : e_I} (h : ¬ I f_m_recording 0 = 107) : s_eqN [f_m_isDown, f_m_wentDown] I (q_lf I).1 := q_offrun (v := 107) (by decide) (fun dd a h => q_offrun (v := 107) (by decide) (fun i a h => q_lfK_off h) _ _ a h) 3 0 (I, 0) h
def q_pb1 (nk nr np : Nat) (a : e_I × e_Jt) : e_I × e_Jt := q_st nk nr np (s_fill a.1 f_m_isHeld np 0, a.2)
