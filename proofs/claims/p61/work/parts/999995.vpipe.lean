/-! 999995: each pipe by itself -/
/-- nothing of T changes but at q -/
def v_at (T : List Nat) (q : Nat) (I I' : e_I) : Prop := ∀ F i, T.contains F = true → i ≠ q → I' F i = I F i
theorem v_at.rfl' {T : List Nat} {q : Nat} {I : e_I} : v_at T q I I := fun _ _ _ _ => rfl
theorem v_at.trans {T : List Nat} {q : Nat} {I I' I'' : e_I} (h : v_at T q I I') (h' : v_at T q I' I'') : v_at T q I I'' := fun F i hF hi => (h' F i hF hi).trans (h F i hF hi)
theorem v_at.up {T : List Nat} {q F : Nat} {I : e_I} {x : Int32} : v_at T q I (s_up I F q x) := fun F' i _ hi => s_up_i hi
theorem v_at.N {T L : List Nat} {q : Nat} {I I' : e_I} (h : s_eqN L I I') (hL : v_dj T L = true) : v_at T q I I' := fun F i hF _ => by rw [h F (v_dj.o hL hF)]
theorem v_S_fix {I I' : e_I} {L : List Nat} {F i : Nat} (h : s_eqN L I I') (hF : L.contains F = false) : I' F i = I F i := by rw [h F hF]
/-- the pallet -/
def v_mo (w o ch cl now dl rs : Int32) : Int32 := if w = o ∨ now - ch < dl then o else if o ≠ 0 then 0 else if rs ≤ now - cl then 1 else o
def v_mc (w o ch cl now dl : Int32) : Int32 := if w = o ∨ now - ch < dl then cl else if o ≠ 0 then now else cl
theorem v_mp {I : e_I} {j : Nat} {now dl rs : Int32} : s_mp I j now dl rs f_p_isOpened j = v_mo (I f_p_isWanted j) (I f_p_isOpened j) (I f_p_changedAt j) (I f_p_closedAt j) now dl rs ∧ s_mp I j now dl rs f_p_closedAt j = v_mc (I f_p_isWanted j) (I f_p_isOpened j) (I f_p_changedAt j) (I f_p_closedAt j) now dl := by
  unfold s_mp v_mo v_mc
  by_cases c1 : I f_p_isWanted j = I f_p_isOpened j ∨ now - I f_p_changedAt j < dl
  · simp only [if_pos c1]; exact ⟨trivial, trivial⟩
  · simp only [if_neg c1]
    by_cases c2 : I f_p_isOpened j ≠ 0
    · simp only [if_pos c2]
      exact ⟨by rw [s_up_F (by decide), s_up_s], s_up_s⟩
    · simp only [if_neg c2]
      by_cases c3 : rs ≤ now - I f_p_closedAt j
      · simp only [if_pos c3]; exact ⟨s_up_s, s_up_F (by decide)⟩
      · simp only [if_neg c3]; exact ⟨trivial, trivial⟩
theorem v_mpA {T : List Nat} {I : e_I} {j : Nat} {now dl rs : Int32} : v_at T j I (s_mp I j now dl rs) := by
  unfold s_mp
  split
  · exact v_at.rfl'
  · split
    · exact v_at.up.trans v_at.up
    · split
      · exact v_at.up
      · exact v_at.rfl'
abbrev v_pT : List Nat := [f_p_isWanted, f_p_changedAt, f_p_isOpened, f_p_closedAt]
abbrev v_pA : List Nat := [f_entries, f_tsize, f_isWaiting, f_a_uses]
theorem v_mvAa {r j n : Nat} {b : Bool} {I : e_I} : v_at v_pT j I (s_mvA r j n b I) := by
  unfold s_mvA
  split
  · exact v_at.rfl'
  · exact (v_at.up.trans v_at.up).trans (v_at.N s_eqN.kp (by decide))
theorem v_mvAv {r j n : Nat} {b : Bool} {I : e_I} : s_mvA r j n b I f_p_isWanted j = bI b ∧ s_mvA r j n b I f_p_changedAt j = (if I f_p_isWanted j = bI b then I f_p_changedAt j else I f_now 0) := by
  unfold s_mvA
  by_cases c : I f_p_isWanted j = bI b
  · rw [if_pos c, if_pos c]; exact ⟨c, rfl⟩
  · rw [if_neg c, if_neg c]
    constructor
    · rw [v_S_fix s_eqN.kp (by decide), s_up_F (by decide), s_up_s]
    · rw [v_S_fix s_eqN.kp (by decide), s_up_s, s_up_F (by decide)]
theorem v_mv3a {r j : Nat} {b : Bool} {I : e_I} : v_at v_pT j I (s_mv3 r j b I) := (v_mpA.trans (v_at.N (s_eqN.up (T := [f_isWaiting]) (by decide)) (by decide))).trans (v_at.N (s_eqN.up (T := [f_a_uses]) (by decide)) (by decide))
/-- one pipe, with its rank r -/
def v_G (rk : Nat → Nat) (bs : Nat → Nat) (q : Nat) (I : e_I) : e_I := s_mv3 (rk q) q (decide (0 < s_ar I q)) (s_mvA (rk q) q (q - bs (rk q)) (decide (0 < s_ar I q)) I)
theorem v_GN {rk bs : Nat → Nat} (q : Nat) (I : e_I) : s_eqN (v_pT ++ v_pA) I (v_G rk bs q I) := (s_eqN.mvA.mono (by decide)).trans (s_eqN.mv3.mono (by decide))
theorem v_Ga {rk bs : Nat → Nat} {q : Nat} {I : e_I} : v_at v_pT q I (v_G rk bs q I) := v_mvAa.trans v_mv3a
/-- what one pipe becomes -/
def v_pw (I : e_I) (q : Nat) : Bool := decide (0 < s_ar I q)
def v_pc (I : e_I) (q : Nat) : Int32 := if I f_p_isWanted q = bI (v_pw I q) then I f_p_changedAt q else I f_now 0
def v_pv (rk : Nat → Nat) (I : e_I) (F q : Nat) : Int32 := if F = f_p_isWanted then bI (v_pw I q) else if F = f_p_changedAt then v_pc I q else if F = f_p_isOpened then v_mo (bI (v_pw I q)) (I f_p_isOpened q) (v_pc I q) (I f_p_closedAt q) (I f_now 0) (I f_r_delay (rk q)) (I f_r_rest (rk q)) else v_mc (bI (v_pw I q)) (I f_p_isOpened q) (v_pc I q) (I f_p_closedAt q) (I f_now 0) (I f_r_delay (rk q))
theorem v_Gv {rk bs : Nat → Nat} {q : Nat} {I : e_I} : ∀ F, v_pT.contains F = true → v_G rk bs q I F q = v_pv rk I F q := by
  have hA : s_eqN [f_p_isWanted, f_p_changedAt, f_entries, f_tsize] I (s_mvA (rk q) q (q - bs (rk q)) (v_pw I q) I) := s_eqN.mvA
  have hv := v_mvAv (r := rk q) (j := q) (n := q - bs (rk q)) (b := v_pw I q) (I := I)
  intro F hF
  show s_mv3 (rk q) q (v_pw I q) (s_mvA (rk q) q (q - bs (rk q)) (v_pw I q) I) F q = _
  generalize s_mvA (rk q) q (q - bs (rk q)) (v_pw I q) I = A at *
  have e1 : ∀ F, v_pT.contains F = true → s_mv3 (rk q) q (v_pw I q) A F q = s_mp A q (A f_now 0) (A f_r_delay (rk q)) (A f_r_rest (rk q)) F q := by
    intro F hF
    have h : s_eqN [f_isWaiting, f_a_uses] (s_mp A q (A f_now 0) (A f_r_delay (rk q)) (A f_r_rest (rk q))) (s_mv3 (rk q) q (v_pw I q) A) := (s_eqN.up (by decide)).trans (s_eqN.up (by decide))
    rw [h F (v_dj.o (show v_dj v_pT [f_isWaiting, f_a_uses] = true by decide) hF)]
  rw [e1 F hF]
  have hmp : s_eqN [f_p_isOpened, f_p_closedAt] A (s_mp A q (A f_now 0) (A f_r_delay (rk q)) (A f_r_rest (rk q))) := s_eqN.mp
  have hmv := v_mp (I := A) (j := q) (now := A f_now 0) (dl := A f_r_delay (rk q)) (rs := A f_r_rest (rk q))
  have hF' : F = f_p_isWanted ∨ F = f_p_changedAt ∨ F = f_p_isOpened ∨ F = f_p_closedAt := by simpa using hF
  unfold v_pv v_pc
  rcases hF' with e | e | e | e
  · rw [e, if_pos rfl, hmp _ (by decide)]; exact hv.1
  · rw [e, if_neg (by decide), if_pos rfl, hmp _ (by decide)]; exact hv.2
  · rw [e, if_neg (by decide), if_neg (by decide), if_pos rfl, hmv.1, hv.1, hv.2, hA _ (by decide), hA _ (by decide), hA _ (by decide), hA _ (by decide), hA _ (by decide)]
  · rw [e, if_neg (by decide), if_neg (by decide), if_neg (by decide), hmv.2, hv.1, hv.2, hA _ (by decide), hA _ (by decide), hA _ (by decide), hA _ (by decide)]
theorem v_arE {I I' : e_I} {q : Nat} (h1 : I' f_p_found q = I f_p_found q) (h2 : I' f_p_isHeld q = I f_p_isHeld q) : s_ar I' q = s_ar I q := by unfold s_ar; rw [h1, h2]
theorem v_pvE {rk : Nat → Nat} {I I' : e_I} {q : Nat} (h : s_eqN (v_pT ++ v_pA) I I') (h2 : ∀ F, v_pT.contains F = true → I' F q = I F q) (F : Nat) : v_pv rk I' F q = v_pv rk I F q := by
  have e : v_pw I' q = v_pw I q := by unfold v_pw; rw [v_arE (v_S_fix h (by decide)) (v_S_fix h (by decide))]
  have e2 : v_pc I' q = v_pc I q := by unfold v_pc; rw [e, h2 _ (by decide), h2 _ (by decide), v_S_fix h (by decide)]
  unfold v_pv
  rw [e, e2, h2 f_p_isOpened (by decide), h2 f_p_closedAt (by decide), v_S_fix h (show _ = false by decide), v_S_fix h (F := f_r_delay) (by decide), v_S_fix h (F := f_r_rest) (by decide)]
theorem v_Gr {rk bs : Nat → Nat} {I : e_I} (n : Nat) (F i : Nat) (hF : v_pT.contains F = true) : s_run (v_G rk bs) 0 n I F i = if i < n then v_pv rk I F i else I F i := v_loc (T := v_pT) (A := v_pA) (m := n) (fun q I => v_GN q I) (fun q I F i hF hi => v_Ga F i hF hi) (fun q I1 _ h h2 F hF => by rw [v_Gv F hF, v_pvE h h2]) n (Nat.le_refl _) F i hF
/-- the class' run, in its flat order -/
theorem v_mvF {p : e_Sp} {I I' : e_I} {nr np : Nat} (h : v_Sh p I I' nr np) : s_mv p.2.2.2.2 (p.2.2.1 T_PARR) nr I = s_run (v_G (q_rk I') p.2.2.2.2) 0 np (s_fill (s_up I f_isWaiting 0 0) f_a_uses 3 0) := by
  refine v_flatP (P := fun _ => True) h (gP := fun r n I => s_mvP (p.2.2.2.2 r) r n I) (G := v_G (q_rk I') p.2.2.2.2) (fun r n a hr hn _ => ?_) (fun _ _ _ => True.intro) True.intro
  unfold v_G
  rw [h.rk hr hn, Nat.add_sub_cancel_left]
  rfl
