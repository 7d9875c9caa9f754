/-! 999994: relations under frames (printed by wip/whole/p999994.py) -/
def v_dj (L T : List Nat) : Bool := L.all (fun F => !T.contains F)
theorem v_dj.o {L T : List Nat} (h : v_dj L T = true) {F : Nat} (hF : L.contains F = true) : T.contains F = false := by
  have h1 := List.all_eq_true.mp h F (List.contains_iff_mem.mp hF)
  simpa using h1
def v_ShC : List Nat := [f_r_lowest, f_r_division, f_r_use, f_r_delay, f_r_rest, f_r_power, f_r_heatNumber]
def v_ShM : List Nat := [f_mr_lowest, f_mr_highest, f_mr_base, f_mr_division, f_mr_wind, f_mr_delay, f_mr_rest, f_mr_power, f_mr_heat, f_m_rankOf]
theorem v_Sh.N {T T' : List Nat} {I I' I1 I1' : e_I} {p : e_Sp} {nr np : Nat} (h : v_Sh p I I' nr np) (e : s_eqN T I I1) (e' : s_eqN T' I' I1') (hT : v_dj v_ShC T = true) (hT' : v_dj v_ShM T' = true) : v_Sh p I1 I1' nr np := by
  unfold v_Sh v_R at h ⊢
  simp only [e f_r_lowest (v_dj.o hT (by decide)), e f_r_division (v_dj.o hT (by decide)), e f_r_use (v_dj.o hT (by decide)), e f_r_delay (v_dj.o hT (by decide)), e f_r_rest (v_dj.o hT (by decide)), e f_r_power (v_dj.o hT (by decide)), e f_r_heatNumber (v_dj.o hT (by decide)), e' f_mr_lowest (v_dj.o hT' (by decide)), e' f_mr_highest (v_dj.o hT' (by decide)), e' f_mr_base (v_dj.o hT' (by decide)), e' f_mr_division (v_dj.o hT' (by decide)), e' f_mr_wind (v_dj.o hT' (by decide)), e' f_mr_delay (v_dj.o hT' (by decide)), e' f_mr_rest (v_dj.o hT' (by decide)), e' f_mr_power (v_dj.o hT' (by decide)), e' f_mr_heat (v_dj.o hT' (by decide)), e' f_m_rankOf (v_dj.o hT' (by decide))]
  exact h
def v_KnC : List Nat := [f_k_kind, f_k_division, f_k_isOut, f_k_relay, f_c_from, f_c_to, f_c_shift, f_c_kind, f_s_stage, f_s_rows, f_s_ranks, f_s_offsets, f_s_firsts, f_s_lasts, f_s_places, f_s_keysAt]
def v_KnM : List Nat := [f_mk_kind, f_mk_division, f_mk_isDrawn, f_mk_relay, f_mk_to, f_mk_shift, f_mk_letter, f_mk_stage, f_mk_rows, f_mk_ranks, f_mk_offsets, f_mk_froms, f_mk_tos, f_mk_wires]
theorem v_Kn.N {T T' : List Nat} {I I' I1 I1' : e_I} {nk : Nat} (h : v_Kn I I' nk) (e : s_eqN T I I1) (e' : s_eqN T' I' I1') (hT : v_dj v_KnC T = true) (hT' : v_dj v_KnM T' = true) : v_Kn I1 I1' nk := by
  unfold v_Kn v_K v_Stp at h ⊢
  simp only [e f_k_kind (v_dj.o hT (by decide)), e f_k_division (v_dj.o hT (by decide)), e f_k_isOut (v_dj.o hT (by decide)), e f_k_relay (v_dj.o hT (by decide)), e f_c_from (v_dj.o hT (by decide)), e f_c_to (v_dj.o hT (by decide)), e f_c_shift (v_dj.o hT (by decide)), e f_c_kind (v_dj.o hT (by decide)), e f_s_stage (v_dj.o hT (by decide)), e f_s_rows (v_dj.o hT (by decide)), e f_s_ranks (v_dj.o hT (by decide)), e f_s_offsets (v_dj.o hT (by decide)), e f_s_firsts (v_dj.o hT (by decide)), e f_s_lasts (v_dj.o hT (by decide)), e f_s_places (v_dj.o hT (by decide)), e f_s_keysAt (v_dj.o hT (by decide)), e' f_mk_kind (v_dj.o hT' (by decide)), e' f_mk_division (v_dj.o hT' (by decide)), e' f_mk_isDrawn (v_dj.o hT' (by decide)), e' f_mk_relay (v_dj.o hT' (by decide)), e' f_mk_to (v_dj.o hT' (by decide)), e' f_mk_shift (v_dj.o hT' (by decide)), e' f_mk_letter (v_dj.o hT' (by decide)), e' f_mk_stage (v_dj.o hT' (by decide)), e' f_mk_rows (v_dj.o hT' (by decide)), e' f_mk_ranks (v_dj.o hT' (by decide)), e' f_mk_offsets (v_dj.o hT' (by decide)), e' f_mk_froms (v_dj.o hT' (by decide)), e' f_mk_tos (v_dj.o hT' (by decide)), e' f_mk_wires (v_dj.o hT' (by decide))]
  exact h
def v_KyC : List Nat := [f_a_pressed, f_a_pressedAt, f_now, f_a_lowest, f_a_highest, f_isTutti, f_crescendo]
def v_KyM : List Nat := [f_m_isDown, f_m_wentDown, f_m_tick, f_m_isTutti, f_m_crescendo]
theorem v_Ky.N {T T' : List Nat} {I I' I1 I1' : e_I} (h : v_Ky I I') (e : s_eqN T I I1) (e' : s_eqN T' I' I1') (hT : v_dj v_KyC T = true) (hT' : v_dj v_KyM T' = true) : v_Ky I1 I1' := by
  unfold v_Ky v_eq q_eg q_egs at h ⊢
  simp only [e f_a_pressed (v_dj.o hT (by decide)), e f_a_pressedAt (v_dj.o hT (by decide)), e f_now (v_dj.o hT (by decide)), e f_a_lowest (v_dj.o hT (by decide)), e f_a_highest (v_dj.o hT (by decide)), e f_isTutti (v_dj.o hT (by decide)), e f_crescendo (v_dj.o hT (by decide)), e' f_m_isDown (v_dj.o hT' (by decide)), e' f_m_wentDown (v_dj.o hT' (by decide)), e' f_m_tick (v_dj.o hT' (by decide)), e' f_m_isTutti (v_dj.o hT' (by decide)), e' f_m_crescendo (v_dj.o hT' (by decide))]
  exact h
/-- how relays are wired -/
def v_Ro (I I' : e_I) : Prop := v_eq 16 f_a_sources f_m_first I I' ∧ v_eq 16 f_a_others f_m_second I I' ∧ ∀ r, r < 16 → I f_a_operations r = v_op (I' f_m_operation r) ∧ (I' f_m_operation r = 45 ∨ I' f_m_operation r = 38 ∨ I' f_m_operation r = 124 ∨ I' f_m_operation r = 94 ∨ I' f_m_operation r = 33)
def v_Rz (I' : e_I) : Prop := ∀ r, r < 16 → I' f_m_operation r = 45 → I' f_m_isRelay r = 0
def v_RoC : List Nat := [f_a_sources, f_a_others, f_a_operations]
def v_RoM : List Nat := [f_m_first, f_m_second, f_m_operation]
theorem v_Ro.N {T T' : List Nat} {I I' I1 I1' : e_I} (h : v_Ro I I') (e : s_eqN T I I1) (e' : s_eqN T' I' I1') (hT : v_dj v_RoC T = true) (hT' : v_dj v_RoM T' = true) : v_Ro I1 I1' := by
  unfold v_Ro v_eq at h ⊢
  simp only [e f_a_sources (v_dj.o hT (by decide)), e f_a_others (v_dj.o hT (by decide)), e f_a_operations (v_dj.o hT (by decide)), e' f_m_first (v_dj.o hT' (by decide)), e' f_m_second (v_dj.o hT' (by decide)), e' f_m_operation (v_dj.o hT' (by decide))]
  exact h
theorem v_rlN {nk : Nat} (I : e_I) : s_eqN [f_m_isRelay] I (q_rel nk I) := s_eqN.run (fun i I => by
  unfold q_rl
  split
  · exact s_eqN.rfl'
  · exact s_eqN.up (by decide)) _ _ _
theorem v_rel' {I I' : e_I} {nk : Nat} (hK : v_Kn I I' nk) (hy : v_Ky I I') (hr : v_eq 16 f_a_relaysOn f_m_isRelay I I') (ho : v_Ro I I') (hz : v_Rz I') (hq : q_S I') : v_eq 16 f_a_relaysOn f_m_isRelay (s_rel I nk 16) (q_rel nk I') := v_rel hK.1.2 hK.out hy.1 hr ho.1 ho.2.1 (fun r hr => ⟨(ho.2.2 r hr).1, by
  rcases (ho.2.2 r hr).2 with e | e | e | e | e
  · exact .inl ⟨e, hz r hr e⟩
  · exact .inr (.inl e)
  · exact .inr (.inr (.inl e))
  · exact .inr (.inr (.inr (.inl e)))
  · exact .inr (.inr (.inr (.inr e)))⟩) hq
theorem v_rlz {I : e_I} {nk : Nat} (h : v_Rz I) : v_Rz (q_rel nk I) := by
  intro r hr h1
  rw [v_rlN I _ (by decide)] at h1
  have key : ∀ n, s_run (q_rl nk) 0 n I f_m_isRelay r = I f_m_isRelay r := by
    intro n
    induction n with
    | zero => rfl
    | succ n ih =>
      rw [s_run_l, Nat.zero_add]
      have hE : s_eqN [f_m_isRelay] I (s_run (q_rl nk) 0 n I) := s_eqN.run (fun i I => by
        unfold q_rl
        split
        · exact s_eqN.rfl'
        · exact s_eqN.up (by decide)) _ _ _
      generalize s_run (q_rl nk) 0 n I = B at *
      unfold q_rl
      by_cases e : r = n
      · subst e; rw [if_pos (by rw [hE _ (by decide)]; exact h1)]; exact ih
      · split
        · exact ih
        · rw [s_up_i e]; exact ih
  exact (key 16).trans (h r hr h1)
/-- what is found is what is counted -/
theorem v_set1 {p : e_Sp} {I I' : e_I} {nk nr np : Nat} (hS : v_Sh p I I' nr np) (hK : v_Kn I I' nk) (hy : v_Ky I I') (hr : v_eq 16 f_a_relaysOn f_m_isRelay I I') (ho : v_Ro I I') (hz : v_Rz I') (hq : q_S I') : v_eq 16 f_a_relaysOn f_m_isRelay (s_set1 p nk nr I) (q_rc nk nr np I') ∧ v_eq np f_p_found f_m_counts (s_set1 p nk nr I) (q_rc nk nr np I') := by
  have hR := v_rel' hK hy hr ho hz hq
  have hE : s_eqN [f_a_relaysOn] I (s_rel I nk 16) := s_eqN.rel 16
  have hE' := v_rlN (nk := nk) I'
  have hS1 := hS.N hE hE' (by decide) (by decide)
  have hK1 := hK.N hE hE' (by decide) (by decide)
  have hy1 := hy.N hE hE' (by decide) (by decide)
  have hrc : ∀ q, q < np → q_rc nk nr np I' f_m_counts q = v_C (q_rel nk I') nk nr q := fun q hq => v_rcC0 hq
  have hrr : ∀ i, q_rc nk nr np I' f_m_isRelay i = q_rel nk I' f_m_isRelay i := by
    intro i
    have h : s_eqN [f_m_counts] (q_rel nk I') (q_rc nk nr np I') := (s_eqN.fill (by decide)).trans (s_eqN.run (fun d I => s_eqN.run (fun n I => v_rcKN) _ _ _) _ _ _)
    rw [h _ (by decide)]
  generalize q_rel nk I' = R' at *
  unfold s_set1
  generalize s_rel I nk 16 = R at *
  have hfg : s_eqN [f_p_found] R (s_fg p nr R) := s_eqN.fg
  have ha : s_any3 (s_fg p nr R) = s_any3 R := by unfold s_any3; simp only [hfg f_a_lowest (by decide)]
  rw [ha]
  by_cases c : s_any3 R = true
  · rw [if_pos c]
    have hfw : s_eqN [f_a_ways] (s_fg p nr R) (s_fw nk (s_fg p nr R)) := s_eqN.fw
    have hF : s_eqN [f_a_ways, f_p_found] R (s_fw nk (s_fg p nr R)) := (hfg.mono (by decide)).trans (hfw.mono (by decide))
    refine ⟨fun i hi => ?_, fun q hq => ?_⟩
    · rw [hrr, s_eqN.fs (p := p) (nk := nk) (nr := nr) _ (by decide), hF _ (by decide)]
      exact hR i hi
    · have ew : ∀ x key, s_arC (s_fw nk (s_fg p nr R)) x key = if s_isk x (nI key) then v_W R nk (s_kn x (nI key)) else 0 := by
        intro x key
        unfold s_arC
        by_cases c1 : s_isk x (nI key)
        · rw [if_pos c1, if_pos c1, v_fw c1.lt]
          unfold v_W
          rw [v_A.N hfg (by decide), hfg f_c_to (by decide), hfg f_c_shift (by decide)]
        · rw [if_neg c1, if_neg c1]
      rw [v_fs (fun x key h => by
        rw [ew] at h ⊢
        by_cases c1 : s_isk x (nI key)
        · rw [if_pos c1] at h ⊢
          exact v_W_nn hK.1.2 h
        · rw [if_neg c1]), hrc q hq, ← v_AC hK1 hR hy1, ← v_ex hS1 hK1 hR hy1, hfw _ (by decide), v_fg hS1 hq, Int32.zero_add]
      refine v_S_congr (fun k hk => ?_)
      rw [v_soN hF (by decide), hF f_k_division (by decide)]
      by_cases c1 : s_so R k = true
      · rw [if_pos c1, if_pos c1]
        obtain ⟨dv, hdv, ed⟩ := (hK1.2 k hk).2.1
        rw [ed]
        refine v_S_congr (fun key hkey => ?_)
        rw [ew, if_pos ((v_isk hdv (by have := v_kcn dv; omega)).mpr hkey)]
        congr 1
        unfold v_Rc
        obtain ⟨e1, e2, e3⟩ := v_pat.N hF (by decide) (p := p) (nr := nr)
        rw [e1, e2, e3, hF f_s_rows (by decide)]
      · rw [if_neg c1, if_neg c1]
  · rw [if_neg c]
    refine ⟨fun i hi => ?_, fun q hq => ?_⟩
    · rw [hrr, hfg _ (by decide)]; exact hR i hi
    · rw [hrc q hq, v_fg hS1 hq, v_noK hy1 (by simpa using c)]
