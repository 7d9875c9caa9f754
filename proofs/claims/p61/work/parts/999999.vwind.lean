/-! 999999: winds alike -/
theorem v_sumI {f : Nat → Int32 → Int32} {g : Nat → Int32} (h : ∀ i u, f i u = u + g i) (u : Int32) : ∀ n, s_run f 0 n u = u + v_S n g := by
  intro n
  induction n with
  | zero => exact (Int32.add_zero _).symm
  | succ n ih =>
    rw [s_run_l, Nat.zero_add, h, ih, Int32.add_assoc]
    rfl
abbrev v_dvq (M : e_I) (q d : Nat) : Prop := M f_mr_division (q_rk M q) = nI d
/-- what the pipes use -/
theorem v_use {p : e_Sp} {S M S' M' : e_I} {nr np d : Nat} (hS : v_Sh p S M nr np) (hd : d < 3) (h0 : S f_a_uses d = 0) (hS' : S' = s_run (v_G (q_rk M) p.2.2.2.2) 0 np S) (hp : v_Pp np S' M') (hM : s_eqN (q_bT ++ v_qA ++ v_oT) M M') : S' f_a_uses d = s_run (q_us M' d) 0 np 0 := by
  rw [v_sumI (f := q_us M' d) (g := fun q => if q_bl M' q = true ∧ v_dvq M' q d then M' f_mr_wind (q_rk M' q) else 0) (fun q u => rfl), hS', v_Guse, h0]
  congr 1
  refine v_S_congr (fun q hq => ?_)
  obtain ⟨r, j, hr, hj, e, erk⟩ := hS.ex hq
  obtain ⟨lo, dv, -, -, hdv, -, -, -, -, g1, g2, ⟨g3, -⟩, -⟩ := hS.2.2 r hr
  have e1 : q_rk M' q = r := by rw [← erk]; unfold q_rk; rw [hM _ (by decide)]
  have ho : v_pv (q_rk M) S f_p_isOpened q = M' f_m_isOpen q := by
    have := (hp q hq).2.2.2.1.1
    rw [hS', v_Gr np f_p_isOpened q (by decide), if_pos hq] at this
    exact this
  have hE : s_eqN (v_pT ++ v_pA) S S' := by rw [hS']; exact s_eqN.run v_GN _ _ _
  have hf : S f_p_fault q = M' f_m_fault q := by
    have := (hp q hq).2.2.2.2.2
    rw [hE _ (by decide)] at this
    exact this
  have ed : v_dvq M' q d ↔ dv = d := by
    unfold v_dvq
    rw [e1, hM f_mr_division (by decide), g2, nI_eq (by omega) (by omega)]
  have ew : M' f_mr_wind (q_rk M' q) = M f_mr_wind r := by rw [e1, hM f_mr_wind (by decide)]
  rw [ew, v_bl_eq hf ho, erk, g1, nI_clamp (by omega), g3]
  by_cases c : dv = d
  · by_cases c2 : q_bl M' q = true
    · rw [if_pos ⟨c, c2⟩, if_pos ⟨c2, ed.mpr c⟩]
    · rw [if_neg (fun z => c2 z.2), if_neg (fun z => c2 z.1)]
  · rw [if_neg (fun z => c z.1), if_neg (fun z => c (ed.mp z.2))]
/-- winds -/
theorem v_ex_congr {n : Nat} {f g : Nat → Bool} (h : ∀ i, i < n → f i = g i) : s_ex n f = s_ex n g := by
  induction n with
  | zero => rfl
  | succ n ih =>
    show (s_ex n f || f n) = (s_ex n g || g n)
    rw [ih (fun i hi => h i (by omega)), h n (by omega)]
theorem v_trm {I I' : e_I} {nk : Nat} {x : Int32} (hK : v_Kn I I' nk) (hr : v_eq 16 f_a_relaysOn f_m_isRelay I I') : s_trm I nk x = s_ex nk (q_trf I' x) := v_ex_congr (fun k hk => by
  unfold q_trf
  rw [v_ct hK hr hk, (hK.2 k hk).1.1, (hK.2 k hk).1.2.1])
theorem v_wd1 {I I' : e_I} {nk np d : Nat} (hK : v_Kn I I' nk) (hr : v_eq 16 f_a_relaysOn f_m_isRelay I I') (hn : I f_now 0 = I' f_m_tick 0) (hs : I f_a_supplies d = I' f_m_supply d) (hu : I f_a_uses d = s_run (q_us I' d) 0 np 0) : s_max 0 (if 2 ≤ I f_now 0 - I f_now 0 / 4 * 4 ∧ s_trm I nk (nI d) = true then s_wd0 I d + Int32.ofInt (-10) else s_wd0 I d) = q_wd I' nk d (s_run (q_us I' d) 0 np 0) := by
  unfold q_wd s_wd0 q_tr
  rw [v_trm hK hr, hn, hs, hu]
  generalize (100 : Int32) - (s_max 0 (s_run (q_us I' d) 0 np 0 - I' f_m_supply d) + 1) / 2 = u
  generalize I' f_m_tick 0 - I' f_m_tick 0 / 4 * 4 = v
  have e : (2 : Int32) ≤ v ↔ 1 < v := by constructor <;> intro h <;> grind
  by_cases c : s_ex nk (q_trf I' (nI d)) = true
  · by_cases c2 : (1 : Int32) < v
    · rw [if_pos ⟨e.mpr c2, c⟩, c, decide_eq_true c2]
      show s_max 0 (u + Int32.ofInt (-10)) = s_max 0 (u - 10)
      rw [Int32.sub_eq_add_neg, show -(10 : Int32) = Int32.ofInt (-10) by decide]
    · rw [if_neg (fun z => c2 (e.mp z.1)), decide_eq_false c2, Bool.and_false]
      show s_max 0 u = s_max 0 (u - 0)
      rw [Int32.sub_zero]
  · rw [if_neg (fun z => c z.2), show s_ex nk (q_trf I' (nI d)) = false by simpa using c, Bool.false_and]
    show s_max 0 u = s_max 0 (u - 0)
    rw [Int32.sub_zero]
def v_wv (I : e_I) (nk d : Nat) : Int32 := s_max 0 (if 2 ≤ I f_now 0 - I f_now 0 / 4 * 4 ∧ s_trm I nk (nI d) = true then s_wd0 I d + Int32.ofInt (-10) else s_wd0 I d)
theorem v_wvN {I I' : e_I} {nk : Nat} (h : s_eqN [f_a_winds] I I') : v_wv I' nk = v_wv I nk := by
  funext d
  unfold v_wv s_trm s_wd0 s_dr s_ro
  simp only [h f_now (by decide), h f_k_kind (by decide), h f_k_division (by decide), h f_k_isOut (by decide), h f_k_relay (by decide), h f_a_relaysOn (by decide), h f_a_uses (by decide), h f_a_supplies (by decide)]
theorem v_wds {I : e_I} {nk d : Nat} (hd : d < 3) : s_wds nk I f_a_winds d = v_wv I nk d := by
  have := v_loc (f := s_wd nk) (T := [f_a_winds]) (A := []) (m := 3) (I0 := I) (v := fun _ d => v_wv I nk d) (fun q I => s_eqN.up (by decide)) (fun q I F i hF hi => s_up_i hi) (fun q I1 _ h _ F hF => by
    have e : F = f_a_winds := by simpa using hF
    rw [e]
    show s_up I1 f_a_winds q (v_wv I1 nk q) f_a_winds q = _
    rw [s_up_s, v_wvN h]) 3 (Nat.le_refl _) f_a_winds d (by decide)
  rw [if_pos hd] at this
  exact this
def v_qv (I : e_I) (nk np d : Nat) : Int32 := q_wd I nk d (s_run (q_us I d) 0 np 0)
theorem v_qvN {I I' : e_I} {nk np : Nat} (h : s_eqN [f_m_winds] I I') : v_qv I' nk np = v_qv I nk np := by
  funext d
  have e : q_us I' d = q_us I d := by
    funext q u
    unfold q_us q_bl q_rk
    simp only [h f_m_fault (by decide), h f_m_isOpen (by decide), h f_m_rankOf (by decide), h f_mr_division (by decide), h f_mr_wind (by decide)]
  unfold v_qv q_wd q_tr q_trf q_ct
  simp only [e, h f_m_tick (by decide), h f_mk_kind (by decide), h f_mk_division (by decide), h f_mk_isDrawn (by decide), h f_mk_relay (by decide), h f_m_isRelay (by decide), h f_m_supply (by decide)]
theorem v_bws {I : e_I} {nk np d : Nat} (hd : d < 3) : q_bws nk np I f_m_winds d = v_qv I nk np d := by
  have := v_loc (f := q_bw nk np) (T := [f_m_winds]) (A := []) (m := 3) (I0 := I) (v := fun _ d => v_qv I nk np d) (fun q I => s_eqN.up (by decide)) (fun q I F i hF hi => s_up_i hi) (fun q I1 _ h _ F hF => by
    have e : F = f_m_winds := by simpa using hF
    rw [e]
    show s_up I1 f_m_winds q (v_qv I1 nk np q) f_m_winds q = _
    rw [s_up_s, v_qvN h]) 3 (Nat.le_refl _) f_m_winds d (by decide)
  rw [if_pos hd] at this
  exact this
theorem v_winds {I I' : e_I} {nk np : Nat} (hK : v_Kn I I' nk) (hr : v_eq 16 f_a_relaysOn f_m_isRelay I I') (hn : I f_now 0 = I' f_m_tick 0) (hs : v_eq 3 f_a_supplies f_m_supply I I') (hu : ∀ d, d < 3 → I f_a_uses d = s_run (q_us I' d) 0 np 0) : v_eq 3 f_a_winds f_m_winds (s_wds nk I) (q_bws nk np I') := fun d hd => by
  rw [v_wds hd, v_bws hd]
  exact v_wd1 hK hr hn (hs d hd) (hu d hd)
