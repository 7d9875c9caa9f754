/-! 9999999999999997q: the start -/
abbrev K_L_law : e_KT := (21, false, cL_law, 7, [])
def l_p0 : e_Sp := (fun t _ => if t = T_LARR then e_xb + 8 else 0, fun _ _ => false, fun _ _ => 0, fun _ => (0, 0), fun _ => 0)
/-- what only the ghost has may differ -/
def z_R (A B : e_I) : Prop := ∀ F i, F < 78 ∨ (F < 80 ∧ i < 2) → B F i = A F i
theorem z_R.rfl' {A : e_I} : z_R A A := fun _ _ _ => rfl
theorem z_R.trans {A B C : e_I} (h : z_R A B) (k : z_R B C) : z_R A C := fun F i z => (k F i z).trans (h F i z)
theorem z_R.up {A : e_I} {F i : Nat} {x : Int32} (h : 80 ≤ F ∨ (78 ≤ F ∧ 2 ≤ i)) : z_R A (s_up A F i x) := fun F' i' z => by
  unfold s_up
  refine if_neg (fun e => ?_)
  have e1 := e.1
  have e2 := e.2
  omega
theorem z_R.z {A : e_I} {F i n : Nat} (h : 80 ≤ F) : z_R A (s_z A F i n) := fun F' i' z => by
  unfold s_z
  refine if_neg (fun e => ?_)
  have e1 := e.1
  omega
theorem z_R.fill {A : e_I} {F n : Nat} {x : Int32} (h : 80 ≤ F) : z_R A (s_fill A F n x) := fun F' i' z => s_fill_F (by omega)
theorem z_R.mw {A : e_I} {j n : Nat} : z_R A (q_mw A j n) := fun F i z => by
  rw [q_mw_F]
  rw [Bool.eq_false_iff]
  intro w
  have := List.contains_iff_mem.mp w
  simp only [List.mem_cons, List.not_mem_nil, or_false] at this
  have h80 : 80 ≤ F := by rcases this with e | e | e | e | e <;> rw [e] <;> decide
  omega
theorem z_R.ad {A : e_I} {l n : Nat} (h : 2 ≤ l) : z_R A (s_adI A l n) := by
  unfold s_adI
  exact (z_R.up (F := f_l_modCount) (.inr ⟨by decide, h⟩)).trans (z_R.up (F := f_l_size) (.inr ⟨by decide, h⟩))
theorem z_R.il {A : e_I} {l : Nat} {x y : Int32} (h : 2 ≤ l) : z_R A (s_ILIST A l x y) := by
  unfold s_ILIST
  exact (z_R.up (F := f_l_modCount) (.inr ⟨by decide, h⟩)).trans (z_R.up (F := f_l_size) (.inr ⟨by decide, h⟩))
theorem z_R.uk {A : e_I} : ∀ n, z_R A (q_uk n A) := by
  intro n
  induction n with
  | zero => exact z_R.rfl'
  | succ n ih =>
    refine ih.trans ?_
    show z_R (q_uk n A) (q_ukS n (q_uk n A))
    unfold q_ukS
    refine z_R.trans ?_ (z_R.ad (by decide))
    unfold q_nk s_IMKNOB
    refine (z_R.mw (j := n) (n := 61)).trans ?_
    repeat (first | exact z_R.rfl' | refine z_R.trans ?_ (z_R.up (.inl (by decide))))
theorem z_R.ul {A : e_I} : ∀ n, z_R A (q_ul n A) := by
  intro n
  induction n with
  | zero => exact z_R.rfl'
  | succ n ih =>
    refine ih.trans ?_
    show z_R (q_ul n A) (q_ulS n (q_ul n A))
    unfold q_ulS
    exact (z_R.il (l := 8 + n) (by omega)).trans (z_R.ad (by decide))
theorem z_R.ug {A : e_I} {l : Nat} (hl : 2 ≤ l) : ∀ n, z_R A (q_ug l n A) := by
  intro n
  induction n with
  | zero => exact z_R.rfl'
  | succ n ih =>
    refine ih.trans ?_
    show z_R (q_ug l n A) (q_ugS l n (q_ug l n A))
    unfold q_ugS s_IMKEEP
    exact (z_R.up (.inl (by decide))).trans (z_R.ad hl)
theorem z_W : z_R (s_iH v_o) v_Wi := by
  unfold v_Wi v_Wi0 q_mI q_mI0
  generalize s_iH v_o = A
  have h1 : z_R A (q_iA A) := by
    unfold q_iA
    repeat (first | exact z_R.rfl' | refine z_R.trans ?_ (z_R.il (by decide)))
  have h2 : z_R (q_iA A) (q_iB (q_iA A)) := by
    generalize q_iA A = B
    unfold q_iB
    repeat (first | exact z_R.rfl' | refine z_R.trans ?_ (z_R.z (by decide)))
  have h3 : z_R (q_iB (q_iA A)) (q_iC (q_iB (q_iA A))) := by
    generalize q_iB (q_iA A) = B
    unfold q_iC
    repeat (first | exact z_R.rfl' | refine z_R.trans ?_ (z_R.z (by decide)) | refine z_R.trans ?_ (z_R.up (.inl (by decide))))
  have h4 := (h1.trans h2).trans h3
  generalize q_iC (q_iB (q_iA A)) = B at h4
  have h5 := ((h4.trans (z_R.uk 3)).trans (z_R.ul 4)).trans (z_R.ug (l := 6) (by decide) 32)
  have h6 := h5.trans (z_R.ug (l := 7) (by decide) 48)
  generalize q_ug 7 48 (q_ug 6 32 (q_ul 4 (q_uk 3 B))) = C at h6
  refine h6.trans ?_
  unfold s_IMODEL
  repeat (first | exact z_R.rfl' | refine z_R.trans ?_ (z_R.up (.inl (by decide))) | refine z_R.trans ?_ (z_R.fill (by decide)))
def z_RJ (A B : e_Jt) : Prop := ∀ F i, F < 5 → B F i = A F i
theorem z_RJ.up {A : e_Jt} {F i : Nat} {x : Int64} (h : 5 ≤ F) : z_RJ A (s_up A F i x) := fun F' i' z => by
  unfold s_up
  refine if_neg (fun e => ?_)
  have e1 := e.1
  omega
theorem z_RJ.trans {A B C : e_Jt} (h : z_RJ A B) (k : z_RJ B C) : z_RJ A C := fun F i z => (k F i z).trans (h F i z)
theorem z_RJ.ug {A : e_Jt} {l : Nat} : ∀ n, z_RJ A (q_ugJ l n A) := by
  intro n
  induction n with
  | zero => exact fun _ _ _ => rfl
  | succ n ih =>
    refine ih.trans ?_
    show z_RJ (q_ugJ l n A) (s_JMKEEP (q_ugJ l n A) (e_elI l n) 0 0)
    unfold s_JMKEEP
    exact (z_RJ.up (F := j_mg_knobs) (by decide)).trans (z_RJ.up (F := j_mg_drawn) (by decide))
theorem z_WJ : z_RJ (s_jH v_oJ) v_Wj := by
  unfold v_Wj q_mJ
  generalize s_jH v_oJ = A
  have h := (z_RJ.ug (A := A) (l := 6) 32).trans (z_RJ.ug (l := 7) 48)
  generalize q_ugJ 7 48 (q_ugJ 6 32 A) = C at h
  unfold s_JMODEL
  exact h.trans ((z_RJ.up (F := j_m_ended) (by decide)).trans (z_RJ.up (F := j_m_allBegun) (by decide)))
/-- places that nothing has yet -/
def z_nw (p : e_Sp) (nk nr np : Nat) : Prop := (∀ t, t ∈ s_kT → ∀ k, nk ≤ k → p.2.1 t k = false) ∧ (∀ r, nr ≤ r → p.2.1 T_RANK r = false ∧ p.2.1 T_PARR r = false) ∧ ∀ i, np ≤ i → p.2.1 T_PIPE i = false
/-- what stands so far of what the law makes -/
def z_F0 (p : e_Sp) (nk nr : Nat) (I : e_I) : Prop :=
  ((∀ r, r < nr → ∃ lo dl rs pw, I f_r_lowest r = nI lo ∧ I f_r_delay r = nI dl ∧ I f_r_rest r = nI rs ∧ I f_r_power r = nI pw ∧ (36 ≤ lo ∧ lo ≤ 44 ∧ 49 ≤ lo + p.2.2.1 T_PARR r ∧ lo + p.2.2.1 T_PARR r ≤ 78) ∧ dl ≤ 2 ∧ rs ≤ 2 ∧ pw ≤ 90) ∧
  (∀ k, k < nk → (I f_k_kind k = 115 ↔ 3 ≤ k ∧ k < 6)) ∧ (∀ v, v < 4 → I f_a_owners v = -1) ∧ (∀ d, d < 3 → ∃ o, o ≤ 10 ∧ I f_a_openings d = nI o) ∧ (∀ i, i < 12 → I f_a_temperings i = 0) ∧ I f_heat 0 = 0) ∧
  (∀ r, r < nr → ∀ i, i < p.2.2.1 T_PARR r → I f_p_fault (p.2.2.2.2 r + i) = 45 ∨ I f_p_fault (p.2.2.2.2 r + i) = 99 ∨ I f_p_fault (p.2.2.2.2 r + i) = 100) ∧ I f_crescendo 0 = 0 ∧ ∀ k, k < 9 → ∃ s, s ≤ 9 ∧ I f_s_stage k = nI s
def z_S (T nk nr np : Nat) (p : e_Sp) (I : e_I) (J : e_Jt) (c : Nat × Nat) : Prop := ∃ n t s m I' J', (s_D p I nk nr ∧ v_Wd nk I ∧ (∃ a b, s_Tp p I c a b ∧ a ≤ 1000 + 400 * T ∧ b ≤ 40000 + 2500 * T) ∧ (T ≤ 100 ∧ np ≤ 42 * nr ∧ nr ≤ 3 ∧ 3 ≤ nk) ∧ v_Sim p nk nr np n t s m T (I, J) (I', J') ∧ (∃ K, K ≤ 600000 * T ∧ z_GI K np (I', J')) ∧ n ≤ 600 * T ∧ m ≤ 100040 * T) ∧ (v_Fr np I' ∧ s_La p I 0 nr ∧ s_La p I 1 nk ∧ z_nw p nk nr np) ∧ z_F0 p nk nr I
set_option maxRecDepth 100000 in
theorem w_wd : v_Wd 3 v_Wi := by
  unfold v_Wd
  decide +kernel
set_option maxRecDepth 100000 in
theorem w_mr : ∀ r, r < 3 → v_Wi f_mr_heat r = 0 ∧ v_Wi f_mr_wind r = 0 := by decide +kernel
set_option maxRecDepth 100000 in
theorem w_st : ∀ r, r < 9 → v_Wi f_s_stage r = 0 := by decide +kernel
theorem w_ents (k : Nat) : v_Wi f_entries k = 0 := v_al.W (P := fun x => x = 0) (F := f_entries) (by decide) rfl (fun z => absurd z (by decide)) (fun z => absurd z (by decide)) k
theorem z_FI80 : ((List.range e_NI).all fun F => decide (F < 80) || (!s_KH.contains (e_FI F).1 && (decide ((e_FI F).1 ≠ T_LIST) && (decide ((e_FI F).1 ≠ T_LARR) && decide ((e_FI F).1 ≠ T_HALL))))) = true := by decide +kernel
theorem z_FJ5 : ((List.range e_NJ).all fun F => decide (F < 5) || (!s_KH.contains (e_FJ F).1 && (decide ((e_FJ F).1 ≠ T_LIST) && (decide ((e_FJ F).1 ≠ T_LARR) && decide ((e_FJ F).1 ≠ T_HALL))))) = true := by decide +kernel
set_option maxRecDepth 100000 in
theorem z_S0 {p1 : e_Sp} {a1 : Nat} {c : Nat × Nat} (hx1 : s_xv (s_NT s_KH [0, 1]) l_p0 p1) (u1 : s_vl s_V3 p1) (u2 : p1.2.1 T_LIST 0 = true) (u3 : p1.1 T_LARR 0 = e_xb + 8) (u4 : s_La p1 (s_iH v_o) 1 3) (u5 : ∀ k, p1.2.1 T_KNOB k = decide (k < 3)) (u6 : ∀ k, p1.2.1 T_COUP k = decide (k < 3)) (u7 : p1.2.2.1 T_ENTR 0 = 256) (u8 : ∀ t, t ∈ [T_CONS, T_TAPE, T_WORKS] → ∀ j, p1.2.1 t j = true → j = 0) (hc1 : c.1 ≤ 1000) (hc2 : c.2 ≤ 40000) : z_S 0 3 0 0 (s_pv p1 T_HALL 0 a1 0) v_Wi v_Wj c := by
  have hv : ∀ t i, t ≠ T_HALL → (s_pv p1 T_HALL 0 a1 0).2.1 t i = p1.2.1 t i := fun t i h => s_pv_nv (fun z => h z.1)
  have h0 : ∀ t i, t ≠ T_HALL → s_NT s_KH [0, 1] t i = false → (s_pv p1 T_HALL 0 a1 0).2.1 t i = false := fun t i g1 g2 => (hv t i g1).trans (hx1.1 t i g2).2.1
  have hbase : (s_pv p1 T_HALL 0 a1 0).2.2.2.2 = fun _ => 0 := hx1.2
  have hok : s_ok (s_pv p1 T_HALL 0 a1 0) := by
    refine ⟨fun t ht => ?_, fun l hl => ?_⟩
    · have key : (e_SG.all fun t => decide (t = T_HALL) || (s_V3.contains t && decide (t ≠ T_HALL))) = true := by decide
      have g := List.all_eq_true.mp key t (List.contains_iff_mem.mp ht)
      rcases (Bool.or_eq_true _ _).mp g with g | g
      · rw [of_decide_eq_true g]; exact s_pv_v
      · rw [Bool.and_eq_true] at g
        rw [hv t 0 (of_decide_eq_true g.2)]
        exact u1 t (List.contains_iff_mem.mp g.1)
    · rw [hv _ _ (by decide)]
      rcases (show l = 0 ∨ l = 1 by omega) with z | z <;> rw [z]
      · exact u2
      · exact u4.1
  have z0 : v_Wi f_l_size 0 = nI 0 := (z_W f_l_size 0 (.inr ⟨by decide, by decide⟩)).trans (by decide)
  have z1 : v_Wi f_l_size 1 = nI 3 := (z_W f_l_size 1 (.inr ⟨by decide, by decide⟩)).trans u4.2.1
  have l0 : s_La (s_pv p1 T_HALL 0 a1 0) v_Wi 0 0 := ⟨hok.2 0 (by decide), z0, by decide, .inl ⟨rfl, (s_pv_n (fun z => absurd z.1 (by decide))).trans u3⟩⟩
  have l1 : s_La (s_pv p1 T_HALL 0 a1 0) v_Wi 1 3 := u4.pv (by decide) (z1.trans u4.2.1.symm)
  have hkb : ∀ k, (s_pv p1 T_HALL 0 a1 0).2.1 T_KNOB k = decide (k < 3) := fun k => (hv T_KNOB k (by decide)).trans (u5 k)
  have hcb : ∀ k, (s_pv p1 T_HALL 0 a1 0).2.1 T_COUP k = decide (k < 3) := fun k => (hv T_COUP k (by decide)).trans (u6 k)
  have hst : ∀ k, (s_pv p1 T_HALL 0 a1 0).2.1 T_STOP k = false := fun k => h0 _ _ (by decide) rfl
  have hkn : ∀ k, k < 3 → decide (k < 3) = true := fun k hk => decide_eq_true hk
  have hk3 : ∀ k, k < 3 → ¬ v_Wi f_k_kind k = 115 := fun k hk => by rw [(w_kn k hk).1.1]; decide
  have hD : s_D (s_pv p1 T_HALL 0 a1 0) v_Wi 3 0 := by
    refine ⟨⟨hok, ⟨by decide, z1⟩, ⟨by decide, z0⟩, fun k hk => ⟨(hkb k).trans (hkn k hk), ⟨fun z => (by rw [hst k] at z; cases z), fun z => (by rw [(w_kn k hk).1.1] at z; exact absurd z (by decide))⟩, ⟨fun _ => .inl (w_kn k hk).1.1, fun _ => (hcb k).trans (hkn k hk)⟩, ⟨k, hk, (w_kn k hk).1.2.2.1⟩⟩, fun r hr => absurd hr (Nat.not_lt_zero r)⟩, fun r hr => absurd hr (Nat.not_lt_zero r), ⟨by rw [hbase], fun r hr => absurd hr (Nat.not_lt_zero _)⟩, fun k hk hs => absurd hs (hk3 k hk)⟩
  obtain ⟨o1, o2, o3, o4, o5, o6, o7, o8, o9, o10, o11, o12, o13, o14, o15, o16⟩ := w_one
  have hE : (s_pv p1 T_HALL 0 a1 0).2.2.1 T_ENTR 0 = 256 := (s_pv_nl (fun z => absurd z.1 (by decide))).trans u7
  have hTp : s_Tp (s_pv p1 T_HALL 0 a1 0) v_Wi c c.1 c.2 := by
    refine ⟨fun i hi => u8 T_TAPE (by decide) i (by rw [← hv T_TAPE i (by decide)]; exact hi), ⟨0, by rw [hE], by decide, rfl, by rw [hE], Nat.le_refl _, Nat.le_refl _⟩, ⟨0, o7, Nat.zero_le _⟩, fun i _ _ => w_ents i, by omega, (hv _ _ (by decide)).trans (u1 _ (by decide))⟩
  refine ⟨0, fun _ => 0, 0, 0, v_Wi, v_Wj, ⟨hD, w_wd, ⟨c.1, c.2, hTp, by omega, by omega⟩, ⟨by decide, by decide, by decide, by decide⟩, w_sim (by rw [hbase]) _, ⟨0, by decide, ⟨fun q hq => absurd hq (Nat.not_lt_zero q), fun i hi => ?_, ?_, fun r hr => ?_, fun d hd => ?_⟩, fun _ => 0, fun _ => 0, fun q hq => absurd hq (Nat.not_lt_zero q), w_J.2.1, w_J.2.2, 0, Nat.le_refl _, o2, fun q hq => absurd hq (Nat.not_lt_zero q)⟩, by decide, by decide⟩, ⟨w_fr, l0, l1, ?_, fun r _ => ⟨h0 _ _ (by decide) rfl, h0 _ _ (by decide) rfl⟩, fun i _ => h0 _ _ (by decide) rfl⟩, ⟨fun r hr => absurd hr (Nat.not_lt_zero r), fun k hk => ⟨fun z => absurd z (hk3 k hk), fun z => by omega⟩, fun v hv => (w_mem.1 v hv).1, fun d hd => ⟨10, by decide, (w_3 d hd).2.2.2.1⟩, fun i hi => (w_12 i hi).1, o14⟩, fun r hr => absurd hr (Nat.not_lt_zero r), o5, fun k hk => ⟨0, by decide, w_st k hk⟩⟩
  · show v_in (v_Wi f_m_temper i) (-50) 50
    rw [(w_12 i hi).2]; exact ⟨by decide, by decide⟩
  · show v_in (v_Wi f_m_heat 0) (-20) 20
    rw [o15]; exact ⟨by decide, by decide⟩
  · show v_in (v_Wi f_mr_heat r) (-9) 9 ∧ v_in (v_Wi f_mr_wind r) 0 9
    rw [(w_mr r hr).1, (w_mr r hr).2]; exact ⟨⟨by decide, by decide⟩, ⟨by decide, by decide⟩⟩
  · show v_in (v_Wi f_m_supply d) 0 999
    rw [(w_3 d hd).2.1]; exact ⟨by decide, by decide⟩
  · intro t ht k hk9
    have key : (s_kT.all fun t => decide (t = T_KNOB) || (decide (t = T_COUP) || (!(decide (t = T_HALL)) && !(s_KH.contains t || (decide (t = T_LIST) || decide (t = T_LARR)))))) = true := by decide
    have g := List.all_eq_true.mp key t ht
    rcases (Bool.or_eq_true _ _).mp g with g | g
    · rw [of_decide_eq_true g, hkb k]; exact decide_eq_false (by omega)
    rcases (Bool.or_eq_true _ _).mp g with g | g
    · rw [of_decide_eq_true g, hcb k]; exact decide_eq_false (by omega)
    rw [Bool.and_eq_true, Bool.not_eq_true', Bool.not_eq_true'] at g
    exact h0 t k (of_decide_eq_false g.1) (s_NT.n g.2)
set_option maxRecDepth 100000 in
set_option maxHeartbeats 800000 in
theorem z_start {X : e_XT} {d : Nat} {Q : e_Rt → e_SS → Prop} (hX : (X 8).1 = 0) (k : ∀ ax p c, z_S 0 3 0 0 p v_Wi v_Wj c → p.1 T_HALL 0 = ax → s_w X (d + 14) K_L_law 8 [some (.ref (e_xb + 0)), some (.ref ax), none, none, none, none, none] [] (p, v_Wi, v_Wj, c, fun _ => none) Q) : s_w X (d + 14) K_L_law 0 [some (.ref (e_xb + 0)), none, none, none, none, none, none] [] (l_p0, v_o, v_oJ, (0, 0), fun _ => none) Q := by
  have hxb : e_xb = 4294967296 := rfl
  refine t_new (K := K_L_law) dL_law_0 rfl (show 0 < e_xb by omega) (fun a1 ha1 => ?_)
  refine w_op (K := K_L_law) (pc' := 4) dL_law_3 rfl ?_
  refine t_callI (K := K_L_law) (As := []) (rest := [.ref a1]) dL_law_4 rfl rM_X11_init (by decide) (by decide) rfl rfl rfl (Nat.le_of_ble_eq_true rfl) (c_X11_init (d := d + 4) (fun _ _ _ => rfl) rfl rfl rfl rfl (fun j hj => absurd hj Bool.false_ne_true) hX (by show 0 + 1 + 100 < e_xb; omega) (fun p1 c1 hx1 u1 u2 u3 u4 u5 u6 u7 u8 u9 => ?_))
  refine ⟨rfl, ?_⟩
  have hc1 : c1.1 ≤ 61 := Nat.le_trans u9.1 (by show 0 + 1 + 60 ≤ 61; omega)
  have hc1' : c1.2 ≤ 1700 := Nat.le_trans u9.2 (by show 0 + e_cF 15 + 1600 ≤ 1700; decide)
  refine w_ghost (S' := (s_pv p1 T_HALL 0 a1 0, v_Wi, v_Wj, c1, fun _ => none)) (fun h hs => (hs.pubHALL ((hx1.1 T_HALL 0 rfl).2.1) rfl rfl rfl rfl rfl rfl rfl).gI (fun F m hF hv => ?_) (fun F m hF hv => ?_)) ?_
  · show v_Wi F m = s_iH v_o F m
    have g := List.all_eq_true.mp z_FI80 F (List.mem_range.mpr hF)
    rcases (Bool.or_eq_true _ _).mp g with g | g
    · have g := of_decide_eq_true g
      by_cases h78 : F < 78
      · exact z_W F m (.inl h78)
      · refine z_W F m (.inr ⟨g, ?_⟩)
        have e1 : (e_FI F).1 = T_LIST ∧ (e_FI F).2.2 = 1 := by
          rcases (show F = 78 ∨ F = 79 by omega) with z | z <;> rw [z] <;> decide
        rw [e1.1, e1.2, Nat.div_one] at hv
        rw [s_pv_nv (fun z => absurd z.1 (by decide))] at hv
        apply Decidable.byContradiction
        intro w
        rw [(hx1.1 T_LIST m (by
          unfold s_NT
          have : ([0, 1] : List Nat).contains m = false := by
            rw [Bool.eq_false_iff]
            intro z
            have := List.contains_iff_mem.mp z
            simp at this
            omega
          rw [this]
          rfl)).2.1] at hv
        cases hv
    · rw [Bool.and_eq_true, Bool.and_eq_true, Bool.and_eq_true, Bool.not_eq_true'] at g
      obtain ⟨g1, g2, g3, g4⟩ := g
      rw [s_pv_nv (fun z => (of_decide_eq_true g4) z.1), (hx1.1 _ _ (s_NT.n (by rw [g1, decide_eq_false (of_decide_eq_true g2), decide_eq_false (of_decide_eq_true g3)]; rfl))).2.1] at hv
      cases hv
  · show v_Wj F m = s_jH v_oJ F m
    have g := List.all_eq_true.mp z_FJ5 F (List.mem_range.mpr hF)
    rcases (Bool.or_eq_true _ _).mp g with g | g
    · exact z_WJ F m (of_decide_eq_true g)
    · rw [Bool.and_eq_true, Bool.and_eq_true, Bool.and_eq_true, Bool.not_eq_true'] at g
      obtain ⟨g1, g2, g3, g4⟩ := g
      rw [s_pv_nv (fun z => (of_decide_eq_true g4) z.1), (hx1.1 _ _ (s_NT.n (by rw [g1, decide_eq_false (of_decide_eq_true g2), decide_eq_false (of_decide_eq_true g3)]; rfl))).2.1] at hv
      cases hv
  refine w_op (K := K_L_law) (pc' := 8) (ll' := [some (.ref (e_xb + 0)), some (.ref a1), none, none, none, none, none]) (st' := []) dL_law_7 rfl ?_
  exact k a1 _ _ (z_S0 hx1 u1 u2 u3 u4 u5 u6 u7 u8 (by omega) (by omega)) s_pv_s
