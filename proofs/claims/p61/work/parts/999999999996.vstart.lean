/-! 999999999996: both constructors' results beside each other -/
def v_o : e_I := fun _ _ => 0
def v_oJ : e_Jt := fun _ _ => 0
def v_Wi0 : e_I := q_mI (s_iH v_o)
def v_Wi : e_I := s_IMODEL v_Wi0 0 0 0 0 0 0 0 0 0 45 45 0 1 0
def v_Wj : e_Jt := s_JMODEL (q_mJ (s_jH v_oJ)) 0 0
/-- all values of a field -/
def v_al (P : Int32 → Prop) (I : e_I) (F : Nat) : Prop := ∀ i, P (I F i)
theorem v_al.up {P : Int32 → Prop} {I : e_I} {F F' i : Nat} {x : Int32} (hx : F' = F → P x) (h : v_al P I F) : v_al P (s_up I F' i x) F := fun j => by
  unfold s_up
  split
  · rename_i c; exact hx c.1.symm
  · exact h j
theorem v_al.z {P : Int32 → Prop} {I : e_I} {F F' i n : Nat} (hx : F' = F → P 0) (h : v_al P I F) : v_al P (s_z I F' i n) F := fun j => by
  unfold s_z
  split
  · rename_i c; exact hx c.1.symm
  · exact h j
theorem v_al.fill {P : Int32 → Prop} {I : e_I} {F F' n : Nat} {x : Int32} (hx : F' = F → P x) (h : v_al P I F) : v_al P (s_fill I F' n x) F := fun j => by
  unfold s_fill
  split
  · rename_i c; exact hx c.1.symm
  · exact h j
theorem v_al.mw {P : Int32 → Prop} {I : e_I} {F j n : Nat} (hx : ¬ f_mk_wires = F) (h0 : P 0) (h : v_al P I F) : v_al P (q_mw I j n) F := fun i => by
  unfold q_mw
  rw [if_neg (fun z => hx z.1.symm)]
  split
  · exact h0
  · exact h i
theorem v_al.ad {P : Int32 → Prop} {I : e_I} {F l n : Nat} (h1 : ¬ f_l_modCount = F) (h2 : ¬ f_l_size = F) (h : v_al P I F) : v_al P (s_adI I l n) F := by
  unfold s_adI
  exact .up (fun z => absurd z h2) (.up (fun z => absurd z h1) h)
theorem v_al.ug {P : Int32 → Prop} {I : e_I} {F l : Nat} (h1 : ¬ f_l_modCount = F) (h2 : ¬ f_l_size = F) (h0 : P 0) (h : v_al P I F) : ∀ n, v_al P (q_ug l n I) F := by
  intro n
  induction n with
  | zero => exact h
  | succ n ih => exact .ad h1 h2 (.up (fun _ => h0) ih)
theorem v_al.ul {P : Int32 → Prop} {I : e_I} {F : Nat} (h1 : ¬ f_l_modCount = F) (h2 : ¬ f_l_size = F) (h : v_al P I F) : ∀ n, v_al P (q_ul n I) F := by
  intro n
  induction n with
  | zero => exact h
  | succ n ih => exact .ad h1 h2 (.up (fun z => absurd z h2) (.up (fun z => absurd z h1) ih))
theorem v_al.uk {P : Int32 → Prop} {I : e_I} {F : Nat} (h1 : ¬ f_l_modCount = F) (h2 : ¬ f_l_size = F) (h3 : ¬ f_mk_wires = F) (h4 : ¬ f_mk_kind = F ∧ ¬ f_mk_division = F ∧ ¬ f_mk_to = F ∧ ¬ f_mk_letter = F ∧ ¬ f_mk_relay = F) (h0 : P 0) (hi : f_mk_isIn = F → P 1) (h : v_al P I F) : ∀ n, v_al P (q_uk n I) F := by
  intro n
  induction n with
  | zero => exact h
  | succ n ih =>
    refine .ad h1 h2 ?_
    unfold q_nk s_IMKNOB
    exact .up (fun z => absurd z h4.2.2.2.2) (.up (fun _ => h0) (.up (fun _ => h0) (.up hi (.up (fun _ => h0) (.up (fun _ => h0) (.up (fun z => absurd z h4.2.2.2.1) (.up (fun _ => h0) (.up (fun z => absurd z h4.2.2.1) (.up (fun z => absurd z h4.2.1) (.up (fun z => absurd z h4.1) (.mw h3 h0 ih)))))))))))
/-- the second implementation's constructor -/
theorem v_al.mI {P : Int32 → Prop} {I : e_I} {F : Nat} (hF : ([f_l_modCount, f_l_size, f_mk_wires, f_mk_kind, f_mk_division, f_mk_to, f_mk_letter, f_mk_relay, f_m_supply, f_m_box, f_m_claimed, f_m_reversible, f_m_closedSince].all fun G => !decide (G = F)) = true) (h0 : P 0) (hi : f_mk_isIn = F → P 1) (ho : f_m_operation = F → P 45) (hf : f_m_fault = F → P 45) (h : v_al P I F) : v_al P (q_mI I) F := by
  have n : ∀ G, G ∈ [f_l_modCount, f_l_size, f_mk_wires, f_mk_kind, f_mk_division, f_mk_to, f_mk_letter, f_mk_relay, f_m_supply, f_m_box, f_m_claimed, f_m_reversible, f_m_closedSince] → ¬ G = F := fun G hG z => by
    have := List.all_eq_true.mp hF G hG
    rw [decide_eq_true z] at this
    exact absurd this (by decide)
  unfold q_mI q_mI0
  refine .fill (fun z => absurd z (n _ (by decide))) (.fill hf (.fill ho (.fill (fun z => absurd z (n _ (by decide))) (.ug (n _ (by decide)) (n _ (by decide)) h0 (.ug (n _ (by decide)) (n _ (by decide)) h0 (.ul (n _ (by decide)) (n _ (by decide)) (.uk (n _ (by decide)) (n _ (by decide)) (n _ (by decide)) ⟨n _ (by decide), n _ (by decide), n _ (by decide), n _ (by decide), n _ (by decide)⟩ h0 hi ?_ 3) 4) 32) 48))))
  unfold q_iC q_iB q_iA s_ILIST
  iterate 8 refine .z (fun _ => h0) ?_
  iterate 4 refine .up (fun z => absurd z (n _ (by decide))) ?_
  iterate 3 refine .z (fun _ => h0) ?_
  iterate 3 refine .up (fun z => absurd z (n _ (by decide))) ?_
  refine .z (fun _ => h0) ?_
  iterate 3 refine .up (fun z => absurd z (n _ (by decide))) ?_
  refine .z (fun _ => h0) ?_
  iterate 14 refine .z (fun _ => h0) ?_
  iterate 6 refine .up (fun _ => h0) (.up (fun z => absurd z (n _ (by decide))) ?_)
  exact h
theorem v_al.uk1 {P : Int32 → Prop} {I : e_I} {F : Nat} (hF : ([f_l_modCount, f_l_size, f_c_from, f_c_to, f_c_shift, f_c_kind, f_k_kind, f_k_division, f_k_relay].all fun G => !decide (G = F)) = true) (h0 : P 0) (hi : f_k_isInScope = F → P 1) (h : v_al P I F) : ∀ n, v_al P (s_uk n I) F := by
  have n : ∀ G, G ∈ [f_l_modCount, f_l_size, f_c_from, f_c_to, f_c_shift, f_c_kind, f_k_kind, f_k_division, f_k_relay] → ¬ G = F := fun G hG z => by
    have := List.all_eq_true.mp hF G hG
    rw [decide_eq_true z] at this
    exact absurd this (by decide)
  intro m
  induction m with
  | zero => exact h
  | succ m ih =>
    refine .ad (n _ (by decide)) (n _ (by decide)) ?_
    unfold s_kI s_cI
    exact .up (fun z => absurd z (n _ (by decide))) (.up hi (.up (fun _ => h0) (.up (fun _ => h0) (.up (fun z => absurd z (n _ (by decide))) (.up (fun z => absurd z (n _ (by decide))) (.up (fun z => absurd z (n _ (by decide))) (.up (fun z => absurd z (n _ (by decide))) (.up (fun z => absurd z (n _ (by decide))) (.up (fun z => absurd z (n _ (by decide))) ih)))))))))
def v_hF : List Nat := [f_l_modCount, f_l_size, f_c_from, f_c_to, f_c_shift, f_c_kind, f_k_kind, f_k_division, f_k_relay, f_a_lowest, f_a_highest, f_lastPressedAt, f_a_supplies, f_a_winds, f_a_openings, f_a_reversibles, f_a_owners]
theorem v_al.iH {P : Int32 → Prop} {I : e_I} {F : Nat} (hF : (v_hF.all fun G => !decide (G = F)) = true) (h0 : P 0) (hi : f_k_isInScope = F → P 1) (hm : f_isMajor = F → P 1) (hr : f_recording = F → P 45) (ht : f_tkind = F → P 45) (h : v_al P I F) : v_al P (s_iH I) F := by
  have n : ∀ G, G ∈ v_hF → ¬ G = F := fun G hG z => by
    have := List.all_eq_true.mp hF G hG
    rw [decide_eq_true z] at this
    exact absurd this (by decide)
  have n2 : ([f_l_modCount, f_l_size, f_c_from, f_c_to, f_c_shift, f_c_kind, f_k_kind, f_k_division, f_k_relay].all fun G => !decide (G = F)) = true := List.all_eq_true.mpr (fun G hG => List.all_eq_true.mp hF G (by
    have key : ∀ G, G ∈ [f_l_modCount, f_l_size, f_c_from, f_c_to, f_c_shift, f_c_kind, f_k_kind, f_k_division, f_k_relay] → G ∈ v_hF := by decide
    exact key G hG))
  unfold s_iH s_ICONT s_zCONT s_iH2 s_IMEM s_zMEM s_iH1 s_IWORKS s_iW s_iW0 s_iL s_ILIST s_iT s_ITAPE s_zTAPE s_iC s_ICONS
  iterate 3 refine .up (fun _ => h0) ?_
  refine .up hm (.up (fun _ => h0) ?_)
  iterate 3 refine .z (fun _ => h0) ?_
  iterate 3 refine .up (fun _ => h0) ?_
  iterate 2 refine .fill (fun z => absurd z (n _ (by decide))) ?_
  iterate 4 refine .z (fun _ => h0) ?_
  iterate 5 refine .up (fun _ => h0) ?_
  iterate 3 refine .fill (fun z => absurd z (n _ (by decide))) ?_
  iterate 6 refine .z (fun _ => h0) ?_
  refine .up (fun _ => h0) (.up (fun z => absurd z (n _ (by decide))) ?_)
  iterate 2 refine .up (fun _ => h0) ?_
  refine .up ht (.up hr (.z (fun _ => h0) ?_))
  iterate 2 refine .up (fun _ => h0) ?_
  refine .uk1 n2 h0 hi ?_ 3
  unfold s_zCONS s_ILIST s_iK s_IKEYS s_zKEYS
  iterate 4 refine .z (fun _ => h0) ?_
  refine .up (fun _ => h0) (.up (fun z => absurd z (n _ (by decide))) ?_)
  refine .up (fun z => absurd z (n _ (by decide))) ?_
  iterate 2 refine .fill (fun z => absurd z (n _ (by decide))) ?_
  iterate 4 refine .z (fun _ => h0) ?_
  exact h
def v_WiF : List Nat := v_hF ++ [f_mk_wires, f_mk_kind, f_mk_division, f_mk_to, f_mk_letter, f_mk_relay, f_m_supply, f_m_box, f_m_claimed, f_m_reversible, f_m_closedSince]
theorem v_al.W {P : Int32 → Prop} {F : Nat} (hF : (v_WiF.all fun G => !decide (G = F)) = true) (h0 : P 0) (h1 : ([f_k_isInScope, f_isMajor, f_mk_isIn, f_m_isMajor].contains F) = true → P 1) (h45 : ([f_recording, f_tkind, f_m_operation, f_m_fault, f_m_recording, f_m_kindKept].contains F) = true → P 45) : v_al P v_Wi F := by
  have sub : ∀ {L : List Nat}, (L.all fun G => v_WiF.contains G) = true → (L.all fun G => !decide (G = F)) = true := fun {L} hL => List.all_eq_true.mpr (fun G hG => List.all_eq_true.mp hF G (List.contains_iff_mem.mp (List.all_eq_true.mp hL G hG)))
  have k1 : ∀ G, [f_k_isInScope, f_isMajor, f_mk_isIn, f_m_isMajor].contains G = true → G = F → P 1 := fun G hG z => h1 (z ▸ hG)
  have k2 : ∀ G, [f_recording, f_tkind, f_m_operation, f_m_fault, f_m_recording, f_m_kindKept].contains G = true → G = F → P 45 := fun G hG z => h45 (z ▸ hG)
  unfold v_Wi s_IMODEL v_Wi0
  refine .up (fun _ => h0) (.up (k1 _ (by decide)) (.up (fun _ => h0) (.up (k2 _ (by decide)) (.up (k2 _ (by decide)) ?_))))
  iterate 9 refine .up (fun _ => h0) ?_
  exact .mI (sub (by decide)) h0 (k1 _ (by decide)) (k2 _ (by decide)) (k2 _ (by decide)) (.iH (sub (by decide)) h0 (k1 _ (by decide)) (k1 _ (by decide)) (k2 _ (by decide)) (k2 _ (by decide)) (fun _ => h0))
