/-! 91: relays, edges, what plays (printed by wip/whole/p91.py) -/
theorem q_D.eqN {T : List Nat} {p : e_Sp} {I I' : e_I} {nk nr np : Nat} (h : q_D p I nk nr np) (e : s_eqN T I I') (hT : q_fr T = true) : q_D p I' nk nr np := by
  have hF : ∀ F, F ∈ q_ms → I' F = I F := fun F hF => e F (by have := List.all_eq_true.mp hT F hF; simpa using this)
  unfold q_D q_K q_R at *
  rw [hF f_l_size (by decide), hF f_m_pipes (by decide), hF f_mk_division (by decide), hF f_mk_rows (by decide), hF f_mk_relay (by decide), hF f_mr_lowest (by decide), hF f_mr_highest (by decide), hF f_mr_base (by decide), hF f_mr_division (by decide), hF f_m_rankOf (by decide)]
  exact h
theorem q_bo.eqN {T : List Nat} {I I' : e_I} {F : Nat} (h : q_bo I F) (e : s_eqN T I I') (hT : T.contains F = false) : q_bo I' F := by unfold q_bo; rw [e F hT]; exact h
theorem q_bo.up {I : e_I} {F F' j : Nat} {x : Int32} (h : q_bo I F) (hx : x = 0 ∨ x = 1) : q_bo (s_up I F' j x) F := by
  intro i
  by_cases e : F = F' ∧ i = j
  · obtain ⟨rfl, rfl⟩ := e; rw [s_up_s]; exact hx
  · rw [show s_up I F' j x F i = I F i from if_neg e]; exact h i
/-- what the relays look at is there -/
def q_S (I : e_I) : Prop := ∀ r, r < 16 → ¬ I f_m_operation r = 45 → q_sk (I f_m_first r) ∧ (¬ I f_m_operation r = 33 → q_sk (I f_m_second r))
theorem q_S.eqN {T : List Nat} {I I' : e_I} (h : q_S I) (e : s_eqN T I I') (h1 : T.contains f_m_operation = false) (h2 : T.contains f_m_first = false) (h3 : T.contains f_m_second = false) : q_S I' := by unfold q_S; rw [e _ h1, e _ h2, e _ h3]; exact h
def q_rv (I : e_I) (nk r : Nat) : Bool := if I f_m_operation r = 38 then q_src I nk (I f_m_first r) && q_src I nk (I f_m_second r) else if I f_m_operation r = 124 then q_src I nk (I f_m_first r) || q_src I nk (I f_m_second r) else if I f_m_operation r = 94 then q_src I nk (I f_m_first r) != q_src I nk (I f_m_second r) else !q_src I nk (I f_m_first r)
def q_rl (nk r : Nat) (I : e_I) : e_I := if I f_m_operation r = 45 then I else s_up I f_m_isRelay r (bI (q_rv I nk r))
def q_rel (nk : Nat) (I : e_I) : e_I := s_run (q_rl nk) 0 16 I
theorem s_eqN.qrel {nk : Nat} {I : e_I} : s_eqN [f_m_isRelay] I (q_rel nk I) := s_eqN.run (fun r I => by
  unfold q_rl
  split
  · exact s_eqN.rfl'
  · exact s_eqN.up (by decide)) _ _ _
theorem s_run_pr {α : Type} {P : α → Prop} {f : Nat → α → α} (h : ∀ i a, P a → P (f i a)) : ∀ n i a, P a → P (s_run f i n a)
  | 0, _, _, z => z
  | n + 1, i, a, z => s_run_pr h n (i + 1) (f i a) (h i a z)
theorem q_bo.rel {nk : Nat} {I : e_I} (h : q_bo I f_m_isRelay) : q_bo (q_rel nk I) f_m_isRelay := s_run_pr (P := fun I => q_bo I f_m_isRelay) (fun r I h => by
  unfold q_rl
  split
  · exact h
  · exact h.up (bI_or _)) _ _ _ h
theorem q_isk {x y : Int32} : s_isk x y ↔ (0 ≤ x ∧ x ≤ 2) ∧ (0 ≤ y ∧ y ≤ nI (s_kcn x) - 1) := by
  rw [q_le1 (by have := s_kcn_le x; omega), ← s_kc_nI]
  unfold s_kc
  grind
theorem q_iskB {x y : Int32} : decide (s_isk x y) = (decide (0 ≤ x ∧ x ≤ 2) && decide (0 ≤ y ∧ y ≤ nI (s_kcn x) - 1)) := by
  rw [decide_eq_decide.mpr q_isk, Bool.decide_and]
theorem q_ki {dv i : Nat} (hd : dv < 3) (hi : i < s_kcn (nI dv)) : s_isk (nI dv) (nI i) := by
  have h1 := s_kcn_le (nI dv)
  refine q_isk.mpr ⟨⟨nI_pos' (by omega), (nI_leI (b := 2) (by omega) (by decide)).mpr (by omega)⟩, nI_pos' (by omega), ?_⟩
  rw [q_le1 (by omega)]
  exact (nI_ltI (by omega) (by omega)).mpr hi
/-- the lowest or the highest key that is down -/
def q_egs (I : e_I) (x h : Int32) (i : Nat) (fd : Int32) : Int32 := if I f_m_isDown (s_kn x (nI i)) ≠ 0 ∧ (fd = -1 ∨ h ≠ 0) then nI i else fd
def q_eg (I : e_I) (x h : Int32) : Int32 := s_run (q_egs I x h) 0 (s_kcn x) (-1)
def q_tk (I : e_I) (k : Nat) (y : Int32) : Bool := if I f_mk_letter k = 97 then true else if I f_mk_letter k = 98 then decide (q_eg I (I f_mk_division k) 0 = y) else if I f_mk_letter k = 109 then decide (q_eg I (I f_mk_division k) 1 = y) else decide (I f_m_wentDown (s_kn (I f_mk_division k) y) = I f_m_tick 0)
theorem q_ti {x : Int32} {n : Int} {v : Int32} (h : x.toInt = n) (e : v.toInt = n) : x = v := Int32.toInt_inj.mp (h.trans e.symm)
theorem q_tn {x : Int32} {n : Int} {v : Int32} (h : x.toInt ≠ n) (e : v.toInt = n) : x ≠ v := fun z => h (by rw [z]; exact e)
theorem q_ip_ix {p : e_Sp} {I : e_I} {nk nr np : Nat} {x y : Int32} (hM : q_D p I nk nr np) (h : q_ip I nr x y = true) : s_ix (q_pp I x y) (q_pp I x y).toNatClampNeg np := by
  unfold q_ip at h
  rw [Bool.and_eq_true] at h
  obtain ⟨h1, h2⟩ := h
  have h1 := of_decide_eq_true h1
  have h2 := of_decide_eq_true h2
  obtain ⟨r, hr, rfl⟩ := s_nat h1.1 h1.2 (by have := hM.2.2.1.1; omega)
  have hc := nI_clamp (n := r) (by have := hM.2.2.1.1; omega)
  rw [hc] at h2
  obtain ⟨-, lo, n, b, dv, e1, e2, e3, -, hl, hb, -⟩ := hM.2.2.2.2.2.1 r hr
  have hnp := hM.2.2.2.1.1
  rw [e1, e2] at h2
  obtain ⟨v, hv, rfl⟩ := nI_of (Int32.not_lt.mpr (Int32.le_trans (nI_pos' (by omega)) h2.1))
  have h3 : lo ≤ v := (nI_leI (by omega) hv).mp h2.1
  have h4 : v ≤ lo + n := (nI_leI hv (by omega)).mp h2.2
  have h5 : q_pp I (nI r) (nI v) = nI (b + (v - lo)) := by
    unfold q_pp
    rw [hc, e1, e3, nI_add, nI_sub (by omega), show b + v - lo = b + (v - lo) by omega]
  rw [h5, nI_clamp (by omega)]
  exact s_ix.nI (by omega) (by omega)
/-- what a key that plays asks for is counted -/
def q_nt (I : e_I) (k : Nat) (z : Int32) (r : Nat) : Int32 := 36 + z + I f_mk_offsets (k * 4 + r)
def q_plR (nr k : Nat) (z : Int32) (r : Nat) (I : e_I) : e_I := if (I f_mk_froms (k * 4 + r) ≤ z ∧ z ≤ I f_mk_tos (k * 4 + r)) ∧ q_ip I nr (I f_mk_ranks (k * 4 + r)) (q_nt I k z r) = true then s_up I f_m_counts (q_pp I (I f_mk_ranks (k * 4 + r)) (q_nt I k z r)).toNatClampNeg (I f_m_counts (q_pp I (I f_mk_ranks (k * 4 + r)) (q_nt I k z r)).toNatClampNeg + 1) else I
def q_plS (nr : Nat) (x y : Int32) (k : Nat) (I : e_I) : e_I := if I f_mk_kind k = 115 ∧ I f_mk_division k = x ∧ q_so I k = true then s_run (q_plR nr k (I f_mk_wires (k * 61 + y.toNatClampNeg))) 0 (I f_mk_rows k).toNatClampNeg I else I
def q_pl (nk nr : Nat) (x y : Int32) (I : e_I) : e_I := s_run (q_plS nr x y) 0 nk I
theorem s_eqN.qplR {nr k : Nat} {z : Int32} (r : Nat) (I : e_I) : s_eqN [f_m_counts] I (q_plR nr k z r I) := by
  unfold q_plR
  split
  · exact s_eqN.up (by decide)
  · exact s_eqN.rfl'
theorem s_eqN.qplS {nr : Nat} {x y : Int32} (k : Nat) (I : e_I) : s_eqN [f_m_counts] I (q_plS nr x y k I) := by
  unfold q_plS
  split
  · exact s_eqN.run s_eqN.qplR _ _ _
  · exact s_eqN.rfl'
theorem s_eqN.qpl {nk nr : Nat} {x y : Int32} {I : e_I} : s_eqN [f_m_counts] I (q_pl nk nr x y I) := s_eqN.run s_eqN.qplS _ _ _

set_option maxRecDepth 100000 in
set_option maxHeartbeats 4000000 in
theorem l_X16_relays {X : e_XT} {d : Nat} {p : e_Sp} {I : e_I} {J : e_Jt} {c : Nat × Nat} {w : e_Rw1} {Q : e_Rt → e_SS → Prop} {nk nr np : Nat} (hM : q_D p I nk nr np) (hS : q_S I) (hb : q_bo I f_m_isDown) (hb2 : q_bo I f_m_isRelay) {R : e_I} (k : Q (.inl none) (p, R, J, c, w)) : ∀ (n : Nat) (i : Nat) (I1 : e_I) (o2 o3 : Option Value), (h1 : i ≤ 16) → (e : s_eqN [f_m_isRelay] I I1) → (hb3 : q_bo I1 f_m_isRelay) → (hr : s_run (q_rl nk) i (16 - i) I1 = R) → (hn : 16 - i < n) → s_w X (d + 4) K_X16_relays 2 [some (.ref (p.1 T_MODEL 0)), some (.int (nI i)), o2, o3] [] (p, I1, J, c, w) (fun r S' => e_rcr (none) r = true ∧ Q r S') := by
  intro n
  induction n with
  | zero =>
    intro i I1 o2 o3 h1 e hb3 hr hn
    exact absurd hn (Nat.not_lt_zero _)
  | succ n ih =>
    intro i I1 o2 o3 h1 e hb3 hr hn
    have hM1 := hM.eqN e (by decide)
    have hp := hM1.1
    have hb1 := hb.eqN e (by decide)
    have hS1 := hS.eqN e (by decide) (by decide) (by decide)
    refine w_op (pc' := 3) dX16_relays_2 rfl ?_
    refine w_bipush (v := 16) dX16_relays_3 rfl ?_
    refine w_icmpge (t := 162) dX16_relays_5 (by decide) (fun c5 => ?_) (fun c5 => ?_)
    · have hi : 16 ≤ i := (nI_leI (a := 16) (by omega) (by omega)).mp c5
      exact w_return dX16_relays_162 ⟨rfl, by rw [s_run_z hi] at hr; subst hr; exact k⟩
    · have hi : i < 16 := Nat.lt_of_not_le (fun z => c5 ((nI_leI (a := 16) (by omega) (by omega)).mpr z))
      have hs := hS1 i hi
      refine w_op (pc' := 9) dX16_relays_8 rfl ?_
      refine t_getG0 (G := g_m_operation) dX16_relays_9 rfl rfl (by decide) rfl (fun _ => rfl) (hp.1 _ rfl) ?_
      refine w_op (pc' := 13) dX16_relays_12 rfl ?_
      refine t_cald0 (F := f_m_operation) dX16_relays_13 rfl (by decide) rfl (hp.1 _ rfl) (s_ix.nI (N := 16) hi (by decide)) hi ?_
      refine w_bipush (v := 45) dX16_relays_14 rfl ?_
      refine w_icmpne (t := 22) dX16_relays_16 (by decide) (fun c16 => ?_) (fun c16 => ?_)
      · refine w_op (pc' := 23) dX16_relays_22 rfl ?_
        refine w_op (pc' := 24) dX16_relays_23 rfl ?_
        refine t_getG0 (G := g_m_first) dX16_relays_24 rfl rfl (by decide) rfl (fun _ => rfl) (hp.1 _ rfl) ?_
        refine w_op (pc' := 28) dX16_relays_27 rfl ?_
        refine t_iald0 (F := f_m_first) dX16_relays_28 rfl (by decide) rfl (hp.1 _ rfl) (s_ix.nI (N := 16) hi (by decide)) hi ?_
        refine t_callV (t := T_MODEL) (As := [_]) dX16_relays_29 rfl rM_X16_source (by decide) rfl rfl (by decide) (by decide) (Nat.le_of_ble_eq_true rfl) rfl (hp.1 _ rfl) (c_X16_source hM1 (hs c16).1 hb1 hb3 ?_)
        show s_w _ _ _ 32 _ _ _ _
        refine w_op (pc' := 33) (ll' := [_, _, _, _]) dX16_relays_32 rfl ?_
        refine w_op (pc' := 34) dX16_relays_33 rfl ?_
        refine t_getG0 (G := g_m_operation) dX16_relays_34 rfl rfl (by decide) rfl (fun _ => rfl) (hp.1 _ rfl) ?_
        refine w_op (pc' := 38) dX16_relays_37 rfl ?_
        refine t_cald0 (F := f_m_operation) dX16_relays_38 rfl (by decide) rfl (hp.1 _ rfl) (s_ix.nI (N := 16) hi (by decide)) hi ?_
        refine w_bipush (v := 33) dX16_relays_39 rfl ?_
        refine w_icmpeq (t := 61) dX16_relays_41 (by decide) (fun c41 => ?_) (fun c41 => ?_)
        · refine w_iconst (v := 0) dX16_relays_61 rfl ?_
          refine w_op (pc' := 63) (ll' := [_, _, _, _]) dX16_relays_62 rfl ?_
          refine w_op (pc' := 64) dX16_relays_63 rfl ?_
          refine t_getG0 (G := g_m_isRelay) dX16_relays_64 rfl rfl (by decide) rfl (fun _ => rfl) (hp.1 _ rfl) ?_
          refine w_op (pc' := 68) dX16_relays_67 rfl ?_
          refine w_op (pc' := 69) dX16_relays_68 rfl ?_
          refine t_getG0 (G := g_m_operation) dX16_relays_69 rfl rfl (by decide) rfl (fun _ => rfl) (hp.1 _ rfl) ?_
          refine w_op (pc' := 73) dX16_relays_72 rfl ?_
          refine t_cald0 (F := f_m_operation) dX16_relays_73 rfl (by decide) rfl (hp.1 _ rfl) (s_ix.nI (N := 16) hi (by decide)) hi ?_
          refine w_bipush (v := 38) dX16_relays_74 rfl ?_
          refine w_icmpne (t := 95) dX16_relays_76 (by decide) (fun c76 => ?_) (fun c76 => ?_)
          · refine w_op (pc' := 96) dX16_relays_95 rfl ?_
            refine t_getG0 (G := g_m_operation) dX16_relays_96 rfl rfl (by decide) rfl (fun _ => rfl) (hp.1 _ rfl) ?_
            refine w_op (pc' := 100) dX16_relays_99 rfl ?_
            refine t_cald0 (F := f_m_operation) dX16_relays_100 rfl (by decide) rfl (hp.1 _ rfl) (s_ix.nI (N := 16) hi (by decide)) hi ?_
            refine w_bipush (v := 124) dX16_relays_101 rfl ?_
            refine w_icmpne (t := 122) dX16_relays_103 (by decide) (fun c103 => ?_) (fun c103 => ?_)
            · refine w_op (pc' := 123) dX16_relays_122 rfl ?_
              refine t_getG0 (G := g_m_operation) dX16_relays_123 rfl rfl (by decide) rfl (fun _ => rfl) (hp.1 _ rfl) ?_
              refine w_op (pc' := 127) dX16_relays_126 rfl ?_
              refine t_cald0 (F := f_m_operation) dX16_relays_127 rfl (by decide) rfl (hp.1 _ rfl) (s_ix.nI (N := 16) hi (by decide)) hi ?_
              refine w_bipush (v := 94) dX16_relays_128 rfl ?_
              refine w_icmpne (t := 146) dX16_relays_130 (by decide) (fun c130 => ?_) (fun c130 => ?_)
              · refine w_op (pc' := 147) dX16_relays_146 rfl ?_
                refine w_ifne (t := 154) dX16_relays_147 (by decide) (fun c147 => ?_) (fun c147 => ?_)
                · refine w_iconst (v := 0) dX16_relays_154 rfl ?_
                  refine t_bast0 (F := f_m_isRelay) dX16_relays_155 rfl (by decide) (by decide) rfl (hp.1 _ rfl) (s_ix.nI (N := 16) hi (by decide)) hi (by first | exact Or.inl rfl | exact Or.inr rfl | assumption) ?_
                  refine w_op (pc' := 159) (ll' := [_, _, _, _]) dX16_relays_156 rfl ?_
                  refine w_goto (t := 2) dX16_relays_159 (by decide) ?_
                  rw [show nI i + Int32.ofInt 1 = nI (i + 1) from nI_1 i]
                  have ev : q_rv I1 nk i = false := by unfold q_rv; grind
                  have ef : q_rl nk i I1 = s_up I1 f_m_isRelay i 0 := by unfold q_rl; rw [if_neg c16, ev]; rfl
                  rw [s_run_s (by omega), ef] at hr
                  exact ih (i + 1) _ _ _ (by omega) (e.trans (s_eqN.up (by decide))) (hb3.up (by decide)) hr (by omega)
                · refine w_iconst (v := 1) dX16_relays_150 rfl ?_
                  refine w_goto (t := 155) dX16_relays_151 (by decide) ?_
                  refine t_bast0 (F := f_m_isRelay) dX16_relays_155 rfl (by decide) (by decide) rfl (hp.1 _ rfl) (s_ix.nI (N := 16) hi (by decide)) hi (by first | exact Or.inl rfl | exact Or.inr rfl | assumption) ?_
                  refine w_op (pc' := 159) (ll' := [_, _, _, _]) dX16_relays_156 rfl ?_
                  refine w_goto (t := 2) dX16_relays_159 (by decide) ?_
                  rw [show nI i + Int32.ofInt 1 = nI (i + 1) from nI_1 i]
                  have ev : q_rv I1 nk i = true := by unfold q_rv; grind
                  have ef : q_rl nk i I1 = s_up I1 f_m_isRelay i 1 := by unfold q_rl; rw [if_neg c16, ev]; rfl
                  rw [s_run_s (by omega), ef] at hr
                  exact ih (i + 1) _ _ _ (by omega) (e.trans (s_eqN.up (by decide))) (hb3.up (by decide)) hr (by omega)
              · refine w_op (pc' := 134) dX16_relays_133 rfl ?_
                refine w_op (pc' := 135) dX16_relays_134 rfl ?_
                refine w_icmpeq (t := 142) dX16_relays_135 (by decide) (fun c135 => ?_) (fun c135 => ?_)
                · refine w_iconst (v := 0) dX16_relays_142 rfl ?_
                  refine w_goto (t := 155) dX16_relays_143 (by decide) ?_
                  refine t_bast0 (F := f_m_isRelay) dX16_relays_155 rfl (by decide) (by decide) rfl (hp.1 _ rfl) (s_ix.nI (N := 16) hi (by decide)) hi (by first | exact Or.inl rfl | exact Or.inr rfl | assumption) ?_
                  refine w_op (pc' := 159) (ll' := [_, _, _, _]) dX16_relays_156 rfl ?_
                  refine w_goto (t := 2) dX16_relays_159 (by decide) ?_
                  rw [show nI i + Int32.ofInt 1 = nI (i + 1) from nI_1 i]
                  have ev : q_rv I1 nk i = false := by unfold q_rv; grind
                  have ef : q_rl nk i I1 = s_up I1 f_m_isRelay i 0 := by unfold q_rl; rw [if_neg c16, ev]; rfl
                  rw [s_run_s (by omega), ef] at hr
                  exact ih (i + 1) _ _ _ (by omega) (e.trans (s_eqN.up (by decide))) (hb3.up (by decide)) hr (by omega)
                · refine w_iconst (v := 1) dX16_relays_138 rfl ?_
                  refine w_goto (t := 155) dX16_relays_139 (by decide) ?_
                  refine t_bast0 (F := f_m_isRelay) dX16_relays_155 rfl (by decide) (by decide) rfl (hp.1 _ rfl) (s_ix.nI (N := 16) hi (by decide)) hi (by first | exact Or.inl rfl | exact Or.inr rfl | assumption) ?_
                  refine w_op (pc' := 159) (ll' := [_, _, _, _]) dX16_relays_156 rfl ?_
                  refine w_goto (t := 2) dX16_relays_159 (by decide) ?_
                  rw [show nI i + Int32.ofInt 1 = nI (i + 1) from nI_1 i]
                  have ev : q_rv I1 nk i = true := by unfold q_rv; grind
                  have ef : q_rl nk i I1 = s_up I1 f_m_isRelay i 1 := by unfold q_rl; rw [if_neg c16, ev]; rfl
                  rw [s_run_s (by omega), ef] at hr
                  exact ih (i + 1) _ _ _ (by omega) (e.trans (s_eqN.up (by decide))) (hb3.up (by decide)) hr (by omega)
            · refine w_op (pc' := 107) dX16_relays_106 rfl ?_
              refine w_ifne (t := 114) dX16_relays_107 (by decide) (fun c107 => ?_) (fun c107 => ?_)
              · refine w_iconst (v := 1) dX16_relays_114 rfl ?_
                refine w_goto (t := 155) dX16_relays_115 (by decide) ?_
                refine t_bast0 (F := f_m_isRelay) dX16_relays_155 rfl (by decide) (by decide) rfl (hp.1 _ rfl) (s_ix.nI (N := 16) hi (by decide)) hi (by first | exact Or.inl rfl | exact Or.inr rfl | assumption) ?_
                refine w_op (pc' := 159) (ll' := [_, _, _, _]) dX16_relays_156 rfl ?_
                refine w_goto (t := 2) dX16_relays_159 (by decide) ?_
                rw [show nI i + Int32.ofInt 1 = nI (i + 1) from nI_1 i]
                have ev : q_rv I1 nk i = true := by unfold q_rv; grind
                have ef : q_rl nk i I1 = s_up I1 f_m_isRelay i 1 := by unfold q_rl; rw [if_neg c16, ev]; rfl
                rw [s_run_s (by omega), ef] at hr
                exact ih (i + 1) _ _ _ (by omega) (e.trans (s_eqN.up (by decide))) (hb3.up (by decide)) hr (by omega)
              · refine w_op (pc' := 111) dX16_relays_110 rfl ?_
                refine w_ifeq (t := 118) dX16_relays_111 (by decide) (fun c111 => ?_) (fun c111 => ?_)
                · refine w_iconst (v := 0) dX16_relays_118 rfl ?_
                  refine w_goto (t := 155) dX16_relays_119 (by decide) ?_
                  refine t_bast0 (F := f_m_isRelay) dX16_relays_155 rfl (by decide) (by decide) rfl (hp.1 _ rfl) (s_ix.nI (N := 16) hi (by decide)) hi (by first | exact Or.inl rfl | exact Or.inr rfl | assumption) ?_
                  refine w_op (pc' := 159) (ll' := [_, _, _, _]) dX16_relays_156 rfl ?_
                  refine w_goto (t := 2) dX16_relays_159 (by decide) ?_
                  rw [show nI i + Int32.ofInt 1 = nI (i + 1) from nI_1 i]
                  have ev : q_rv I1 nk i = false := by unfold q_rv; grind
                  have ef : q_rl nk i I1 = s_up I1 f_m_isRelay i 0 := by unfold q_rl; rw [if_neg c16, ev]; rfl
                  rw [s_run_s (by omega), ef] at hr
                  exact ih (i + 1) _ _ _ (by omega) (e.trans (s_eqN.up (by decide))) (hb3.up (by decide)) hr (by omega)
                · exact absurd c111 (by decide)
          · refine w_op (pc' := 80) dX16_relays_79 rfl ?_
            refine w_ifeq (t := 91) dX16_relays_80 (by decide) (fun c80 => ?_) (fun c80 => ?_)
            · refine w_iconst (v := 0) dX16_relays_91 rfl ?_
              refine w_goto (t := 155) dX16_relays_92 (by decide) ?_
              refine t_bast0 (F := f_m_isRelay) dX16_relays_155 rfl (by decide) (by decide) rfl (hp.1 _ rfl) (s_ix.nI (N := 16) hi (by decide)) hi (by first | exact Or.inl rfl | exact Or.inr rfl | assumption) ?_
              refine w_op (pc' := 159) (ll' := [_, _, _, _]) dX16_relays_156 rfl ?_
              refine w_goto (t := 2) dX16_relays_159 (by decide) ?_
              rw [show nI i + Int32.ofInt 1 = nI (i + 1) from nI_1 i]
              have ev : q_rv I1 nk i = false := by unfold q_rv; grind
              have ef : q_rl nk i I1 = s_up I1 f_m_isRelay i 0 := by unfold q_rl; rw [if_neg c16, ev]; rfl
              rw [s_run_s (by omega), ef] at hr
              exact ih (i + 1) _ _ _ (by omega) (e.trans (s_eqN.up (by decide))) (hb3.up (by decide)) hr (by omega)
            · refine w_op (pc' := 84) dX16_relays_83 rfl ?_
              refine w_ifeq (t := 91) dX16_relays_84 (by decide) (fun c84 => ?_) (fun c84 => ?_)
              · refine w_iconst (v := 0) dX16_relays_91 rfl ?_
                refine w_goto (t := 155) dX16_relays_92 (by decide) ?_
                refine t_bast0 (F := f_m_isRelay) dX16_relays_155 rfl (by decide) (by decide) rfl (hp.1 _ rfl) (s_ix.nI (N := 16) hi (by decide)) hi (by first | exact Or.inl rfl | exact Or.inr rfl | assumption) ?_
                refine w_op (pc' := 159) (ll' := [_, _, _, _]) dX16_relays_156 rfl ?_
                refine w_goto (t := 2) dX16_relays_159 (by decide) ?_
                rw [show nI i + Int32.ofInt 1 = nI (i + 1) from nI_1 i]
                have ev : q_rv I1 nk i = false := by unfold q_rv; grind
                have ef : q_rl nk i I1 = s_up I1 f_m_isRelay i 0 := by unfold q_rl; rw [if_neg c16, ev]; rfl
                rw [s_run_s (by omega), ef] at hr
                exact ih (i + 1) _ _ _ (by omega) (e.trans (s_eqN.up (by decide))) (hb3.up (by decide)) hr (by omega)
              · exact absurd c84 (by decide)
        · refine w_op (pc' := 45) dX16_relays_44 rfl ?_
          refine w_op (pc' := 46) dX16_relays_45 rfl ?_
          refine t_getG0 (G := g_m_second) dX16_relays_46 rfl rfl (by decide) rfl (fun _ => rfl) (hp.1 _ rfl) ?_
          refine w_op (pc' := 50) dX16_relays_49 rfl ?_
          refine t_iald0 (F := f_m_second) dX16_relays_50 rfl (by decide) rfl (hp.1 _ rfl) (s_ix.nI (N := 16) hi (by decide)) hi ?_
          refine t_callV (t := T_MODEL) (As := [_]) dX16_relays_51 rfl rM_X16_source (by decide) rfl rfl (by decide) (by decide) (Nat.le_of_ble_eq_true rfl) rfl (hp.1 _ rfl) (c_X16_source hM1 ((hs c16).2 c41) hb1 hb3 ?_)
          show s_w _ _ _ 54 _ _ _ _
          refine w_ifeq (t := 61) dX16_relays_54 (by decide) (fun c54 => ?_) (fun c54 => ?_)
          · refine w_iconst (v := 0) dX16_relays_61 rfl ?_
            refine w_op (pc' := 63) (ll' := [_, _, _, _]) dX16_relays_62 rfl ?_
            refine w_op (pc' := 64) dX16_relays_63 rfl ?_
            refine t_getG0 (G := g_m_isRelay) dX16_relays_64 rfl rfl (by decide) rfl (fun _ => rfl) (hp.1 _ rfl) ?_
            refine w_op (pc' := 68) dX16_relays_67 rfl ?_
            refine w_op (pc' := 69) dX16_relays_68 rfl ?_
            refine t_getG0 (G := g_m_operation) dX16_relays_69 rfl rfl (by decide) rfl (fun _ => rfl) (hp.1 _ rfl) ?_
            refine w_op (pc' := 73) dX16_relays_72 rfl ?_
            refine t_cald0 (F := f_m_operation) dX16_relays_73 rfl (by decide) rfl (hp.1 _ rfl) (s_ix.nI (N := 16) hi (by decide)) hi ?_
            refine w_bipush (v := 38) dX16_relays_74 rfl ?_
            refine w_icmpne (t := 95) dX16_relays_76 (by decide) (fun c76 => ?_) (fun c76 => ?_)
            · refine w_op (pc' := 96) dX16_relays_95 rfl ?_
              refine t_getG0 (G := g_m_operation) dX16_relays_96 rfl rfl (by decide) rfl (fun _ => rfl) (hp.1 _ rfl) ?_
              refine w_op (pc' := 100) dX16_relays_99 rfl ?_
              refine t_cald0 (F := f_m_operation) dX16_relays_100 rfl (by decide) rfl (hp.1 _ rfl) (s_ix.nI (N := 16) hi (by decide)) hi ?_
              refine w_bipush (v := 124) dX16_relays_101 rfl ?_
              refine w_icmpne (t := 122) dX16_relays_103 (by decide) (fun c103 => ?_) (fun c103 => ?_)
              · refine w_op (pc' := 123) dX16_relays_122 rfl ?_
                refine t_getG0 (G := g_m_operation) dX16_relays_123 rfl rfl (by decide) rfl (fun _ => rfl) (hp.1 _ rfl) ?_
                refine w_op (pc' := 127) dX16_relays_126 rfl ?_
                refine t_cald0 (F := f_m_operation) dX16_relays_127 rfl (by decide) rfl (hp.1 _ rfl) (s_ix.nI (N := 16) hi (by decide)) hi ?_
                refine w_bipush (v := 94) dX16_relays_128 rfl ?_
                refine w_icmpne (t := 146) dX16_relays_130 (by decide) (fun c130 => ?_) (fun c130 => ?_)
                · refine w_op (pc' := 147) dX16_relays_146 rfl ?_
                  refine w_ifne (t := 154) dX16_relays_147 (by decide) (fun c147 => ?_) (fun c147 => ?_)
                  · refine w_iconst (v := 0) dX16_relays_154 rfl ?_
                    refine t_bast0 (F := f_m_isRelay) dX16_relays_155 rfl (by decide) (by decide) rfl (hp.1 _ rfl) (s_ix.nI (N := 16) hi (by decide)) hi (by first | exact Or.inl rfl | exact Or.inr rfl | assumption) ?_
                    refine w_op (pc' := 159) (ll' := [_, _, _, _]) dX16_relays_156 rfl ?_
                    refine w_goto (t := 2) dX16_relays_159 (by decide) ?_
                    rw [show nI i + Int32.ofInt 1 = nI (i + 1) from nI_1 i]
                    have ev : q_rv I1 nk i = false := by unfold q_rv; grind
                    have ef : q_rl nk i I1 = s_up I1 f_m_isRelay i 0 := by unfold q_rl; rw [if_neg c16, ev]; rfl
                    rw [s_run_s (by omega), ef] at hr
                    exact ih (i + 1) _ _ _ (by omega) (e.trans (s_eqN.up (by decide))) (hb3.up (by decide)) hr (by omega)
                  · refine w_iconst (v := 1) dX16_relays_150 rfl ?_
                    refine w_goto (t := 155) dX16_relays_151 (by decide) ?_
                    refine t_bast0 (F := f_m_isRelay) dX16_relays_155 rfl (by decide) (by decide) rfl (hp.1 _ rfl) (s_ix.nI (N := 16) hi (by decide)) hi (by first | exact Or.inl rfl | exact Or.inr rfl | assumption) ?_
                    refine w_op (pc' := 159) (ll' := [_, _, _, _]) dX16_relays_156 rfl ?_
                    refine w_goto (t := 2) dX16_relays_159 (by decide) ?_
                    rw [show nI i + Int32.ofInt 1 = nI (i + 1) from nI_1 i]
                    have ev : q_rv I1 nk i = true := by unfold q_rv; grind
                    have ef : q_rl nk i I1 = s_up I1 f_m_isRelay i 1 := by unfold q_rl; rw [if_neg c16, ev]; rfl
                    rw [s_run_s (by omega), ef] at hr
                    exact ih (i + 1) _ _ _ (by omega) (e.trans (s_eqN.up (by decide))) (hb3.up (by decide)) hr (by omega)
                · refine w_op (pc' := 134) dX16_relays_133 rfl ?_
                  refine w_op (pc' := 135) dX16_relays_134 rfl ?_
                  refine w_icmpeq (t := 142) dX16_relays_135 (by decide) (fun c135 => ?_) (fun c135 => ?_)
                  · refine w_iconst (v := 0) dX16_relays_142 rfl ?_
                    refine w_goto (t := 155) dX16_relays_143 (by decide) ?_
                    refine t_bast0 (F := f_m_isRelay) dX16_relays_155 rfl (by decide) (by decide) rfl (hp.1 _ rfl) (s_ix.nI (N := 16) hi (by decide)) hi (by first | exact Or.inl rfl | exact Or.inr rfl | assumption) ?_
                    refine w_op (pc' := 159) (ll' := [_, _, _, _]) dX16_relays_156 rfl ?_
                    refine w_goto (t := 2) dX16_relays_159 (by decide) ?_
                    rw [show nI i + Int32.ofInt 1 = nI (i + 1) from nI_1 i]
                    have ev : q_rv I1 nk i = false := by unfold q_rv; grind
                    have ef : q_rl nk i I1 = s_up I1 f_m_isRelay i 0 := by unfold q_rl; rw [if_neg c16, ev]; rfl
                    rw [s_run_s (by omega), ef] at hr
                    exact ih (i + 1) _ _ _ (by omega) (e.trans (s_eqN.up (by decide))) (hb3.up (by decide)) hr (by omega)
                  · refine w_iconst (v := 1) dX16_relays_138 rfl ?_
                    refine w_goto (t := 155) dX16_relays_139 (by decide) ?_
                    refine t_bast0 (F := f_m_isRelay) dX16_relays_155 rfl (by decide) (by decide) rfl (hp.1 _ rfl) (s_ix.nI (N := 16) hi (by decide)) hi (by first | exact Or.inl rfl | exact Or.inr rfl | assumption) ?_
                    refine w_op (pc' := 159) (ll' := [_, _, _, _]) dX16_relays_156 rfl ?_
                    refine w_goto (t := 2) dX16_relays_159 (by decide) ?_
                    rw [show nI i + Int32.ofInt 1 = nI (i + 1) from nI_1 i]
                    have ev : q_rv I1 nk i = true := by unfold q_rv; grind
                    have ef : q_rl nk i I1 = s_up I1 f_m_isRelay i 1 := by unfold q_rl; rw [if_neg c16, ev]; rfl
                    rw [s_run_s (by omega), ef] at hr
                    exact ih (i + 1) _ _ _ (by omega) (e.trans (s_eqN.up (by decide))) (hb3.up (by decide)) hr (by omega)
              · refine w_op (pc' := 107) dX16_relays_106 rfl ?_
                refine w_ifne (t := 114) dX16_relays_107 (by decide) (fun c107 => ?_) (fun c107 => ?_)
                · refine w_iconst (v := 1) dX16_relays_114 rfl ?_
                  refine w_goto (t := 155) dX16_relays_115 (by decide) ?_
                  refine t_bast0 (F := f_m_isRelay) dX16_relays_155 rfl (by decide) (by decide) rfl (hp.1 _ rfl) (s_ix.nI (N := 16) hi (by decide)) hi (by first | exact Or.inl rfl | exact Or.inr rfl | assumption) ?_
                  refine w_op (pc' := 159) (ll' := [_, _, _, _]) dX16_relays_156 rfl ?_
                  refine w_goto (t := 2) dX16_relays_159 (by decide) ?_
                  rw [show nI i + Int32.ofInt 1 = nI (i + 1) from nI_1 i]
                  have ev : q_rv I1 nk i = true := by unfold q_rv; grind
                  have ef : q_rl nk i I1 = s_up I1 f_m_isRelay i 1 := by unfold q_rl; rw [if_neg c16, ev]; rfl
                  rw [s_run_s (by omega), ef] at hr
                  exact ih (i + 1) _ _ _ (by omega) (e.trans (s_eqN.up (by decide))) (hb3.up (by decide)) hr (by omega)
                · refine w_op (pc' := 111) dX16_relays_110 rfl ?_
                  refine w_ifeq (t := 118) dX16_relays_111 (by decide) (fun c111 => ?_) (fun c111 => ?_)
                  · refine w_iconst (v := 0) dX16_relays_118 rfl ?_
                    refine w_goto (t := 155) dX16_relays_119 (by decide) ?_
                    refine t_bast0 (F := f_m_isRelay) dX16_relays_155 rfl (by decide) (by decide) rfl (hp.1 _ rfl) (s_ix.nI (N := 16) hi (by decide)) hi (by first | exact Or.inl rfl | exact Or.inr rfl | assumption) ?_
                    refine w_op (pc' := 159) (ll' := [_, _, _, _]) dX16_relays_156 rfl ?_
                    refine w_goto (t := 2) dX16_relays_159 (by decide) ?_
                    rw [show nI i + Int32.ofInt 1 = nI (i + 1) from nI_1 i]
                    have ev : q_rv I1 nk i = false := by unfold q_rv; grind
                    have ef : q_rl nk i I1 = s_up I1 f_m_isRelay i 0 := by unfold q_rl; rw [if_neg c16, ev]; rfl
                    rw [s_run_s (by omega), ef] at hr
                    exact ih (i + 1) _ _ _ (by omega) (e.trans (s_eqN.up (by decide))) (hb3.up (by decide)) hr (by omega)
                  · exact absurd c111 (by decide)
            · refine w_op (pc' := 80) dX16_relays_79 rfl ?_
              refine w_ifeq (t := 91) dX16_relays_80 (by decide) (fun c80 => ?_) (fun c80 => ?_)
              · refine w_iconst (v := 0) dX16_relays_91 rfl ?_
                refine w_goto (t := 155) dX16_relays_92 (by decide) ?_
                refine t_bast0 (F := f_m_isRelay) dX16_relays_155 rfl (by decide) (by decide) rfl (hp.1 _ rfl) (s_ix.nI (N := 16) hi (by decide)) hi (by first | exact Or.inl rfl | exact Or.inr rfl | assumption) ?_
                refine w_op (pc' := 159) (ll' := [_, _, _, _]) dX16_relays_156 rfl ?_
                refine w_goto (t := 2) dX16_relays_159 (by decide) ?_
                rw [show nI i + Int32.ofInt 1 = nI (i + 1) from nI_1 i]
                have ev : q_rv I1 nk i = false := by unfold q_rv; grind
                have ef : q_rl nk i I1 = s_up I1 f_m_isRelay i 0 := by unfold q_rl; rw [if_neg c16, ev]; rfl
                rw [s_run_s (by omega), ef] at hr
                exact ih (i + 1) _ _ _ (by omega) (e.trans (s_eqN.up (by decide))) (hb3.up (by decide)) hr (by omega)
              · refine w_op (pc' := 84) dX16_relays_83 rfl ?_
                refine w_ifeq (t := 91) dX16_relays_84 (by decide) (fun c84 => ?_) (fun c84 => ?_)
                · refine w_iconst (v := 0) dX16_relays_91 rfl ?_
                  refine w_goto (t := 155) dX16_relays_92 (by decide) ?_
                  refine t_bast0 (F := f_m_isRelay) dX16_relays_155 rfl (by decide) (by decide) rfl (hp.1 _ rfl) (s_ix.nI (N := 16) hi (by decide)) hi (by first | exact Or.inl rfl | exact Or.inr rfl | assumption) ?_
                  refine w_op (pc' := 159) (ll' := [_, _, _, _]) dX16_relays_156 rfl ?_
                  refine w_goto (t := 2) dX16_relays_159 (by decide) ?_
                  rw [show nI i + Int32.ofInt 1 = nI (i + 1) from nI_1 i]
                  have ev : q_rv I1 nk i = false := by unfold q_rv; grind
                  have ef : q_rl nk i I1 = s_up I1 f_m_isRelay i 0 := by unfold q_rl; rw [if_neg c16, ev]; rfl
                  rw [s_run_s (by omega), ef] at hr
                  exact ih (i + 1) _ _ _ (by omega) (e.trans (s_eqN.up (by decide))) (hb3.up (by decide)) hr (by omega)
                · exact absurd c84 (by decide)
          · refine w_iconst (v := 1) dX16_relays_57 rfl ?_
            refine w_goto (t := 62) dX16_relays_58 (by decide) ?_
            refine w_op (pc' := 63) (ll' := [_, _, _, _]) dX16_relays_62 rfl ?_
            refine w_op (pc' := 64) dX16_relays_63 rfl ?_
            refine t_getG0 (G := g_m_isRelay) dX16_relays_64 rfl rfl (by decide) rfl (fun _ => rfl) (hp.1 _ rfl) ?_
            refine w_op (pc' := 68) dX16_relays_67 rfl ?_
            refine w_op (pc' := 69) dX16_relays_68 rfl ?_
            refine t_getG0 (G := g_m_operation) dX16_relays_69 rfl rfl (by decide) rfl (fun _ => rfl) (hp.1 _ rfl) ?_
            refine w_op (pc' := 73) dX16_relays_72 rfl ?_
            refine t_cald0 (F := f_m_operation) dX16_relays_73 rfl (by decide) rfl (hp.1 _ rfl) (s_ix.nI (N := 16) hi (by decide)) hi ?_
            refine w_bipush (v := 38) dX16_relays_74 rfl ?_
            refine w_icmpne (t := 95) dX16_relays_76 (by decide) (fun c76 => ?_) (fun c76 => ?_)
            · refine w_op (pc' := 96) dX16_relays_95 rfl ?_
              refine t_getG0 (G := g_m_operation) dX16_relays_96 rfl rfl (by decide) rfl (fun _ => rfl) (hp.1 _ rfl) ?_
              refine w_op (pc' := 100) dX16_relays_99 rfl ?_
              refine t_cald0 (F := f_m_operation) dX16_relays_100 rfl (by decide) rfl (hp.1 _ rfl) (s_ix.nI (N := 16) hi (by decide)) hi ?_
              refine w_bipush (v := 124) dX16_relays_101 rfl ?_
              refine w_icmpne (t := 122) dX16_relays_103 (by decide) (fun c103 => ?_) (fun c103 => ?_)
              · refine w_op (pc' := 123) dX16_relays_122 rfl ?_
                refine t_getG0 (G := g_m_operation) dX16_relays_123 rfl rfl (by decide) rfl (fun _ => rfl) (hp.1 _ rfl) ?_
                refine w_op (pc' := 127) dX16_relays_126 rfl ?_
                refine t_cald0 (F := f_m_operation) dX16_relays_127 rfl (by decide) rfl (hp.1 _ rfl) (s_ix.nI (N := 16) hi (by decide)) hi ?_
                refine w_bipush (v := 94) dX16_relays_128 rfl ?_
                refine w_icmpne (t := 146) dX16_relays_130 (by decide) (fun c130 => ?_) (fun c130 => ?_)
                · refine w_op (pc' := 147) dX16_relays_146 rfl ?_
                  refine w_ifne (t := 154) dX16_relays_147 (by decide) (fun c147 => ?_) (fun c147 => ?_)
                  · refine w_iconst (v := 0) dX16_relays_154 rfl ?_
                    refine t_bast0 (F := f_m_isRelay) dX16_relays_155 rfl (by decide) (by decide) rfl (hp.1 _ rfl) (s_ix.nI (N := 16) hi (by decide)) hi (by first | exact Or.inl rfl | exact Or.inr rfl | assumption) ?_
                    refine w_op (pc' := 159) (ll' := [_, _, _, _]) dX16_relays_156 rfl ?_
                    refine w_goto (t := 2) dX16_relays_159 (by decide) ?_
                    rw [show nI i + Int32.ofInt 1 = nI (i + 1) from nI_1 i]
                    have ev : q_rv I1 nk i = false := by unfold q_rv; grind
                    have ef : q_rl nk i I1 = s_up I1 f_m_isRelay i 0 := by unfold q_rl; rw [if_neg c16, ev]; rfl
                    rw [s_run_s (by omega), ef] at hr
                    exact ih (i + 1) _ _ _ (by omega) (e.trans (s_eqN.up (by decide))) (hb3.up (by decide)) hr (by omega)
                  · refine w_iconst (v := 1) dX16_relays_150 rfl ?_
                    refine w_goto (t := 155) dX16_relays_151 (by decide) ?_
                    refine t_bast0 (F := f_m_isRelay) dX16_relays_155 rfl (by decide) (by decide) rfl (hp.1 _ rfl) (s_ix.nI (N := 16) hi (by decide)) hi (by first | exact Or.inl rfl | exact Or.inr rfl | assumption) ?_
                    refine w_op (pc' := 159) (ll' := [_, _, _, _]) dX16_relays_156 rfl ?_
                    refine w_goto (t := 2) dX16_relays_159 (by decide) ?_
                    rw [show nI i + Int32.ofInt 1 = nI (i + 1) from nI_1 i]
                    have ev : q_rv I1 nk i = true := by unfold q_rv; grind
                    have ef : q_rl nk i I1 = s_up I1 f_m_isRelay i 1 := by unfold q_rl; rw [if_neg c16, ev]; rfl
                    rw [s_run_s (by omega), ef] at hr
                    exact ih (i + 1) _ _ _ (by omega) (e.trans (s_eqN.up (by decide))) (hb3.up (by decide)) hr (by omega)
                · refine w_op (pc' := 134) dX16_relays_133 rfl ?_
                  refine w_op (pc' := 135) dX16_relays_134 rfl ?_
                  refine w_icmpeq (t := 142) dX16_relays_135 (by decide) (fun c135 => ?_) (fun c135 => ?_)
                  · refine w_iconst (v := 0) dX16_relays_142 rfl ?_
                    refine w_goto (t := 155) dX16_relays_143 (by decide) ?_
                    refine t_bast0 (F := f_m_isRelay) dX16_relays_155 rfl (by decide) (by decide) rfl (hp.1 _ rfl) (s_ix.nI (N := 16) hi (by decide)) hi (by first | exact Or.inl rfl | exact Or.inr rfl | assumption) ?_
                    refine w_op (pc' := 159) (ll' := [_, _, _, _]) dX16_relays_156 rfl ?_
                    refine w_goto (t := 2) dX16_relays_159 (by decide) ?_
                    rw [show nI i + Int32.ofInt 1 = nI (i + 1) from nI_1 i]
                    have ev : q_rv I1 nk i = false := by unfold q_rv; grind
                    have ef : q_rl nk i I1 = s_up I1 f_m_isRelay i 0 := by unfold q_rl; rw [if_neg c16, ev]; rfl
                    rw [s_run_s (by omega), ef] at hr
                    exact ih (i + 1) _ _ _ (by omega) (e.trans (s_eqN.up (by decide))) (hb3.up (by decide)) hr (by omega)
                  · refine w_iconst (v := 1) dX16_relays_138 rfl ?_
                    refine w_goto (t := 155) dX16_relays_139 (by decide) ?_
                    refine t_bast0 (F := f_m_isRelay) dX16_relays_155 rfl (by decide) (by decide) rfl (hp.1 _ rfl) (s_ix.nI (N := 16) hi (by decide)) hi (by first | exact Or.inl rfl | exact Or.inr rfl | assumption) ?_
                    refine w_op (pc' := 159) (ll' := [_, _, _, _]) dX16_relays_156 rfl ?_
                    refine w_goto (t := 2) dX16_relays_159 (by decide) ?_
                    rw [show nI i + Int32.ofInt 1 = nI (i + 1) from nI_1 i]
                    have ev : q_rv I1 nk i = true := by unfold q_rv; grind
                    have ef : q_rl nk i I1 = s_up I1 f_m_isRelay i 1 := by unfold q_rl; rw [if_neg c16, ev]; rfl
                    rw [s_run_s (by omega), ef] at hr
                    exact ih (i + 1) _ _ _ (by omega) (e.trans (s_eqN.up (by decide))) (hb3.up (by decide)) hr (by omega)
              · refine w_op (pc' := 107) dX16_relays_106 rfl ?_
                refine w_ifne (t := 114) dX16_relays_107 (by decide) (fun c107 => ?_) (fun c107 => ?_)
                · refine w_iconst (v := 1) dX16_relays_114 rfl ?_
                  refine w_goto (t := 155) dX16_relays_115 (by decide) ?_
                  refine t_bast0 (F := f_m_isRelay) dX16_relays_155 rfl (by decide) (by decide) rfl (hp.1 _ rfl) (s_ix.nI (N := 16) hi (by decide)) hi (by first | exact Or.inl rfl | exact Or.inr rfl | assumption) ?_
                  refine w_op (pc' := 159) (ll' := [_, _, _, _]) dX16_relays_156 rfl ?_
                  refine w_goto (t := 2) dX16_relays_159 (by decide) ?_
                  rw [show nI i + Int32.ofInt 1 = nI (i + 1) from nI_1 i]
                  have ev : q_rv I1 nk i = true := by unfold q_rv; grind
                  have ef : q_rl nk i I1 = s_up I1 f_m_isRelay i 1 := by unfold q_rl; rw [if_neg c16, ev]; rfl
                  rw [s_run_s (by omega), ef] at hr
                  exact ih (i + 1) _ _ _ (by omega) (e.trans (s_eqN.up (by decide))) (hb3.up (by decide)) hr (by omega)
                · refine w_op (pc' := 111) dX16_relays_110 rfl ?_
                  refine w_ifeq (t := 118) dX16_relays_111 (by decide) (fun c111 => ?_) (fun c111 => ?_)
                  · exact absurd c111 (by decide)
                  · refine w_iconst (v := 1) dX16_relays_114 rfl ?_
                    refine w_goto (t := 155) dX16_relays_115 (by decide) ?_
                    refine t_bast0 (F := f_m_isRelay) dX16_relays_155 rfl (by decide) (by decide) rfl (hp.1 _ rfl) (s_ix.nI (N := 16) hi (by decide)) hi (by first | exact Or.inl rfl | exact Or.inr rfl | assumption) ?_
                    refine w_op (pc' := 159) (ll' := [_, _, _, _]) dX16_relays_156 rfl ?_
                    refine w_goto (t := 2) dX16_relays_159 (by decide) ?_
                    rw [show nI i + Int32.ofInt 1 = nI (i + 1) from nI_1 i]
                    have ev : q_rv I1 nk i = true := by unfold q_rv; grind
                    have ef : q_rl nk i I1 = s_up I1 f_m_isRelay i 1 := by unfold q_rl; rw [if_neg c16, ev]; rfl
                    rw [s_run_s (by omega), ef] at hr
                    exact ih (i + 1) _ _ _ (by omega) (e.trans (s_eqN.up (by decide))) (hb3.up (by decide)) hr (by omega)
            · refine w_op (pc' := 80) dX16_relays_79 rfl ?_
              refine w_ifeq (t := 91) dX16_relays_80 (by decide) (fun c80 => ?_) (fun c80 => ?_)
              · refine w_iconst (v := 0) dX16_relays_91 rfl ?_
                refine w_goto (t := 155) dX16_relays_92 (by decide) ?_
                refine t_bast0 (F := f_m_isRelay) dX16_relays_155 rfl (by decide) (by decide) rfl (hp.1 _ rfl) (s_ix.nI (N := 16) hi (by decide)) hi (by first | exact Or.inl rfl | exact Or.inr rfl | assumption) ?_
                refine w_op (pc' := 159) (ll' := [_, _, _, _]) dX16_relays_156 rfl ?_
                refine w_goto (t := 2) dX16_relays_159 (by decide) ?_
                rw [show nI i + Int32.ofInt 1 = nI (i + 1) from nI_1 i]
                have ev : q_rv I1 nk i = false := by unfold q_rv; grind
                have ef : q_rl nk i I1 = s_up I1 f_m_isRelay i 0 := by unfold q_rl; rw [if_neg c16, ev]; rfl
                rw [s_run_s (by omega), ef] at hr
                exact ih (i + 1) _ _ _ (by omega) (e.trans (s_eqN.up (by decide))) (hb3.up (by decide)) hr (by omega)
              · refine w_op (pc' := 84) dX16_relays_83 rfl ?_
                refine w_ifeq (t := 91) dX16_relays_84 (by decide) (fun c84 => ?_) (fun c84 => ?_)
                · exact absurd c84 (by decide)
                · refine w_iconst (v := 1) dX16_relays_87 rfl ?_
                  refine w_goto (t := 155) dX16_relays_88 (by decide) ?_
                  refine t_bast0 (F := f_m_isRelay) dX16_relays_155 rfl (by decide) (by decide) rfl (hp.1 _ rfl) (s_ix.nI (N := 16) hi (by decide)) hi (by first | exact Or.inl rfl | exact Or.inr rfl | assumption) ?_
                  refine w_op (pc' := 159) (ll' := [_, _, _, _]) dX16_relays_156 rfl ?_
                  refine w_goto (t := 2) dX16_relays_159 (by decide) ?_
                  rw [show nI i + Int32.ofInt 1 = nI (i + 1) from nI_1 i]
                  have ev : q_rv I1 nk i = true := by unfold q_rv; grind
                  have ef : q_rl nk i I1 = s_up I1 f_m_isRelay i 1 := by unfold q_rl; rw [if_neg c16, ev]; rfl
                  rw [s_run_s (by omega), ef] at hr
                  exact ih (i + 1) _ _ _ (by omega) (e.trans (s_eqN.up (by decide))) (hb3.up (by decide)) hr (by omega)
      · refine w_goto (t := 156) dX16_relays_19 (by decide) ?_
        refine w_op (pc' := 159) (ll' := [_, _, _, _]) dX16_relays_156 rfl ?_
        refine w_goto (t := 2) dX16_relays_159 (by decide) ?_
        rw [show nI i + Int32.ofInt 1 = nI (i + 1) from nI_1 i]
        have ef : q_rl nk i I1 = I1 := if_pos c16
        rw [s_run_s (by omega), ef] at hr
        exact ih (i + 1) _ _ _ (by omega) e hb3 hr (by omega)
set_option maxRecDepth 100000 in
set_option maxHeartbeats 4000000 in
theorem c_X16_relays {X : e_XT} {d : Nat} {p : e_Sp} {I : e_I} {J : e_Jt} {c : Nat × Nat} {w : e_Rw1} {Q : e_Rt → e_SS → Prop} {nk nr np : Nat} (hM : q_D p I nk nr np) (hS : q_S I) (hb : q_bo I f_m_isDown) (hb2 : q_bo I f_m_isRelay) (k : Q (.inl none) (p, q_rel nk I, J, c, w)) : s_c X (d + 4) 221 [.ref (p.1 T_MODEL 0)] (p, I, J, c, w) Q := by
  refine m_X16_relays (Nat.le_of_ble_eq_true rfl) ?_
  show s_w _ _ _ 0 _ _ _ _
  refine w_iconst (v := 0) dX16_relays_0 rfl ?_
  refine w_op (pc' := 2) (ll' := [_, _, _, _]) dX16_relays_1 rfl ?_
  exact l_X16_relays hM hS hb hb2 k 17 0 _ _ _ (by omega) s_eqN.rfl' hb2 rfl (by omega)

set_option maxRecDepth 100000 in
set_option maxHeartbeats 4000000 in
theorem c_X16_isKey {X : e_XT} {d : Nat} {p : e_Sp} {I : e_I} {J : e_Jt} {c : Nat × Nat} {w : e_Rw1} {Q : e_Rt → e_SS → Prop} {x y : Int32} (k : Q (.inl (some (.int (bI (decide (s_isk x y)))))) (p, I, J, c, w)) : s_c X (d + 2) 234 [.int x, .int y] (p, I, J, c, w) Q := by
  refine m_X16_isKey (Nat.le_of_ble_eq_true rfl) ?_
  show s_w _ _ _ 0 _ _ _ _
  refine w_op (pc' := 1) dX16_isKey_0 rfl ?_
  refine t_callS (As := [_]) dX16_isKey_1 rfl rM_X16_isDivision (by decide) rfl rfl (by decide) (Nat.le_of_ble_eq_true rfl) (c_X16_isDivision ?_)
  show s_w _ _ _ 4 _ _ _ _
  refine w_ifeq (t := 25) dX16_isKey_4 (by decide) (fun c4 => ?_) (fun c4 => ?_)
  · refine w_iconst (v := 0) dX16_isKey_25 rfl ?_
    exact w_ireturn dX16_isKey_26 ⟨s_rcb (by first | exact Or.inl rfl | exact Or.inr rfl | exact bI_or _), s_eqi (by rw [q_iskB]; grind) k⟩
  · refine w_op (pc' := 8) dX16_isKey_7 rfl ?_
    refine w_iconst (v := 0) dX16_isKey_8 rfl ?_
    refine w_op (pc' := 10) dX16_isKey_9 rfl ?_
    refine t_callS (As := [_]) dX16_isKey_10 rfl rM_X16_keys (by decide) rfl rfl (by decide) (Nat.le_of_ble_eq_true rfl) (c_X16_keys ?_)
    show s_w _ _ _ 13 _ _ _ _
    refine w_iconst (v := 1) dX16_isKey_13 rfl ?_
    refine w_op (pc' := 15) dX16_isKey_14 rfl ?_
    refine t_callS (As := [_, _, _]) dX16_isKey_15 rfl rM_X16_in (by decide) rfl rfl (by decide) (Nat.le_of_ble_eq_true rfl) (c_X16_in ?_)
    show s_w _ _ _ 18 _ _ _ _
    refine w_ifeq (t := 25) dX16_isKey_18 (by decide) (fun c18 => ?_) (fun c18 => ?_)
    · refine w_iconst (v := 0) dX16_isKey_25 rfl ?_
      exact w_ireturn dX16_isKey_26 ⟨s_rcb (by first | exact Or.inl rfl | exact Or.inr rfl | exact bI_or _), s_eqi (by rw [q_iskB]; grind) k⟩
    · refine w_iconst (v := 1) dX16_isKey_21 rfl ?_
      refine w_goto (t := 26) dX16_isKey_22 (by decide) ?_
      exact w_ireturn dX16_isKey_26 ⟨s_rcb (by first | exact Or.inl rfl | exact Or.inr rfl | exact bI_or _), s_eqi (by rw [q_iskB]; grind) k⟩

set_option maxRecDepth 100000 in
set_option maxHeartbeats 4000000 in
theorem l_X16_edge {X : e_XT} {d : Nat} {p : e_Sp} {I : e_I} {J : e_Jt} {c : Nat × Nat} {w : e_Rw1} {Q : e_Rt → e_SS → Prop} (hp : s_ok p) {dv : Nat} {h : Int32} (hd : dv < 3) {r : Int32} (k : Q (.inl (some (.int r))) (p, I, J, c, w)) : ∀ (n : Nat) (i : Nat) (fd : Int32), (h1 : i ≤ s_kcn (nI dv)) → (hr : s_run (q_egs I (nI dv) h) i (s_kcn (nI dv) - i) fd = r) → (hn : s_kcn (nI dv) - i < n) → s_w X (d + 2) K_X16_edge 5 [some (.ref (p.1 T_MODEL 0)), some (.int (nI dv)), some (.int h), some (.int fd), some (.int (nI i))] [] (p, I, J, c, w) (fun r S' => e_rcr (some FieldType.int) r = true ∧ Q r S') := by
  intro n
  induction n with
  | zero =>
    intro i fd h1 hr hn
    exact absurd hn (Nat.not_lt_zero _)
  | succ n ih =>
    intro i fd h1 hr hn
    have h61 := s_kcn_le (nI dv)
    refine w_op (pc' := 7) dX16_edge_5 rfl ?_
    refine w_op (pc' := 8) dX16_edge_7 rfl ?_
    refine t_callS (As := [_]) dX16_edge_8 rfl rM_X16_keys (by decide) rfl rfl (by decide) (Nat.le_of_ble_eq_true rfl) (c_X16_keys ?_)
    show s_w _ _ _ 11 _ _ _ _
    refine w_icmpge (t := 46) dX16_edge_11 (by decide) (fun c11 => ?_) (fun c11 => ?_)
    · have hi : s_kcn (nI dv) ≤ i := (nI_leI (by omega) (by omega)).mp c11
      refine w_op (pc' := 47) dX16_edge_46 rfl ?_
      exact w_ireturn dX16_edge_47 ⟨rfl, by rw [s_run_z hi] at hr; subst hr; exact k⟩
    · have hi : i < s_kcn (nI dv) := Nat.lt_of_not_le (fun z => c11 ((nI_leI (by omega) (by omega)).mpr z))
      have hq := q_ki hd hi
      refine w_op (pc' := 15) dX16_edge_14 rfl ?_
      refine t_getG0 (G := g_m_isDown) dX16_edge_15 rfl rfl (by decide) rfl (fun _ => rfl) (hp.1 _ rfl) ?_
      refine w_op (pc' := 19) dX16_edge_18 rfl ?_
      refine w_op (pc' := 21) dX16_edge_19 rfl ?_
      refine t_callS (As := [_, _]) dX16_edge_21 rfl rM_X16_spot (by decide) rfl rfl (by decide) (Nat.le_of_ble_eq_true rfl) (c_X16_spot hq ?_)
      show s_w _ _ _ 24 _ _ _ _
      refine t_bald0 (F := f_m_isDown) dX16_edge_24 rfl (by decide) rfl (hp.1 _ rfl) (show s_ix _ _ 183 from s_ix.nI hq.lt (by decide)) hq.lt ?_
      refine w_ifeq (t := 40) dX16_edge_25 (by decide) (fun c25 => ?_) (fun c25 => ?_)
      · refine w_op (pc' := 43) (ll' := [_, _, _, _, _]) dX16_edge_40 rfl ?_
        refine w_goto (t := 5) dX16_edge_43 (by decide) ?_
        rw [show nI i + Int32.ofInt 1 = nI (i + 1) from nI_1 i]
        have ef : q_egs I (nI dv) h i fd = fd := by unfold q_egs; grind
        rw [s_run_s hi, ef] at hr
        exact ih (i + 1) _ (by omega) hr (by omega)
      · refine w_op (pc' := 29) dX16_edge_28 rfl ?_
        refine w_iconst (v := (-1)) dX16_edge_29 rfl ?_
        refine w_icmpeq (t := 37) dX16_edge_30 (by decide) (fun c30 => ?_) (fun c30 => ?_)
        · refine w_op (pc' := 39) dX16_edge_37 rfl ?_
          refine w_op (pc' := 40) (ll' := [_, _, _, _, _]) dX16_edge_39 rfl ?_
          refine w_op (pc' := 43) (ll' := [_, _, _, _, _]) dX16_edge_40 rfl ?_
          refine w_goto (t := 5) dX16_edge_43 (by decide) ?_
          rw [show nI i + Int32.ofInt 1 = nI (i + 1) from nI_1 i]
          have ef : q_egs I (nI dv) h i fd = nI i := by unfold q_egs; grind
          rw [s_run_s hi, ef] at hr
          exact ih (i + 1) _ (by omega) hr (by omega)
        · refine w_op (pc' := 34) dX16_edge_33 rfl ?_
          refine w_ifeq (t := 40) dX16_edge_34 (by decide) (fun c34 => ?_) (fun c34 => ?_)
          · refine w_op (pc' := 43) (ll' := [_, _, _, _, _]) dX16_edge_40 rfl ?_
            refine w_goto (t := 5) dX16_edge_43 (by decide) ?_
            rw [show nI i + Int32.ofInt 1 = nI (i + 1) from nI_1 i]
            have ef : q_egs I (nI dv) h i fd = fd := by unfold q_egs; grind
            rw [s_run_s hi, ef] at hr
            exact ih (i + 1) _ (by omega) hr (by omega)
          · refine w_op (pc' := 39) dX16_edge_37 rfl ?_
            refine w_op (pc' := 40) (ll' := [_, _, _, _, _]) dX16_edge_39 rfl ?_
            refine w_op (pc' := 43) (ll' := [_, _, _, _, _]) dX16_edge_40 rfl ?_
            refine w_goto (t := 5) dX16_edge_43 (by decide) ?_
            rw [show nI i + Int32.ofInt 1 = nI (i + 1) from nI_1 i]
            have ef : q_egs I (nI dv) h i fd = nI i := by unfold q_egs; grind
            rw [s_run_s hi, ef] at hr
            exact ih (i + 1) _ (by omega) hr (by omega)
set_option maxRecDepth 100000 in
set_option maxHeartbeats 4000000 in
theorem c_X16_edge {X : e_XT} {d : Nat} {p : e_Sp} {I : e_I} {J : e_Jt} {c : Nat × Nat} {w : e_Rw1} {Q : e_Rt → e_SS → Prop} (hp : s_ok p) {dv : Nat} {h : Int32} (hd : dv < 3) (k : Q (.inl (some (.int (q_eg I (nI dv) h)))) (p, I, J, c, w)) : s_c X (d + 2) 233 [.ref (p.1 T_MODEL 0), .int (nI dv), .int h] (p, I, J, c, w) Q := by
  refine m_X16_edge (Nat.le_of_ble_eq_true rfl) ?_
  show s_w _ _ _ 0 _ _ _ _
  refine w_iconst (v := (-1)) dX16_edge_0 rfl ?_
  refine w_op (pc' := 2) (ll' := [_, _, _, _, _]) dX16_edge_1 rfl ?_
  refine w_iconst (v := 0) dX16_edge_2 rfl ?_
  refine w_op (pc' := 5) (ll' := [_, _, _, _, _]) dX16_edge_3 rfl ?_
  exact l_X16_edge hp hd k (s_kcn (nI dv) + 1) 0 _ (Nat.zero_le _) rfl (by omega)

set_option maxRecDepth 100000 in
set_option maxHeartbeats 4000000 in
theorem c_X16_takes {X : e_XT} {d : Nat} {p : e_Sp} {I : e_I} {J : e_Jt} {c : Nat × Nat} {w : e_Rw1} {Q : e_Rt → e_SS → Prop} (hp : s_ok p) {kk : Nat} (hK : q_K p I kk) {y : Int32} (hq : s_isk (I f_mk_division kk) y) (k : Q (.inl (some (.int (bI (q_tk I kk y))))) (p, I, J, c, w)) : s_c X (d + 3) 232 [.ref (p.1 T_MODEL 0), .ref (p.1 T_MKNOB kk), .int y] (p, I, J, c, w) Q := by
  have hv := hK.1
  obtain ⟨dv, hdv, edv⟩ := hK.2.2.1
  refine m_X16_takes (Nat.le_of_ble_eq_true rfl) ?_
  show s_w _ _ _ 0 _ _ _ _
  refine w_op (pc' := 1) dX16_takes_0 rfl ?_
  refine t_getI (F := f_mk_letter) dX16_takes_1 rfl rfl (by decide) rfl ⟨rfl, fun _ => rfl⟩ (by assumption) ?_
  refine w_sw3 (ta := 40) (tb := 61) (tc := 42) (td := 80) dX16_takes_4 (by decide) (by decide) (by decide) (by decide) (by decide) (fun c4 => ?_) (fun c4 => ?_) (fun c4 => ?_) (fun c4 => ?_)
  · refine w_iconst (v := 1) dX16_takes_40 rfl ?_
    exact w_ireturn dX16_takes_41 ⟨s_rcb (Or.inr rfl), s_eqi (by unfold q_tk; rw [if_pos (q_ti (v := 97) c4 rfl)]; rfl) k⟩
  · refine w_op (pc' := 62) dX16_takes_61 rfl ?_
    refine w_op (pc' := 63) dX16_takes_62 rfl ?_
    refine t_getI (F := f_mk_division) dX16_takes_63 rfl rfl (by decide) rfl ⟨rfl, fun _ => rfl⟩ (by assumption) ?_
    refine w_iconst (v := 0) dX16_takes_66 rfl ?_
    refine t_callV (t := T_MODEL) (As := [_, _]) dX16_takes_67 rfl rM_X16_edge (by decide) rfl rfl (by decide) (by decide) (Nat.le_of_ble_eq_true rfl) rfl (hp.1 _ rfl) (edv ▸ c_X16_edge hp hdv ?_)
    show s_w _ _ _ 70 _ _ _ _
    refine w_op (pc' := 71) dX16_takes_70 rfl ?_
    refine w_icmpne (t := 78) dX16_takes_71 (by decide) (fun c71 => ?_) (fun c71 => ?_)
    · refine w_iconst (v := 0) dX16_takes_78 rfl ?_
      exact w_ireturn dX16_takes_79 ⟨s_rcb (by first | exact Or.inl rfl | exact Or.inr rfl | exact bI_or _), s_eqi (by unfold q_tk; rw [if_neg (q_tn (n := 97) (v := 97) (by omega) rfl), if_pos (q_ti (v := 98) c4 rfl)]; rw [edv]; grind) k⟩
    · refine w_iconst (v := 1) dX16_takes_74 rfl ?_
      refine w_goto (t := 79) dX16_takes_75 (by decide) ?_
      exact w_ireturn dX16_takes_79 ⟨s_rcb (by first | exact Or.inl rfl | exact Or.inr rfl | exact bI_or _), s_eqi (by unfold q_tk; rw [if_neg (q_tn (n := 97) (v := 97) (by omega) rfl), if_pos (q_ti (v := 98) c4 rfl)]; rw [edv]; grind) k⟩
  · refine w_op (pc' := 43) dX16_takes_42 rfl ?_
    refine w_op (pc' := 44) dX16_takes_43 rfl ?_
    refine t_getI (F := f_mk_division) dX16_takes_44 rfl rfl (by decide) rfl ⟨rfl, fun _ => rfl⟩ (by assumption) ?_
    refine w_iconst (v := 1) dX16_takes_47 rfl ?_
    refine t_callV (t := T_MODEL) (As := [_, _]) dX16_takes_48 rfl rM_X16_edge (by decide) rfl rfl (by decide) (by decide) (Nat.le_of_ble_eq_true rfl) rfl (hp.1 _ rfl) (edv ▸ c_X16_edge hp hdv ?_)
    show s_w _ _ _ 51 _ _ _ _
    refine w_op (pc' := 52) dX16_takes_51 rfl ?_
    refine w_icmpne (t := 59) dX16_takes_52 (by decide) (fun c52 => ?_) (fun c52 => ?_)
    · refine w_iconst (v := 0) dX16_takes_59 rfl ?_
      exact w_ireturn dX16_takes_60 ⟨s_rcb (by first | exact Or.inl rfl | exact Or.inr rfl | exact bI_or _), s_eqi (by unfold q_tk; rw [if_neg (q_tn (n := 97) (v := 97) (by omega) rfl), if_neg (q_tn (n := 98) (v := 98) (by omega) rfl), if_pos (q_ti (v := 109) c4 rfl)]; rw [edv]; grind) k⟩
    · refine w_iconst (v := 1) dX16_takes_55 rfl ?_
      refine w_goto (t := 60) dX16_takes_56 (by decide) ?_
      exact w_ireturn dX16_takes_60 ⟨s_rcb (by first | exact Or.inl rfl | exact Or.inr rfl | exact bI_or _), s_eqi (by unfold q_tk; rw [if_neg (q_tn (n := 97) (v := 97) (by omega) rfl), if_neg (q_tn (n := 98) (v := 98) (by omega) rfl), if_pos (q_ti (v := 109) c4 rfl)]; rw [edv]; grind) k⟩
  · refine w_op (pc' := 81) dX16_takes_80 rfl ?_
    refine t_getG0 (G := g_m_wentDown) dX16_takes_81 rfl rfl (by decide) rfl (fun _ => rfl) (hp.1 _ rfl) ?_
    refine w_op (pc' := 85) dX16_takes_84 rfl ?_
    refine t_getI (F := f_mk_division) dX16_takes_85 rfl rfl (by decide) rfl ⟨rfl, fun _ => rfl⟩ (by assumption) ?_
    refine w_op (pc' := 89) dX16_takes_88 rfl ?_
    refine t_callS (As := [_, _]) dX16_takes_89 rfl rM_X16_spot (by decide) rfl rfl (by decide) (Nat.le_of_ble_eq_true rfl) (c_X16_spot hq ?_)
    show s_w _ _ _ 92 _ _ _ _
    refine t_iald0 (F := f_m_wentDown) dX16_takes_92 rfl (by decide) rfl (hp.1 _ rfl) (show s_ix _ _ 183 from s_ix.nI hq.lt (by decide)) hq.lt ?_
    refine w_op (pc' := 94) dX16_takes_93 rfl ?_
    refine t_getI (F := f_m_tick) dX16_takes_94 rfl rfl (by decide) rfl ⟨rfl, fun _ => rfl⟩ (hp.1 _ rfl) ?_
    refine w_icmpne (t := 104) dX16_takes_97 (by decide) (fun c97 => ?_) (fun c97 => ?_)
    · refine w_iconst (v := 0) dX16_takes_104 rfl ?_
      exact w_ireturn dX16_takes_105 ⟨s_rcb (by first | exact Or.inl rfl | exact Or.inr rfl | exact bI_or _), s_eqi (by unfold q_tk; rw [if_neg (q_tn (v := 97) c4.1 rfl), if_neg (q_tn (v := 98) c4.2.1 rfl), if_neg (q_tn (v := 109) c4.2.2 rfl)]; rw [edv]; grind) k⟩
    · refine w_iconst (v := 1) dX16_takes_100 rfl ?_
      refine w_goto (t := 105) dX16_takes_101 (by decide) ?_
      exact w_ireturn dX16_takes_105 ⟨s_rcb (by first | exact Or.inl rfl | exact Or.inr rfl | exact bI_or _), s_eqi (by unfold q_tk; rw [if_neg (q_tn (v := 97) c4.1 rfl), if_neg (q_tn (v := 98) c4.2.1 rfl), if_neg (q_tn (v := 109) c4.2.2 rfl)]; rw [edv]; grind) k⟩

set_option maxRecDepth 100000 in
set_option maxHeartbeats 4000000 in
theorem l2_X16_plays {X : e_XT} {d : Nat} {p : e_Sp} {I : e_I} {J : e_Jt} {c : Nat × Nat} {w : e_Rw1} {Q : e_Rt → e_SS → Prop} {nk nr np : Nat} (hM : q_D p I nk nr np) {x y z : Int32} {kk m4 : Nat} {R : e_I} (hkk : kk < nk) (hm4 : m4 ≤ 4) (hrw : I f_mk_rows kk = nI m4) (hk : ∀ o4 o5 o6 o7, s_w X (d + 4) K_X16_plays 165 [some (.ref (p.1 T_MODEL 0)), some (.int x), some (.int y), some (.int (nI kk)), o4, o5, o6, o7] [] (p, R, J, c, w) (fun r S' => e_rcr (none) r = true ∧ Q r S')) : ∀ (n : Nat) (i : Nat) (I1 : e_I) (o7 : Option Value), (h1 : i ≤ m4) → (e : s_eqN [f_m_counts] I I1) → (hr : s_run (q_plR nr kk z) i (m4 - i) I1 = R) → (hn : m4 - i < n) → s_w X (d + 4) K_X16_plays 69 [some (.ref (p.1 T_MODEL 0)), some (.int x), some (.int y), some (.int (nI kk)), some (.ref (p.1 T_MKNOB kk)), some (.int z), some (.int (nI i)), o7] [] (p, I1, J, c, w) (fun r S' => e_rcr (none) r = true ∧ Q r S') := by
  intro n
  induction n with
  | zero =>
    intro i I1 o7 h1 e hr hn
    exact absurd hn (Nat.not_lt_zero _)
  | succ n ih =>
    intro i I1 o7 h1 e hr hn
    have hM1 := hM.eqN e (by decide)
    have hp := hM1.1
    have hk40 := hM1.2.1
    have hr10 := hM1.2.2.1
    have hnp := hM1.2.2.2.1.1
    have hK := hM1.2.2.2.2.1 kk hkk
    have hrw1 : I1 f_mk_rows kk = nI m4 := by rw [e f_mk_rows (by decide)]; exact hrw
    refine w_op (pc' := 71) dX16_plays_69 rfl ?_
    refine w_op (pc' := 73) dX16_plays_71 rfl ?_
    refine t_getI (F := f_mk_rows) dX16_plays_73 rfl rfl (by decide) rfl ⟨rfl, fun _ => rfl⟩ hK.1 ?_
    refine w_icmpge (t := 165) dX16_plays_76 (by decide) (fun c76 => ?_) (fun c76 => ?_)
    · rw [hrw1] at c76
      have hi : m4 ≤ i := (nI_leI (by omega) (by omega)).mp c76
      rw [s_run_z hi] at hr; subst hr; exact hk _ _ _ _
    · rw [hrw1] at c76
      have hi : i < m4 := Nat.lt_of_not_le (fun z => c76 ((nI_leI (by omega) (by omega)).mpr z))
      have hi4 : i < 4 := by omega
      refine w_bipush (v := 36) dX16_plays_79 rfl ?_
      refine w_op (pc' := 83) dX16_plays_81 rfl ?_
      refine w_op (pc' := 84) dX16_plays_83 rfl ?_
      refine w_op (pc' := 86) dX16_plays_84 rfl ?_
      refine t_getG1 (G := g_mk_offsets) dX16_plays_86 rfl rfl (by decide) rfl (fun _ => rfl) hK.1 ?_
      refine w_op (pc' := 91) dX16_plays_89 rfl ?_
      refine t_iald (F := f_mk_offsets) dX16_plays_91 rfl (by decide) rfl (hK.2.1 _ (by decide)) (s_ix.nI (N := 4) hi4 (by decide)) hi4 ?_
      refine w_op (pc' := 93) dX16_plays_92 rfl ?_
      refine w_op (pc' := 95) (ll' := [_, _, _, _, _, _, _, _]) dX16_plays_93 rfl ?_
      refine w_op (pc' := 97) dX16_plays_95 rfl ?_
      refine w_op (pc' := 99) dX16_plays_97 rfl ?_
      refine t_getG1 (G := g_mk_froms) dX16_plays_99 rfl rfl (by decide) rfl (fun _ => rfl) hK.1 ?_
      refine w_op (pc' := 104) dX16_plays_102 rfl ?_
      refine t_iald (F := f_mk_froms) dX16_plays_104 rfl (by decide) rfl (hK.2.1 _ (by decide)) (s_ix.nI (N := 4) hi4 (by decide)) hi4 ?_
      refine w_op (pc' := 107) dX16_plays_105 rfl ?_
      refine t_getG1 (G := g_mk_tos) dX16_plays_107 rfl rfl (by decide) rfl (fun _ => rfl) hK.1 ?_
      refine w_op (pc' := 112) dX16_plays_110 rfl ?_
      refine t_iald (F := f_mk_tos) dX16_plays_112 rfl (by decide) rfl (hK.2.1 _ (by decide)) (s_ix.nI (N := 4) hi4 (by decide)) hi4 ?_
      refine t_callS (As := [_, _, _]) dX16_plays_113 rfl rM_X16_in (by decide) rfl rfl (by decide) (Nat.le_of_ble_eq_true rfl) (c_X16_in ?_)
      show s_w _ _ _ 116 _ _ _ _
      refine w_ifeq (t := 159) dX16_plays_116 (by decide) (fun c116 => ?_) (fun c116 => ?_)
      · refine w_op (pc' := 162) (ll' := [_, _, _, _, _, _, _, _]) dX16_plays_159 rfl ?_
        refine w_goto (t := 69) dX16_plays_162 (by decide) ?_
        rw [show nI i + Int32.ofInt 1 = nI (i + 1) from nI_1 i]
        have ef : q_plR nr kk z i I1 = _ := if_neg (fun u => of_decide_eq_false (bI_0.mp c116) u.1)
        rw [s_run_s hi, ef] at hr
        exact ih (i + 1) _ _ (by omega) (e) hr (by omega)
      · refine w_op (pc' := 120) dX16_plays_119 rfl ?_
        refine w_op (pc' := 122) dX16_plays_120 rfl ?_
        refine t_getG1 (G := g_mk_ranks) dX16_plays_122 rfl rfl (by decide) rfl (fun _ => rfl) hK.1 ?_
        refine w_op (pc' := 127) dX16_plays_125 rfl ?_
        refine t_iald (F := f_mk_ranks) dX16_plays_127 rfl (by decide) rfl (hK.2.1 _ (by decide)) (s_ix.nI (N := 4) hi4 (by decide)) hi4 ?_
        refine w_op (pc' := 130) dX16_plays_128 rfl ?_
        refine t_callV (t := T_MODEL) (As := [_, _]) dX16_plays_130 rfl rM_X16_isPipe (by decide) rfl rfl (by decide) (by decide) (Nat.le_of_ble_eq_true rfl) rfl (hp.1 _ rfl) (c_X16_isPipe hM1 ?_)
        show s_w _ _ _ 133 _ _ _ _
        refine w_ifeq (t := 159) dX16_plays_133 (by decide) (fun c133 => ?_) (fun c133 => ?_)
        · refine w_op (pc' := 162) (ll' := [_, _, _, _, _, _, _, _]) dX16_plays_159 rfl ?_
          refine w_goto (t := 69) dX16_plays_162 (by decide) ?_
          rw [show nI i + Int32.ofInt 1 = nI (i + 1) from nI_1 i]
          have ef : q_plR nr kk z i I1 = _ := if_neg (fun u => by have u2 := u.2; rw [show q_ip I1 nr (I1 f_mk_ranks (kk * 4 + i)) (q_nt I1 kk z i) = false from bI_0.mp c133] at u2; cases u2)
          rw [s_run_s hi, ef] at hr
          exact ih (i + 1) _ _ (by omega) (e) hr (by omega)
        · have h6 : q_ip I1 nr (I1 f_mk_ranks (kk * 4 + i)) (q_nt I1 kk z i) = true := bI_n0.mp c133
          have hx2 : 0 ≤ I1 f_mk_ranks (kk * 4 + i) ∧ I1 f_mk_ranks (kk * 4 + i) < nI nr := by unfold q_ip at h6; rw [Bool.and_eq_true] at h6; exact of_decide_eq_true h6.1
          have hix := q_ip_ix hM1 h6
          have hix : s_ix (q_pp I1 (I1 f_mk_ranks (kk * 4 + i)) (36 + z + I1 f_mk_offsets (kk * 4 + i))) (q_pp I1 (I1 f_mk_ranks (kk * 4 + i)) (q_nt I1 kk z i)).toNatClampNeg 1280 := ⟨hix.1, hix.2.1, Nat.lt_of_lt_of_le hix.2.2 hnp⟩
          refine w_op (pc' := 137) dX16_plays_136 rfl ?_
          refine t_getG0 (G := g_m_counts) dX16_plays_137 rfl rfl (by decide) rfl (fun _ => rfl) (hp.1 _ rfl) ?_
          refine w_op (pc' := 141) dX16_plays_140 rfl ?_
          refine w_op (pc' := 143) dX16_plays_141 rfl ?_
          refine t_getG1 (G := g_mk_ranks) dX16_plays_143 rfl rfl (by decide) rfl (fun _ => rfl) hK.1 ?_
          refine w_op (pc' := 148) dX16_plays_146 rfl ?_
          refine t_iald (F := f_mk_ranks) dX16_plays_148 rfl (by decide) rfl (hK.2.1 _ (by decide)) (s_ix.nI (N := 4) hi4 (by decide)) hi4 ?_
          refine w_op (pc' := 151) dX16_plays_149 rfl ?_
          refine t_callV (t := T_MODEL) (As := [_, _]) dX16_plays_151 rfl rM_X16_pipe (by decide) rfl rfl (by decide) (by decide) (Nat.le_of_ble_eq_true rfl) rfl (hp.1 _ rfl) (c_X16_pipe hM1 hx2 ?_)
          show s_w _ _ _ 154 _ _ _ _
          refine w_op (pc' := 155) dX16_plays_154 rfl ?_
          refine t_iald0 (F := f_m_counts) dX16_plays_155 rfl (by decide) rfl (hp.1 _ rfl) hix hix.2.2 ?_
          refine w_iconst (v := 1) dX16_plays_156 rfl ?_
          refine w_op (pc' := 158) dX16_plays_157 rfl ?_
          refine t_iast0 (F := f_m_counts) dX16_plays_158 rfl (by decide) (by decide) rfl (hp.1 _ rfl) hix hix.2.2 ?_
          refine w_op (pc' := 162) (ll' := [_, _, _, _, _, _, _, _]) dX16_plays_159 rfl ?_
          refine w_goto (t := 69) dX16_plays_162 (by decide) ?_
          rw [show nI i + Int32.ofInt 1 = nI (i + 1) from nI_1 i]
          have ef : q_plR nr kk z i I1 = _ := if_pos ⟨of_decide_eq_true (bI_n0.mp c116), h6⟩
          rw [s_run_s hi, ef] at hr
          exact ih (i + 1) _ _ (by omega) (e.trans (s_eqN.up (by decide))) hr (by omega)
set_option maxRecDepth 100000 in
set_option maxHeartbeats 4000000 in
theorem l_X16_plays {X : e_XT} {d : Nat} {p : e_Sp} {I : e_I} {J : e_Jt} {c : Nat × Nat} {w : e_Rw1} {Q : e_Rt → e_SS → Prop} {nk nr np : Nat} (hM : q_D p I nk nr np) {x y : Int32} {R : e_I} (hq : s_isk x y) (k : Q (.inl none) (p, R, J, c, w)) : ∀ (n : Nat) (i : Nat) (I1 : e_I) (o4 o5 o6 o7 : Option Value), (h1 : i ≤ nk) → (e : s_eqN [f_m_counts] I I1) → (hr : s_run (q_plS nr x y) i (nk - i) I1 = R) → (hn : nk - i < n) → s_w X (d + 4) K_X16_plays 2 [some (.ref (p.1 T_MODEL 0)), some (.int x), some (.int y), some (.int (nI i)), o4, o5, o6, o7] [] (p, I1, J, c, w) (fun r S' => e_rcr (none) r = true ∧ Q r S') := by
  intro n
  induction n with
  | zero =>
    intro i I1 o4 o5 o6 o7 h1 e hr hn
    exact absurd hn (Nat.not_lt_zero _)
  | succ n ih =>
    intro i I1 o4 o5 o6 o7 h1 e hr hn
    have hM1 := hM.eqN e (by decide)
    have hp := hM1.1
    have hk40 := hM1.2.1
    have hr10 := hM1.2.2.1
    have hnp := hM1.2.2.2.1.1
    refine w_op (pc' := 3) dX16_plays_2 rfl ?_
    refine w_op (pc' := 4) dX16_plays_3 rfl ?_
    refine t_getG0 (G := g_m_list1) dX16_plays_4 rfl rfl (by decide) rfl (fun _ => rfl) (hp.1 _ rfl) ?_
    refine t_callV (t := T_LIST) (As := []) dX16_plays_7 rfl rM_Jx4a65c_size_8abf5 (by decide) rfl rfl (by decide) (by decide) (Nat.le_of_ble_eq_true rfl) rfl (hp.2 _ (by decide)) (c_size (hp.2 _ (by decide)) ?_)
    show s_w _ _ _ 10 _ _ _ _
    rw [hk40.2]
    refine w_icmpge (t := 171) dX16_plays_10 (by decide) (fun c10 => ?_) (fun c10 => ?_)
    · have hi : nk ≤ i := (nI_leI (by omega) (by omega)).mp c10
      exact w_return dX16_plays_171 ⟨rfl, by rw [s_run_z hi] at hr; subst hr; exact k⟩
    · have hi : i < nk := Nat.lt_of_not_le (fun z => c10 ((nI_leI (by omega) (by omega)).mpr z))
      have hK := hM1.2.2.2.2.1 i hi
      refine w_op (pc' := 14) dX16_plays_13 rfl ?_
      refine t_getG0 (G := g_m_list1) dX16_plays_14 rfl rfl (by decide) rfl (fun _ => rfl) (hp.1 _ rfl) ?_
      refine w_op (pc' := 18) dX16_plays_17 rfl ?_
      refine t_callV (t := T_LIST) (As := [_]) dX16_plays_18 rfl rM_Jx4a65c_get_915e3 (by decide) rfl rfl (by decide) (by decide) (Nat.le_of_ble_eq_true rfl) rfl (hp.2 _ (by decide)) (c_get3 hp hk40.2 (by omega) hi ?_)
      show s_w _ _ _ 21 _ _ _ _
      refine t_chk dX16_plays_21 rfl rfl (by decide) hK.1 ?_
      refine w_op (pc' := 26) (ll' := [_, _, _, _, _, _, _, _]) dX16_plays_24 rfl ?_
      refine w_op (pc' := 28) dX16_plays_26 rfl ?_
      refine t_getI (F := f_mk_kind) dX16_plays_28 rfl rfl (by decide) rfl ⟨rfl, fun _ => rfl⟩ hK.1 ?_
      refine w_bipush (v := 115) dX16_plays_31 rfl ?_
      refine w_icmpne (t := 165) dX16_plays_33 (by decide) (fun c33 => ?_) (fun c33 => ?_)
      · refine w_op (pc' := 168) (ll' := [_, _, _, _, _, _, _, _]) dX16_plays_165 rfl ?_
        refine w_goto (t := 2) dX16_plays_168 (by decide) ?_
        rw [show nI i + Int32.ofInt 1 = nI (i + 1) from nI_1 i]
        have ef : q_plS nr x y i I1 = I1 := if_neg (fun u => c33 u.1)
        rw [s_run_s hi, ef] at hr
        exact ih (i + 1) _ _ _ _ _ (by omega) e hr (by omega)
      · refine w_op (pc' := 38) dX16_plays_36 rfl ?_
        refine t_getI (F := f_mk_division) dX16_plays_38 rfl rfl (by decide) rfl ⟨rfl, fun _ => rfl⟩ hK.1 ?_
        refine w_op (pc' := 42) dX16_plays_41 rfl ?_
        refine w_icmpne (t := 165) dX16_plays_42 (by decide) (fun c42 => ?_) (fun c42 => ?_)
        · refine w_op (pc' := 168) (ll' := [_, _, _, _, _, _, _, _]) dX16_plays_165 rfl ?_
          refine w_goto (t := 2) dX16_plays_168 (by decide) ?_
          rw [show nI i + Int32.ofInt 1 = nI (i + 1) from nI_1 i]
          have ef : q_plS nr x y i I1 = I1 := if_neg (fun u => c42 u.2.1)
          rw [s_run_s hi, ef] at hr
          exact ih (i + 1) _ _ _ _ _ (by omega) e hr (by omega)
        · refine w_op (pc' := 46) dX16_plays_45 rfl ?_
          refine w_op (pc' := 48) dX16_plays_46 rfl ?_
          refine t_callV (t := T_MODEL) (As := [_]) dX16_plays_48 rfl rM_X16_sounds (by decide) rfl rfl (by decide) (by decide) (Nat.le_of_ble_eq_true rfl) rfl (hp.1 _ rfl) (c_X16_sounds hp hK ?_)
          show s_w _ _ _ 51 _ _ _ _
          refine w_ifne (t := 57) dX16_plays_51 (by decide) (fun c51 => ?_) (fun c51 => ?_)
          · refine w_op (pc' := 59) dX16_plays_57 rfl ?_
            refine t_getG1 (G := g_mk_wires) dX16_plays_59 rfl rfl (by decide) rfl (fun _ => rfl) hK.1 ?_
            refine w_op (pc' := 63) dX16_plays_62 rfl ?_
            refine t_iald (F := f_mk_wires) dX16_plays_63 rfl (by decide) rfl (hK.2.1 _ (by decide)) (s_ixo (N := 61) hq.2.2.1 hq.2.2.2.1 (by decide)) (s_ixo (N := 61) hq.2.2.1 hq.2.2.2.1 (by decide)).2.2 ?_
            refine w_op (pc' := 66) (ll' := [_, _, _, _, _, _, _, _]) dX16_plays_64 rfl ?_
            refine w_iconst (v := 0) dX16_plays_66 rfl ?_
            refine w_op (pc' := 69) (ll' := [_, _, _, _, _, _, _, _]) dX16_plays_67 rfl ?_
            obtain ⟨m4, hm4, hrw⟩ := hK.2.2.2.1
            have ef : q_plS nr x y i I1 = _ := if_pos ⟨c33, c42, bI_n0.mp c51⟩
            rw [hrw, nI_clamp (by omega)] at ef
            refine l2_X16_plays hM1 hi hm4 hrw (fun o4 o5 o6 o7 => ?_) (m4 + 1) 0 _ _ (Nat.zero_le _) s_eqN.rfl' rfl (by omega)
            refine w_op (pc' := 168) (ll' := [_, _, _, _, _, _, _, _]) dX16_plays_165 rfl ?_
            refine w_goto (t := 2) dX16_plays_168 (by decide) ?_
            rw [show nI i + Int32.ofInt 1 = nI (i + 1) from nI_1 i]
            rw [s_run_s hi, ef] at hr
            exact ih (i + 1) _ _ _ _ _ (by omega) (e.trans (s_eqN.run s_eqN.qplR _ _ _)) hr (by omega)
          · refine w_goto (t := 165) dX16_plays_54 (by decide) ?_
            refine w_op (pc' := 168) (ll' := [_, _, _, _, _, _, _, _]) dX16_plays_165 rfl ?_
            refine w_goto (t := 2) dX16_plays_168 (by decide) ?_
            rw [show nI i + Int32.ofInt 1 = nI (i + 1) from nI_1 i]
            have ef : q_plS nr x y i I1 = I1 := if_neg (fun u => by have u2 := u.2.2; rw [bI_0.mp c51] at u2; cases u2)
            rw [s_run_s hi, ef] at hr
            exact ih (i + 1) _ _ _ _ _ (by omega) e hr (by omega)
set_option maxRecDepth 100000 in
set_option maxHeartbeats 4000000 in
theorem c_X16_plays {X : e_XT} {d : Nat} {p : e_Sp} {I : e_I} {J : e_Jt} {c : Nat × Nat} {w : e_Rw1} {Q : e_Rt → e_SS → Prop} {nk nr np : Nat} (hM : q_D p I nk nr np) {x y : Int32} (hq : s_isk x y) (k : Q (.inl none) (p, q_pl nk nr x y I, J, c, w)) : s_c X (d + 4) 227 [.ref (p.1 T_MODEL 0), .int x, .int y] (p, I, J, c, w) Q := by
  refine m_X16_plays (Nat.le_of_ble_eq_true rfl) ?_
  show s_w _ _ _ 0 _ _ _ _
  refine w_iconst (v := 0) dX16_plays_0 rfl ?_
  refine w_op (pc' := 2) (ll' := [_, _, _, _, _, _, _, _]) dX16_plays_1 rfl ?_
  exact l_X16_plays hM hq k (nk + 1) 0 _ _ _ _ _ (Nat.zero_le _) s_eqN.rfl' rfl (by omega)

