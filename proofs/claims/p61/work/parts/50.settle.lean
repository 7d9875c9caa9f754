/-! 50: pallets, settling (printed by wip/whole/p50.py) -/
def s_eqT (I I' : e_I) : Prop := I' f_tsize 0 = I f_tsize 0 ∧ ∀ i, I' f_entries i = I f_entries i
theorem s_eqT.rfl' {I : e_I} : s_eqT I I := ⟨rfl, fun _ => rfl⟩
theorem s_eqT.trans {I I' I'' : e_I} (h : s_eqT I I') (h' : s_eqT I' I'') : s_eqT I I'' := ⟨h'.1.trans h.1, fun i => (h'.2 i).trans (h.2 i)⟩
theorem s_eqT.up {I : e_I} {F i : Nat} {x : Int32} (h : (decide (F ≠ f_tsize) && decide (F ≠ f_entries)) = true) : s_eqT I (s_up I F i x) := by
  rw [Bool.and_eq_true] at h
  exact ⟨s_up_F (Ne.symm (of_decide_eq_true h.1)), fun i => s_up_F (Ne.symm (of_decide_eq_true h.2))⟩
theorem s_eqT.fill {I : e_I} {F n : Nat} {x : Int32} (h : (decide (F ≠ f_tsize) && decide (F ≠ f_entries)) = true) : s_eqT I (s_fill I F n x) := by
  rw [Bool.and_eq_true] at h
  exact ⟨s_fill_F (Ne.symm (of_decide_eq_true h.1)), fun i => s_fill_F (Ne.symm (of_decide_eq_true h.2))⟩
theorem s_eqT.run {f : Nat → e_I → e_I} (h : ∀ i I, s_eqT I (f i I)) (n i : Nat) (I : e_I) : s_eqT I (s_run f i n I) := s_run_ind (P := s_eqT) (fun _ => s_eqT.rfl') (fun a b => a.trans b) h n i I
theorem s_eqT.mp {I : e_I} {j : Nat} {now dl rs : Int32} : s_eqT I (s_mp I j now dl rs) := by
  unfold s_mp
  split
  · exact s_eqT.rfl'
  · split
    · exact (s_eqT.up (by decide)).trans (s_eqT.up (by decide))
    · split
      · exact s_eqT.up (by decide)
      · exact s_eqT.rfl'
theorem s_Tp.eq {p : e_Sp} {I I' : e_I} {c : Nat × Nat} {a b : Nat} (h : s_Tp p I c a b) (e : s_eqT I I') : s_Tp p I' c a b := by
  obtain ⟨t1, t2, t3, t4, t5⟩ := h
  exact ⟨t1, t2, by rw [e.1]; exact t3, fun i h1 h2 => (e.2 i).trans (t4 i h1 h2), t5⟩
/-- a pipe's pallet -/
def s_mvA (r j n : Nat) (b : Bool) (I : e_I) : e_I := if I f_p_isWanted j = bI b then I else s_kp 114 (s_up (s_up I f_p_isWanted j (bI b)) f_p_changedAt j (s_up I f_p_isWanted j (bI b) f_now 0)) (nI r) (s_up (s_up I f_p_isWanted j (bI b)) f_p_changedAt j (s_up I f_p_isWanted j (bI b) f_now 0) f_r_lowest r + nI n) (bI b) (s_up (s_up I f_p_isWanted j (bI b)) f_p_changedAt j (s_up I f_p_isWanted j (bI b) f_now 0) f_now 0)
def s_mvW (j : Nat) (b : Bool) (I : e_I) : e_I := s_up I f_isWaiting 0 (bI (!decide (I f_isWaiting 0 = 0) || !decide (I f_p_isOpened j = bI b)))
def s_mvU (r j : Nat) (I : e_I) : e_I := s_up I f_a_uses (I f_r_division r).toNatClampNeg (I f_a_uses (I f_r_division r).toNatClampNeg + (if s_bl I j = true then I f_r_use r else 0))
def s_mv3 (r j : Nat) (b : Bool) (I : e_I) : e_I := s_mvU r j (s_mvW j b (s_mp I j (I f_now 0) (I f_r_delay r) (I f_r_rest r)))
def s_mvP (bs r n : Nat) (I : e_I) : e_I := s_mv3 r (bs + n) (decide (0 < s_ar I (bs + n))) (s_mvA r (bs + n) n (decide (0 < s_ar I (bs + n))) I)
def s_mvR (bs ls : Nat → Nat) (r : Nat) (I : e_I) : e_I := s_run (s_mvP (bs r) r) 0 (ls r) I
def s_mv (bs ls : Nat → Nat) (nr : Nat) (I : e_I) : e_I := s_run (s_mvR bs ls) 0 nr (s_fill (s_up I f_isWaiting 0 0) f_a_uses 3 0)
theorem s_eqC.mvA {r j n : Nat} {b : Bool} {I : e_I} : s_eqC I (s_mvA r j n b I) := by
  unfold s_mvA
  split
  · exact s_eqC.rfl'
  · exact ((s_eqC.up (by decide)).trans (s_eqC.up (by decide))).trans s_eqC.kp
theorem s_eqC.mv3 {r j : Nat} {b : Bool} {I : e_I} : s_eqC I (s_mv3 r j b I) := (s_eqC.mp.trans (s_eqC.up (by decide))).trans (s_eqC.up (by decide))
theorem s_eqT.mv3 {r j : Nat} {b : Bool} {I : e_I} : s_eqT I (s_mv3 r j b I) := (s_eqT.mp.trans (s_eqT.up (by decide))).trans (s_eqT.up (by decide))
theorem s_eqC.mvP {bs r : Nat} (n : Nat) (I : e_I) : s_eqC I (s_mvP bs r n I) := s_eqC.mvA.trans s_eqC.mv3
theorem s_eqC.mvR {bs ls : Nat → Nat} (r : Nat) (I : e_I) : s_eqC I (s_mvR bs ls r I) := s_eqC.run s_eqC.mvP _ _ _
theorem s_eqC.mv {bs ls : Nat → Nat} {nr : Nat} {I : e_I} : s_eqC I (s_mv bs ls nr I) := ((s_eqC.up (by decide)).trans (s_eqC.fill (by decide))).trans (s_eqC.run s_eqC.mvR _ _ _)
set_option maxRecDepth 100000 in
set_option maxHeartbeats 4000000 in
theorem l3_X10_movePallets {X : e_XT} {d : Nat} {p : e_Sp} {I : e_I} {J : e_Jt} {c : Nat × Nat} {w : e_Rw1} {Q : e_Rt → e_SS → Prop} {nk nr : Nat} (hD : s_D p I nk nr) {r j n : Nat} {b : Bool} (hr : r < nr) (hv : p.2.1 T_PIPE j = true) (hk : s_w X (d + 4) K_X10_movePallets 189 [some (.ref (p.1 T_WORKS 0)), some (.int (nI r)), some (.ref (p.1 T_RANK r)), some (.int (nI n)), some (.ref (p.1 T_PIPE j)), some (.int (bI b))] [] (p, s_mv3 r j b I, J, c, w) (fun r S' => e_rcr (none) r = true ∧ Q r S')) : s_w X (d + 4) K_X10_movePallets 118 [some (.ref (p.1 T_WORKS 0)), some (.int (nI r)), some (.ref (p.1 T_RANK r)), some (.int (nI n)), some (.ref (p.1 T_PIPE j)), some (.int (bI b))] [] (p, I, J, c, w) (fun r S' => e_rcr (none) r = true ∧ Q r S') := by
  have hC := hD.1
  have hp := hC.1
  have hn40 := hC.2.1.1
  have hk40 := hC.2.1.2
  have hn10 := hC.2.2.1.1
  have hr10 := hC.2.2.1.2
  refine w_op (pc' := 120) dX10_movePallets_118 rfl ?_
  refine w_op (pc' := 121) dX10_movePallets_120 rfl ?_
  refine t_getI (F := f_now) dX10_movePallets_121 rfl rfl (by decide) rfl ⟨rfl, fun _ => rfl⟩ (hp.1 _ rfl) ?_
  refine w_op (pc' := 125) dX10_movePallets_124 rfl ?_
  refine t_getI (F := f_r_delay) dX10_movePallets_125 rfl rfl (by decide) rfl ⟨rfl, fun _ => rfl⟩ (hD.rk hr) ?_
  refine w_op (pc' := 129) dX10_movePallets_128 rfl ?_
  refine t_getI (F := f_r_rest) dX10_movePallets_129 rfl rfl (by decide) rfl ⟨rfl, fun _ => rfl⟩ (hD.rk hr) ?_
  refine t_callV (t := T_PIPE) (As := [_, _, _]) dX10_movePallets_132 rfl rM_X6_movePallet (by decide) rfl rfl (by decide) (by decide) (Nat.le_of_ble_eq_true rfl) rfl hv (c_X6_movePallet hv ?_)
  show s_w _ _ _ 135 _ _ _ _
  refine w_op (pc' := 136) dX10_movePallets_135 rfl ?_
  refine w_op (pc' := 137) dX10_movePallets_136 rfl ?_
  refine t_getI (F := f_isWaiting) dX10_movePallets_137 rfl rfl (by decide) rfl ⟨rfl, fun _ => rfl⟩ (hp.1 _ rfl) ?_
  refine w_ifne (t := 153) dX10_movePallets_140 (by decide) (fun c140 => ?_) (fun c140 => ?_)
  · refine w_iconst (v := 1) dX10_movePallets_153 rfl ?_
    refine w_goto (t := 158) dX10_movePallets_154 (by decide) ?_
    refine t_putI (F := f_isWaiting) dX10_movePallets_158 rfl rfl (by decide) (by decide) rfl (s_ckb (by first | exact Or.inl rfl | exact Or.inr rfl | assumption)) (Or.inl rfl) (hp.1 _ rfl) ?_
    have hdv : s_ix ((s_mp I j (I f_now 0) (I f_r_delay r) (I f_r_rest r)) f_r_division r) ((s_mp I j (I f_now 0) (I f_r_delay r) (I f_r_rest r)) f_r_division r).toNatClampNeg 3 := ((hD.2.1 r hr).eq (s_eqC.mp (j := j) (now := I f_now 0) (dl := I f_r_delay r) (rs := I f_r_rest r))).dv
    refine w_op (pc' := 162) dX10_movePallets_161 rfl ?_
    refine t_getG0 (G := g_w_uses) dX10_movePallets_162 rfl rfl (by decide) rfl (fun _ => rfl) (hp.1 _ rfl) ?_
    refine w_op (pc' := 166) dX10_movePallets_165 rfl ?_
    refine t_getI (F := f_r_division) dX10_movePallets_166 rfl rfl (by decide) rfl ⟨rfl, fun _ => rfl⟩ (hD.rk hr) ?_
    refine w_op (pc' := 170) dX10_movePallets_169 rfl ?_
    refine t_iald0 (F := f_a_uses) dX10_movePallets_170 rfl (by decide) rfl (hp.1 _ rfl) hdv hdv.2.2 ?_
    refine w_op (pc' := 173) dX10_movePallets_171 rfl ?_
    refine t_callV (t := T_PIPE) (As := []) dX10_movePallets_173 rfl rM_X6_isBlown (by decide) rfl rfl (by decide) (by decide) (Nat.le_of_ble_eq_true rfl) rfl hv (c_X6_isBlown hv ?_)
    show s_w _ _ _ 176 _ _ _ _
    refine w_ifeq (t := 186) dX10_movePallets_176 (by decide) (fun c176 => ?_) (fun c176 => ?_)
    · refine w_iconst (v := 0) dX10_movePallets_186 rfl ?_
      refine w_op (pc' := 188) dX10_movePallets_187 rfl ?_
      refine t_iast0 (F := f_a_uses) dX10_movePallets_188 rfl (by decide) (by decide) rfl (hp.1 _ rfl) hdv hdv.2.2 ?_
      have e3 : s_mvW j b (s_mp I j (I f_now 0) (I f_r_delay r) (I f_r_rest r)) = s_up (s_mp I j (I f_now 0) (I f_r_delay r) (I f_r_rest r)) f_isWaiting 0 1 := by
        unfold s_mvW
        congr 1
        rw [show decide (_ = (0 : Int32)) = false from decide_eq_false c140]; rfl
      unfold s_mv3 at hk
      rw [e3] at hk
      unfold s_mvU at hk
      rw [if_neg (fun z => by rw [bI_0.mp c176] at z; cases z)] at hk
      exact hk
    · refine w_op (pc' := 180) dX10_movePallets_179 rfl ?_
      refine t_getI (F := f_r_use) dX10_movePallets_180 rfl rfl (by decide) rfl ⟨rfl, fun _ => rfl⟩ (hD.rk hr) ?_
      refine w_goto (t := 187) dX10_movePallets_183 (by decide) ?_
      refine w_op (pc' := 188) dX10_movePallets_187 rfl ?_
      refine t_iast0 (F := f_a_uses) dX10_movePallets_188 rfl (by decide) (by decide) rfl (hp.1 _ rfl) hdv hdv.2.2 ?_
      have e3 : s_mvW j b (s_mp I j (I f_now 0) (I f_r_delay r) (I f_r_rest r)) = s_up (s_mp I j (I f_now 0) (I f_r_delay r) (I f_r_rest r)) f_isWaiting 0 1 := by
        unfold s_mvW
        congr 1
        rw [show decide (_ = (0 : Int32)) = false from decide_eq_false c140]; rfl
      unfold s_mv3 at hk
      rw [e3] at hk
      unfold s_mvU at hk
      rw [if_pos (bI_n0.mp c176)] at hk
      exact hk
  · refine w_op (pc' := 145) dX10_movePallets_143 rfl ?_
    refine t_getI (F := f_p_isOpened) dX10_movePallets_145 rfl rfl (by decide) rfl ⟨rfl, fun _ => rfl⟩ hv ?_
    refine w_op (pc' := 150) dX10_movePallets_148 rfl ?_
    refine w_icmpeq (t := 157) dX10_movePallets_150 (by decide) (fun c150 => ?_) (fun c150 => ?_)
    · refine w_iconst (v := 0) dX10_movePallets_157 rfl ?_
      refine t_putI (F := f_isWaiting) dX10_movePallets_158 rfl rfl (by decide) (by decide) rfl (s_ckb (by first | exact Or.inl rfl | exact Or.inr rfl | assumption)) (Or.inl rfl) (hp.1 _ rfl) ?_
      have hdv : s_ix ((s_mp I j (I f_now 0) (I f_r_delay r) (I f_r_rest r)) f_r_division r) ((s_mp I j (I f_now 0) (I f_r_delay r) (I f_r_rest r)) f_r_division r).toNatClampNeg 3 := ((hD.2.1 r hr).eq (s_eqC.mp (j := j) (now := I f_now 0) (dl := I f_r_delay r) (rs := I f_r_rest r))).dv
      refine w_op (pc' := 162) dX10_movePallets_161 rfl ?_
      refine t_getG0 (G := g_w_uses) dX10_movePallets_162 rfl rfl (by decide) rfl (fun _ => rfl) (hp.1 _ rfl) ?_
      refine w_op (pc' := 166) dX10_movePallets_165 rfl ?_
      refine t_getI (F := f_r_division) dX10_movePallets_166 rfl rfl (by decide) rfl ⟨rfl, fun _ => rfl⟩ (hD.rk hr) ?_
      refine w_op (pc' := 170) dX10_movePallets_169 rfl ?_
      refine t_iald0 (F := f_a_uses) dX10_movePallets_170 rfl (by decide) rfl (hp.1 _ rfl) hdv hdv.2.2 ?_
      refine w_op (pc' := 173) dX10_movePallets_171 rfl ?_
      refine t_callV (t := T_PIPE) (As := []) dX10_movePallets_173 rfl rM_X6_isBlown (by decide) rfl rfl (by decide) (by decide) (Nat.le_of_ble_eq_true rfl) rfl hv (c_X6_isBlown hv ?_)
      show s_w _ _ _ 176 _ _ _ _
      refine w_ifeq (t := 186) dX10_movePallets_176 (by decide) (fun c176 => ?_) (fun c176 => ?_)
      · refine w_iconst (v := 0) dX10_movePallets_186 rfl ?_
        refine w_op (pc' := 188) dX10_movePallets_187 rfl ?_
        refine t_iast0 (F := f_a_uses) dX10_movePallets_188 rfl (by decide) (by decide) rfl (hp.1 _ rfl) hdv hdv.2.2 ?_
        have e3 : s_mvW j b (s_mp I j (I f_now 0) (I f_r_delay r) (I f_r_rest r)) = s_up (s_mp I j (I f_now 0) (I f_r_delay r) (I f_r_rest r)) f_isWaiting 0 0 := by
          unfold s_mvW
          congr 1
          rw [show decide (_ = (0 : Int32)) = true from decide_eq_true c140, show decide (_ = bI b) = true from decide_eq_true c150]; rfl
        unfold s_mv3 at hk
        rw [e3] at hk
        unfold s_mvU at hk
        rw [if_neg (fun z => by rw [bI_0.mp c176] at z; cases z)] at hk
        exact hk
      · refine w_op (pc' := 180) dX10_movePallets_179 rfl ?_
        refine t_getI (F := f_r_use) dX10_movePallets_180 rfl rfl (by decide) rfl ⟨rfl, fun _ => rfl⟩ (hD.rk hr) ?_
        refine w_goto (t := 187) dX10_movePallets_183 (by decide) ?_
        refine w_op (pc' := 188) dX10_movePallets_187 rfl ?_
        refine t_iast0 (F := f_a_uses) dX10_movePallets_188 rfl (by decide) (by decide) rfl (hp.1 _ rfl) hdv hdv.2.2 ?_
        have e3 : s_mvW j b (s_mp I j (I f_now 0) (I f_r_delay r) (I f_r_rest r)) = s_up (s_mp I j (I f_now 0) (I f_r_delay r) (I f_r_rest r)) f_isWaiting 0 0 := by
          unfold s_mvW
          congr 1
          rw [show decide (_ = (0 : Int32)) = true from decide_eq_true c140, show decide (_ = bI b) = true from decide_eq_true c150]; rfl
        unfold s_mv3 at hk
        rw [e3] at hk
        unfold s_mvU at hk
        rw [if_pos (bI_n0.mp c176)] at hk
        exact hk
    · refine w_iconst (v := 1) dX10_movePallets_153 rfl ?_
      refine w_goto (t := 158) dX10_movePallets_154 (by decide) ?_
      refine t_putI (F := f_isWaiting) dX10_movePallets_158 rfl rfl (by decide) (by decide) rfl (s_ckb (by first | exact Or.inl rfl | exact Or.inr rfl | assumption)) (Or.inl rfl) (hp.1 _ rfl) ?_
      have hdv : s_ix ((s_mp I j (I f_now 0) (I f_r_delay r) (I f_r_rest r)) f_r_division r) ((s_mp I j (I f_now 0) (I f_r_delay r) (I f_r_rest r)) f_r_division r).toNatClampNeg 3 := ((hD.2.1 r hr).eq (s_eqC.mp (j := j) (now := I f_now 0) (dl := I f_r_delay r) (rs := I f_r_rest r))).dv
      refine w_op (pc' := 162) dX10_movePallets_161 rfl ?_
      refine t_getG0 (G := g_w_uses) dX10_movePallets_162 rfl rfl (by decide) rfl (fun _ => rfl) (hp.1 _ rfl) ?_
      refine w_op (pc' := 166) dX10_movePallets_165 rfl ?_
      refine t_getI (F := f_r_division) dX10_movePallets_166 rfl rfl (by decide) rfl ⟨rfl, fun _ => rfl⟩ (hD.rk hr) ?_
      refine w_op (pc' := 170) dX10_movePallets_169 rfl ?_
      refine t_iald0 (F := f_a_uses) dX10_movePallets_170 rfl (by decide) rfl (hp.1 _ rfl) hdv hdv.2.2 ?_
      refine w_op (pc' := 173) dX10_movePallets_171 rfl ?_
      refine t_callV (t := T_PIPE) (As := []) dX10_movePallets_173 rfl rM_X6_isBlown (by decide) rfl rfl (by decide) (by decide) (Nat.le_of_ble_eq_true rfl) rfl hv (c_X6_isBlown hv ?_)
      show s_w _ _ _ 176 _ _ _ _
      refine w_ifeq (t := 186) dX10_movePallets_176 (by decide) (fun c176 => ?_) (fun c176 => ?_)
      · refine w_iconst (v := 0) dX10_movePallets_186 rfl ?_
        refine w_op (pc' := 188) dX10_movePallets_187 rfl ?_
        refine t_iast0 (F := f_a_uses) dX10_movePallets_188 rfl (by decide) (by decide) rfl (hp.1 _ rfl) hdv hdv.2.2 ?_
        have e3 : s_mvW j b (s_mp I j (I f_now 0) (I f_r_delay r) (I f_r_rest r)) = s_up (s_mp I j (I f_now 0) (I f_r_delay r) (I f_r_rest r)) f_isWaiting 0 1 := by
          unfold s_mvW
          congr 1
          rw [show decide (_ = bI b) = false from decide_eq_false c150]; exact congrArg bI (Bool.or_true _)
        unfold s_mv3 at hk
        rw [e3] at hk
        unfold s_mvU at hk
        rw [if_neg (fun z => by rw [bI_0.mp c176] at z; cases z)] at hk
        exact hk
      · refine w_op (pc' := 180) dX10_movePallets_179 rfl ?_
        refine t_getI (F := f_r_use) dX10_movePallets_180 rfl rfl (by decide) rfl ⟨rfl, fun _ => rfl⟩ (hD.rk hr) ?_
        refine w_goto (t := 187) dX10_movePallets_183 (by decide) ?_
        refine w_op (pc' := 188) dX10_movePallets_187 rfl ?_
        refine t_iast0 (F := f_a_uses) dX10_movePallets_188 rfl (by decide) (by decide) rfl (hp.1 _ rfl) hdv hdv.2.2 ?_
        have e3 : s_mvW j b (s_mp I j (I f_now 0) (I f_r_delay r) (I f_r_rest r)) = s_up (s_mp I j (I f_now 0) (I f_r_delay r) (I f_r_rest r)) f_isWaiting 0 1 := by
          unfold s_mvW
          congr 1
          rw [show decide (_ = bI b) = false from decide_eq_false c150]; exact congrArg bI (Bool.or_true _)
        unfold s_mv3 at hk
        rw [e3] at hk
        unfold s_mvU at hk
        rw [if_pos (bI_n0.mp c176)] at hk
        exact hk
theorem s_eqC.kpu {I : e_I} {j : Nat} {u v : Int32} {ch x y on now : Int32} : s_eqC I (s_kp ch (s_up (s_up I f_p_isWanted j u) f_p_changedAt j v) x y on now) := ((s_eqC.up (by decide)).trans (s_eqC.up (by decide))).trans s_eqC.kp
set_option maxRecDepth 100000 in
set_option maxHeartbeats 4000000 in
theorem l2_X10_movePallets {X : e_XT} {d : Nat} {p : e_Sp} {I : e_I} {J : e_Jt} {c : Nat × Nat} {w : e_Rw1} {Q : e_Rt → e_SS → Prop} {nk nr a b : Nat} {r : Nat} {R : e_I} {p0 : e_Sp} (hr : r < nr) (hk : ∀ (p : e_Sp) (c : Nat × Nat) (o3 o4 o5 : Option Value), s_D p R nk nr → s_Tp p R c a b → s_xt p0 p → s_w X (d + 4) K_X10_movePallets 195 [some (.ref (p.1 T_WORKS 0)), some (.int (nI r)), some (.ref (p.1 T_RANK r)), o3, o4, o5] [] (p, R, J, c, w) (fun r S' => e_rcr (none) r = true ∧ Q r S')) : ∀ (n : Nat) (i : Nat) (p : e_Sp) (I1 : e_I) (c : Nat × Nat) (o4 o5 : Option Value), (h1 : i ≤ p.2.2.1 T_PARR r) → (hD : s_D p I1 nk nr) → (hT : s_Tp p I1 c a b) → (x : s_xt p0 p) → (hr2 : s_run (s_mvP (p.2.2.2.2 r) r) i (p.2.2.1 T_PARR r - i) I1 = R) → (hn : p.2.2.1 T_PARR r - i < n) → s_w X (d + 4) K_X10_movePallets 40 [some (.ref (p.1 T_WORKS 0)), some (.int (nI r)), some (.ref (p.1 T_RANK r)), some (.int (nI i)), o4, o5] [] (p, I1, J, c, w) (fun r S' => e_rcr (none) r = true ∧ Q r S') := by
  intro n
  induction n with
  | zero =>
    intro i p I1 c o4 o5 h1 hD hT x hr2 hn
    exact absurd hn (Nat.not_lt_zero _)
  | succ n ih =>
    intro i p I1 c o4 o5 h1 hD hT x hr2 hn
    have hC := hD.1
    have hp := hC.1
    have hn40 := hC.2.1.1
    have hk40 := hC.2.1.2
    have hn10 := hC.2.2.1.1
    have hr10 := hC.2.2.1.2
    have hR := hD.2.1 r hr
    obtain ⟨lo, elo, hlo⟩ := hR.2.2.2.1
    refine w_op (pc' := 41) dX10_movePallets_40 rfl ?_
    refine w_op (pc' := 42) dX10_movePallets_41 rfl ?_
    refine t_getG1 (G := g_r_pipes) dX10_movePallets_42 rfl rfl (by decide) rfl (fun _ => rfl) hR.1 ?_
    refine t_alen dX10_movePallets_45 (by decide) hR.2.1 ?_
    refine w_icmpge (t := 195) dX10_movePallets_46 (by decide) (fun c46 => ?_) (fun c46 => ?_)
    · have hi : p.2.2.1 T_PARR r ≤ i := (nI_leI (a := p.2.2.1 T_PARR r) (by omega) (by omega)).mp c46
      rw [s_run_z hi] at hr2; subst hr2; exact hk _ _ _ _ _ hD hT x
    · have hi : i < p.2.2.1 T_PARR r := Nat.lt_of_not_le (fun z => c46 ((nI_leI (a := p.2.2.1 T_PARR r) (by omega) (by omega)).mpr z))
      refine w_op (pc' := 50) dX10_movePallets_49 rfl ?_
      refine t_getG1 (G := g_r_pipes) dX10_movePallets_50 rfl rfl (by decide) rfl (fun _ => rfl) hR.1 ?_
      refine w_op (pc' := 54) dX10_movePallets_53 rfl ?_
      refine t_aaldP dX10_movePallets_54 hR.1 (s_ix.nI hi (by omega)) ?_
      refine w_op (pc' := 57) (ll' := [_, _, _, _, _, _]) dX10_movePallets_55 rfl ?_
      refine w_op (pc' := 59) dX10_movePallets_57 rfl ?_
      refine t_callV (t := T_PIPE) (As := []) dX10_movePallets_59 rfl rM_X6_allReasons (by decide) rfl rfl (by decide) (by decide) (Nat.le_of_ble_eq_true rfl) rfl (hR.2.2.1 i hi) (c_X6_allReasons (hR.2.2.1 i hi) ?_)
      show s_w _ _ _ 62 _ _ _ _
      refine w_ifle (t := 69) dX10_movePallets_62 (by decide) (fun c62 => ?_) (fun c62 => ?_)
      · refine w_iconst (v := 0) dX10_movePallets_69 rfl ?_
        refine w_op (pc' := 72) (ll' := [_, _, _, _, _, _]) dX10_movePallets_70 rfl ?_
        refine w_op (pc' := 74) dX10_movePallets_72 rfl ?_
        refine t_getI (F := f_p_isWanted) dX10_movePallets_74 rfl rfl (by decide) rfl ⟨rfl, fun _ => rfl⟩ (hR.2.2.1 i hi) ?_
        refine w_op (pc' := 79) dX10_movePallets_77 rfl ?_
        refine w_icmpeq (t := 118) dX10_movePallets_79 (by decide) (fun c79 => ?_) (fun c79 => ?_)
        · have eA : s_mvA r (p.2.2.2.2 r + i) i false I1 = I1 := if_pos c79
          refine l3_X10_movePallets (b := false) hD hr (hR.2.2.1 i hi) ?_
          refine w_op (pc' := 192) (ll' := [_, _, _, _, _, _]) dX10_movePallets_189 rfl ?_
          refine w_goto (t := 40) dX10_movePallets_192 (by decide) ?_
          rw [show nI i + Int32.ofInt 1 = nI (i + 1) from nI_1 i]
          have eP : s_mvP (p.2.2.2.2 r) r i I1 = s_mv3 r (p.2.2.2.2 r + i) false (s_mvA r (p.2.2.2.2 r + i) i false I1) := by unfold s_mvP; rw [show decide (0 < s_ar I1 (p.2.2.2.2 r + i)) = false from decide_eq_false (Int32.not_lt.mpr c62)]
          rw [eA] at eP
          rw [s_run_s hi, eP] at hr2
          exact ih (i + 1) p _ c _ _ (by omega) (hD.eq s_eqC.mv3) (hT.eq s_eqT.mv3) x hr2 (by omega)
        · refine w_op (pc' := 84) dX10_movePallets_82 rfl ?_
          refine w_op (pc' := 86) dX10_movePallets_84 rfl ?_
          refine t_putI (F := f_p_isWanted) dX10_movePallets_86 rfl rfl (by decide) (by decide) rfl (s_ckb (by first | exact Or.inl rfl | exact Or.inr rfl | assumption)) (Or.inl rfl) (hR.2.2.1 i hi) ?_
          refine w_op (pc' := 91) dX10_movePallets_89 rfl ?_
          refine w_op (pc' := 92) dX10_movePallets_91 rfl ?_
          refine t_getI (F := f_now) dX10_movePallets_92 rfl rfl (by decide) rfl ⟨rfl, fun _ => rfl⟩ (hp.1 _ rfl) ?_
          refine t_putI (F := f_p_changedAt) dX10_movePallets_95 rfl rfl (by decide) (by decide) rfl rfl (Or.inl rfl) (hR.2.2.1 i hi) ?_
          refine w_op (pc' := 99) dX10_movePallets_98 rfl ?_
          refine t_getG0 (G := g_w_TAPE) dX10_movePallets_99 rfl rfl (by decide) rfl (fun _ => rfl) (hp.1 _ rfl) ?_
          refine w_op (pc' := 103) dX10_movePallets_102 rfl ?_
          refine w_op (pc' := 104) dX10_movePallets_103 rfl ?_
          refine t_getI (F := f_r_lowest) dX10_movePallets_104 rfl rfl (by decide) rfl ⟨rfl, fun _ => rfl⟩ hR.1 ?_
          refine w_op (pc' := 108) dX10_movePallets_107 rfl ?_
          refine w_op (pc' := 109) dX10_movePallets_108 rfl ?_
          refine w_op (pc' := 111) dX10_movePallets_109 rfl ?_
          refine w_op (pc' := 112) dX10_movePallets_111 rfl ?_
          refine t_getI (F := f_now) dX10_movePallets_112 rfl rfl (by decide) rfl ⟨rfl, fun _ => rfl⟩ (hp.1 _ rfl) ?_
          refine t_callV (t := T_TAPE) (As := [_, _, _, _]) dX10_movePallets_115 rfl rM_X9_keepPipe (by decide) rfl rfl (by decide) (by decide) (Nat.le_of_ble_eq_true rfl) rfl (hp.1 _ rfl) (c_X9_keepPipe hp (hT.eq (I' := s_up (s_up I1 f_p_isWanted (p.2.2.2.2 r + i) _) f_p_changedAt (p.2.2.2.2 r + i) _) ((s_eqT.up (by decide)).trans (s_eqT.up (by decide)))) (fun p1 c1 hx hT1 => ?_))
          show s_w _ _ _ 118 _ _ _ _
          have eA : s_mvA r (p.2.2.2.2 r + i) i false I1 = _ := if_neg c79
          rw [show p.1 T_WORKS = p1.1 T_WORKS from (hx.1 T_WORKS rfl).1.symm, show p.1 T_RANK = p1.1 T_RANK from (hx.1 T_RANK rfl).1.symm, show p.1 T_PIPE = p1.1 T_PIPE from (hx.1 T_PIPE rfl).1.symm]
          refine l3_X10_movePallets (p := p1) (b := false) ((hD.xt hx).eq s_eqC.kpu) hr (hx.2.1 _ _ (hR.2.2.1 i hi)) ?_
          refine w_op (pc' := 192) (ll' := [_, _, _, _, _, _]) dX10_movePallets_189 rfl ?_
          refine w_goto (t := 40) dX10_movePallets_192 (by decide) ?_
          rw [show nI i + Int32.ofInt 1 = nI (i + 1) from nI_1 i]
          have eP : s_mvP (p.2.2.2.2 r) r i I1 = s_mv3 r (p.2.2.2.2 r + i) false (s_mvA r (p.2.2.2.2 r + i) i false I1) := by unfold s_mvP; rw [show decide (0 < s_ar I1 (p.2.2.2.2 r + i)) = false from decide_eq_false (Int32.not_lt.mpr c62)]
          rw [eA] at eP
          rw [s_run_s hi, eP] at hr2
          exact ih (i + 1) p1 _ c1 _ _ (by rw [(hx.1 T_PARR rfl).2.2]; omega) (((hD.xt hx).eq s_eqC.kpu).eq s_eqC.mv3) (hT1.eq s_eqT.mv3) (x.trans hx) (by rw [hx.2.2.1, (hx.1 T_PARR rfl).2.2]; exact hr2) (by rw [(hx.1 T_PARR rfl).2.2]; omega)
      · refine w_iconst (v := 1) dX10_movePallets_65 rfl ?_
        refine w_goto (t := 70) dX10_movePallets_66 (by decide) ?_
        refine w_op (pc' := 72) (ll' := [_, _, _, _, _, _]) dX10_movePallets_70 rfl ?_
        refine w_op (pc' := 74) dX10_movePallets_72 rfl ?_
        refine t_getI (F := f_p_isWanted) dX10_movePallets_74 rfl rfl (by decide) rfl ⟨rfl, fun _ => rfl⟩ (hR.2.2.1 i hi) ?_
        refine w_op (pc' := 79) dX10_movePallets_77 rfl ?_
        refine w_icmpeq (t := 118) dX10_movePallets_79 (by decide) (fun c79 => ?_) (fun c79 => ?_)
        · have eA : s_mvA r (p.2.2.2.2 r + i) i true I1 = I1 := if_pos c79
          refine l3_X10_movePallets (b := true) hD hr (hR.2.2.1 i hi) ?_
          refine w_op (pc' := 192) (ll' := [_, _, _, _, _, _]) dX10_movePallets_189 rfl ?_
          refine w_goto (t := 40) dX10_movePallets_192 (by decide) ?_
          rw [show nI i + Int32.ofInt 1 = nI (i + 1) from nI_1 i]
          have eP : s_mvP (p.2.2.2.2 r) r i I1 = s_mv3 r (p.2.2.2.2 r + i) true (s_mvA r (p.2.2.2.2 r + i) i true I1) := by unfold s_mvP; rw [show decide (0 < s_ar I1 (p.2.2.2.2 r + i)) = true from decide_eq_true (Int32.not_le.mp c62)]
          rw [eA] at eP
          rw [s_run_s hi, eP] at hr2
          exact ih (i + 1) p _ c _ _ (by omega) (hD.eq s_eqC.mv3) (hT.eq s_eqT.mv3) x hr2 (by omega)
        · refine w_op (pc' := 84) dX10_movePallets_82 rfl ?_
          refine w_op (pc' := 86) dX10_movePallets_84 rfl ?_
          refine t_putI (F := f_p_isWanted) dX10_movePallets_86 rfl rfl (by decide) (by decide) rfl (s_ckb (by first | exact Or.inl rfl | exact Or.inr rfl | assumption)) (Or.inl rfl) (hR.2.2.1 i hi) ?_
          refine w_op (pc' := 91) dX10_movePallets_89 rfl ?_
          refine w_op (pc' := 92) dX10_movePallets_91 rfl ?_
          refine t_getI (F := f_now) dX10_movePallets_92 rfl rfl (by decide) rfl ⟨rfl, fun _ => rfl⟩ (hp.1 _ rfl) ?_
          refine t_putI (F := f_p_changedAt) dX10_movePallets_95 rfl rfl (by decide) (by decide) rfl rfl (Or.inl rfl) (hR.2.2.1 i hi) ?_
          refine w_op (pc' := 99) dX10_movePallets_98 rfl ?_
          refine t_getG0 (G := g_w_TAPE) dX10_movePallets_99 rfl rfl (by decide) rfl (fun _ => rfl) (hp.1 _ rfl) ?_
          refine w_op (pc' := 103) dX10_movePallets_102 rfl ?_
          refine w_op (pc' := 104) dX10_movePallets_103 rfl ?_
          refine t_getI (F := f_r_lowest) dX10_movePallets_104 rfl rfl (by decide) rfl ⟨rfl, fun _ => rfl⟩ hR.1 ?_
          refine w_op (pc' := 108) dX10_movePallets_107 rfl ?_
          refine w_op (pc' := 109) dX10_movePallets_108 rfl ?_
          refine w_op (pc' := 111) dX10_movePallets_109 rfl ?_
          refine w_op (pc' := 112) dX10_movePallets_111 rfl ?_
          refine t_getI (F := f_now) dX10_movePallets_112 rfl rfl (by decide) rfl ⟨rfl, fun _ => rfl⟩ (hp.1 _ rfl) ?_
          refine t_callV (t := T_TAPE) (As := [_, _, _, _]) dX10_movePallets_115 rfl rM_X9_keepPipe (by decide) rfl rfl (by decide) (by decide) (Nat.le_of_ble_eq_true rfl) rfl (hp.1 _ rfl) (c_X9_keepPipe hp (hT.eq (I' := s_up (s_up I1 f_p_isWanted (p.2.2.2.2 r + i) _) f_p_changedAt (p.2.2.2.2 r + i) _) ((s_eqT.up (by decide)).trans (s_eqT.up (by decide)))) (fun p1 c1 hx hT1 => ?_))
          show s_w _ _ _ 118 _ _ _ _
          have eA : s_mvA r (p.2.2.2.2 r + i) i true I1 = _ := if_neg c79
          rw [show p.1 T_WORKS = p1.1 T_WORKS from (hx.1 T_WORKS rfl).1.symm, show p.1 T_RANK = p1.1 T_RANK from (hx.1 T_RANK rfl).1.symm, show p.1 T_PIPE = p1.1 T_PIPE from (hx.1 T_PIPE rfl).1.symm]
          refine l3_X10_movePallets (p := p1) (b := true) ((hD.xt hx).eq s_eqC.kpu) hr (hx.2.1 _ _ (hR.2.2.1 i hi)) ?_
          refine w_op (pc' := 192) (ll' := [_, _, _, _, _, _]) dX10_movePallets_189 rfl ?_
          refine w_goto (t := 40) dX10_movePallets_192 (by decide) ?_
          rw [show nI i + Int32.ofInt 1 = nI (i + 1) from nI_1 i]
          have eP : s_mvP (p.2.2.2.2 r) r i I1 = s_mv3 r (p.2.2.2.2 r + i) true (s_mvA r (p.2.2.2.2 r + i) i true I1) := by unfold s_mvP; rw [show decide (0 < s_ar I1 (p.2.2.2.2 r + i)) = true from decide_eq_true (Int32.not_le.mp c62)]
          rw [eA] at eP
          rw [s_run_s hi, eP] at hr2
          exact ih (i + 1) p1 _ c1 _ _ (by rw [(hx.1 T_PARR rfl).2.2]; omega) (((hD.xt hx).eq s_eqC.kpu).eq s_eqC.mv3) (hT1.eq s_eqT.mv3) (x.trans hx) (by rw [hx.2.2.1, (hx.1 T_PARR rfl).2.2]; exact hr2) (by rw [(hx.1 T_PARR rfl).2.2]; omega)
set_option maxRecDepth 100000 in
set_option maxHeartbeats 4000000 in
theorem l_X10_movePallets {X : e_XT} {d : Nat} {p : e_Sp} {I : e_I} {J : e_Jt} {c : Nat × Nat} {w : e_Rw1} {Q : e_Rt → e_SS → Prop} {nk nr a b : Nat} {R : e_I} {p0 : e_Sp} (k : ∀ p' c', s_D p' R nk nr → s_xt p0 p' → s_Tp p' R c' a b → Q (.inl none) (p', R, J, c', w)) : ∀ (n : Nat) (i : Nat) (p : e_Sp) (I1 : e_I) (c : Nat × Nat) (o2 o3 o4 o5 : Option Value), (h1 : i ≤ nr) → (hD : s_D p I1 nk nr) → (hT : s_Tp p I1 c a b) → (x : s_xt p0 p) → (hr2 : s_run (s_mvR p.2.2.2.2 (p.2.2.1 T_PARR)) i (nr - i) I1 = R) → (hn : nr - i < n) → s_w X (d + 4) K_X10_movePallets 15 [some (.ref (p.1 T_WORKS 0)), some (.int (nI i)), o2, o3, o4, o5] [] (p, I1, J, c, w) (fun r S' => e_rcr (none) r = true ∧ Q r S') := by
  intro n
  induction n with
  | zero =>
    intro i p I1 c o2 o3 o4 o5 h1 hD hT x hr2 hn
    exact absurd hn (Nat.not_lt_zero _)
  | succ n ih =>
    intro i p I1 c o2 o3 o4 o5 h1 hD hT x hr2 hn
    have hC := hD.1
    have hp := hC.1
    have hn40 := hC.2.1.1
    have hk40 := hC.2.1.2
    have hn10 := hC.2.2.1.1
    have hr10 := hC.2.2.1.2
    refine w_op (pc' := 16) dX10_movePallets_15 rfl ?_
    refine w_op (pc' := 17) dX10_movePallets_16 rfl ?_
    refine t_getG0 (G := g_w_ranks) dX10_movePallets_17 rfl rfl (by decide) rfl (fun _ => rfl) (hp.1 _ rfl) ?_
    refine t_callV (t := T_LIST) (As := []) dX10_movePallets_20 rfl rM_Jx4a65c_size_8abf5 (by decide) rfl rfl (by decide) (by decide) (Nat.le_of_ble_eq_true rfl) rfl (hp.2 _ (by decide)) (c_size (hp.2 _ (by decide)) ?_)
    show s_w _ _ _ 23 _ _ _ _
    rw [hr10]
    refine w_icmpge (t := 201) dX10_movePallets_23 (by decide) (fun c23 => ?_) (fun c23 => ?_)
    · have hi : nr ≤ i := (nI_leI (a := nr) (by omega) (by omega)).mp c23
      exact w_return dX10_movePallets_201 ⟨rfl, by rw [s_run_z hi] at hr2; subst hr2; exact k p c hD x hT⟩
    · have hi : i < nr := Nat.lt_of_not_le (fun z => c23 ((nI_leI (a := nr) (by omega) (by omega)).mpr z))
      refine w_op (pc' := 27) dX10_movePallets_26 rfl ?_
      refine t_getG0 (G := g_w_ranks) dX10_movePallets_27 rfl rfl (by decide) rfl (fun _ => rfl) (hp.1 _ rfl) ?_
      refine w_op (pc' := 31) dX10_movePallets_30 rfl ?_
      refine t_callV (t := T_LIST) (As := [_]) dX10_movePallets_31 rfl rM_Jx4a65c_get_915e3 (by decide) rfl rfl (by decide) (by decide) (Nat.le_of_ble_eq_true rfl) rfl (hp.2 _ (by decide)) (c_get0 hp hr10 (by omega) hi ?_)
      show s_w _ _ _ 34 _ _ _ _
      refine t_chk dX10_movePallets_34 rfl rfl (by decide) (hD.rk hi) ?_
      refine w_op (pc' := 38) (ll' := [_, _, _, _, _, _]) dX10_movePallets_37 rfl ?_
      refine w_iconst (v := 0) dX10_movePallets_38 rfl ?_
      refine w_op (pc' := 40) (ll' := [_, _, _, _, _, _]) dX10_movePallets_39 rfl ?_
      refine l2_X10_movePallets (p := p) (I := I1) (c := c) (p0 := p) (a := a) (b := b) (nk := nk) hi (fun p2 c2 o3 o4 o5 hD2 hT2 x2 => ?_) (p.2.2.1 T_PARR i + 1) 0 p I1 c _ _ (Nat.zero_le _) hD hT s_xt.rfl' rfl (by omega)
      refine w_op (pc' := 198) (ll' := [_, _, _, _, _, _]) dX10_movePallets_195 rfl ?_
      refine w_goto (t := 15) dX10_movePallets_198 (by decide) ?_
      rw [show nI i + Int32.ofInt 1 = nI (i + 1) from nI_1 i]
      rw [s_run_s hi] at hr2
      exact ih (i + 1) p2 _ c2 _ _ _ _ (by omega) hD2 hT2 (x.trans x2) (by rw [x2.2.2.1, (x2.1 T_PARR rfl).2.2]; exact hr2) (by omega)
set_option maxRecDepth 100000 in
set_option maxHeartbeats 4000000 in
theorem c_X10_movePallets {X : e_XT} {d : Nat} {p : e_Sp} {I : e_I} {J : e_Jt} {c : Nat × Nat} {w : e_Rw1} {Q : e_Rt → e_SS → Prop} {nk nr : Nat} (hD : s_D p I nk nr) {a b : Nat} (hT : s_Tp p I c a b) (k : ∀ p' c', s_D p' (s_mv p.2.2.2.2 (p.2.2.1 T_PARR) nr I) nk nr → s_xt p p' → s_Tp p' (s_mv p.2.2.2.2 (p.2.2.1 T_PARR) nr I) c' a b → Q (.inl none) (p', s_mv p.2.2.2.2 (p.2.2.1 T_PARR) nr I, J, c', w)) : s_c X (d + 4) 114 [.ref (p.1 T_WORKS 0)] (p, I, J, c, w) Q := by
  have hC := hD.1
  have hp := hC.1
  have hn40 := hC.2.1.1
  have hk40 := hC.2.1.2
  have hn10 := hC.2.2.1.1
  have hr10 := hC.2.2.1.2
  refine m_X10_movePallets (Nat.le_of_ble_eq_true rfl) ?_
  show s_w _ _ _ 0 _ _ _ _
  refine w_op (pc' := 1) dX10_movePallets_0 rfl ?_
  refine w_iconst (v := 0) dX10_movePallets_1 rfl ?_
  refine t_putI (F := f_isWaiting) dX10_movePallets_2 rfl rfl (by decide) (by decide) rfl (s_ckb (by first | exact Or.inl rfl | exact Or.inr rfl | assumption)) (Or.inl rfl) (hp.1 _ rfl) ?_
  refine w_op (pc' := 6) dX10_movePallets_5 rfl ?_
  refine t_getG0 (G := g_w_uses) dX10_movePallets_6 rfl rfl (by decide) rfl (fun _ => rfl) (hp.1 _ rfl) ?_
  refine w_iconst (v := 0) dX10_movePallets_9 rfl ?_
  refine t_callS (As := [_, _]) dX10_movePallets_10 rfl rM_J7_fill_53178 (by decide) rfl rfl (by decide) (Nat.le_of_ble_eq_true rfl) (c_fill (F := f_a_uses) rfl (by decide) (by decide) rfl (hp.1 _ rfl) (by decide) ?_)
  show s_w _ _ _ 13 _ _ _ _
  refine w_iconst (v := 0) dX10_movePallets_13 rfl ?_
  refine w_op (pc' := 15) (ll' := [_, _, _, _, _, _]) dX10_movePallets_14 rfl ?_
  have eC : s_eqC I (s_fill (s_up I f_isWaiting 0 0) f_a_uses 3 0) := (s_eqC.up (by decide)).trans (s_eqC.fill (by decide))
  have eT : s_eqT I (s_fill (s_up I f_isWaiting 0 0) f_a_uses 3 0) := (s_eqT.up (by decide)).trans (s_eqT.fill (by decide))
  exact l_X10_movePallets (p := p) (I := I) (c := c) k (nr + 1) 0 p _ c _ _ _ _ (Nat.zero_le _) (hD.eq eC) (hT.eq eT) s_xt.rfl' rfl (by omega)
