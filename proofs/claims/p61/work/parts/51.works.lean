/-! 51: settling, ticks, keys (printed by wip/whole/p51.py) -/
theorem s_eqT.rel {I : e_I} {nk : Nat} : ∀ r, s_eqT I (s_rel I nk r)
  | 0 => s_eqT.rfl'
  | r + 1 => (s_eqT.rel r).trans (s_eqT.up (by decide))
theorem s_eqT.fgR {p : e_Sp} (r : Nat) (I : e_I) : s_eqT I (s_fgR p r I) := s_eqT.run (fun _ _ => s_eqT.up (by decide)) _ _ _
theorem s_eqT.fg {p : e_Sp} {nr : Nat} {I : e_I} : s_eqT I (s_fg p nr I) := s_eqT.run s_eqT.fgR _ _ _
theorem s_eqT.fwK {k : Nat} (n : Nat) (I : e_I) : s_eqT I (s_fwK k n I) := by
  unfold s_fwK
  split
  · exact s_eqT.up (by decide)
  · exact s_eqT.rfl'
theorem s_eqT.fwN (k : Nat) (I : e_I) : s_eqT I (s_fwN k I) := s_eqT.run s_eqT.fwK _ _ _
theorem s_eqT.fw {nk : Nat} {I : e_I} : s_eqT I (s_fw nk I) := (s_eqT.fill (by decide)).trans (s_eqT.run s_eqT.fwN _ _ _)
theorem s_eqT.arR {p : e_Sp} {nr k : Nat} {ct : Int32} {key : Nat} (n : Nat) (I : e_I) : s_eqT I (s_arR p nr k ct key n I) := by
  unfold s_arR
  split
  · exact s_eqT.up (by decide)
  · exact s_eqT.rfl'
theorem s_eqT.arK {p : e_Sp} {nr k : Nat} {x : Int32} (n : Nat) (I : e_I) : s_eqT I (s_arK p nr k x n I) := by
  unfold s_arK
  split
  · exact s_eqT.run s_eqT.arR _ _ _
  · exact s_eqT.rfl'
theorem s_eqT.arS {p : e_Sp} {nr k : Nat} {x : Int32} {I : e_I} : s_eqT I (s_arS p nr k x I) := s_eqT.run s_eqT.arK _ _ _
theorem s_eqT.frK {p : e_Sp} {nr : Nat} (k : Nat) (I : e_I) : s_eqT I (s_frK p nr k I) := by
  unfold s_frK
  split
  · exact s_eqT.arS
  · exact s_eqT.rfl'
theorem s_eqT.fs {p : e_Sp} {nk nr : Nat} {I : e_I} : s_eqT I (s_fs p nk nr I) := s_eqT.run s_eqT.frK _ _ _
theorem s_eqT.wd {nk : Nat} (i : Nat) (I : e_I) : s_eqT I (s_wd nk i I) := s_eqT.up (by decide)
theorem s_eqT.wds {nk : Nat} {I : e_I} : s_eqT I (s_wds nk I) := s_eqT.run s_eqT.wd _ _ _
theorem s_eqT.fsP {p : e_Sp} {r : Nat} {hw : Bool} (n : Nat) (a : e_I × e_Jt) : s_eqT a.1 (s_fsP p r hw n a).1 := by
  have h1 : ∀ sp j, s_eqT a.1 (s_fsB sp j a).1 := fun sp j => by
    unfold s_fsB
    split
    · exact (s_eqT.up (by decide)).trans (s_eqT.up (by decide))
    · split
      · exact s_eqT.up (by decide)
      · exact s_eqT.rfl'
  have h2 : ∀ sp j b, s_eqT b.1 (s_fsE sp j b).1 := fun sp j b => (s_eqT.up (by decide)).trans (s_eqT.up (by decide))
  exact (h1 _ _).trans (h2 _ _ _)
theorem s_eqT.runP {f : Nat → e_I × e_Jt → e_I × e_Jt} (h : ∀ i a, s_eqT a.1 (f i a).1) (n i : Nat) (a : e_I × e_Jt) : s_eqT a.1 (s_run f i n a).1 := s_run_ind (P := fun a b => s_eqT a.1 b.1) (fun _ => s_eqT.rfl') (fun {x y z} (u : s_eqT x.1 y.1) (v : s_eqT y.1 z.1) => u.trans v) h n i a
theorem s_eqT.fsR {p : e_Sp} (r : Nat) (a : e_I × e_Jt) : s_eqT a.1 (s_fsR p r a).1 := s_eqT.runP s_eqT.fsP _ _ _
theorem s_eqT.fsp {p : e_Sp} {nr : Nat} {a : e_I × e_Jt} : s_eqT a.1 (s_fsp p nr a).1 := (s_eqT.up (by decide) : s_eqT a.1 (s_up a.1 f_speakers 0 0)).trans (s_eqT.runP s_eqT.fsR _ _ _)
theorem s_eqT.put {I : e_I} {x y b now : Int32} : s_eqT I (s_put I x y b now) := by
  have h1 : s_eqT I (s_put1 I (s_kn x y) b now) := by
    unfold s_put1
    split
    · exact s_eqT.up (by decide)
    · exact ((s_eqT.up (by decide)).trans (s_eqT.up (by decide))).trans (s_eqT.up (by decide))
  exact (h1.trans (s_eqT.up (by decide))).trans (s_eqT.up (by decide))
/-- all that follows -/
def s_set1 (p : e_Sp) (nk nr : Nat) (I : e_I) : e_I := if s_any3 (s_fg p nr (s_rel I nk 16)) = true then s_fs p nk nr (s_fw nk (s_fg p nr (s_rel I nk 16))) else s_fg p nr (s_rel I nk 16)
def s_set2 (p : e_Sp) (nk nr : Nat) (I : e_I) : e_I := s_wds nk (s_mv p.2.2.2.2 (p.2.2.1 T_PARR) nr (s_set1 p nk nr I))
def s_stl (p : e_Sp) (nk nr : Nat) (a : e_I × e_Jt) : e_I × e_Jt := s_fsp p nr (s_set2 p nk nr a.1, a.2)
theorem s_eqC.set1 {p : e_Sp} {nk nr : Nat} {I : e_I} : s_eqC I (s_set1 p nk nr I) := by
  have h := (s_eqC.rel 16 : s_eqC I (s_rel I nk 16)).trans (s_eqC.fg (p := p) (nr := nr))
  unfold s_set1
  split
  · exact h.trans (s_eqC.fw.trans s_eqC.fs)
  · exact h
theorem s_eqT.set1 {p : e_Sp} {nk nr : Nat} {I : e_I} : s_eqT I (s_set1 p nk nr I) := by
  have h := (s_eqT.rel 16 : s_eqT I (s_rel I nk 16)).trans (s_eqT.fg (p := p) (nr := nr))
  unfold s_set1
  split
  · exact h.trans (s_eqT.fw.trans s_eqT.fs)
  · exact h
theorem s_eqC.stl {p : e_Sp} {nk nr : Nat} {a : e_I × e_Jt} : s_eqC a.1 (s_stl p nk nr a).1 := ((s_eqC.set1.trans s_eqC.mv).trans s_eqC.wds).trans s_eqC.fsp
/-! these functions look at the shape's ranks alone -/
theorem s_fsp.xt {p p' : e_Sp} (x : s_xt p p') : s_fsp p' = s_fsp p := by
  funext nr a
  have h : s_fsR p' = s_fsR p := by
    funext r a
    unfold s_fsR s_fsP
    rw [(x.1 T_PARR rfl).2.2, x.2.2.1]
  unfold s_fsp
  rw [h]
theorem s_fg.xt {p p' : e_Sp} (x : s_xt p p') : s_fg p' = s_fg p := by
  funext nr a
  have h : s_fgR p' = s_fgR p := by
    funext r a
    unfold s_fgR s_fgP
    rw [(x.1 T_PARR rfl).2.2, x.2.2.1]
  unfold s_fg
  rw [h]
theorem s_pat.xt {p p' : e_Sp} (x : s_xt p p') : s_pat p' = s_pat p := by
  funext I nr a b
  unfold s_pat s_pof
  rw [(x.1 T_PARR rfl).2.2, x.2.2.1]
theorem s_fs.xt {p p' : e_Sp} (x : s_xt p p') : s_fs p' = s_fs p := by
  funext nk nr a
  have h : s_frK p' = s_frK p := by
    funext nr k I
    unfold s_frK s_arS s_arK s_arR
    rw [s_pat.xt x]
  unfold s_fs
  rw [h]
theorem s_stl.xt {p p' : e_Sp} (x : s_xt p p') : s_stl p' = s_stl p := by
  funext nk nr a
  unfold s_stl s_set2 s_set1
  rw [s_fsp.xt x, s_fs.xt x, s_fg.xt x, (x.1 T_PARR rfl).2.2, x.2.2.1]
def s_idl (p : e_Sp) (nk nr : Nat) (a : e_I × e_Jt) : e_I × e_Jt := if s_wl (s_wds nk a.1) = s_wl a.1 then (s_wds nk a.1, a.2) else s_fsp p nr (s_wds nk a.1, a.2)
theorem s_eqC.idl {p : e_Sp} {nk nr : Nat} {a : e_I × e_Jt} : s_eqC a.1 (s_idl p nk nr a).1 := by
  unfold s_idl
  split
  · exact s_eqC.wds
  · exact s_eqC.wds.trans s_eqC.fsp
theorem s_eqT.idl {p : e_Sp} {nk nr : Nat} {a : e_I × e_Jt} : s_eqT a.1 (s_idl p nk nr a).1 := by
  unfold s_idl
  split
  · exact s_eqT.wds
  · exact s_eqT.wds.trans s_eqT.fsp
theorem s_D.fsp {p p' : e_Sp} {I : e_I} {J : e_Jt} {nk nr nr' : Nat} (h : s_D p I nk nr) : s_D p (s_fsp p' nr' (I, J)).1 nk nr := h.eq (s_eqC.fsp (a := (I, J)))
theorem s_Tp.fsp {p p' : e_Sp} {I : e_I} {J : e_Jt} {c : Nat × Nat} {a b nr' : Nat} (h : s_Tp p I c a b) : s_Tp p (s_fsp p' nr' (I, J)).1 c a b := h.eq (s_eqT.fsp (a := (I, J)))
theorem s_D.idl {p p' : e_Sp} {I : e_I} {J : e_Jt} {nk nr nk' nr' : Nat} (h : s_D p I nk nr) : s_D p (s_idl p' nk' nr' (I, J)).1 nk nr := h.eq (s_eqC.idl (a := (I, J)))
theorem s_Tp.idl {p p' : e_Sp} {I : e_I} {J : e_Jt} {c : Nat × Nat} {a b nk' nr' : Nat} (h : s_Tp p I c a b) : s_Tp p (s_idl p' nk' nr' (I, J)).1 c a b := h.eq (s_eqT.idl (a := (I, J)))
def s_now1 (I : e_I) : e_I := s_up I f_now 0 (I f_now 0 + 1)
def s_tick (p : e_Sp) (nk nr : Nat) (_ : Nat) (a : e_I × e_Jt) : e_I × e_Jt := if ¬ s_now1 a.1 f_isWaiting 0 = 0 ∨ s_now1 a.1 f_lastPressedAt 0 = s_now1 a.1 f_now 0 - 1 then s_stl p nk nr (s_now1 a.1, a.2) else s_idl p nk nr (s_now1 a.1, a.2)
theorem s_tick.xt {p p' : e_Sp} (x : s_xt p p') : s_tick p' = s_tick p := by
  funext nk nr i a
  unfold s_tick s_idl
  rw [s_stl.xt x, s_fsp.xt x]
theorem s_eqC.tick {p : e_Sp} {nk nr : Nat} (i : Nat) (a : e_I × e_Jt) : s_eqC a.1 (s_tick p nk nr i a).1 := by
  have h : s_eqC a.1 (s_now1 a.1) := s_eqC.up (by decide)
  unfold s_tick
  split
  · exact h.trans s_eqC.stl
  · exact h.trans s_eqC.idl
theorem s_tn {x : Int32} {i : Nat} (hi : i < 2147483648) : nI i < x ↔ i < x.toNatClampNeg := by
  rw [Int32.lt_iff_toInt_lt, nI_toInt hi]
  show (i : Int) < x.toInt ↔ i < x.toInt.toNat
  omega
theorem s_tn2 {x : Int32} : x.toNatClampNeg < 2147483648 := by
  have := x.toInt_lt
  show x.toInt.toNat < _
  omega
/-- a key is moved -/
def s_prk (I : e_I) (x y b : Int32) : e_I := if s_isk x y ∧ I f_a_pressed (s_kn x y) ≠ b then s_kp 107 (s_put I x y b (I f_now 0)) x y b (s_put I x y b (I f_now 0) f_now 0) else I
theorem s_eqC.prk {I : e_I} {x y b : Int32} : s_eqC I (s_prk I x y b) := by
  unfold s_prk
  split
  · exact s_eqC.put.trans s_eqC.kp
  · exact s_eqC.rfl'
set_option maxRecDepth 100000 in
set_option maxHeartbeats 4000000 in
theorem c_X10_settle {X : e_XT} {d : Nat} {p : e_Sp} {I : e_I} {J : e_Jt} {c : Nat × Nat} {w : e_Rw1} {Q : e_Rt → e_SS → Prop} {nk nr : Nat} (hD : s_D p I nk nr) {a b : Nat} (hT : s_Tp p I c a b) (k : ∀ p' c', s_D p' (s_stl p nk nr (I, J)).1 nk nr → s_xt p p' → s_Tp p' (s_stl p nk nr (I, J)).1 c' a b → Q (.inl none) (p', (s_stl p nk nr (I, J)).1, (s_stl p nk nr (I, J)).2, c', w)) : s_c X (d + 6) 108 [.ref (p.1 T_WORKS 0)] (p, I, J, c, w) Q := by
  have hC := hD.1
  have hp := hC.1
  have hn40 := hC.2.1.1
  have hk40 := hC.2.1.2
  have hn10 := hC.2.2.1.1
  have hr10 := hC.2.2.1.2
  refine m_X10_settle (Nat.le_of_ble_eq_true rfl) ?_
  show s_w _ _ _ 0 _ _ _ _
  refine w_op (pc' := 1) dX10_settle_0 rfl ?_
  refine t_getG0 (G := g_w_CONS) dX10_settle_1 rfl rfl (by decide) rfl (fun _ => rfl) (hp.1 _ rfl) ?_
  refine w_op (pc' := 5) dX10_settle_4 rfl ?_
  refine t_getG0 (G := g_w_KEYS) dX10_settle_5 rfl rfl (by decide) rfl (fun _ => rfl) (hp.1 _ rfl) ?_
  refine t_callV (t := T_CONS) (As := [_]) dX10_settle_8 rfl rM_X0_findRelays (by decide) rfl rfl (by decide) (by decide) (Nat.le_of_ble_eq_true rfl) rfl (hp.1 _ rfl) (c_X0_findRelays hC ?_)
  show s_w _ _ _ 11 _ _ _ _
  refine w_op (pc' := 12) dX10_settle_11 rfl ?_
  refine t_callV (t := T_WORKS) (As := []) dX10_settle_12 rfl rM_X10_forgetReasons (by decide) rfl rfl (by decide) (by decide) (Nat.le_of_ble_eq_true rfl) rfl (hp.1 _ rfl) (c_X10_forgetReasons (hD.eq (s_eqC.rel 16)) ?_)
  show s_w _ _ _ 15 _ _ _ _
  refine w_op (pc' := 16) dX10_settle_15 rfl ?_
  refine t_getG0 (G := g_w_KEYS) dX10_settle_16 rfl rfl (by decide) rfl (fun _ => rfl) (hp.1 _ rfl) ?_
  refine t_callV (t := T_KEYS) (As := []) dX10_settle_19 rfl rM_X3_isAnyPressed (by decide) rfl rfl (by decide) (by decide) (Nat.le_of_ble_eq_true rfl) rfl (hp.1 _ rfl) (c_X3_isAnyPressed hp ?_)
  show s_w _ _ _ 22 _ _ _ _
  refine w_ifeq (t := 33) dX10_settle_22 (by decide) (fun c22 => ?_) (fun c22 => ?_)
  · refine w_op (pc' := 34) dX10_settle_33 rfl ?_
    have e1 : s_set1 p nk nr I = _ := if_neg (fun z => by rw [bI_0.mp c22] at z; cases z)
    rw [← e1]
    refine t_callV (t := T_WORKS) (As := []) dX10_settle_34 rfl rM_X10_movePallets (by decide) rfl rfl (by decide) (by decide) (Nat.le_of_ble_eq_true rfl) rfl (hp.1 _ rfl) (c_X10_movePallets (hD.eq s_eqC.set1) (hT.eq s_eqT.set1) (fun p1 c1 hD1 hx hT1 => ?_))
    show s_w _ _ _ 37 _ _ _ _
    rw [show p.1 T_WORKS = p1.1 T_WORKS from (hx.1 T_WORKS rfl).1.symm]
    refine w_op (pc' := 38) dX10_settle_37 rfl ?_
    refine t_callV (t := T_WORKS) (As := []) dX10_settle_38 rfl rM_X10_findWinds (by decide) rfl rfl (by decide) (by decide) (Nat.le_of_ble_eq_true rfl) rfl (hD1.1.1.1 _ rfl) (c_X10_findWinds hD1 ?_)
    show s_w _ _ _ 41 _ _ _ _
    refine w_op (pc' := 42) dX10_settle_41 rfl ?_
    refine t_callV (t := T_WORKS) (As := []) dX10_settle_42 rfl rM_X10_findSpeech (by decide) rfl rfl (by decide) (by decide) (Nat.le_of_ble_eq_true rfl) rfl (hD1.1.1.1 _ rfl) (c_X10_findSpeech (hD1.eq s_eqC.wds) ?_)
    show s_w _ _ _ 45 _ _ _ _
    rw [s_fsp.xt hx]
    exact w_return dX10_settle_45 ⟨rfl, k p1 c1 (hD1.eq s_eqC.wds).fsp hx (hT1.eq s_eqT.wds).fsp⟩
  · refine w_op (pc' := 26) dX10_settle_25 rfl ?_
    refine t_callV (t := T_WORKS) (As := []) dX10_settle_26 rfl rM_X10_findWays (by decide) rfl rfl (by decide) (by decide) (Nat.le_of_ble_eq_true rfl) rfl (hp.1 _ rfl) (c_X10_findWays ((hD.eq (s_eqC.rel 16)).eq s_eqC.fg) ?_)
    show s_w _ _ _ 29 _ _ _ _
    refine w_op (pc' := 30) dX10_settle_29 rfl ?_
    refine t_callV (t := T_WORKS) (As := []) dX10_settle_30 rfl rM_X10_findReasons (by decide) rfl rfl (by decide) (by decide) (Nat.le_of_ble_eq_true rfl) rfl (hp.1 _ rfl) (c_X10_findReasons (((hD.eq (s_eqC.rel 16)).eq s_eqC.fg).eq s_eqC.fw) ?_)
    show s_w _ _ _ 33 _ _ _ _
    refine w_op (pc' := 34) dX10_settle_33 rfl ?_
    have e1 : s_set1 p nk nr I = _ := if_pos (bI_n0.mp c22)
    rw [← e1]
    refine t_callV (t := T_WORKS) (As := []) dX10_settle_34 rfl rM_X10_movePallets (by decide) rfl rfl (by decide) (by decide) (Nat.le_of_ble_eq_true rfl) rfl (hp.1 _ rfl) (c_X10_movePallets (hD.eq s_eqC.set1) (hT.eq s_eqT.set1) (fun p1 c1 hD1 hx hT1 => ?_))
    show s_w _ _ _ 37 _ _ _ _
    rw [show p.1 T_WORKS = p1.1 T_WORKS from (hx.1 T_WORKS rfl).1.symm]
    refine w_op (pc' := 38) dX10_settle_37 rfl ?_
    refine t_callV (t := T_WORKS) (As := []) dX10_settle_38 rfl rM_X10_findWinds (by decide) rfl rfl (by decide) (by decide) (Nat.le_of_ble_eq_true rfl) rfl (hD1.1.1.1 _ rfl) (c_X10_findWinds hD1 ?_)
    show s_w _ _ _ 41 _ _ _ _
    refine w_op (pc' := 42) dX10_settle_41 rfl ?_
    refine t_callV (t := T_WORKS) (As := []) dX10_settle_42 rfl rM_X10_findSpeech (by decide) rfl rfl (by decide) (by decide) (Nat.le_of_ble_eq_true rfl) rfl (hD1.1.1.1 _ rfl) (c_X10_findSpeech (hD1.eq s_eqC.wds) ?_)
    show s_w _ _ _ 45 _ _ _ _
    rw [s_fsp.xt hx]
    exact w_return dX10_settle_45 ⟨rfl, k p1 c1 (hD1.eq s_eqC.wds).fsp hx (hT1.eq s_eqT.wds).fsp⟩
set_option maxRecDepth 100000 in
set_option maxHeartbeats 4000000 in
theorem c_X10_passIdly {X : e_XT} {d : Nat} {p : e_Sp} {I : e_I} {J : e_Jt} {c : Nat × Nat} {w : e_Rw1} {Q : e_Rt → e_SS → Prop} {nk nr : Nat} (hD : s_D p I nk nr) (k : Q (.inl none) (p, (s_idl p nk nr (I, J)).1, (s_idl p nk nr (I, J)).2, c, w)) : s_c X (d + 5) 124 [.ref (p.1 T_WORKS 0)] (p, I, J, c, w) Q := by
  have hC := hD.1
  have hp := hC.1
  have hn40 := hC.2.1.1
  have hk40 := hC.2.1.2
  have hn10 := hC.2.2.1.1
  have hr10 := hC.2.2.1.2
  refine m_X10_passIdly (Nat.le_of_ble_eq_true rfl) ?_
  show s_w _ _ _ 0 _ _ _ _
  refine w_op (pc' := 1) dX10_passIdly_0 rfl ?_
  refine t_callV (t := T_WORKS) (As := []) dX10_passIdly_1 rfl rM_X10_windless (by decide) rfl rfl (by decide) (by decide) (Nat.le_of_ble_eq_true rfl) rfl (hp.1 _ rfl) (c_X10_windless hp ?_)
  show s_w _ _ _ 4 _ _ _ _
  refine w_op (pc' := 5) (ll' := [_, _]) dX10_passIdly_4 rfl ?_
  refine w_op (pc' := 6) dX10_passIdly_5 rfl ?_
  refine t_callV (t := T_WORKS) (As := []) dX10_passIdly_6 rfl rM_X10_findWinds (by decide) rfl rfl (by decide) (by decide) (Nat.le_of_ble_eq_true rfl) rfl (hp.1 _ rfl) (c_X10_findWinds hD ?_)
  show s_w _ _ _ 9 _ _ _ _
  refine w_op (pc' := 10) dX10_passIdly_9 rfl ?_
  refine t_callV (t := T_WORKS) (As := []) dX10_passIdly_10 rfl rM_X10_windless (by decide) rfl rfl (by decide) (by decide) (Nat.le_of_ble_eq_true rfl) rfl (hp.1 _ rfl) (c_X10_windless hp ?_)
  show s_w _ _ _ 13 _ _ _ _
  refine w_op (pc' := 14) dX10_passIdly_13 rfl ?_
  refine w_icmpeq (t := 21) dX10_passIdly_14 (by decide) (fun c14 => ?_) (fun c14 => ?_)
  · exact w_return dX10_passIdly_21 ⟨rfl, (by rw [show s_idl p nk nr (I, J) = _ from if_pos c14] at k; exact k)⟩
  · refine w_op (pc' := 18) dX10_passIdly_17 rfl ?_
    refine t_callV (t := T_WORKS) (As := []) dX10_passIdly_18 rfl rM_X10_findSpeech (by decide) rfl rfl (by decide) (by decide) (Nat.le_of_ble_eq_true rfl) rfl (hp.1 _ rfl) (c_X10_findSpeech (hD.eq s_eqC.wds) ?_)
    show s_w _ _ _ 21 _ _ _ _
    exact w_return dX10_passIdly_21 ⟨rfl, (by rw [show s_idl p nk nr (I, J) = _ from if_neg c14] at k; exact k)⟩
set_option maxRecDepth 100000 in
set_option maxHeartbeats 4000000 in
theorem l_X10_passTicks {X : e_XT} {d : Nat} {p : e_Sp} {I : e_I} {J : e_Jt} {c : Nat × Nat} {w : e_Rw1} {Q : e_Rt → e_SS → Prop} {nk nr a b : Nat} {x : Int32} {R : e_I × e_Jt} {p0 : e_Sp} (k : ∀ p' c', s_D p' R.1 nk nr → s_xt p0 p' → s_Tp p' R.1 c' a b → Q (.inl none) (p', R.1, R.2, c', w)) : ∀ (n : Nat) (i : Nat) (p : e_Sp) (I1 : e_I) (J1 : e_Jt) (c : Nat × Nat), (h1 : i ≤ x.toNatClampNeg) → (hD : s_D p I1 nk nr) → (hT : s_Tp p I1 c a b) → (x0 : s_xt p0 p) → (hr2 : s_run (s_tick p nk nr) i (x.toNatClampNeg - i) (I1, J1) = R) → (hn : x.toNatClampNeg - i < n) → s_w X (d + 7) K_X10_passTicks 2 [some (.ref (p.1 T_WORKS 0)), some (.int x), some (.int (nI i))] [] (p, I1, J1, c, w) (fun r S' => e_rcr (none) r = true ∧ Q r S') := by
  intro n
  induction n with
  | zero =>
    intro i p I1 J1 c h1 hD hT x0 hr2 hn
    exact absurd hn (Nat.not_lt_zero _)
  | succ n ih =>
    intro i p I1 J1 c h1 hD hT x0 hr2 hn
    have hC := hD.1
    have hp := hC.1
    have hn40 := hC.2.1.1
    have hk40 := hC.2.1.2
    have hn10 := hC.2.2.1.1
    have hr10 := hC.2.2.1.2
    have hx31 := s_tn2 (x := x)
    refine w_op (pc' := 3) dX10_passTicks_2 rfl ?_
    refine w_op (pc' := 4) dX10_passTicks_3 rfl ?_
    refine w_icmpge (t := 57) dX10_passTicks_4 (by decide) (fun c4 => ?_) (fun c4 => ?_)
    · exact w_return dX10_passTicks_57 ⟨rfl, by rw [s_run_z (Nat.le_of_not_lt (fun z => Int32.not_lt.mpr c4 ((s_tn (by omega)).mpr z)))] at hr2; subst hr2; exact k p c hD x0 hT⟩
    · have hi : i < x.toNatClampNeg := (s_tn (by omega)).mp (Int32.not_le.mp c4)
      have e1 : s_eqC I1 (s_now1 I1) := s_eqC.up (by decide)
      have t1 : s_eqT I1 (s_now1 I1) := s_eqT.up (by decide)
      refine w_op (pc' := 8) dX10_passTicks_7 rfl ?_
      refine w_op (pc' := 9) dX10_passTicks_8 rfl ?_
      refine t_getI (F := f_now) dX10_passTicks_9 rfl rfl (by decide) rfl ⟨rfl, fun _ => rfl⟩ (hp.1 _ rfl) ?_
      refine w_iconst (v := 1) dX10_passTicks_12 rfl ?_
      refine w_op (pc' := 14) dX10_passTicks_13 rfl ?_
      refine t_putI (F := f_now) dX10_passTicks_14 rfl rfl (by decide) (by decide) rfl rfl (Or.inl rfl) (hp.1 _ rfl) ?_
      rw [show s_up I1 f_now 0 (I1 f_now 0 + 1) = s_now1 I1 from rfl]
      refine w_op (pc' := 18) dX10_passTicks_17 rfl ?_
      refine t_getI (F := f_isWaiting) dX10_passTicks_18 rfl rfl (by decide) rfl ⟨rfl, fun _ => rfl⟩ (hp.1 _ rfl) ?_
      refine w_ifne (t := 40) dX10_passTicks_21 (by decide) (fun c21 => ?_) (fun c21 => ?_)
      · refine w_op (pc' := 41) dX10_passTicks_40 rfl ?_
        refine t_callV (t := T_WORKS) (As := []) dX10_passTicks_41 rfl rM_X10_settle (by decide) rfl rfl (by decide) (by decide) (Nat.le_of_ble_eq_true rfl) rfl (hp.1 _ rfl) (c_X10_settle (hD.eq e1) (hT.eq t1) (fun p1 c1 hD1 hx hT1 => ?_))
        show s_w _ _ _ 44 _ _ _ _
        rw [show p.1 T_WORKS = p1.1 T_WORKS from (hx.1 T_WORKS rfl).1.symm]
        refine w_goto (t := 51) dX10_passTicks_44 (by decide) ?_
        refine w_op (pc' := 54) (ll' := [_, _, _]) dX10_passTicks_51 rfl ?_
        refine w_goto (t := 2) dX10_passTicks_54 (by decide) ?_
        rw [show nI i + Int32.ofInt 1 = nI (i + 1) from nI_1 i]
        have ef : s_tick p nk nr i (I1, J1) = _ := if_pos (Or.inl c21)
        rw [s_run_s hi, ef] at hr2
        exact ih (i + 1) p1 _ _ c1 (by omega) hD1 hT1 (x0.trans hx) (by rw [s_tick.xt hx]; exact hr2) (by omega)
      · refine w_op (pc' := 25) dX10_passTicks_24 rfl ?_
        refine t_getG0 (G := g_w_KEYS) dX10_passTicks_25 rfl rfl (by decide) rfl (fun _ => rfl) (hp.1 _ rfl) ?_
        refine t_getI (F := f_lastPressedAt) dX10_passTicks_28 rfl rfl (by decide) rfl ⟨rfl, fun _ => rfl⟩ (hp.1 _ rfl) ?_
        refine w_op (pc' := 32) dX10_passTicks_31 rfl ?_
        refine t_getI (F := f_now) dX10_passTicks_32 rfl rfl (by decide) rfl ⟨rfl, fun _ => rfl⟩ (hp.1 _ rfl) ?_
        refine w_iconst (v := 1) dX10_passTicks_35 rfl ?_
        refine w_op (pc' := 37) dX10_passTicks_36 rfl ?_
        refine w_icmpne (t := 47) dX10_passTicks_37 (by decide) (fun c37 => ?_) (fun c37 => ?_)
        · refine w_op (pc' := 48) dX10_passTicks_47 rfl ?_
          refine t_callV (t := T_WORKS) (As := []) dX10_passTicks_48 rfl rM_X10_passIdly (by decide) rfl rfl (by decide) (by decide) (Nat.le_of_ble_eq_true rfl) rfl (hp.1 _ rfl) (c_X10_passIdly (hD.eq e1) ?_)
          show s_w _ _ _ 51 _ _ _ _
          refine w_op (pc' := 54) (ll' := [_, _, _]) dX10_passTicks_51 rfl ?_
          refine w_goto (t := 2) dX10_passTicks_54 (by decide) ?_
          rw [show nI i + Int32.ofInt 1 = nI (i + 1) from nI_1 i]
          have ef : s_tick p nk nr i (I1, J1) = s_idl p nk nr (s_now1 I1, J1) := if_neg (fun z => z.elim (fun u => u c21) (fun u => c37 u))
          have hd9 := (hD.eq e1).idl (p' := p) (J := J1) (nk' := nk) (nr' := nr)
          have ht9 := (hT.eq t1).idl (p' := p) (J := J1) (nk' := nk) (nr' := nr)
          rw [s_run_s hi, ef] at hr2
          generalize s_idl p nk nr (s_now1 I1, J1) = A at hr2 hd9 ht9 ⊢
          exact ih (i + 1) p A.1 A.2 c (by omega) hd9 ht9 x0 hr2 (by omega)
        · refine w_op (pc' := 41) dX10_passTicks_40 rfl ?_
          refine t_callV (t := T_WORKS) (As := []) dX10_passTicks_41 rfl rM_X10_settle (by decide) rfl rfl (by decide) (by decide) (Nat.le_of_ble_eq_true rfl) rfl (hp.1 _ rfl) (c_X10_settle (hD.eq e1) (hT.eq t1) (fun p1 c1 hD1 hx hT1 => ?_))
          show s_w _ _ _ 44 _ _ _ _
          rw [show p.1 T_WORKS = p1.1 T_WORKS from (hx.1 T_WORKS rfl).1.symm]
          refine w_goto (t := 51) dX10_passTicks_44 (by decide) ?_
          refine w_op (pc' := 54) (ll' := [_, _, _]) dX10_passTicks_51 rfl ?_
          refine w_goto (t := 2) dX10_passTicks_54 (by decide) ?_
          rw [show nI i + Int32.ofInt 1 = nI (i + 1) from nI_1 i]
          have ef : s_tick p nk nr i (I1, J1) = _ := if_pos (Or.inr c37)
          rw [s_run_s hi, ef] at hr2
          exact ih (i + 1) p1 _ _ c1 (by omega) hD1 hT1 (x0.trans hx) (by rw [s_tick.xt hx]; exact hr2) (by omega)
set_option maxRecDepth 100000 in
set_option maxHeartbeats 4000000 in
theorem c_X10_passTicks {X : e_XT} {d : Nat} {p : e_Sp} {I : e_I} {J : e_Jt} {c : Nat × Nat} {w : e_Rw1} {Q : e_Rt → e_SS → Prop} {nk nr : Nat} (hD : s_D p I nk nr) {a b : Nat} (hT : s_Tp p I c a b) {x : Int32} (k : ∀ p' c', s_D p' (s_run (s_tick p nk nr) 0 x.toNatClampNeg (I, J)).1 nk nr → s_xt p p' → s_Tp p' (s_run (s_tick p nk nr) 0 x.toNatClampNeg (I, J)).1 c' a b → Q (.inl none) (p', (s_run (s_tick p nk nr) 0 x.toNatClampNeg (I, J)).1, (s_run (s_tick p nk nr) 0 x.toNatClampNeg (I, J)).2, c', w)) : s_c X (d + 7) 123 [.ref (p.1 T_WORKS 0), .int x] (p, I, J, c, w) Q := by
  refine m_X10_passTicks (Nat.le_of_ble_eq_true rfl) ?_
  show s_w _ _ _ 0 _ _ _ _
  refine w_iconst (v := 0) dX10_passTicks_0 rfl ?_
  refine w_op (pc' := 2) (ll' := [_, _, _]) dX10_passTicks_1 rfl ?_
  exact l_X10_passTicks (p := p) (I := I) (J := J) (c := c) k (x.toNatClampNeg + 1) 0 p I J c (Nat.zero_le _) hD hT s_xt.rfl' rfl (by omega)
set_option maxRecDepth 100000 in
set_option maxHeartbeats 4000000 in
theorem c_X10_pressKey {X : e_XT} {d : Nat} {p : e_Sp} {I : e_I} {J : e_Jt} {c : Nat × Nat} {w : e_Rw1} {Q : e_Rt → e_SS → Prop} {nk nr : Nat} (hD : s_D p I nk nr) {a b : Nat} (hT : s_Tp p I c a b) {x y on : Int32} (hon : on = 0 ∨ on = 1) (k : ∀ p' c', s_D p' (s_prk I x y on) nk nr → s_xt p p' → s_Tp p' (s_prk I x y on) c' a b → Q (.inl none) (p', s_prk I x y on, J, c', w)) : s_c X (d + 4) 118 [.ref (p.1 T_WORKS 0), .int x, .int y, .int on] (p, I, J, c, w) Q := by
  have hC := hD.1
  have hp := hC.1
  have hn40 := hC.2.1.1
  have hk40 := hC.2.1.2
  have hn10 := hC.2.2.1.1
  have hr10 := hC.2.2.1.2
  refine m_X10_pressKey (Nat.le_of_ble_eq_true rfl) ?_
  show s_w _ _ _ 0 _ _ _ _
  refine w_op (pc' := 1) dX10_pressKey_0 rfl ?_
  refine t_getG0 (G := g_w_KEYS) dX10_pressKey_1 rfl rfl (by decide) rfl (fun _ => rfl) (hp.1 _ rfl) ?_
  refine w_op (pc' := 5) dX10_pressKey_4 rfl ?_
  refine w_op (pc' := 6) dX10_pressKey_5 rfl ?_
  refine w_op (pc' := 7) dX10_pressKey_6 rfl ?_
  refine w_op (pc' := 8) dX10_pressKey_7 rfl ?_
  refine t_getI (F := f_now) dX10_pressKey_8 rfl rfl (by decide) rfl ⟨rfl, fun _ => rfl⟩ (hp.1 _ rfl) ?_
  refine t_callV (t := T_KEYS) (As := [_, _, _, _]) dX10_pressKey_11 rfl rM_X3_put (by decide) rfl rfl (by decide) (by decide) (Nat.le_of_ble_eq_true rfl) rfl (hp.1 _ rfl) (c_X3_put hp hon (fun h0 => ?_) (fun h1 h2 => ?_))
  · show s_w _ _ _ 14 _ _ _ _
    refine w_ifeq (t := 31) dX10_pressKey_14 (by decide) (fun c14 => ?_) (fun c14 => ?_)
    · exact w_return dX10_pressKey_31 ⟨rfl, (by have e : s_prk I x y on = I := if_neg (fun z => h0.elim (fun u => s_idx_neg.mp u z.1) (fun u => z.2 u)); rw [e] at k; exact k p c hD s_xt.rfl' hT)⟩
    · exact absurd c14 (by decide)
  · show s_w _ _ _ 14 _ _ _ _
    refine w_ifeq (t := 31) dX10_pressKey_14 (by decide) (fun c14 => ?_) (fun c14 => ?_)
    · exact absurd c14 (by decide)
    · refine w_op (pc' := 18) dX10_pressKey_17 rfl ?_
      refine t_getG0 (G := g_w_TAPE) dX10_pressKey_18 rfl rfl (by decide) rfl (fun _ => rfl) (hp.1 _ rfl) ?_
      refine w_op (pc' := 22) dX10_pressKey_21 rfl ?_
      refine w_op (pc' := 23) dX10_pressKey_22 rfl ?_
      refine w_op (pc' := 24) dX10_pressKey_23 rfl ?_
      refine w_op (pc' := 25) dX10_pressKey_24 rfl ?_
      refine t_getI (F := f_now) dX10_pressKey_25 rfl rfl (by decide) rfl ⟨rfl, fun _ => rfl⟩ (hp.1 _ rfl) ?_
      refine t_callV (t := T_TAPE) (As := [_, _, _, _]) dX10_pressKey_28 rfl rM_X9_keepKey (by decide) rfl rfl (by decide) (by decide) (Nat.le_of_ble_eq_true rfl) rfl (hp.1 _ rfl) (c_X9_keepKey hp (hT.eq s_eqT.put) (fun p1 c1 hx hT1 => ?_))
      show s_w _ _ _ 31 _ _ _ _
      exact w_return dX10_pressKey_31 ⟨rfl, (by have e : s_prk I x y on = _ := if_pos ⟨h1, h2⟩; rw [e] at k; exact k p1 c1 ((hD.xt hx).eq (s_eqC.put.trans s_eqC.kp)) hx hT1)⟩
