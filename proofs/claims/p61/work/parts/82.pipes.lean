/-! 82: pipes and ranks are published -/
theorem s_rw_c {w : e_Rw1} {a b : Nat} {o o' : Nat × Nat × (Nat → Value)} (h : a ≠ b) : s_rw (s_rw w a o) b o' = s_rw (s_rw w b o') a o := by
  funext b'
  unfold s_rw
  by_cases e : b' = b
  · rw [if_pos e, if_neg (fun z => h (z.symm.trans e)), if_pos e]
  · rw [if_neg e, if_neg e]
theorem nI_sub {a b : Nat} (h : b ≤ a) : nI a - nI b = nI (a - b) := by
  have e : nI a = nI (a - b) + nI b := by rw [nI_add, Nat.sub_add_cancel h]
  rw [e, Int32.add_sub_cancel]
/-- a pipe as it is new -/
def s_pf (f : Nat → Value) : Nat → Value := s_fu (s_fu f 5 (.int (-5))) 6 (.int 45)
def s_pkI (I : e_I) (bs n : Nat) : e_I := fun F m => if (e_FI F).1 = T_PIPE ∧ bs ≤ m ∧ m < bs + n then (if F = f_p_closedAt then -5 else if F = f_p_fault then 45 else 0) else I F m
theorem s_pkI_F {I : e_I} {bs n F : Nat} (h : (e_FI F).1 ≠ T_PIPE) : s_pkI I bs n F = I F := by
  funext m
  exact if_neg (fun z => h z.1)
theorem s_pkI_i {I : e_I} {bs n F m : Nat} (h : (e_FI F).1 = T_PIPE) (h1 : bs ≤ m ∧ m < bs + n) : s_pkI I bs n F m = (if F = f_p_closedAt then -5 else if F = f_p_fault then 45 else 0) := if_pos ⟨h, h1⟩
def s_Np (bs n t i : Nat) : Bool := decide (t = T_PIPE) && (decide (bs ≤ i) && decide (i < bs + n))
section s_pip
variable {X : e_XT} {d : Nat} {K : e_KT} {pc a b q j k n n' bs : Nat} {ll : e_LL} {st : List Value} {p : e_Sp} {I : e_I} {J : e_Jt} {c : Nat × Nat} {w : e_Rw1} {Q : e_Rt → e_SS → Prop} {g fb : Nat → Value} {ob : Nat × Nat × (Nat → Value)} {x : Int32}
set_option maxRecDepth 100000 in
theorem s_is.pubP {h : e_Hp} (hs : s_is (p, s_pkI I bs n', J, c, s_rw w a (10, 0, s_pf s_nul)) h) (hK : p.2.1 T_PIPE j = false) (hj : bs ≤ j ∧ j < bs + n') (ha : w a = none) : s_is (s_pv p T_PIPE j a 0, s_pkI I bs n', J, c, w) h := by
  have e : ∀ F, (e_FI F).1 = T_PIPE → s_pkI I bs n' F j = (if F = f_p_closedAt then -5 else if F = f_p_fault then 45 else 0) := fun F hF => s_pkI_i hF hj
  have hs2 := hs.pub (t := T_PIPE) (i := j) (a := a) (n := 0) (ln := 0) (f := s_pf s_nul) s_rw_s (by decide) rfl hK ⟨by decide, by decide, by decide, fun z => absurd z (by decide)⟩
    (s_hol.of (LI := [f_p_found, f_p_isHeld, f_p_isWanted, f_p_changedAt, f_p_isOpened, f_p_closedAt, f_p_fault, f_p_tuning, f_p_isSpeaking, f_p_begins, f_p_ends]) (LJ := []) (LG := []) (by decide +kernel) (by decide +kernel) (by decide +kernel) (fun F hF => by
      rcases List.mem_cons.mp hF with rfl | hF
      · exact s_hI1 (sl := 0) rfl (by rw [e _ rfl]; decide)
      rcases List.mem_cons.mp hF with rfl | hF
      · exact s_hI1 (sl := 1) rfl (by rw [e _ rfl]; decide)
      rcases List.mem_cons.mp hF with rfl | hF
      · exact s_hI1 (sl := 2) rfl (by rw [e _ rfl]; decide)
      rcases List.mem_cons.mp hF with rfl | hF
      · exact s_hI1 (sl := 3) rfl (by rw [e _ rfl]; decide)
      rcases List.mem_cons.mp hF with rfl | hF
      · exact s_hI1 (sl := 4) rfl (by rw [e _ rfl]; decide)
      rcases List.mem_cons.mp hF with rfl | hF
      · exact s_hI1 (sl := 5) rfl (by rw [e _ rfl]; decide)
      rcases List.mem_cons.mp hF with rfl | hF
      · exact s_hI1 (sl := 6) rfl (by rw [e _ rfl]; decide)
      rcases List.mem_cons.mp hF with rfl | hF
      · exact s_hI1 (sl := 7) rfl (by rw [e _ rfl]; decide)
      rcases List.mem_cons.mp hF with rfl | hF
      · exact s_hI1 (sl := 8) rfl (by rw [e _ rfl]; decide)
      rcases List.mem_cons.mp hF with rfl | hF
      · exact s_hI1 (sl := 9) rfl (by rw [e _ rfl]; decide)
      obtain rfl := List.mem_singleton.mp hF
      exact s_hI1 (sl := 10) rfl (by rw [e _ rfl]; decide)) (fun F hF => nomatch hF) (fun F hF => nomatch hF) (fun z => absurd z (by decide)))
    (fun G hG e9 => by
      have := s_mPG hG e9
      rw [show s_PG T_PIPE = [] by decide +kernel] at this
      cases this) (fun z => absurd z (by decide))
  rw [s_rw_un ha] at hs2
  exact hs2
/-- a new pipe is put into the row of its rank, and stands -/
theorem w_aastP (hd : decode K.2.2.1 pc = .ok (.aastore, 1)) (hx : s_ix x k n) (hqb : q ≠ b) (haq : a ≠ q) (hab : a ≠ b) (ha : w a = none) (hK : p.2.1 T_PIPE j = false) (hj : bs ≤ j ∧ j < bs + n')
    (kk : s_w X d K (pc + 1) ll st (s_pv p T_PIPE j a 0, s_pkI I bs n', J, c, s_rw (s_rw w q (106, n, s_fu g k (.ref a))) b ob) Q) : s_w X d K pc ll (.ref a :: .int x :: .ref q :: st) (p, s_pkI I bs n', J, c, s_rw (s_rw (s_rw w q (106, n, g)) b ob) a (10, 0, s_pf s_nul)) Q := by
  have hwq : s_rw (s_rw (s_rw w q (106, n, g)) b ob) a (10, 0, s_pf s_nul) q = some (106, n, g) := by rw [s_rw_n haq.symm, s_rw_n hqb, s_rw_s]
  refine w_hop hd (fun h hs => ⟨e_set h q k (.ref a), e_hopC rfl rfl ?_, ?_⟩) kk
  · obtain ⟨⟨g1, g2, g3, g4⟩, -⟩ := hs.2.2 q _ hwq
    obtain ⟨⟨u1, u2, -, -⟩, -⟩ := hs.2.2 a _ s_rw_s
    show (if q < e_n h ∧ a < e_n h ∧ ((e_kd h q = 106 ∧ e_kd h a = 10) ∨ (e_kd h q = 105 ∧ e_kd h a < 21 ∧ e_ob (e_kd h a) = true)) ∧ e_in x (e_ln h q) = true then some (st, e_set h q x.toNatClampNeg (.ref a)) else none) = _
    rw [if_pos ⟨g1, u1, Or.inl ⟨g2, u2⟩, by rw [g3]; exact hx.ein⟩, hx.2.1]
  · have h1 := hs.rset (s := k) (v := .ref a) hwq
    have h1 : s_is (p, s_pkI I bs n', J, c, s_rw (s_rw (s_rw (s_rw w q (106, n, g)) b ob) a (10, 0, s_pf s_nul)) q (106, n, s_fu g k (.ref a))) (e_set h q k (.ref a)) := h1
    rw [s_rw_c haq, s_rw_c hqb.symm, s_rw_rw] at h1
    exact h1.pubP hK hj (by rw [s_rw_n hab, s_rw_n haq, ha])
/-- the base of a rank that isn't there may be any -/
def s_bp (p : e_Sp) (r bs : Nat) : e_Sp := (p.1, p.2.1, p.2.2.1, p.2.2.2.1, fun r' => if r' = r then bs else p.2.2.2.2 r')
theorem s_is.gB {h : e_Hp} {r : Nat} (hs : s_is (p, I, J, c, w) h) (hr : p.2.1 T_RANK r = false) : s_is (s_bp p r bs, I, J, c, w) h := by
  obtain ⟨⟨r1, r2, r3, r4, r5, r6, r7⟩, h2, h3⟩ := hs
  refine ⟨⟨r1, r2, r3, r4, r5, fun r' hr' => ?_, r7⟩, h2, h3⟩
  have hr' : p.2.1 T_RANK r' = true := hr'
  have e : (s_bp p r bs).2.2.2.2 r' = p.2.2.2.2 r' := if_neg (fun z => by rw [z, hr] at hr'; cases hr')
  rw [e]
  exact r6 r' hr'
def s_rkI (I : e_I) (r : Nat) (lo dv use dl rs pw : Int32) : e_I := s_up (s_up (s_up (s_up (s_up (s_up (s_up I f_r_lowest r lo) f_r_division r dv) f_r_use r use) f_r_delay r dl) f_r_rest r rs) f_r_power r pw) f_r_heatNumber r 0
def s_pr (p : e_Sp) (r b q n bs : Nat) : e_Sp := s_pv (s_pv (s_bp p r bs) T_PARR r q n) T_RANK r b 0
set_option maxRecDepth 100000 in
theorem s_is.pubR {h : e_Hp} {r : Nat} {lo dv use dl rs pw : Int32} (hs : s_is (p, I, J, c, s_rw (s_rw w q (106, n, g)) b (11, 0, fb)) h) (hR : p.2.1 T_RANK r = false) (hA : p.2.1 T_PARR r = false) (hqb : q ≠ b) (hq : w q = none) (hb : w b = none)
    (hf : e_toI (fb 0) = lo ∧ e_toI (fb 1) = dv ∧ e_toI (fb 3) = use ∧ e_toI (fb 4) = dl ∧ e_toI (fb 5) = rs ∧ e_toI (fb 6) = pw ∧ e_toI (fb 7) = 0) (hf2 : fb 2 = .ref q) (hg : ∀ k, k < n → p.2.1 T_PIPE (bs + k) = true ∧ g k = .ref (p.1 T_PIPE (bs + k))) : s_is (s_pr p r b q n bs, s_rkI I r lo dv use dl rs pw, J, c, w) h := by
  have h0 : ∀ F m, I F m = I F m ∨ (e_FI F = (T_RANK, (e_FI F).2.1, 1) ∧ m = r) := fun _ _ => Or.inl rfl
  have hs0 := hs.gI (I' := s_rkI I r lo dv use dl rs pw) (J' := J) (s_gI1 hR (s_up_or (sl := 7) rfl (s_up_or (sl := 6) rfl (s_up_or (sl := 5) rfl (s_up_or (sl := 4) rfl (s_up_or (sl := 3) rfl (s_up_or (sl := 1) rfl (s_up_or (sl := 0) rfl h0)))))))) (fun _ _ _ _ => rfl)
  have hs1 : s_is (s_bp p r bs, s_rkI I r lo dv use dl rs pw, J, c, s_rw (s_rw w q (106, n, g)) b (11, 0, fb)) h := hs0.gB hR
  obtain ⟨⟨g1, g2, g3, g4⟩, g5⟩ := hs1.2.2 q (106, n, g) (by show s_rw (s_rw w q (106, n, g)) b (11, 0, fb) q = _; rw [s_rw_n hqb, s_rw_s])
  rw [s_rw_c hqb] at hs1
  have hs2 := hs1.pubG (t := T_PARR) (i := r) (a := q) (n := n) (ln := n) (f := g) s_rw_s (by decide) rfl hA ⟨by decide, fun z => absurd z (by decide)⟩ (fun _ => hR) (fun z => absurd z (by decide))
    (s_hol.of (LI := []) (LJ := []) (LG := []) (by decide +kernel) (by decide +kernel) (by decide +kernel) (fun F hF => nomatch hF) (fun F hF => nomatch hF) (fun F hF => nomatch hF) (fun z => absurd z (by decide)))
    (fun G hG e9 j hj e8 => by
      have := s_mPG hG e9
      rw [show s_PG T_PARR = [g_r_pipes] by decide +kernel] at this
      obtain rfl := List.mem_singleton.mp this
      have e8 : j = r := e8
      have hj : p.2.1 T_RANK j = true := hj
      rw [e8, hR] at hj
      cases hj) (fun z => absurd z (by decide))
  rw [s_rw_un (by rw [s_rw_n hqb]; exact hq)] at hs2
  have nP : ∀ t i, ¬ (t = T_PARR ∧ i = r) → (s_pv (s_bp p r bs) T_PARR r q n).2.1 t i = p.2.1 t i := fun t i hn => s_pv_nv hn
  have hs3 := hs2.pubG (t := T_RANK) (i := r) (a := b) (n := 0) (ln := 0) (f := fb) s_rw_s (by decide) rfl ((nP _ _ (fun z => absurd z.1 (by decide))).trans hR) ⟨by decide, fun z => absurd z (by decide)⟩ (fun z => absurd z (by decide)) (fun _ => by
      refine ⟨s_pv_v, fun j hj => ?_⟩
      rw [show (s_pv (s_bp p r bs) T_PARR r q n).2.2.1 T_PARR r = n from if_pos ⟨rfl, rfl⟩] at hj
      have eb : (s_pv (s_bp p r bs) T_PARR r q n).2.2.2.2 r = bs := if_pos rfl
      obtain ⟨u1, u2⟩ := hg j hj
      rw [eb, nP _ _ (fun z => absurd z.1 (by decide)), s_pv_s, s_pv_n (fun z => absurd z.1 (by decide)), g4]
      refine ⟨u1, ?_⟩
      show e_toO (g j) = _
      rw [u2]; rfl)
    (s_hol.of (LI := [f_r_lowest, f_r_division, f_r_use, f_r_delay, f_r_rest, f_r_power, f_r_heatNumber]) (LJ := []) (LG := [g_r_pipes]) (by decide +kernel) (by decide +kernel) (by decide +kernel) (fun F hF => by
      obtain ⟨f0, f1, f3, f4, f5, f6, f7⟩ := hf
      rcases List.mem_cons.mp hF with rfl | hF
      · exact s_hI1 (sl := 0) rfl (by rw [f0]; unfold s_rkI; repeat (first | rw [s_up_s] | rw [s_up_F (by decide)]))
      rcases List.mem_cons.mp hF with rfl | hF
      · exact s_hI1 (sl := 1) rfl (by rw [f1]; unfold s_rkI; repeat (first | rw [s_up_s] | rw [s_up_F (by decide)]))
      rcases List.mem_cons.mp hF with rfl | hF
      · exact s_hI1 (sl := 3) rfl (by rw [f3]; unfold s_rkI; repeat (first | rw [s_up_s] | rw [s_up_F (by decide)]))
      rcases List.mem_cons.mp hF with rfl | hF
      · exact s_hI1 (sl := 4) rfl (by rw [f4]; unfold s_rkI; repeat (first | rw [s_up_s] | rw [s_up_F (by decide)]))
      rcases List.mem_cons.mp hF with rfl | hF
      · exact s_hI1 (sl := 5) rfl (by rw [f5]; unfold s_rkI; repeat (first | rw [s_up_s] | rw [s_up_F (by decide)]))
      rcases List.mem_cons.mp hF with rfl | hF
      · exact s_hI1 (sl := 6) rfl (by rw [f6]; unfold s_rkI; repeat (first | rw [s_up_s] | rw [s_up_F (by decide)]))
      obtain rfl := List.mem_singleton.mp hF
      exact s_hI1 (sl := 7) rfl (by rw [f7]; unfold s_rkI; repeat (first | rw [s_up_s] | rw [s_up_F (by decide)]))) (fun F hF => nomatch hF) (fun G hG => by
      obtain rfl := List.mem_singleton.mp hG
      show e_toO (fb 2) = some ((s_pv (s_pv (s_bp p r bs) T_PARR r q n) T_RANK r b 0).1 T_PARR r)
      rw [hf2, s_pv_n (fun z => absurd z.1 (by decide)), s_pv_s]; rfl) (fun z => absurd z (by decide)))
    (fun G hG e9 => by
      have := s_mPG hG e9
      rw [show s_PG T_RANK = [] by decide +kernel] at this
      cases this) (fun z => absurd z (by decide))
  rw [s_rw_un hb] at hs3
  exact hs3
end s_pip
