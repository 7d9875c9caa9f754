/-! 9999999999998: a call on both sides -/
/-- all that holds: the class' side at a, the reference's side at what stands -/
def h_Q (T : Nat) (p : e_Sp) (a : e_I × e_Jt) (I : e_I) (J : e_Jt) (c : Nat × Nat) (nk nr np n : Nat) (t : Nat → Nat) (s m od ob : Nat) : Prop := v_Sim p nk nr np n t s m T a (I, J) ∧ s_D p I nk nr ∧ v_Wd nk I ∧ h_SL p I nk nr ∧ h_SB p I nk nr np ∧ h_R p I c od ob n ∧ h_B T nk nr (v_Wn I nk) od ob n m
theorem h_Wn {I : e_I} : ∀ nk (_ : ∀ k, k < nk → I f_mk_kind k = 115 → (I f_mk_rows k).toNatClampNeg ≤ 4) (_ : h_k3 I), v_Wn I nk ≤ 4 * (nk - 3) := by
  intro nk
  induction nk with
  | zero => intro _ _; exact Nat.le_refl _
  | succ nk ih =>
    intro h h3
    have := ih (fun k hk => h k (by omega)) h3
    show v_Wn I nk + (if I f_mk_kind nk = 115 then (I f_mk_rows nk).toNatClampNeg else 0) ≤ _
    by_cases c : I f_mk_kind nk = 115
    · rw [if_pos c]
      have h4 := h nk (by omega) c
      have : 3 ≤ nk := by
        by_cases h9 : nk < 3
        · exact absurd c (h3 nk h9)
        · omega
      omega
    · rw [if_neg c]; omega
theorem h_Q.nums {T : Nat} {p : e_Sp} {a : e_I × e_Jt} {I : e_I} {J : e_Jt} {c : Nat × Nat} {nk nr np n : Nat} {t : Nat → Nat} {s m od ob : Nat} (h : h_Q T p a I J c nk nr np n t s m od ob) (hT : T ≤ 512) : (od + n ≤ 603000 ∧ ob + 4 * n ≤ 2670000 ∧ m ≤ 60000000) ∧ (3 ≤ nk ∧ nk ≤ 40) ∧ nr ≤ 10 ∧ np ≤ 1280 ∧ np ≤ 128 * nr ∧ c.1 ≤ 603072 ∧ c.2 ≤ 7202922 := by
  obtain ⟨h1, h2, h3, h4, h5, h6, h7⟩ := h
  have hK := h1.1.1.1.2.1
  have hS := h1.1.1.1.1
  have h8 := h7.fin hT hK.1 hS.2.1.1 (h_Wn nk (fun k hk hs => v_rows4 hK hk hs) h5.2.2.2.2)
  exact ⟨h8, hK.1, hS.2.1.1, hS.2.1.2, hS.np, h6.fin h8.1 h8.2.1⟩
/-- fields that the class' side of an act may change -/
def h_tC : List Nat := f_l_size :: (h_M ++ (h_frF ++ h_sbF))
def h_tM : List Nat := h_C ++ (f_tsize :: f_entries :: (s_cs ++ (f_a_winds :: v_wdF)))
theorem h_Wn.N {T : List Nat} {I I1 : e_I} {nk : Nat} (e : s_eqN T I I1) (hT : v_dj [f_mk_kind, f_mk_rows] T = true) : v_Wn I1 nk = v_Wn I nk := by
  unfold v_Wn
  rw [e f_mk_kind (v_dj.o hT (by decide)), e f_mk_rows (v_dj.o hT (by decide))]
/-- the class has acted -/
theorem h_mid {T : Nat} {p p' : e_Sp} {I R : e_I} {J RJ : e_Jt} {c c' : Nat × Nat} {nk nr np n : Nat} {t : Nat → Nat} {s m od ob od' ob' : Nat} {TC : List Nat} (h : h_Q T p (I, J) I J c nk nr np n t s m od ob) (x : s_xt p p') (e : s_eqN TC I R) (hTC : v_dj h_tC TC = true) (ej : ∀ F, h_JM.contains F = true → RJ F = J F) (hD : s_D p' R nk nr) (hW : v_Wd nk R) (hR : h_R p' R c' od' ob' n) (hB : h_B T nk nr (v_Wn I nk) od' ob' n m) : h_Q T p' (I, J) R RJ c' nk nr np n t s m od' ob' := by
  obtain ⟨h1, h2, h3, h4, h5, h6, h7⟩ := h
  have el : R f_l_size = I f_l_size := e _ (v_dj.o hTC (by decide))
  refine ⟨(h1.mv (T := []) s_eqN.rfl' e (by decide) (h_sub hTC (by decide)) (fun l _ => by rw [el]) (fun _ _ => rfl) ej).p x.2.2.1 x.hN.PARR, hD, hW, h4.x x.hN (fun l _ => by rw [el]), h5.N x.hN e (h_sub hTC (by decide)) (by rw [el]) (by rw [el]), hR, ?_⟩
  rw [h_Wn.N e (h_sub hTC (by decide))]
  exact hB
/-- the reference has acted and settled -/
theorem h_end {T : Nat} {p p2 : e_Sp} {R B : e_I} {RJ BJ : e_Jt} {a : e_I × e_Jt} {c c2 : Nat × Nat} {nk nr np n n2 n' : Nat} {t t' : Nat → Nat} {s s' m m' od ob od' ob' L : Nat} {TB : List Nat} {v : Int32} (h : h_Q T p a R RJ c nk nr np n t s m od ob) (hx : s_xv h_N p p2) (e : s_eqN TB R B) (hTB : v_dj h_tM TB = true) (el : ∀ l, l ≠ 4 → B f_l_size l = R f_l_size l) (ej : ∀ F, h_JC.contains F = true → BJ F = RJ F) (hSB : h_SB p B nk nr np) (hs : v_Sim p nk nr np n' t' s' m' L (R, RJ) (q_st nk nr np (B, BJ))) (hL : L ≤ T + 1) (hn2 : (q_st nk nr np (B, BJ)).1 f_l_size 4 = nI n2) (hn9 : n2 < 2147483648 ∧ n' < 2147483648) (hR : h_R p2 (s_up (q_st nk nr np (B, BJ)).1 f_m_thrown 0 v) c2 od' ob' n2) (hB : h_B (T + 1) nk nr (v_Wn B nk) od' ob' n2 m') : h_Q (T + 1) p2 (s_up (q_st nk nr np (B, BJ)).1 f_m_thrown 0 v, (q_st nk nr np (B, BJ)).2) (s_up (q_st nk nr np (B, BJ)).1 f_m_thrown 0 v) (q_st nk nr np (B, BJ)).2 c2 nk nr np n2 t' s' m' od' ob' := by
  obtain ⟨h1, h2, h3, h4, h5, h6, h7⟩ := h
  have e0 := q_st_e (nk := nk) (nr := nr) (np := np) (a := (B, BJ))
  have e1 : s_eqN (f_m_thrown :: f_l_size :: q_sT) B (s_up (q_st nk nr np (B, BJ)).1 f_m_thrown 0 v) := (e0.1.mono (by decide)).trans (s_eqN.up (by decide))
  have ez : ∀ l, l ≠ 4 → s_up (q_st nk nr np (B, BJ)).1 f_m_thrown 0 v f_l_size l = R f_l_size l := fun l hl => (s_up_F (by decide)).trans ((e0.2 l hl).trans (el l hl))
  have hnn : n2 = n' := by
    have g := hs.1.1.2.2.1.2.1.1.2.1
    rw [hn2] at g
    exact (nI_eq hn9.1 hn9.2).mp g
  rw [← hnn] at hs
  have eC : ∀ F, h_tM.contains F = true → s_up (q_st nk nr np (B, BJ)).1 f_m_thrown 0 v F = R F := fun F hF => (e1 F (v_dj.o (L := h_tM) (by decide) hF)).trans (e F (v_dj.o hTB hF))
  have eT : s_eqN (TB ++ (f_m_thrown :: f_l_size :: q_sT)) R (s_up (q_st nk nr np (B, BJ)).1 f_m_thrown 0 v) := (e.mono (by
    unfold s_sub
    rw [List.all_eq_true]
    intro F hF
    rw [List.contains_iff_mem]
    exact List.mem_append_left _ hF)).trans (e1.mono (by
    unfold s_sub
    rw [List.all_eq_true]
    intro F hF
    rw [List.contains_iff_mem]
    exact List.mem_append_right _ hF))
  have hTT : v_dj h_tM (TB ++ (f_m_thrown :: f_l_size :: q_sT)) = true := by
    unfold v_dj
    rw [List.all_eq_true]
    intro F hF
    have hF' := List.contains_iff_mem.mpr hF
    rw [List.contains_append, v_dj.o hTB hF', v_dj.o (L := h_tM) (T := f_m_thrown :: f_l_size :: q_sT) (by decide) hF']
    rfl
  have hS1 := (hs.L hL).thrown (x := v)
  refine ⟨?_, (h2.hN hx).eq ⟨fun l hl => ez l (by omega), fun F hF i => by rw [eC F (List.contains_iff_mem.mpr (List.mem_append_right _ (List.mem_cons_of_mem _ (List.mem_cons_of_mem _ (List.mem_append_left _ hF)))))]⟩, h3.N eT (h_sub hTT (by decide)), h4.x hx ez, hSB.st hx, hR, ?_⟩
  · refine (hS1.mv (T' := []) eT s_eqN.rfl' (h_sub hTT (by decide)) (by decide) (fun _ _ => rfl) (fun F hF => ?_) (fun _ _ => rfl)).p hx.2 hx.PARR
    exact (v_qstJ F (v_dj.o (L := h_JC) (T := [j_m_allBegun, j_m_ended]) (by decide) hF)).trans (ej F hF)
  · rw [h_Wn.N e1 (by decide)]
    exact hB
/-- neither side has changed anything that is read -/
theorem h_sam {T : Nat} {p : e_Sp} {I M : e_I} {J : e_Jt} {c : Nat × Nat} {nk nr np n : Nat} {t : Nat → Nat} {s m od ob : Nat} {v : Int32} (h : h_Q T p (I, J) I J c nk nr np n t s m od ob) (e : s_eqN [f_m_counts, f_m_winds, f_m_isRelay] I M) (hs : v_Sim p nk nr np n t s m T (I, J) (M, J)) (x y : Nat) (hx : x ≤ 7) (hy : y ≤ 99) : h_Q (T + 1) p (s_up M f_m_thrown 0 v, J) (s_up M f_m_thrown 0 v) J (c.1 + x, c.2 + y) nk nr np n t s m (od + x) (ob + y) := by
  obtain ⟨h1, h2, h3, h4, h5, h6, h7⟩ := h
  have e1 : s_eqN [f_m_thrown, f_m_counts, f_m_winds, f_m_isRelay] I (s_up M f_m_thrown 0 v) := (e.mono (by decide)).trans (s_eqN.up (by decide))
  refine ⟨?_, h2.eq ⟨fun l hl => by rw [e1 _ (by decide)], fun F hF i => by rw [e1 F (v_dj.o (L := s_cs) (by decide) (List.contains_iff_mem.mpr hF))]⟩, h3.N e1 (by decide), h4.x s_xv.rfl' (fun l hl => by rw [e1 _ (by decide)]), h5.N s_xv.rfl' e1 (by decide) (by rw [e1 _ (by decide)]) (by rw [e1 _ (by decide)]), ((h6.add x y).N (e1 _ (by decide)) (e1 _ (by decide)) (by rw [e1 _ (by decide)])), ?_⟩
  · exact ((hs.L (Nat.le_succ T)).thrown (x := v)).mv (T' := []) e1 s_eqN.rfl' (by decide) (by decide) (fun _ _ => rfl) (fun _ _ => rfl) (fun _ _ => rfl)
  · rw [h_Wn.N e1 (by decide)]
    exact h7.q (by omega) (by omega) (by omega)
/-- both refuse -/
theorem h_ref {T : Nat} {p : e_Sp} {I : e_I} {J : e_Jt} {c : Nat × Nat} {nk nr np n : Nat} {t : Nat → Nat} {s m od ob : Nat} {v : Int32} (h : h_Q T p (I, J) I J c nk nr np n t s m od ob) : h_Q (T + 1) p (s_up I f_m_thrown 0 v, J) (s_up I f_m_thrown 0 v) J (c.1 + 1, c.2 + 6) nk nr np n t s m (od + 1) (ob + 6) := h_sam h s_eqN.rfl' h.1 1 6 (by omega) (by omega)
theorem h_qry {T : Nat} {p : e_Sp} {I : e_I} {J : e_Jt} {c : Nat × Nat} {nk nr np n : Nat} {t : Nat → Nat} {s m od ob : Nat} {v : Int32} (h : h_Q T p (I, J) I J c nk nr np n t s m od ob) : h_Q (T + 1) p (s_up I f_m_thrown 0 v, J) (s_up I f_m_thrown 0 v) J c nk nr np n t s m od ob := h_sam h s_eqN.rfl' h.1 0 0 (by omega) (by omega)
