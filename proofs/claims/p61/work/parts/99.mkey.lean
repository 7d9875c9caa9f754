/-! 99: keys, time, wires of the second implementation (printed by wip/whole/p99.py) -/
def q_gs2 : List Nat := q_ms2 ++ [f_m_operation, f_m_first, f_m_second]
def q_fr4 (T : List Nat) : Bool := q_gs2.all (fun F => F != f_l_size && !T.contains F)
theorem q_G.x {T : List Nat} {p p' : e_Sp} {I I' : e_I} {c c' : Nat × Nat} {nk nr np a b n n' : Nat} (h : q_G p I c nk nr np a b n) (x : q_X p p') (e : q_e T I I') (hT : q_fr4 T = true) (h1 : q_bo I' f_m_isDown) (h2 : q_bo I' f_m_isRelay) (hL : q_L p' I' c' a b n') (ha : a + n' + 100000000 < 4294960000) (hn : n' + 1280 < 39999999) : q_G p' I' c' nk nr np a b n' := by
  have hf : ∀ F, F ∈ q_gs2 → I' F = I F := fun F hF => e.F (List.all_eq_true.mp hT F hF)
  refine ⟨h.1.e x e ?_, h.2.1, ?_, h1, h2, hL, ha, hn⟩
  · refine List.all_eq_true.mpr (fun F hF => ?_)
    have := List.all_eq_true.mp hT F (List.mem_append_left _ hF)
    rw [Bool.and_eq_true] at this
    exact this.2
  · unfold q_S
    rw [hf f_m_operation (by decide), hf f_m_first (by decide), hf f_m_second (by decide)]
    exact h.2.2.1
theorem q_G.st {p p' : e_Sp} {I : e_I} {J : e_Jt} {c c' : Nat × Nat} {nk nr np a b n n' : Nat} (h : q_G p I c nk nr np a b n) (x : q_X p p') (hL : q_L p' (q_st nk nr np (I, J)).1 c' a b n') (ha : a + n' + 100000000 < 4294960000) (hn : n' + 1280 < 39999999) : q_G p' (q_st nk nr np (I, J)).1 c' nk nr np a b n' := by
  have e : q_e q_sT I (q_st nk nr np (I, J)).1 := q_st_e
  exact h.x x e (by decide) (by unfold q_bo; rw [e.F (by decide)]; exact h.2.2.2.1) (q_bo.st h.2.2.2.2.1) hL ha hn
/-- a key is put -/
def q_md1 (I : e_I) (x y z : Int32) : e_I := if z = 0 then s_up I f_m_isDown (s_kn x y) z else s_up (s_up I f_m_isDown (s_kn x y) z) f_m_wentDown (s_kn x y) (I f_m_tick 0)
def q_mdv (I : e_I) (x y z : Int32) : e_I := if I f_m_isDown (s_kn x y) = z then I else if I f_m_recording 0 = 107 then q_ka (q_md1 I x y z) (I f_l_size 4).toNatClampNeg x y z else q_md1 I x y z
def q_mT : List Nat := [f_m_isDown, f_m_wentDown] ++ q_kT9
theorem s_eqN.qmd1 {I : e_I} {x y z : Int32} : s_eqN [f_m_isDown, f_m_wentDown] I (q_md1 I x y z) := by
  unfold q_md1
  split
  · exact s_eqN.up (by decide)
  · exact (s_eqN.up (by decide)).trans (s_eqN.up (by decide))
theorem q_mdv_e {I : e_I} {x y z : Int32} : q_e q_mT I (q_mdv I x y z) := by
  unfold q_mdv
  split
  · exact q_e.rfl'
  · split
    · exact (q_e.of s_eqN.qmd1 (by decide) (by decide)).trans (q_ka_e.mono (by decide))
    · exact q_e.of s_eqN.qmd1 (by decide) (by decide)
theorem q_bo.md1 {I : e_I} {x y z : Int32} (h : q_bo I f_m_isDown) (hz : z = 0 ∨ z = 1) : q_bo (q_md1 I x y z) f_m_isDown := by
  unfold q_md1
  split
  · exact h.up hz
  · exact (h.up hz).eqN (s_eqN.up (T := [f_m_wentDown]) (by decide)) (by decide)
theorem q_bo.mdv {I : e_I} {x y z : Int32} (h : q_bo I f_m_isDown) (hz : z = 0 ∨ z = 1) : q_bo (q_mdv I x y z) f_m_isDown := by
  unfold q_mdv
  split
  · exact h
  · split
    · unfold q_bo; rw [q_ka_e.F (F := f_m_isDown) (by decide)]; exact h.md1 hz
    · exact h.md1 hz
theorem q_G.mdv {p p' : e_Sp} {I : e_I} {c c' : Nat × Nat} {nk nr np a b n n' : Nat} {x y z : Int32} (h : q_G p I c nk nr np a b n) (hz : z = 0 ∨ z = 1) (hx : q_X p p') (hL : q_L p' (q_mdv I x y z) c' a b n') (ha : a + n' + 100000000 < 4294960000) (hn : n' + 1280 < 39999999) : q_G p' (q_mdv I x y z) c' nk nr np a b n' :=
  h.x hx q_mdv_e (by decide) (h.2.2.2.1.mdv hz) (by unfold q_bo; rw [q_mdv_e.F (F := f_m_isRelay) (by decide)]; exact h.2.2.2.2.1) hL ha hn
theorem q_L.nn {p : e_Sp} {I : e_I} {c : Nat × Nat} {a b n v : Nat} (h : q_L p I c a b n) (e : I f_l_size 4 = nI v) (hv : v < 2147483648) : n = v := by
  have h1 := h.n
  have h2 := h.1.2.2.1
  rw [e] at h1
  exact ((nI_eq hv (by omega)).mp h1).symm
theorem s_run_l {α : Type} {f : Nat → α → α} : ∀ n i a, s_run f i (n + 1) a = f (i + n) (s_run f i n a)
  | 0, _, _ => rfl
  | n + 1, i, a => by
    show s_run f (i + 1) (n + 1) (f i a) = f (i + (n + 1)) (s_run f (i + 1) n (f i a))
    rw [s_run_l n (i + 1), show i + 1 + n = i + (n + 1) by omega]
/-- a tick -/
def q_tc (nk nr np : Nat) (_ : Nat) (a : e_I × e_Jt) : e_I × e_Jt := q_st nk nr np (s_up a.1 f_m_tick 0 (a.1 f_m_tick 0 + 1), a.2)
