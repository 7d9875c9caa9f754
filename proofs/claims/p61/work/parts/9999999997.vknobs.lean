/-! 9999999997: new knobs, both sides -/
theorem v_ag.rfl' {F1 F4 F61 : List Nat} {k : Nat} {I : e_I} : v_ag F1 F4 F61 k I I := ⟨fun _ _ => rfl, fun _ _ _ _ => rfl, fun _ _ _ _ => rfl⟩
theorem v_ag.trans {F1 F4 F61 : List Nat} {k : Nat} {I A B : e_I} (h : v_ag F1 F4 F61 k I A) (h' : v_ag F1 F4 F61 k A B) : v_ag F1 F4 F61 k I B := ⟨fun F hF => (h'.1 F hF).trans (h.1 F hF), fun F hF i hi => (h'.2.1 F hF i hi).trans (h.2.1 F hF i hi), fun F hF i hi => (h'.2.2 F hF i hi).trans (h.2.2 F hF i hi)⟩
theorem v_ag.up {F1 F4 F61 : List Nat} {k j F : Nat} {I : e_I} {x : Int32} (hj : k ≠ j) (h4 : F4.contains F = false) (h6 : F61.contains F = false) : v_ag F1 F4 F61 k I (s_up I F j x) := ⟨fun F' _ => s_up_i hj, fun F' hF i _ => s_up_F (fun z => by rw [z, h4] at hF; exact absurd hF (by decide)), fun F' hF i _ => s_up_F (fun z => by rw [z, h6] at hF; exact absurd hF (by decide))⟩
theorem v_ag.off {F1 F4 F61 T : List Nat} {k : Nat} {I A : e_I} (e : s_eqN T I A) (h1 : v_dj F1 T = true) (h4 : v_dj F4 T = true) (h6 : v_dj F61 T = true) : v_ag F1 F4 F61 k I A := ⟨fun F hF => by rw [e F (v_dj.o h1 hF)], fun F hF i _ => by rw [e F (v_dj.o h4 hF)], fun F hF i _ => by rw [e F (v_dj.o h6 hF)]⟩
theorem v_adN {I : e_I} {l n : Nat} : s_eqN [f_l_modCount, f_l_size] I (s_adI I l n) := (s_eqN.up (by decide)).trans (s_eqN.up (by decide))
theorem v_kIag {I : e_I} {k j : Nat} {x y : Int32} (h : k ≠ j) : v_ag v_kF1 v_kF4 v_kF61 k I (s_kI I j x y) := (((((v_ag.up h (by decide) (by decide)).trans (v_ag.up h (by decide) (by decide))).trans (v_ag.up h (by decide) (by decide))).trans (v_ag.up h (by decide) (by decide))).trans (v_ag.up h (by decide) (by decide))).trans (v_ag.up h (by decide) (by decide))
theorem v_cIag {I : e_I} {k j : Nat} {x y z t : Int32} (h : k ≠ j) : v_ag v_kF1 v_kF4 v_kF61 k I (s_cI I j x y z t) := (((v_ag.up h (by decide) (by decide)).trans (v_ag.up h (by decide) (by decide))).trans (v_ag.up h (by decide) (by decide))).trans (v_ag.up h (by decide) (by decide))
theorem v_sIag {I : e_I} {k j : Nat} (h : k ≠ j) : v_ag v_kF1 v_kF4 v_kF61 k I (s_sI I j) := (v_ag.up h (by decide) (by decide)).trans (v_ag.up h (by decide) (by decide))
theorem v_stiag {I : e_I} {k j : Nat} (h : k ≠ j) : v_ag v_kF1 v_kF4 v_kF61 k I (s_sti I j 61) := by
  refine ⟨fun F hF => ?_, fun F hF i hi => ?_, fun F hF i hi => ?_⟩
  · have h1 : ∀ G, G ∈ [f_s_places, f_s_keysAt, f_s_ranks, f_s_offsets, f_s_firsts, f_s_lasts] → F ≠ G := fun G hG z => by
      rw [z] at hF
      have : ∀ G, G ∈ [f_s_places, f_s_keysAt, f_s_ranks, f_s_offsets, f_s_firsts, f_s_lasts] → v_kF1.contains G = false := by decide
      rw [this G hG] at hF
      exact absurd hF (by decide)
    unfold s_sti
    rw [if_neg (fun w => w.1.elim (h1 _ (by decide)) (h1 _ (by decide))), if_neg (fun w => w.1.elim (h1 _ (by decide)) (fun w => w.elim (h1 _ (by decide)) (fun w => w.elim (h1 _ (by decide)) (h1 _ (by decide)))))]
  · have h1 : F ≠ f_s_places ∧ F ≠ f_s_keysAt := ⟨fun z => by rw [z] at hF; exact absurd hF (by decide), fun z => by rw [z] at hF; exact absurd hF (by decide)⟩
    unfold s_sti
    rw [if_neg (fun w => w.1.elim h1.1 h1.2), if_neg (fun w => h (by have := w.2; omega))]
  · unfold s_sti
    have h1 : F ≠ f_s_ranks ∧ F ≠ f_s_offsets ∧ F ≠ f_s_firsts ∧ F ≠ f_s_lasts := ⟨fun z => by rw [z] at hF; exact absurd hF (by decide), fun z => by rw [z] at hF; exact absurd hF (by decide), fun z => by rw [z] at hF; exact absurd hF (by decide), fun z => by rw [z] at hF; exact absurd hF (by decide)⟩
    rw [if_neg (fun w => h (by have := w.2; omega)), if_neg (fun w => w.1.elim h1.1 (fun w => w.elim h1.2.1 (fun w => w.elim h1.2.2.1 h1.2.2.2)))]
theorem v_nkag {I : e_I} {k j : Nat} {x y z s t : Int32} (h : k ≠ j) : v_ag v_mF1 v_mF4 v_mF61 k I (q_nk I j x y z s t) := by
  have h0 : v_ag v_mF1 v_mF4 v_mF61 k I (q_mw I j 61) := by
    refine ⟨fun F hF => ?_, fun F hF i hi => ?_, fun F hF i hi => ?_⟩
    · have h1 : ∀ G, G ∈ [f_mk_wires, f_mk_ranks, f_mk_offsets, f_mk_froms, f_mk_tos] → F ≠ G := fun G hG z => by
        rw [z] at hF
        have : ∀ G, G ∈ [f_mk_wires, f_mk_ranks, f_mk_offsets, f_mk_froms, f_mk_tos] → v_mF1.contains G = false := by decide
        rw [this G hG] at hF
        exact absurd hF (by decide)
      unfold q_mw
      rw [if_neg (fun w => h1 _ (by decide) w.1), if_neg (fun w => w.1.elim (h1 _ (by decide)) (fun w => w.elim (h1 _ (by decide)) (fun w => w.elim (h1 _ (by decide)) (h1 _ (by decide)))))]
    · have h1 : F ≠ f_mk_wires := fun z => by rw [z] at hF; exact absurd hF (by decide)
      unfold q_mw
      rw [if_neg (fun w => h1 w.1), if_neg (fun w => h (by have := w.2; omega))]
    · have h1 : F ≠ f_mk_ranks ∧ F ≠ f_mk_offsets ∧ F ≠ f_mk_froms ∧ F ≠ f_mk_tos := ⟨fun z => by rw [z] at hF; exact absurd hF (by decide), fun z => by rw [z] at hF; exact absurd hF (by decide), fun z => by rw [z] at hF; exact absurd hF (by decide), fun z => by rw [z] at hF; exact absurd hF (by decide)⟩
      unfold q_mw
      rw [if_neg (fun w => h (by have := w.2; omega)), if_neg (fun w => w.1.elim h1.1 (fun w => w.elim h1.2.1 (fun w => w.elim h1.2.2.1 h1.2.2.2)))]
  refine h0.trans ?_
  unfold q_nk s_IMKNOB
  exact ((((((((((v_ag.up h (by decide) (by decide)).trans (v_ag.up h (by decide) (by decide))).trans (v_ag.up h (by decide) (by decide))).trans (v_ag.up h (by decide) (by decide))).trans (v_ag.up h (by decide) (by decide))).trans (v_ag.up h (by decide) (by decide))).trans (v_ag.up h (by decide) (by decide))).trans (v_ag.up h (by decide) (by decide))).trans (v_ag.up h (by decide) (by decide))).trans (v_ag.up h (by decide) (by decide))).trans (v_ag.up h (by decide) (by decide))
