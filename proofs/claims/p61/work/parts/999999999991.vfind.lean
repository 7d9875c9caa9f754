/-! 999999999991: the search for a chord, both sides, the end -/
def v_Ak (j : Bool) (x st g k : Nat) : Prop := k % 12 = v_pcl j x st g 0 ∨ k % 12 = v_pcl j x st g 1 ∨ k % 12 = v_pcl j x st g 2
def v_Cx (X : e_XT) (I0 I0' : e_I) (x st b : Nat) (ch : Int32) (j : Bool) (c : Nat → Nat) : Prop := v_X X ∧ (x < 12 ∧ I0 f_tonic 0 = nI x ∧ I0' f_m_tonic 0 = nI x) ∧ (v_mj I0 f_isMajor = j ∧ v_mj I0' f_m_isMajor = j) ∧ st < 7 ∧ (ch = 53 ∨ ch = 54 ∨ ch = 52 ∨ ch = 55) ∧ b < 61 ∧ v_Ch I0 I0' c
theorem v_Cx.ask {X : e_XT} {I0 I0' I : e_I} {x st b k : Nat} {ch : Int32} {j : Bool} {c : Nat → Nat} (h : v_Cx X I0 I0' x st b ch j c) (e : s_eqN v_sT I0 I) (hk : k < 1000) : s_ask X I (nI st) (s_fig ch) (nI k) = true ↔ v_Ak j x st (s_fig ch) k := by
  obtain ⟨hX, ⟨hx, t1, t2⟩, ⟨j1, j2⟩, hst, hch, hb, hC⟩ := h
  have a := v_ask (X := X) (I := I) hX hx (by rw [e _ (by decide)]; exact t1) hk hst ((v_fig hX ch).2 hch)
  have : v_mj I f_isMajor = j := by unfold v_mj at j1 ⊢; rw [← j1]; simp only [e f_isMajor (by decide)]
  rw [this] at a
  exact a
theorem v_Cx.hit {X : e_XT} {I0 I0' I' : e_I} {x st b u v t : Nat} {ch : Int32} {j : Bool} {c : Nat → Nat} (h : v_Cx X I0 I0' x st b ch j c) (e' : s_eqN [f_m_best] I0' I') (huv : u < v) (hvt : v < t) (ht : t < 100) : q_ac I' (nI u) (nI v) (nI t) (nI st) ch = true ↔ (v_Ak j x st (s_fig ch) u ∧ v_Ak j x st (s_fig ch) v ∧ v_Ak j x st (s_fig ch) t ∧ s_apt (nI u) (nI v) (nI t) = true) := by
  obtain ⟨hX, ⟨hx, t1, t2⟩, ⟨j1, j2⟩, hst, hch, hb, hC⟩ := h
  have a := v_ac (I := I') (x := x) (a := u) (b := v) (c := t) (st := st) (ch := ch) hx (by rw [e' _ (by decide)]; exact t2) (by omega) (by omega) ht hst hch
  have : v_mj I' f_m_isMajor = j := by unfold v_mj at j2 ⊢; rw [← j2]; simp only [e' f_m_isMajor (by decide)]
  rw [this] at a
  obtain ⟨d1, d2, d3⟩ := v_pcl_ne (j := j) (x := x) (st := st) ((v_fig hX ch).2 hch)
  have k := v_33 (A := u % 12) (B := v % 12) (C := t % 12) d1 d2 d3
  rw [a, v_apt huv hvt ht]
  unfold v_Ak
  constructor
  · intro z
    obtain ⟨k1, k2, k3, k4, k5, k6⟩ := k.mpr ⟨z 0 (by omega), z 1 (by omega), z 2 (by omega)⟩
    exact ⟨k1, k2, k3, k4, k5, k6⟩
  · rintro ⟨k1, k2, k3, k4, k5, k6⟩ n hn
    obtain ⟨z0, z1, z2⟩ := k.mp ⟨k1, k2, k3, k4, k5, k6⟩
    rcases (by omega : n = 0 ∨ n = 1 ∨ n = 2) with q | q | q <;> rw [q]
    · exact z0
    · exact z1
    · exact z2
theorem v_Se.weak {I0 I0' I : e_I} {b : Nat} {a : e_I × Int32 × Int32} (h : v_Se I0 I0' b True I a) (fd : Prop) : v_Se I0 I0' b fd I a := ⟨h.1, h.2.1, h.2.2.1, .inl (h.2.2.2.resolve_right (fun z => z.1 trivial))⟩
theorem v_ifa {p q : Prop} [Decidable p] [Decidable q] {α : Type} {x y : α} (h : p) : (if p ∧ q then x else y) = if q then x else y := by
  by_cases z : q
  · rw [if_pos ⟨h, z⟩, if_pos z]
  · rw [if_neg (fun y => z y.2), if_neg z]
theorem v_run0 {α : Type} {f : Nat → α → α} {i : Nat} {a : α} : s_run f i 0 a = a := rfl
set_option maxHeartbeats 100000 in
theorem v_fiC {X : e_XT} {I0 I0' I : e_I} {x st b u v t : Nat} {ch : Int32} {j : Bool} {c : Nat → Nat} {fd : Prop} {a : e_I × Int32 × Int32} (h : v_Cx X I0 I0' x st b ch j c) (huv : u < v) (hvt : v < t) (ht : t ≤ 48) (hA : v_Ak j x st (s_fig ch) u ∧ v_Ak j x st (s_fig ch) v) (hs : v_Se I0 I0' b fd I a) : v_Se I0 I0' b fd (s_chW X (nI st) (s_fig ch) u v t I) (q_fiC (nI b) (nI st) ch u v t a) ∧ (v_Ak j x st (s_fig ch) t ∧ s_apt (nI u) (nI v) (nI t) = true → v_Se I0 I0' b True (s_chW X (nI st) (s_fig ch) u v t I) (q_fiC (nI b) (nI st) ch u v t a)) := by
  have h1 := h.ask hs.1 (k := t) (by omega)
  have h2 := h.hit hs.2.1 huv hvt (by omega)
  by_cases q : v_Ak j x st (s_fig ch) t ∧ s_apt (nI u) (nI v) (nI t) = true
  · have q2 := h2.mpr ⟨hA.1, hA.2, q.1, q.2⟩
    have e1 : s_chW X (nI st) (s_fig ch) u v t I = s_wgB (s_wgT I (nI u) (nI v) (nI t)) (nI u) (nI v) (nI t) := if_pos ⟨h1.mpr q.1, q.2⟩
    have e2 : q_fiC (nI b) (nI st) ch u v t a = if ¬ a.2.1 < q_bs a.1 (nI b) (nI u) (nI v) (nI t) ∧ (q_bs a.1 (nI b) (nI u) (nI v) (nI t) = a.2.1 → q_fa a.1 (nI u) (nI v) (nI t) < a.2.2) then (s_up (s_up (s_up a.1 f_m_best 0 (nI u)) f_m_best 1 (nI v)) f_m_best 2 (nI t), q_bs a.1 (nI b) (nI u) (nI v) (nI t), q_fa a.1 (nI u) (nI v) (nI t)) else a := by
      unfold q_fiC
      exact v_ifa q2
    have h3 := v_weigh h.2.2.2.2.2.2 h.2.2.2.2.2.1 (by omega : u ≤ 48) (by omega : v ≤ 48) ht hs
    rw [← e1, ← e2] at h3
    generalize s_chW X (nI st) (s_fig ch) u v t I = P at *
    generalize q_fiC (nI b) (nI st) ch u v t a = R at *
    exact ⟨h3.weak fd, fun _ => h3⟩
  · unfold s_chW q_fiC
    rw [if_neg (fun z => q ⟨h1.mp z.1, z.2⟩), if_neg (fun z => q (h2.mp z.1).2.2)]
    exact ⟨hs, fun z => absurd z q⟩
/-- a key that is not asked for -/
theorem v_fiC0 {X : e_XT} {I0 I0' I : e_I} {x st b u v t : Nat} {ch : Int32} {j : Bool} {c : Nat → Nat} {fd : Prop} {a : e_I × Int32 × Int32} (h : v_Cx X I0 I0' x st b ch j c) (huv : u < v) (hvt : v < t) (ht : t ≤ 48) (hA : ¬ (v_Ak j x st (s_fig ch) u ∧ v_Ak j x st (s_fig ch) v)) (hs : v_Se I0 I0' b fd I a) : v_Se I0 I0' b fd I (q_fiC (nI b) (nI st) ch u v t a) := by
  have h2 := h.hit hs.2.1 huv hvt (by omega)
  unfold q_fiC
  rw [if_neg (fun z => hA ⟨(h2.mp z.1).1, (h2.mp z.1).2.1⟩)]
  exact hs
theorem v_runI {α : Type} : ∀ n i (a : α), s_run (fun _ a => a) i n a = a := by
  intro n
  induction n with
  | zero => exact fun _ _ => rfl
  | succ n ih => exact fun i a => ih (i + 1) a
theorem v_fiB0 {X : e_XT} {I0 I0' I : e_I} {x st b u v : Nat} {ch : Int32} {j : Bool} {c : Nat → Nat} {fd : Prop} {a : e_I × Int32 × Int32} (h : v_Cx X I0 I0' x st b ch j c) (huv : u < v) (hA : ¬ (v_Ak j x st (s_fig ch) u ∧ v_Ak j x st (s_fig ch) v)) (hs : v_Se I0 I0' b fd I a) : v_Se I0 I0' b fd I (q_fiB (nI b) (nI st) ch u v a) := by
  unfold q_fiB
  have := v_runR (f := fun _ (I : e_I) => I) (g := q_fiC (nI b) (nI st) ch u v) (R := v_Se I0 I0' b fd) (i0 := v + 1) (min 48 (u + 12) + 1 - (v + 1)) (fun t I a h1 h2 hs => v_fiC0 h huv (by omega) (by omega) hA hs) I a hs
  rw [v_runI] at this
  exact this
theorem v_fiB {X : e_XT} {I0 I0' I : e_I} {x st b u v : Nat} {ch : Int32} {j : Bool} {c : Nat → Nat} {fd : Prop} {a : e_I × Int32 × Int32} (h : v_Cx X I0 I0' x st b ch j c) (huv : u < v) (hv : v ≤ 48) (hA : v_Ak j x st (s_fig ch) u) (hs : v_Se I0 I0' b fd I a) : v_Se I0 I0' b fd (s_chV X (nI st) (s_fig ch) u (min 48 (u + 12)) v I) (q_fiB (nI b) (nI st) ch u v a) := by
  have h1 := h.ask hs.1 (k := v) (by omega)
  unfold s_chV
  by_cases q : v_Ak j x st (s_fig ch) v
  · rw [if_pos (h1.mpr q)]
    unfold q_fiB
    exact v_runR (f := s_chW X (nI st) (s_fig ch) u v) (g := q_fiC (nI b) (nI st) ch u v) (R := v_Se I0 I0' b fd) (i0 := v + 1) (min 48 (u + 12) + 1 - (v + 1)) (fun t I a h1 h2 hs => (v_fiC h huv (by omega) (by omega) ⟨hA, q⟩ hs).1) I a hs
  · rw [if_neg (fun z => q (h1.mp z))]
    exact v_fiB0 h huv (fun z => q z.2) hs
theorem v_fiBH {X : e_XT} {I0 I0' I : e_I} {x st b u v t : Nat} {ch : Int32} {j : Bool} {c : Nat → Nat} {a : e_I × Int32 × Int32} (h : v_Cx X I0 I0' x st b ch j c) (huv : u < v) (hvt : v < t) (ht : t ≤ 48 ∧ t ≤ u + 12) (hA : v_Ak j x st (s_fig ch) u ∧ v_Ak j x st (s_fig ch) v) (hB : v_Ak j x st (s_fig ch) t ∧ s_apt (nI u) (nI v) (nI t) = true) (hs : v_Se I0 I0' b False I a) : v_Se I0 I0' b True (s_chV X (nI st) (s_fig ch) u (min 48 (u + 12)) v I) (q_fiB (nI b) (nI st) ch u v a) := by
  have h1 := h.ask hs.1 (k := v) (by omega)
  unfold s_chV
  rw [if_pos (h1.mpr hA.2)]
  unfold q_fiB
  exact v_runH (f := s_chW X (nI st) (s_fig ch) u v) (g := q_fiC (nI b) (nI st) ch u v) (R := v_Se I0 I0' b) (i0 := v + 1) (k := t) (min 48 (u + 12) + 1 - (v + 1)) (by omega) (by omega) (fun fd t I a h1 h2 hs => (v_fiC h huv (by omega) (by omega) hA hs).1) (fun I a hs => (v_fiC h huv hvt ht.1 hA hs).2 hB) I a hs
theorem v_fiAr {u st b : Nat} {ch : Int32} {a : e_I × Int32 × Int32} (hu : u < 48) : q_fiA (nI b) (nI st) ch u a = s_run (q_fiB (nI b) (nI st) ch u) (u + 1) (min 48 (u + 12) - (u + 1)) a := by
  unfold q_fiA
  rw [show min 48 (u + 12) + 1 - (u + 1) = (min 48 (u + 12) - (u + 1)) + 1 by omega, s_run_l]
  rw [show u + 1 + (min 48 (u + 12) - (u + 1)) = min 48 (u + 12) by omega]
  generalize s_run (q_fiB (nI b) (nI st) ch u) (u + 1) (min 48 (u + 12) - (u + 1)) a = z
  unfold q_fiB
  rw [Nat.sub_self]
  rfl
theorem v_fiA {X : e_XT} {I0 I0' I : e_I} {x st b u : Nat} {ch : Int32} {j : Bool} {c : Nat → Nat} {fd : Prop} {a : e_I × Int32 × Int32} (h : v_Cx X I0 I0' x st b ch j c) (hu : u ≤ 48) (hs : v_Se I0 I0' b fd I a) : v_Se I0 I0' b fd (s_chU X (nI st) (s_fig ch) u I) (q_fiA (nI b) (nI st) ch u a) := by
  have h1 := h.ask hs.1 (k := u) (by omega)
  unfold s_chU
  by_cases z : u = 48
  · subst z
    have e1 : q_fiA (nI b) (nI st) ch 48 a = a := by
      unfold q_fiA
      rw [show min 48 (48 + 12) + 1 - (48 + 1) = 0 by omega, v_run0]
    rw [e1, show min 48 (48 + 12) - (48 + 1) = 0 by omega, v_run0, ite_self]
    exact hs
  · rw [v_fiAr (by omega)]
    by_cases q : v_Ak j x st (s_fig ch) u
    · rw [if_pos (h1.mpr q)]
      exact v_runR (f := s_chV X (nI st) (s_fig ch) u (min 48 (u + 12))) (g := q_fiB (nI b) (nI st) ch u) (R := v_Se I0 I0' b fd) (i0 := u + 1) (min 48 (u + 12) - (u + 1)) (fun v I a h1 h2 hs => v_fiB h (by omega) (by omega) q hs) I a hs
    · rw [if_neg (fun z => q (h1.mp z))]
      have := v_runR (f := fun _ (I : e_I) => I) (g := q_fiB (nI b) (nI st) ch u) (R := v_Se I0 I0' b fd) (i0 := u + 1) (min 48 (u + 12) - (u + 1)) (fun v I a h1 h2 hs => v_fiB0 h (by omega) (fun z => q z.1) hs) I a hs
      rw [v_runI] at this
      exact this
set_option maxHeartbeats 200000 in
theorem v_find {X : e_XT} {I0 I0' : e_I} {x st b : Nat} {ch : Int32} {j : Bool} {c : Nat → Nat} (h : v_Cx X I0 I0' x st b ch j c) : v_Se I0 I0' b True (s_run (s_chU X (nI st) (s_fig ch)) 12 37 (s_ch0 I0 (nI b))) (q_fi I0' (nI b) (nI st) ch) := by
  have h0 : v_Se I0 I0' b False (s_ch0 I0 (nI b)) (I0', 99, 0) := by
    unfold s_ch0
    refine ⟨((s_eqN.up (by decide)).trans (s_eqN.up (by decide))).trans (s_eqN.up (by decide)), s_eqN.rfl', ?_, .inr ⟨id, ?_, rfl⟩⟩
    · rw [s_up_F (by decide), s_up_F (by decide), s_up_s, v_36]
    · rw [s_up_F (by decide), s_up_s]
  obtain ⟨d1, d2, d3⟩ := v_pcl_ne (j := j) (x := x) (st := st) ((v_fig h.1 ch).2 h.2.2.2.2.1)
  have l : ∀ n, v_pcl j x st (s_fig ch) n < 12 := fun n => Nat.mod_lt _ (by omega)
  obtain ⟨u, v, w, huv, hvw, hw, k0, k1, k2⟩ := v_ex3 (l 0) (l 1) (l 2) d1 d2 d3
  have m12 : ∀ y, y < 12 → (12 + y) % 12 = y := fun y hy => by omega
  have l0 := l 0
  have l1 := l 1
  have l2 := l 2
  have hh := (v_33 (A := u) (B := v) (C := w) d1 d2 d3).mpr ⟨k0, k1, k2⟩
  have hu : v_Ak j x st (s_fig ch) (12 + u) := by unfold v_Ak; rw [m12 u (by omega)]; exact hh.1
  have hv : v_Ak j x st (s_fig ch) (12 + v) := by unfold v_Ak; rw [m12 v (by omega)]; exact hh.2.1
  have hw' : v_Ak j x st (s_fig ch) (12 + w) := by unfold v_Ak; rw [m12 w (by omega)]; exact hh.2.2.1
  have hap : s_apt (nI (12 + u)) (nI (12 + v)) (nI (12 + w)) = true := (v_apt (by omega) (by omega) (by omega)).mpr (by rw [m12 u (by omega), m12 v (by omega), m12 w (by omega)]; exact hh.2.2.2)
  unfold q_fi
  refine v_runH (f := s_chU X (nI st) (s_fig ch)) (g := q_fiA (nI b) (nI st) ch) (R := v_Se I0 I0' b) (i0 := 12) (k := 12 + u) 37 (by omega) (by omega) (fun fd i I a h1 h2 hs => v_fiA h (by omega) hs) (fun I a hs => ?_) _ _ h0
  have h1 := h.ask hs.1 (k := 12 + u) (by omega)
  have e1 : s_chU X (nI st) (s_fig ch) (12 + u) I = s_run (s_chV X (nI st) (s_fig ch) (12 + u) (min 48 (12 + u + 12))) (12 + u + 1) (min 48 (12 + u + 12) - (12 + u + 1)) I := if_pos (h1.mpr hu)
  rw [v_fiAr (by omega), e1]
  refine v_runH (f := s_chV X (nI st) (s_fig ch) (12 + u) (min 48 (12 + u + 12))) (g := q_fiB (nI b) (nI st) ch (12 + u)) (R := v_Se I0 I0' b) (i0 := 12 + u + 1) (k := 12 + v) (min 48 (12 + u + 12) - (12 + u + 1)) (by omega) (by omega) (fun fd i I a h1 h2 hs => v_fiB h (by omega) (by omega) hu hs) (fun I a hs => ?_) _ _ hs
  exact v_fiBH h (by omega) (by omega) (t := 12 + w) (by omega) ⟨hu, hv⟩ ⟨hw', hap⟩ hs
