/-! 67: which fields each function touches -/
def s_sub (L T : List Nat) : Bool := L.all (fun F => T.contains F)
def s_eqN (T : List Nat) (I I' : e_I) : Prop := ∀ F, T.contains F = false → I' F = I F
theorem s_eqN.rfl' {T : List Nat} {I : e_I} : s_eqN T I I := fun _ _ => rfl
theorem s_eqN.trans {T : List Nat} {I I' I'' : e_I} (h : s_eqN T I I') (h' : s_eqN T I' I'') : s_eqN T I I'' := fun F hF => (h' F hF).trans (h F hF)
theorem s_eqN.mono {L T : List Nat} {I I' : e_I} (h : s_eqN L I I') (hs : s_sub L T = true) : s_eqN T I I' := fun F hF => h F (by
  cases e : L.contains F with
  | false => rfl
  | true =>
    have := List.all_eq_true.mp hs F (List.contains_iff_mem.mp e)
    rw [hF] at this
    cases this)
theorem s_eqN.up {T : List Nat} {I : e_I} {F i : Nat} {x : Int32} (h : T.contains F = true) : s_eqN T I (s_up I F i x) := fun F' hF => by
  funext j
  refine s_up_F (fun z => ?_)
  rw [z, h] at hF
  cases hF
theorem s_eqN.fill {T : List Nat} {I : e_I} {F n : Nat} {x : Int32} (h : T.contains F = true) : s_eqN T I (s_fill I F n x) := fun F' hF => by
  funext j
  refine s_fill_F (fun z => ?_)
  rw [z, h] at hF
  cases hF
theorem s_eqN.cpI {T : List Nat} {I : e_I} {F0 F m : Nat} (h : T.contains F = true) : s_eqN T I (s_cpI I F0 F m) := fun F' hF => by
  funext j
  refine if_neg (fun z => ?_)
  rw [z.1, h] at hF
  cases hF
theorem s_eqN.run {T : List Nat} {f : Nat → e_I → e_I} (h : ∀ i I, s_eqN T I (f i I)) (n i : Nat) (I : e_I) : s_eqN T I (s_run f i n I) := s_run_ind (P := s_eqN T) (fun _ => s_eqN.rfl') (fun a b => a.trans b) h n i I
theorem s_eqN.runP {T : List Nat} {α : Type} {f : Nat → e_I × α → e_I × α} (h : ∀ i a, s_eqN T a.1 (f i a).1) (n i : Nat) (a : e_I × α) : s_eqN T a.1 (s_run f i n a).1 := s_run_ind (α := e_I × α) (P := fun a b => s_eqN T a.1 b.1) (fun _ => s_eqN.rfl') (fun {x y z} (u : s_eqN T x.1 y.1) (v : s_eqN T y.1 z.1) => u.trans v) h n i a
theorem s_eqN.rel {I : e_I} {nk : Nat} : ∀ r, s_eqN [f_a_relaysOn] I (s_rel I nk r)
  | 0 => s_eqN.rfl'
  | r + 1 => (s_eqN.rel r).trans (s_eqN.up (by decide))
theorem s_eqN.fg {p : e_Sp} {nr : Nat} {I : e_I} : s_eqN [f_p_found] I (s_fg p nr I) := s_eqN.run (fun _ _ => s_eqN.run (fun _ _ => s_eqN.up (by decide)) _ _ _) _ _ _
theorem s_eqN.fw {nk : Nat} {I : e_I} : s_eqN [f_a_ways] I (s_fw nk I) := (s_eqN.fill (by decide)).trans (s_eqN.run (fun k I => s_eqN.run (fun n I => by
  unfold s_fwK
  split
  · exact s_eqN.up (by decide)
  · exact s_eqN.rfl') _ _ _) _ _ _)
theorem s_eqN.arS {p : e_Sp} {nr k : Nat} {x : Int32} {I : e_I} : s_eqN [f_p_found] I (s_arS p nr k x I) := s_eqN.run (fun n I => by
  unfold s_arK
  split
  · refine s_eqN.run (fun n I => ?_) _ _ _
    unfold s_arR
    split
    · exact s_eqN.up (by decide)
    · exact s_eqN.rfl'
  · exact s_eqN.rfl') _ _ _
theorem s_eqN.fs {p : e_Sp} {nk nr : Nat} {I : e_I} : s_eqN [f_p_found] I (s_fs p nk nr I) := s_eqN.run (fun k I => by
  unfold s_frK
  split
  · exact s_eqN.arS
  · exact s_eqN.rfl') _ _ _
theorem s_eqN.set1 {p : e_Sp} {nk nr : Nat} {I : e_I} : s_eqN [f_a_relaysOn, f_p_found, f_a_ways] I (s_set1 p nk nr I) := by
  have h := ((s_eqN.rel 16 : s_eqN _ I (s_rel I nk 16)).mono (T := [f_a_relaysOn, f_p_found, f_a_ways]) (by decide)).trans ((s_eqN.fg (p := p) (nr := nr)).mono (by decide))
  unfold s_set1
  split
  · exact h.trans ((s_eqN.fw.mono (by decide)).trans (s_eqN.fs.mono (by decide)))
  · exact h
theorem s_eqN.ke {I : e_I} {cd on now : Int32} : s_eqN [f_entries, f_tsize] I (s_ke I cd on now) := by
  unfold s_ke
  split
  · exact s_eqN.rfl'
  · exact (s_eqN.up (by decide)).trans (s_eqN.up (by decide))
theorem s_eqN.kp {ch : Int32} {I : e_I} {x y on now : Int32} : s_eqN [f_entries, f_tsize] I (s_kp ch I x y on now) := by
  unfold s_kp
  split
  · exact s_eqN.ke
  · exact s_eqN.rfl'
theorem s_eqN.mp {I : e_I} {j : Nat} {now dl rs : Int32} : s_eqN [f_p_isOpened, f_p_closedAt] I (s_mp I j now dl rs) := by
  unfold s_mp
  split
  · exact s_eqN.rfl'
  · split
    · exact (s_eqN.up (by decide)).trans (s_eqN.up (by decide))
    · split
      · exact s_eqN.up (by decide)
      · exact s_eqN.rfl'
def s_tMV : List Nat := [f_p_isWanted, f_p_changedAt, f_p_isOpened, f_p_closedAt, f_isWaiting, f_a_uses, f_entries, f_tsize]
theorem s_eqN.mvA {r j n : Nat} {b : Bool} {I : e_I} : s_eqN [f_p_isWanted, f_p_changedAt, f_entries, f_tsize] I (s_mvA r j n b I) := by
  unfold s_mvA
  split
  · exact s_eqN.rfl'
  · exact ((s_eqN.up (by decide)).trans (s_eqN.up (by decide))).trans (s_eqN.kp.mono (by decide))
theorem s_eqN.mv3 {r j : Nat} {b : Bool} {I : e_I} : s_eqN [f_p_isOpened, f_p_closedAt, f_isWaiting, f_a_uses] I (s_mv3 r j b I) := ((s_eqN.mp.mono (by decide)).trans (s_eqN.up (by decide))).trans (s_eqN.up (by decide))
theorem s_eqN.mv {bs ls : Nat → Nat} {nr : Nat} {I : e_I} : s_eqN s_tMV I (s_mv bs ls nr I) := ((s_eqN.up (by decide)).trans (s_eqN.fill (by decide))).trans (s_eqN.run (fun _ _ => s_eqN.run (fun _ _ => (s_eqN.mvA.mono (by decide)).trans (s_eqN.mv3.mono (by decide))) _ _ _) _ _ _)
theorem s_eqN.wds {nk : Nat} {I : e_I} : s_eqN [f_a_winds] I (s_wds nk I) := s_eqN.run (fun _ _ => s_eqN.up (by decide)) _ _ _
def s_tFS : List Nat := [f_p_isSpeaking, f_speakers, f_p_begins, f_p_ends, f_allBegins]
theorem s_eqN.fsP {p : e_Sp} {r : Nat} {hw : Bool} (n : Nat) (a : e_I × e_Jt) : s_eqN s_tFS a.1 (s_fsP p r hw n a).1 := by
  have h1 : ∀ sp j, s_eqN s_tFS a.1 (s_fsB sp j a).1 := fun sp j => by
    unfold s_fsB
    split
    · exact (s_eqN.up (by decide)).trans (s_eqN.up (by decide))
    · split
      · exact s_eqN.up (by decide)
      · exact s_eqN.rfl'
  have h2 : ∀ sp j b, s_eqN s_tFS b.1 (s_fsE sp j b).1 := fun sp j b => (s_eqN.up (by decide)).trans (s_eqN.up (by decide))
  exact (h1 _ _).trans (h2 _ _ _)
theorem s_eqN.fsp {p : e_Sp} {nr : Nat} {a : e_I × e_Jt} : s_eqN s_tFS a.1 (s_fsp p nr a).1 := (s_eqN.up (by decide) : s_eqN s_tFS a.1 (s_up a.1 f_speakers 0 0)).trans (s_eqN.runP (fun _ _ => s_eqN.runP s_eqN.fsP _ _ _) _ _ _)
/-- all that settling touches -/
def s_tST : List Nat := [f_a_relaysOn, f_p_found, f_a_ways] ++ (s_tMV ++ (f_a_winds :: s_tFS))
theorem s_eqN.stl {p : e_Sp} {nk nr : Nat} {a : e_I × e_Jt} : s_eqN s_tST a.1 (s_stl p nk nr a).1 := (((s_eqN.set1.mono (by decide)).trans (s_eqN.mv.mono (by decide))).trans (s_eqN.wds.mono (by decide))).trans (s_eqN.fsp.mono (by decide))
theorem s_eqN.idl {p : e_Sp} {nk nr : Nat} {a : e_I × e_Jt} : s_eqN (f_a_winds :: s_tFS) a.1 (s_idl p nk nr a).1 := by
  unfold s_idl
  split
  · exact s_eqN.wds.mono (by decide)
  · exact (s_eqN.wds.mono (by decide)).trans (s_eqN.fsp.mono (by decide))
theorem s_eqN.tick {p : e_Sp} {nk nr : Nat} (i : Nat) (a : e_I × e_Jt) : s_eqN (f_now :: s_tST) a.1 (s_tick p nk nr i a).1 := by
  have h : s_eqN (f_now :: s_tST) a.1 (s_now1 a.1) := s_eqN.up (by decide)
  unfold s_tick
  split
  · exact h.trans (s_eqN.stl.mono (by decide))
  · exact h.trans (s_eqN.idl.mono (by decide))
theorem s_eqN.put {I : e_I} {x y b now : Int32} : s_eqN [f_a_pressed, f_a_pressedAt, f_lastPressedAt, f_a_lowest, f_a_highest] I (s_put I x y b now) := by
  have h1 : s_eqN [f_a_pressed, f_a_pressedAt, f_lastPressedAt, f_a_lowest, f_a_highest] I (s_put1 I (s_kn x y) b now) := by
    unfold s_put1
    split
    · exact s_eqN.up (by decide)
    · exact ((s_eqN.up (by decide)).trans (s_eqN.up (by decide))).trans (s_eqN.up (by decide))
  exact (h1.trans (s_eqN.up (by decide))).trans (s_eqN.up (by decide))
def s_tPK : List Nat := [f_a_pressed, f_a_pressedAt, f_lastPressedAt, f_a_lowest, f_a_highest, f_entries, f_tsize]
theorem s_eqN.prk {I : e_I} {x y b : Int32} : s_eqN s_tPK I (s_prk I x y b) := by
  unfold s_prk
  split
  · exact (s_eqN.put.mono (by decide)).trans (s_eqN.kp.mono (by decide))
  · exact s_eqN.rfl'
theorem s_eqN.rla {I : e_I} : s_eqN s_tPK I (s_rla I).1 := s_eqN.runP (a := (I, (0 : Int32))) (fun _ _ => s_eqN.runP (fun _ _ => by
  unfold s_rlK
  split
  · exact s_eqN.prk
  · exact s_eqN.rfl') _ _ _) _ _
theorem s_eqN.hn {p : e_Sp} {nr : Nat} {I : e_I} : s_eqN [f_p_isHeld] I (s_hn p nr I) := s_eqN.run (fun _ _ => s_eqN.run (fun _ _ => s_eqN.up (by decide)) _ _ _) _ _ _
theorem s_eqN.pch {I : e_I} : s_eqN s_tPK I (s_pch I) := (s_eqN.run (fun _ _ => s_eqN.run (fun _ _ => by
  unfold s_pcK
  split
  · exact s_eqN.rfl'
  · exact s_eqN.prk) _ _ _) _ _ _).trans (s_eqN.run (fun _ _ => s_eqN.prk) _ _ _)
theorem s_eqN.mt {nk : Nat} {y z : Int64} {I : e_I} : s_eqN [f_k_isOut] I (s_mt nk y z I).1 := s_eqN.runP (a := (I, (0 : Int32))) (fun _ _ => by
  unfold s_mtK
  split
  · exact s_eqN.up (by decide)
  · exact s_eqN.rfl') _ _
def s_tCH : List Nat := [f_a_trial, f_bestBad, f_bestWay, f_a_best]
theorem s_eqN.ch1 {X : e_XT} {I : e_I} {g : Nat} {b : Int32} : s_eqN s_tCH I (s_ch1 X I g b) := by
  have h0 : s_eqN s_tCH I (s_ch0 I b) := ((s_eqN.up (by decide)).trans (s_eqN.up (by decide))).trans (s_eqN.up (by decide))
  have hB : ∀ I x y z, s_eqN s_tCH I (s_wgB (s_wgT I x y z) x y z) := fun I x y z => by
    have h : s_eqN s_tCH I (s_wgT I x y z) := ((s_eqN.up (by decide)).trans (s_eqN.up (by decide))).trans (s_eqN.up (by decide))
    unfold s_wgB
    split
    · exact h.trans (((s_eqN.up (by decide)).trans (s_eqN.up (by decide))).trans (s_eqN.cpI (by decide)))
    · exact h
  refine h0.trans (s_eqN.run (fun u I => ?_) _ _ _)
  unfold s_chU
  split
  · refine s_eqN.run (fun v I => ?_) _ _ _
    unfold s_chV
    split
    · refine s_eqN.run (fun t I => ?_) _ _ _
      unfold s_chW
      split
      · exact hB _ _ _ _
      · exact s_eqN.rfl'
    · exact s_eqN.rfl'
  · exact s_eqN.rfl'
theorem s_eqN.cho {X : e_XT} {I : e_I} {g : Nat} {b : Int32} : s_eqN (f_a_chord :: f_hasChord :: s_tCH) I (s_cho X I g b) := ((s_eqN.ch1.mono (by decide)).trans (s_eqN.cpI (by decide))).trans (s_eqN.up (by decide))
theorem s_eqN.pw {I : e_I} {x ch y z : Int32} : s_eqN [f_a_operations, f_a_sources, f_a_others] I (s_pw I x ch y z) := by
  unfold s_pw
  split
  · exact ((s_eqN.up (by decide)).trans (s_eqN.up (by decide))).trans (s_eqN.up (by decide))
  · exact s_eqN.rfl'
theorem s_eqN.chp {I : e_I} {k : Nat} {x y : Int32} : s_eqN [f_s_places, f_s_keysAt] I (s_chp I k x y) := by
  have h : ∀ I x y, s_eqN [f_s_places, f_s_keysAt] I (s_pp I k x y) := fun I x y => by
    unfold s_pp
    split
    · exact (s_eqN.up (by decide)).trans (s_eqN.up (by decide))
    · exact s_eqN.rfl'
  exact (h _ _ _).trans (h _ _ _)
/-- nothing is recorded: the tape stays -/
theorem s_kp_off {ch : Int32} {I : e_I} {x y on now : Int32} (h : ¬ I f_recording 0 = ch) : s_kp ch I x y on now = I := if_neg h
/-- what is read of the tape while nothing is recorded -/
def s_off (I I' : e_I) : Prop := I f_recording 0 = 45 → I' f_recording 0 = 45 ∧ I' f_tsize 0 = I f_tsize 0 ∧ I' f_entries = I f_entries
theorem s_off.rfl' {I : e_I} : s_off I I := fun h => ⟨h, rfl, rfl⟩
theorem s_off.trans {I I' I'' : e_I} (h : s_off I I') (h' : s_off I' I'') : s_off I I'' := fun z => ⟨(h' (h z).1).1, ((h' (h z).1).2.1).trans (h z).2.1, ((h' (h z).1).2.2).trans (h z).2.2⟩
theorem s_off.of {T : List Nat} {I I' : e_I} (h : s_eqN T I I') (h1 : (T.contains f_recording || T.contains f_tsize || T.contains f_entries) = false) : s_off I I' := fun z => by
  rw [Bool.or_eq_false_iff, Bool.or_eq_false_iff] at h1
  exact ⟨by rw [h _ h1.1.1]; exact z, by rw [h _ h1.1.2], h _ h1.2⟩
theorem s_off.run {f : Nat → e_I → e_I} (h : ∀ i I, s_off I (f i I)) (n i : Nat) (I : e_I) : s_off I (s_run f i n I) := s_run_ind (P := s_off) (fun _ => s_off.rfl') (fun a b => a.trans b) h n i I
theorem s_off.runP {α : Type} {f : Nat → e_I × α → e_I × α} (h : ∀ i a, s_off a.1 (f i a).1) (n i : Nat) (a : e_I × α) : s_off a.1 (s_run f i n a).1 := s_run_ind (α := e_I × α) (P := fun a b => s_off a.1 b.1) (fun _ => s_off.rfl') (fun {x y z} (u : s_off x.1 y.1) (v : s_off y.1 z.1) => u.trans v) h n i a
theorem s_off.mv {bs ls : Nat → Nat} {nr : Nat} {I : e_I} : s_off I (s_mv bs ls nr I) := by
  have h0 : s_off I (s_fill (s_up I f_isWaiting 0 0) f_a_uses 3 0) := s_off.of (T := [f_isWaiting, f_a_uses]) ((s_eqN.up (by decide)).trans (s_eqN.fill (by decide))) (by decide)
  refine h0.trans (s_off.run (fun r I => s_off.run (fun n I => ?_) _ _ _) _ _ _)
  have h1 : ∀ j b, s_off I (s_mvA r j n b I) := fun j b => by
    unfold s_mvA
    split
    · exact s_off.rfl'
    · have h2 : s_eqN [f_p_isWanted, f_p_changedAt] I (s_up (s_up I f_p_isWanted j (bI b)) f_p_changedAt j (s_up I f_p_isWanted j (bI b) f_now 0)) := (s_eqN.up (by decide)).trans (s_eqN.up (by decide))
      have h3 := s_off.of h2 (by decide)
      intro z
      rw [s_kp_off (by rw [(h3 z).1]; decide)]
      exact h3 z
  exact (h1 _ _).trans (s_off.of s_eqN.mv3 (by decide))
theorem s_off.stl {p : e_Sp} {nk nr : Nat} {a : e_I × e_Jt} : s_off a.1 (s_stl p nk nr a).1 := (((s_off.of s_eqN.set1 (by decide)).trans s_off.mv).trans (s_off.of s_eqN.wds (by decide))).trans (s_off.of s_eqN.fsp (by decide))
theorem s_off.tick {p : e_Sp} {nk nr : Nat} (i : Nat) (a : e_I × e_Jt) : s_off a.1 (s_tick p nk nr i a).1 := by
  have h : s_off a.1 (s_now1 a.1) := s_off.of (T := [f_now]) (s_eqN.up (by decide)) (by decide)
  unfold s_tick
  split
  · exact s_off.trans h (s_off.stl (a := (s_now1 a.1, a.2)))
  · exact s_off.trans h (s_off.of (s_eqN.idl (a := (s_now1 a.1, a.2))) (by decide))
theorem s_off.prk {I : e_I} {x y b : Int32} : s_off I (s_prk I x y b) := by
  unfold s_prk
  split
  · have h3 : s_off I (s_put I x y b (I f_now 0)) := s_off.of s_eqN.put (by decide)
    intro z
    rw [s_kp_off (by rw [(h3 z).1]; decide)]
    exact h3 z
  · exact s_off.rfl'
theorem s_off.rla {I : e_I} : s_off I (s_rla I).1 := s_off.runP (a := (I, (0 : Int32))) (fun _ _ => s_off.runP (fun _ _ => by
  unfold s_rlK
  split
  · exact s_off.prk
  · exact s_off.rfl') _ _ _) _ _
/-- the tape's entries, without a look at its room -/
def s_en0 (I : e_I) (x : Int32) : Int32 := if 0 ≤ x ∧ x < I f_tsize 0 then I f_entries x.toNatClampNeg else 0
theorem s_en_0 {p : e_Sp} {I : e_I} {c : Nat × Nat} {a b : Nat} (hT : s_Tp p I c a b) (x : Int32) : s_en p I x = s_en0 I x := by
  obtain ⟨-, ⟨k, h1, h2, -⟩, ⟨z, h3, h4⟩, -⟩ := hT
  have h12 := s_pow12 h2
  unfold s_en s_en0
  by_cases h : 0 ≤ x ∧ x < I f_tsize 0
  · have e := h.2
    rw [h3] at e
    have e2 := Int32.lt_iff_toInt_lt.mp e
    rw [nI_toInt (by omega)] at e2
    have e3 : x < nI (p.2.2.1 T_ENTR 0) := by
      refine Int32.lt_iff_toInt_lt.mpr ?_
      rw [nI_toInt (by omega)]
      omega
    rw [if_pos h, if_pos ⟨h.1, h.2, e3⟩]
  · rw [if_neg h, if_neg (fun z => h ⟨z.1, z.2.1⟩)]
def s_hc0 (I : e_I) (x : Int32) : Int32 := (s_en0 I x / 2 - s_en0 I x / 2 / 1280 * 1280) / 128
def s_lc0 (I : e_I) (x : Int32) : Int32 := s_en0 I x / 2 - s_en0 I x / 2 / 128 * 128
def s_on0 (I : e_I) (x : Int32) : Bool := decide (s_en0 I x - s_en0 I x / 2 * 2 = 1)
def s_tb0 (I : e_I) (x : Int32) : Int32 := if 0 < x then s_en0 I x / 2 / 1280 - s_en0 I (x - 1) / 2 / 1280 else 0
theorem s_hc_0 {p : e_Sp} {I : e_I} {c : Nat × Nat} {a b : Nat} (hT : s_Tp p I c a b) (x : Int32) : s_hc p I x = s_hc0 I x := by unfold s_hc s_hc0; rw [s_en_0 hT]
theorem s_lc_0 {p : e_Sp} {I : e_I} {c : Nat × Nat} {a b : Nat} (hT : s_Tp p I c a b) (x : Int32) : s_lc p I x = s_lc0 I x := by unfold s_lc s_lc0; rw [s_en_0 hT]
theorem s_on_0 {p : e_Sp} {I : e_I} {c : Nat × Nat} {a b : Nat} (hT : s_Tp p I c a b) (x : Int32) : s_on p I x = s_on0 I x := by unfold s_on s_on0; rw [s_en_0 hT]
theorem s_tb_0 {p : e_Sp} {I : e_I} {c : Nat × Nat} {a b : Nat} (hT : s_Tp p I c a b) (x : Int32) : s_tb p I x = s_tb0 I x := by unfold s_tb s_tb0; rw [s_en_0 hT, s_en_0 hT]
