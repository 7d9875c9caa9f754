/-! 99998: the two sides beside each other: pairs of fields; relays -/
def v_eq (n F G : Nat) (I I' : e_I) : Prop := ∀ i, i < n → I F i = I' G i
theorem v_eq.N {n F G : Nat} {T T' : List Nat} {I I' I1 I1' : e_I} (h : v_eq n F G I I') (e : s_eqN T I I1) (e' : s_eqN T' I' I1') (h1 : T.contains F = false) (h2 : T'.contains G = false) : v_eq n F G I1 I1' := fun i hi => by
  rw [e F h1, e' G h2]; exact h i hi
/-- the knobs that are beside each other -/
def v_Kp : List (Nat × Nat) := [(f_k_kind, f_mk_kind), (f_k_division, f_mk_division), (f_k_isOut, f_mk_isDrawn), (f_k_isLocked, f_mk_isLocked), (f_k_isInScope, f_mk_isIn), (f_k_relay, f_mk_relay)]
def v_op (x : Int32) : Int32 := if x = 45 then 0 else x
