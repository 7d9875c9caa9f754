def e_y (mi : Nat) : MethodName := match e_M[mi]? with
  | some r => r.1.1
  | none => Lib.objectInit
def e_ho (host : Nat) : String := if host = 1 then "Rankhall" else "RankhallModel"
def e_CLw (own : Nat) (r : Nat × Nat × Nat × Nat) : Cond := if r.2.1 = 1000 then .methodLink (e_cn own) r.1 Lib.objectInit else if r.2.1 = 1001 then .methodLink (e_cn own) r.1 arraycopyName else if r.2.2.2 = 0 then .methodLink (e_cn own) r.1 (e_y r.2.1) else .methodLinkNest (e_cn own) r.1 (e_y r.2.1) (e_ho r.2.2.2)
def e_isN (w : Cond) : Bool := match w with
  | .methodLinkNest _ _ _ _ => true
  | .fieldLinkNest _ _ _ _ _ _ => true
  | .castable _ _ => true
  | .declares _ => true
  | _ => false
def e_wn (p : Nat) (w : Cond) : Bool := decide (e_tb p = some w) && e_isN w
def e_nt : List Cond := lw_tbl.filter e_isN
theorem e_wn_in {p : Nat} {w : Cond} (h : e_wn p w = true) : w ∈ e_nt := by
  unfold e_wn at h
  rw [Bool.and_eq_true] at h
  exact List.mem_filter.mpr ⟨e_tb_in (of_decide_eq_true h.1), h.2⟩
def e_wg (host p : Nat) (w : Cond) : Bool := if host = 0 then e_w p w else e_wn p w
def e_CLck (own : Nat) (r : Nat × Nat × Nat × Nat) : Bool := e_wg r.2.2.2 r.2.2.1 (e_CLw own r)
def e_FLw (own : Nat) (r : Nat × Nat × Nat × Nat × Nat) : Cond := if r.2.2.2.2 = 0 then .fieldLink (e_cn own) r.1 (e_cn r.2.1) (e_cT r.2.1 r.2.2.1).2.1 (e_cT r.2.1 r.2.2.1).2.2.1 else .fieldLinkNest (e_cn own) r.1 (e_cn r.2.1) (e_cT r.2.1 r.2.2.1).2.1 (e_cT r.2.1 r.2.2.1).2.2.1 (e_ho r.2.2.2.2)
def e_FLck (own : Nat) (r : Nat × Nat × Nat × Nat × Nat) : Bool := e_wg r.2.2.2.2 r.2.2.2.1 (e_FLw own r) && (decide (r.2.1 < 21) && (decide (r.2.2.1 < e_cF r.2.1) && decide ((e_cT r.2.1 r.2.2.1).1 = e_cn r.2.1)))
def e_NLck (own : Nat) (r : Nat × Nat × Nat) : Bool := e_w r.2.2 (.classLink (e_cn own) r.1 (e_cn r.2.1)) && (decide (r.2.1 < 21) && (match e_NW[r.2.1]? with
  | some q => e_w q.1 (.instantiable (e_cn r.2.1) (e_cF r.2.1)) && e_w q.2.1 (.initialized (e_cn r.2.1))
  | none => false))
def e_KLck (own : Nat) (r : Nat × Nat × Nat) : Bool := e_w r.2.2 (.classLink (e_cn own) r.1 (e_cn r.2.1))
def e_KIck (own : Nat) (r : Nat × Int32 × Nat) : Bool := e_w r.2.2 (.constant (e_cn own) r.1 r.2.1)
def e_KJck (own : Nat) (r : Nat × Int64 × Nat) : Bool := e_w r.2.2 (.constantLong (e_cn own) r.1 r.2.1)
def e_sn (x : Nat) : String × String × String × Nat × Nat := match e_SN[x - 1]? with
  | some q => q
  | none => ("", "", "", 0, 0)
def e_SLck (own : Nat) (r : Nat × Nat × Nat) : Bool := decide (1 ≤ r.2.1 ∧ r.2.1 ≤ 8) && e_w r.2.2 (.fieldLink (e_cn own) r.1 (e_sn r.2.1).1 (e_sn r.2.1).2.1 (e_sn r.2.1).2.2.1)
def e_SNck (q : String × String × String × Nat × Nat) : Bool := decide (e_tb q.2.2.2.1 = some (.laysStatic q.1 q.2.1 q.2.2.1)) && decide (e_tb q.2.2.2.2 = some (.initialized q.1))
def e_UWck (ci : Nat) : Bool := match e_UW[ci]? with
  | some ps => decide (ps.length = e_cF ci) && (List.range (e_cF ci)).all (fun k => match ps[k]? with
    | some p => e_w p (u_lay (e_cn ci) (e_cT ci) k)
    | none => false)
  | none => false
theorem e_CL_ok1 : ((List.range 15).all fun own => (e_CL own).all (e_CLck own)) = true := by decide +kernel
theorem e_CL_ok2 : ((List.range 18).all fun own => (e_CL (own + 15)).all (e_CLck (own + 15))) = true := by decide +kernel
