theorem e_FL_ok : ((List.range 33).all fun own => (e_FL own).all (e_FLck own)) = true := by decide +kernel
theorem e_NL_ok : ((List.range 33).all fun own => (e_NL own).all (e_NLck own)) = true := by decide +kernel
theorem e_KL_ok : ((List.range 33).all fun own => (e_KL own).all (e_KLck own)) = true := by decide +kernel
theorem e_KI_ok : ((List.range 33).all fun own => (e_KI own).all (e_KIck own)) = true := by decide +kernel
theorem e_KJ_ok : ((List.range 33).all fun own => (e_KJ own).all (e_KJck own)) = true := by decide +kernel
theorem e_SL_ok : ((List.range 33).all fun own => (e_SL own).all (e_SLck own)) = true := by decide +kernel

theorem e_UW_ok : (List.range 21).all e_UWck = true := by decide +kernel
theorem e_SN_ok : e_SN.all e_SNck = true := by decide +kernel
def e_xn : List String := ["java/lang/RuntimeException", "java/lang/Exception"]
theorem e_NC_ok : ((List.range 21).all fun ci => match e_NW[ci]? with
  | some q => decide (q.2.2.2 = 0) || e_wn q.2.2.2 (.castable (e_cn ci) "java/lang/Object")
  | none => false) = true := by decide +kernel
theorem e_M_own : e_M.all (fun r => decide (r.1.2 < 33)) = true := by decide +kernel
theorem e_AC_ok : (e_w 111 (.arrayClass .int) && (e_w 110 (.arrayClass .boolean) && (e_w 169 (.arrayClass .char) && (e_w 435 (.arrayClass .long) && e_w 675 (.arrayClass .byte))))) = true := by decide +kernel
theorem e_AO_ok : (decide (e_tb 270 = some (.arrayOver (.object "java/lang/Object"))) && decide (e_tb 705 = some (.arrayOver (.object "Rankhall$Pipe")))) = true := by decide +kernel
theorem e_nt_on {w : Cond} (h : w ∈ e_nt) : w.onTables = true := by
  have h2 := (List.mem_filter.mp h).2
  unfold e_isN at h2
  split at h2
  · rfl
  · rfl
  · rfl
  · rfl
  · cases h2
theorem e_nt_warm {w : Cond} (h : w ∈ e_nt) {s U : State} (hW : s.WarmedH U.vm) (hZ : va_Nw w s) : va_Nw w U := by
  have h2 := (List.mem_filter.mp h).2
  unfold e_isN at h2
  split at h2
  · exact va_Nw.warmM hW hZ
  · exact va_Nw.warmF hW hZ
  · exact va_Nw.warmC hW hZ
  · exact va_Nw.warmD hW hZ
  · cases h2
