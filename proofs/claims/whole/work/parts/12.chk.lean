theorem e_FL_ok : ((List.range 31).all fun own => (e_FL own).all (e_FLck own)) = true := by decide +kernel
theorem e_NL_ok : ((List.range 31).all fun own => (e_NL own).all (e_NLck own)) = true := by decide +kernel
theorem e_KL_ok : ((List.range 31).all fun own => (e_KL own).all (e_KLck own)) = true := by decide +kernel
theorem e_KI_ok : ((List.range 31).all fun own => (e_KI own).all (e_KIck own)) = true := by decide +kernel
theorem e_KJ_ok : ((List.range 31).all fun own => (e_KJ own).all (e_KJck own)) = true := by decide +kernel
theorem e_SL_ok : ((List.range 31).all fun own => (e_SL own).all (e_SLck own)) = true := by decide +kernel

theorem e_UW_ok : (List.range 21).all e_UWck = true := by decide +kernel
theorem e_SN_ok : e_SN.all e_SNck = true := by decide +kernel
def e_xn : List String := ["java/lang/RuntimeException", "java/lang/Exception"]
