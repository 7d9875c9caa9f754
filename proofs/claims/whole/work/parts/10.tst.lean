theorem e_tst1 : (e_M9.all fun r => decide (lw_tbl[r.2.2.2.1]? = some (e_codeW r))) = true := by decide +kernel
