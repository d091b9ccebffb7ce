theorem zz_tbl_bad : (lw_tbl.filter (fun w => !goodWord w)).length = 0 := by decide +kernel
