set_option maxRecDepth 100000 in
theorem tb_good : lw_tbl.all goodWord = true := by decide +kernel
