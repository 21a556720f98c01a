set_option maxRecDepth 20000 in
theorem gw_wsX30 : wsX30.all goodWord = true := by decide +kernel
set_option maxRecDepth 20000 in
theorem gw_wsX40 : wsX40.all goodWord = true := by decide +kernel
