set_option maxRecDepth 20000 in
theorem gw_wsL_law_r19 : wsL_law_r19.all goodWord = true := by decide +kernel
set_option maxRecDepth 20000 in
theorem gw_wsL_law_r20 : wsL_law_r20.all goodWord = true := by decide +kernel
set_option maxRecDepth 20000 in
theorem gw_wsL_law_r21 : wsL_law_r21.all goodWord = true := by decide +kernel
set_option maxRecDepth 20000 in
theorem gw_wsL_law_r22 : wsL_law_r22.all goodWord = true := by decide +kernel
set_option maxRecDepth 20000 in
theorem gw_wsL_law_r23 : wsL_law_r23.all goodWord = true := by decide +kernel
set_option maxRecDepth 20000 in
theorem gw_wsX50 : wsX50.all goodWord = true := by decide +kernel
set_option maxRecDepth 20000 in
theorem gw_wsX00 : wsX00.all goodWord = true := by decide +kernel
set_option maxRecDepth 20000 in
theorem gw_wsX10 : wsX10.all goodWord = true := by decide +kernel
set_option maxRecDepth 20000 in
theorem gw_wsX20 : wsX20.all goodWord = true := by decide +kernel
