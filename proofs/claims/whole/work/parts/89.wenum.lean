/-! ALL TONES of four: weighed -/
set_option maxRecDepth 100000 in
theorem wp_4 : all4a wpP (-6) = true := by decide +kernel
set_option maxRecDepth 100000 in
theorem wp_5 : all4a wpP (-5) = true := by decide +kernel
set_option maxRecDepth 100000 in
theorem wp_6 : all4a wpP (-4) = true := by decide +kernel
set_option maxRecDepth 100000 in
theorem wp_7 : all4a wpP (-3) = true := by decide +kernel
set_option maxRecDepth 100000 in
theorem wp_8 : all4a wpP (-2) = true := by decide +kernel
set_option maxRecDepth 100000 in
theorem wp_9 : all4a wpP (-1) = true := by decide +kernel
set_option maxRecDepth 100000 in
theorem wp_10 : all4a wpP 0 = true := by decide +kernel
theorem wp_all : allQ wpP := ⟨wp_1, wp_2, wp_3, wp_4, wp_5, wp_6, wp_7, wp_8, wp_9, wp_10⟩
