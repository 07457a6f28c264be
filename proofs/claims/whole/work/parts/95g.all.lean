/-! ALL TONES of three and of four: looked at -/
def g3 (P : Nat → (Int → Int) → (Int → Int) → Bool) (a : Int) : Bool := upI a fun u => upI u fun b => upI b fun v => upI v fun c => P 3 (lf a b c 0) (lf u v 0 0)
def g4 (P : Nat → (Int → Int) → (Int → Int) → Bool) (a u : Int) : Bool := upI u fun b => upI b fun v => upI v fun c => upI c fun w => upI w fun d => P 4 (lf a b c d) (lf u v w 0)
set_option maxRecDepth 100000 in
theorem tab_3a : g3 tabP (-6) = true := by decide +kernel
set_option maxRecDepth 100000 in
theorem tab_3b : g3 tabP (-5) = true := by decide +kernel
set_option maxRecDepth 100000 in
theorem tab_3c : (rngI (-4) 11).all (g3 tabP) = true := by decide +kernel
theorem tab_3 : all3 tabP = true := by
  show (g3 tabP (-6) && (g3 tabP (-5) && (rngI (-4) 11).all (g3 tabP))) = true
  rw [tab_3a, tab_3b, tab_3c]
  rfl
set_option maxRecDepth 100000 in
theorem tab_4a : g4 tabP (-6) (-5) = true := by decide +kernel
set_option maxRecDepth 100000 in
theorem tab_4b : (rngI (-4) 11).all (g4 tabP (-6)) = true := by decide +kernel
theorem tab_4 : all4a tabP (-6) = true := by
  show (g4 tabP (-6) (-5) && (rngI (-4) 11).all (g4 tabP (-6))) = true
  rw [tab_4a, tab_4b]
  rfl
set_option maxRecDepth 100000 in
theorem tab_5 : all4a tabP (-5) = true := by decide +kernel
set_option maxRecDepth 100000 in
theorem tab_6 : all4a tabP (-4) = true := by decide +kernel
set_option maxRecDepth 100000 in
theorem tab_7 : all4a tabP (-3) = true := by decide +kernel
set_option maxRecDepth 100000 in
theorem tab_8 : all4a tabP (-2) = true := by decide +kernel
set_option maxRecDepth 100000 in
theorem tab_9 : all4a tabP (-1) = true := by decide +kernel
set_option maxRecDepth 100000 in
theorem tab_10 : all4a tabP 0 = true := by decide +kernel
theorem tab_all : allQ tabP := ⟨tab_1, tab_2, tab_3, tab_4, tab_5, tab_6, tab_7, tab_8, tab_9, tab_10⟩
