/-! ALL TONES of three and of four: looked at -/
theorem tab_all : allQ tabP := sorry
