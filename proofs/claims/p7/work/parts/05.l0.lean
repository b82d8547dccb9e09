theorem zokL0 : zokC ⟨"LentToolsLaw", "law", "([I)Z"⟩ code 0 zcL0 = true := by decide +kernel
theorem zokL1 : zokC ⟨"LentToolsLaw", "law", "([I)Z"⟩ code 75 zcL1 = true := by decide +kernel
theorem zokL2 : zokC ⟨"LentToolsLaw", "law", "([I)Z"⟩ code 150 zcL2 = true := by decide +kernel
theorem zokL3 : zokC ⟨"LentToolsLaw", "law", "([I)Z"⟩ code 225 zcL3 = true := by decide +kernel
