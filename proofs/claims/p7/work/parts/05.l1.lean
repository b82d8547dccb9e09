theorem zokL4 : zokC ⟨"LentToolsLaw", "law", "([I)Z"⟩ code 300 zcL4 = true := by decide +kernel
theorem zokL5 : zokC ⟨"LentToolsLaw", "law", "([I)Z"⟩ code 375 zcL5 = true := by decide +kernel
theorem zokL6 : zokC ⟨"LentToolsLaw", "law", "([I)Z"⟩ code 450 zcL6 = true := by decide +kernel
theorem zokL7 : zokC ⟨"LentToolsLaw", "law", "([I)Z"⟩ code 525 zcL7 = true := by decide +kernel
