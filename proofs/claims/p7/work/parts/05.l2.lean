theorem zokL8 : zokC ⟨"LentToolsLaw", "law", "([I)Z"⟩ code 600 zcL8 = true := by decide +kernel
theorem zokL9 : zokC ⟨"LentToolsLaw", "law", "([I)Z"⟩ code 675 zcL9 = true := by decide +kernel
theorem zokL10 : zokC ⟨"LentToolsLaw", "law", "([I)Z"⟩ code 750 zcL10 = true := by decide +kernel
theorem zokL11 : zokC ⟨"LentToolsLaw", "law", "([I)Z"⟩ code 825 zcL11 = true := by decide +kernel
