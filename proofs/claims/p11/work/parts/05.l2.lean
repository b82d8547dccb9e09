theorem zokL8 : zokC ⟨"LentToolsLaw", "law", "([I)Z"⟩ code 600 zcL8 = true := zokH_ok (hs := [14065, 11135, 14109]) (by decide +kernel)
theorem zokL9 : zokC ⟨"LentToolsLaw", "law", "([I)Z"⟩ code 675 zcL9 = true := zokH_ok (hs := [11181, 14134, 11220, 14154, 11224]) (by decide +kernel)
theorem zokL10 : zokC ⟨"LentToolsLaw", "law", "([I)Z"⟩ code 750 zcL10 = true := zokH_ok (hs := [14158, 11229, 14170, 11233, 14175, 12001, 14183]) (by decide +kernel)
theorem zokL11 : zokC ⟨"LentToolsLaw", "law", "([I)Z"⟩ code 825 zcL11 = true := zokH_ok (hs := [12009, 14187, 12017, 14195, 12029, 14203]) (by decide +kernel)
