theorem zokL4 : zokC ⟨"LentToolsLaw", "law", "([I)Z"⟩ code 300 zcL4 = true := zokH_ok (hs := [13153, 10160, 13178, 10182]) (by decide +kernel)
theorem zokL5 : zokC ⟨"LentToolsLaw", "law", "([I)Z"⟩ code 375 zcL5 = true := zokH_ok (hs := [13199, 10207, 13219, 10233, 13235]) (by decide +kernel)
theorem zokL6 : zokC ⟨"LentToolsLaw", "law", "([I)Z"⟩ code 450 zcL6 = true := zokH_ok (hs := [11006, 14003, 11018, 14011, 11030, 14039]) (by decide +kernel)
theorem zokL7 : zokC ⟨"LentToolsLaw", "law", "([I)Z"⟩ code 525 zcL7 = true := zokH_ok (hs := [11049, 14019, 11054, 14027, 11071, 13215, 11087]) (by decide +kernel)
