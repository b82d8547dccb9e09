theorem zokL0 : zokC ⟨"LentToolsLaw", "law", "([I)Z"⟩ code 0 zcL0 = true := zokH_ok (hs := [8021, 8022, 8001, 8023, 12088, 12089, 8011, 12090]) (by decide +kernel)
theorem zokL1 : zokC ⟨"LentToolsLaw", "law", "([I)Z"⟩ code 75 zcL1 = true := zokH_ok (hs := []) (by decide +kernel)
theorem zokL2 : zokC ⟨"LentToolsLaw", "law", "([I)Z"⟩ code 150 zcL2 = true := zokH_ok (hs := [9048]) (by decide +kernel)
theorem zokL3 : zokC ⟨"LentToolsLaw", "law", "([I)Z"⟩ code 225 zcL3 = true := zokH_ok (hs := [12212, 9056, 12220, 9060, 13149, 10008, 12224, 10123]) (by decide +kernel)
