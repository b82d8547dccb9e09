theorem zok0 : zokC zm0.1 zm0.2.1 0 zc0 = true := by decide +kernel
theorem zoy0 : zokY zm0 = true := by decide +kernel
theorem zok1 : zokC zm1.1 zm1.2.1 0 zc1 = true := by decide +kernel
theorem zoy1 : zokY zm1 = true := by decide +kernel
theorem zok121 : zokC zm121.1 zm121.2.1 0 zc121 = true := by decide +kernel
theorem zoy121 : zokY zm121 = true := by decide +kernel
theorem zok157 : zokC zm157.1 zm157.2.1 0 zc157 = true := by decide +kernel
theorem zoy157 : zokY zm157 = true := by decide +kernel
