theorem zokL12 : zokC ⟨"LentToolsLaw", "law", "([I)Z"⟩ code 900 zcL12 = true := zokH_ok (hs := [12043, 14216, 12047, 14220]) (by decide +kernel)
theorem zokL13 : zokC ⟨"LentToolsLaw", "law", "([I)Z"⟩ code 975 zcL13 = true := zokH_ok (hs := [12068, 14237, 12078, 15001, 12083, 15006]) (by decide +kernel)
theorem zokC_app {y : MethodName} {bs : ByteArray} : ∀ {l1 l2 : List (Option zEn)} {n : Nat}, zokC y bs n l1 = true → zokC y bs (n + l1.length) l2 = true → zokC y bs n (l1 ++ l2) = true
  | [], _, _, _, h => h
  | none :: l, l2, n, h1, h2 => zokC_app (l1 := l) (n := n + 1) h1 (by rw [show n + 1 + l.length = n + (none :: l).length by simp; omega]; exact h2)
  | some q :: l, l2, n, h1, h2 => by
    have h3 : zokE y bs n q = true ∧ zokC y bs (n + 1) l = true := by
      rw [← Bool.and_eq_true]
      exact h1
    have h4 := zokC_app (l1 := l) (n := n + 1) h3.2 (by rw [show n + 1 + l.length = n + (some q :: l).length by simp; omega]; exact h2)
    show (zokE y bs n q && zokC y bs (n + 1) (l ++ l2)) = true
    rw [h3.1, h4]
    rfl
theorem zokL : zokC ⟨"LentToolsLaw", "law", "([I)Z"⟩ code 0 zcL = true := zokC_app (l1 := zcL0) zokL0 (zokC_app (l1 := zcL1) zokL1 (zokC_app (l1 := zcL2) zokL2 (zokC_app (l1 := zcL3) zokL3 (zokC_app (l1 := zcL4) zokL4 (zokC_app (l1 := zcL5) zokL5 (zokC_app (l1 := zcL6) zokL6 (zokC_app (l1 := zcL7) zokL7 (zokC_app (l1 := zcL8) zokL8 (zokC_app (l1 := zcL9) zokL9 (zokC_app (l1 := zcL10) zokL10 (zokC_app (l1 := zcL11) zokL11 (zokC_app (l1 := zcL12) zokL12 (zokL13)))))))))))))
