/-! Runs of the checker. -/
def aVal (k : Nat) (v : Value) (pc : Nat) (S : yS) : yO := match v with
  | .int x => aPush k (yI (yc x.toInt)) pc S
  | .long x => aPush k (1, yc x.toInt, yc 0) pc S
  | .ref i => aPush k (2, yc ((i : Nat) : Int), yc 0) pc S
  | .retAddr i => if i = 0 then aPush k (7, yc 0, yc 0) pc S else none
  | _ => none
def ysim (M F : yM) (nL : Nat) (q : zEn) (pc : Nat) (S : yS) : yO := match q.1 with
  | .iconst n => aConst 1 n (-2147483648) 2147483647 pc S
  | .bipush n => aConst 2 n (-128) 127 pc S
  | .sipush n => aConst 3 n (-32768) 32767 pc S
  | .lconst n => aPush 1 (1, yc ((n : Nat) : Int), yc 0) pc S
  | .aconst_null => aPush 1 (2, yc (-1), yc 0) pc S
  | .ldc _ => aVal 2 q.2.2.2.2 pc S
  | .ldc_w _ => aVal 3 q.2.2.2.2 pc S
  | .ldc2_w _ => aVal 3 q.2.2.2.2 pc S
  | .getstatic _ => aVal 3 q.2.2.2.2 pc S
  | .iload_n k => aLoadI 1 k pc S
  | .iload i => aLoadI 2 i pc S
  | .lload_n k => aLoadL 1 k pc S
  | .lload i => aLoadL 2 i pc S
  | .aload_n k => aLoadA 1 k pc S
  | .aload i => aLoadA 2 i pc S
  | .istore_n k => aSto 1 k nL (fun t => t == 0) pc S
  | .istore i => aSto 2 i nL (fun t => t == 0) pc S
  | .lstore_n k => aSto 1 k nL (fun t => t == 1) pc S
  | .lstore i => aSto 2 i nL (fun t => t == 1) pc S
  | .astore_n k => aSto 1 k nL yisR pc S
  | .astore i => aSto 2 i nL yisR pc S
  | .iinc i n => aInc i n nL pc S
  | .iadd => aBin 0 pc S
  | .isub => aBin 1 pc S
  | .imul => aBin 2 pc S
  | .iand => aBin 3 pc S
  | .ior => aBin 4 pc S
  | .ixor => aBin 5 pc S
  | .ishl => aBin 6 pc S
  | .ishr => aBin 7 pc S
  | .iushr => aBin 8 pc S
  | .idiv => if ynz S = true then aBin 9 pc S else none
  | .irem => if ynz S = true then aBin 10 pc S else none
  | .ladd => aBnl 0 pc S
  | .lsub => aBnl 1 pc S
  | .lmul => aBnl 2 pc S
  | .land => aBnl 3 pc S
  | .lor => aBnl 4 pc S
  | .ldiv => if ynz S = true then aBnl 9 pc S else none
  | .lrem => if ynz S = true then aBnl 10 pc S else none
  | .lshl => aLshl pc S
  | .lcmp => aLcmp pc S
  | .i2l => aUn 0 1 (-2147483648) 2147483647 pc S
  | .i2b => aUn 0 0 (-128) 127 pc S
  | .i2c => aUn 0 0 0 65535 pc S
  | .l2i => aUn 1 0 (-2147483648) 2147483647 pc S
  | .dup => aDup pc S
  | .dup2 => aDup2 pc S
  | .pop => aPop pc S
  | .ifCond c _ => aIf c q.2.2.1 pc S
  | .if_icmp c _ => aIfc c q.2.2.1 pc S
  | .goto _ => some [(q.2.2.1, S)]
  | .ifnull _ => aNul true q.2.2.1 pc S
  | .ifnonnull _ => aNul false q.2.2.1 pc S
  | .tableswitch d lo hi offs => aTab d lo hi offs pc S
  | .getfield _ => aGetf q.2.2.1 q.2.2.2.1 pc S
  | .putfield _ => aPutf M F q.2.2.1 q.2.2.2.1 pc S
  | .arraylength => aAlen pc S
  | .iaload => aIld ykI 0 pc S
  | .baload => aIld ykB 1 pc S
  | .laload => aLald pc S
  | .aaload => aAald pc S
  | .iastore => aIst false M F pc S
  | .bastore => aIst true M F pc S
  | .lastore => aLst M F pc S
  | .invokestatic _ => if q.2.2.2.1 = 0 then aCpy M F pc S else if q.2.2.2.1 = 2 then aMm true pc S else if q.2.2.2.1 = 3 then aMm false pc S else none
  | _ => none
section YRUN
variable {hp hp' : zHp} {r : Nat → Int} {S : yS} {lv : List (Nat × Value)} {st : List Value} {pc : Nat}
theorem aVal_ok (g : yG hp r S lv st) {k : Nat} {v : Value} {L : List (Nat × yS)} (h : aVal k v pc S = some L) : yD hp r S.1 L (zPush k v (pc, lv, st) hp) := by
  unfold aVal at h
  split at h
  · exact aPush_ok g (ywI (ywc _ _)) (yvI (by rw [yev_c])) h
  · exact aPush_ok g ⟨Or.inl rfl, Or.inl rfl⟩ (yvL (by rw [yev_c])) h
  · exact aPush_ok g ⟨Or.inl rfl, Or.inl rfl⟩ (yv_ref (by rw [yev_c])) h
  · split at h
    · next e =>
      subst e
      exact aPush_ok g (a := (7, yc 0, yc 0)) ⟨Or.inl rfl, Or.inl rfl⟩ (show yv hp.1 r (7, yc 0, yc 0) (.retAddr 0) from rfl) h
    · cases h
  · cases h
theorem y8 {n : Int} (h1 : -128 ≤ n) (h2 : n ≤ 127) : ((Int8.ofInt n).toInt32).toInt = n := by
  rw [Int8.toInt_toInt32]
  exact Int8.toInt_ofInt_of_le h1 (by omega)
theorem y16 {n : Int} (h1 : -32768 ≤ n) (h2 : n ≤ 32767) : ((Int16.ofInt n).toInt32).toInt = n := by
  rw [Int16.toInt_toInt32]
  exact Int16.toInt_ofInt_of_le h1 (by omega)
theorem ylc (n : Fin 2) : (Int64.ofNat (n : Nat)).toInt = ((n : Nat) : Int) := Int64.toInt_ofNat_of_lt (by have := n.isLt; omega)
theorem ysim_ok {E : zHp → Prop} {M F : yM} (hE : yEF E F) (g : yG hp r S lv st) (H : yH0 hp ∧ E hp) {nL : Nat} {rt : Option FieldType} {q : zEn} {L : List (Nat × yS)} (h : ysim M F nL q pc S = some L) : ∃ o : zO, (∀ call : zCa, zdo zts none call nL rt q (pc, lv, st) hp = o) ∧ yW E M hp r S.1 L o := by
  obtain ⟨ins, len, a, b, v⟩ := q
  have D : ∀ {o : zO}, (∀ call : zCa, zdo zts none call nL rt (ins, len, a, b, v) (pc, lv, st) hp = o) → yD hp r S.1 L o → ∃ o : zO, (∀ call : zCa, zdo zts none call nL rt (ins, len, a, b, v) (pc, lv, st) hp = o) ∧ yW E M hp r S.1 L o := fun e k => ⟨_, e, yW_D H k⟩
  cases ins with
  | iconst n => exact D (fun _ => rfl) (aConst_ok g (fun h1 h2 => Int32.toInt_ofInt_of_le h1 (by omega)) h)
  | bipush n => exact D (fun _ => rfl) (aConst_ok g (fun h1 h2 => y8 h1 h2) h)
  | sipush n => exact D (fun _ => rfl) (aConst_ok g (fun h1 h2 => y16 h1 h2) h)
  | lconst n => exact D (fun _ => rfl) (aPush_ok g ⟨Or.inl rfl, Or.inl rfl⟩ (yvL (by rw [yev_c]; exact ylc n)) h)
  | aconst_null => exact D (fun _ => rfl) (aPush_ok g (a := (2, yc (-1), yc 0)) ⟨Or.inl rfl, Or.inl rfl⟩ (show yv hp.1 r (2, yc (-1), yc 0) .null from Or.inl ⟨yev_c r (-1), rfl⟩) h)
  | ldc i => exact D (fun _ => rfl) (aVal_ok g h)
  | ldc_w i => exact D (fun _ => rfl) (aVal_ok g h)
  | ldc2_w i => exact D (fun _ => rfl) (aVal_ok g h)
  | getstatic i => exact D (fun _ => rfl) (aVal_ok g h)
  | iload_n k => exact D (fun _ => rfl) (aLoadI_ok g h)
  | iload i => exact D (fun _ => rfl) (aLoadI_ok g h)
  | lload_n k => exact D (fun _ => rfl) (aLoadL_ok g h)
  | lload i => exact D (fun _ => rfl) (aLoadL_ok g h)
  | aload_n k => exact D (fun _ => rfl) (aLoadA_ok g h)
  | aload i => exact D (fun _ => rfl) (aLoadA_ok g h)
  | istore_n k => exact D (fun _ => rfl) (aStoI_ok g h)
  | istore i => exact D (fun _ => rfl) (aStoI_ok g h)
  | lstore_n k => exact D (fun _ => rfl) (aStoL_ok g h)
  | lstore i => exact D (fun _ => rfl) (aStoL_ok g h)
  | astore_n k => exact D (fun _ => rfl) (aStoA_ok g h)
  | astore i => exact D (fun _ => rfl) (aStoA_ok g h)
  | iinc i n => exact D (fun _ => rfl) (aInc_ok g h)
  | iadd => exact D (fun _ => rfl) (aBin_ok g h)
  | isub => exact D (fun _ => rfl) (aBin_ok g h)
  | imul => exact D (fun _ => rfl) (aBin_ok g h)
  | iand => exact D (fun _ => rfl) (aBin_ok g h)
  | ior => exact D (fun _ => rfl) (aBin_ok g h)
  | ixor => exact D (fun _ => rfl) (aBin_ok g h)
  | ishl => exact D (fun _ => rfl) (aBin_ok g h)
  | ishr => exact D (fun _ => rfl) (aBin_ok g h)
  | iushr => exact D (fun _ => rfl) (aBin_ok g h)
  | idiv => exact D (fun _ => rfl) (aBinD_ok g h)
  | irem => exact D (fun _ => rfl) (aBinD_ok g h)
  | ladd => exact D (fun _ => rfl) (aBnl_ok g h)
  | lsub => exact D (fun _ => rfl) (aBnl_ok g h)
  | lmul => exact D (fun _ => rfl) (aBnl_ok g h)
  | land => exact D (fun _ => rfl) (aBnl_ok g h)
  | lor => exact D (fun _ => rfl) (aBnl_ok g h)
  | ldiv => exact D (fun _ => rfl) (aBnlD_ok g h)
  | lrem => exact D (fun _ => rfl) (aBnlD_ok g h)
  | lshl => exact D (fun _ => rfl) (aLshl_ok g h)
  | lcmp => exact D (fun _ => rfl) (aLcmp_ok g h)
  | i2l => exact D (fun _ => rfl) (aI2l_ok g h)
  | i2b => exact D (fun _ => rfl) (aI2b_ok g h)
  | i2c => exact D (fun _ => rfl) (aI2c_ok g h)
  | l2i => exact D (fun _ => rfl) (aL2i_ok g h)
  | dup => exact D (fun _ => rfl) (aDup_ok g h)
  | dup2 => exact D (fun _ => rfl) (aDup2_ok g h)
  | pop => exact D (fun _ => rfl) (aPop_ok g h)
  | ifCond c off => exact D (fun _ => rfl) (aIf_ok g h)
  | if_icmp c off => exact D (fun _ => rfl) (aIfc_ok g h)
  | goto off =>
    have h : some [(a, S)] = some L := h
    cases h
    exact D (fun _ => rfl) (yD1 rfl (yag_refl _ _) (Nat.le_refl _) g)
  | ifnull off => exact D (fun _ => rfl) (aNul_ok g (n := true) h)
  | ifnonnull off => exact D (fun _ => rfl) (aNul_ok g (n := false) h)
  | tableswitch d lo hi offs => exact D (fun _ => rfl) (aTab_ok g h)
  | getfield i => exact D (fun _ => rfl) (aGetf_ok g H.1 h)
  | putfield i => exact ⟨_, fun _ => rfl, aPutf_ok hE g H h⟩
  | arraylength => exact D (o := zAlen ztb none (pc, lv, st) hp) (fun _ => rfl) (aAlen_ok g H.1 h)
  | iaload => exact D (o := zIald ztb none (pc, lv, st) hp) (fun _ => rfl) (aIald_ok g H.1 h)
  | baload => exact D (o := zBald ztb none (pc, lv, st) hp) (fun _ => rfl) (aBald_ok g H.1 h)
  | laload => exact D (fun _ => rfl) (aLald_ok g H.1 h)
  | aaload => exact D (fun _ => rfl) (aAald_ok g H.1 h)
  | iastore => exact ⟨_, fun _ => rfl, aIst_ok hE g H (b := false) h⟩
  | bastore => exact ⟨_, fun _ => rfl, aIst_ok hE g H (b := true) h⟩
  | lastore => exact ⟨_, fun _ => rfl, aLst_ok hE g H h⟩
  | invokestatic i =>
    have h : (if b = 0 then aCpy M F pc S else if b = 2 then aMm true pc S else if b = 3 then aMm false pc S else none) = some L := h
    have e : ∀ call : zCa, zdo zts none call nL rt (.invokestatic i, len, a, b, v) (pc, lv, st) hp = (if b = 0 then zCpy (pc, lv, st) hp else if b = 2 then zMax (pc, lv, st) hp else if b = 3 then zMin (pc, lv, st) hp else zCalS call a (zar a).1 (pc, lv, st) hp) := fun _ => rfl
    split at h
    · next c =>
      refine ⟨_, fun call => (e call).trans (if_pos c), aCpy_ok hE g H h⟩
    · next c =>
      split at h
      · next c2 => exact D (fun call => (e call).trans ((if_neg c).trans (if_pos c2))) (aMm_ok g (mx := true) h)
      · next c2 =>
        split at h
        · next c3 => exact D (fun call => (e call).trans ((if_neg c).trans ((if_neg c2).trans (if_pos c3)))) (aMm_ok g (mx := false) h)
        · cases h
  | _ => cases h
end YRUN
