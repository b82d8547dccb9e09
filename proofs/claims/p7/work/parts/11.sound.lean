/-! The whole: what the interpreter says of a method's body and of a call, the machine does. -/
theorem zi_0 {α : Type} {x : α} {P : Prop} (h : (none : Option α) = some x) : P := by cases h
theorem zi_1 {rt : Option FieldType} {fr : zFr} {hp : zHp} {x : zFr × zHp} : ¬ zIret rt fr hp = some (.inl x) := by
  intro h
  unfold zIret at h
  split at h
  · split at h <;> cases h
  · cases h
theorem zi_2 {rt : Option FieldType} {fr : zFr} {hp : zHp} {x : zFr × zHp} : ¬ zLret rt fr hp = some (.inl x) := by
  intro h
  unfold zLret at h
  split at h <;> cases h
theorem zi_3 {rt : Option FieldType} {fr : zFr} {hp : zHp} {x : zFr × zHp} : ¬ zAret rt fr hp = some (.inl x) := by
  intro h
  unfold zAret at h
  split at h <;> cases h
theorem zi_4 {rt : Option FieldType} {fr : zFr} {hp : zHp} {x : zFr × zHp} : ¬ zVret rt fr hp = some (.inl x) := by
  intro h
  unfold zVret at h
  split at h <;> cases h
theorem zs_e3 (w : zWd) (j : Nat) : zta w (zSC + 1 + j) = w.2.1 (1 + j) := by
  rw [Nat.add_assoc]
  exact zs_e1 w j
theorem zsta_min (a : Nat) : ∃ b, b < 5 ∧ zsta a = zsta b := by
  by_cases h : a < 5
  · exact ⟨a, h, rfl⟩
  · refine ⟨4, by decide, ?_⟩
    obtain ⟨k, rfl⟩ : ∃ k, a = k + 5 := ⟨a - 5, by omega⟩
    rfl
def zrI : Option Value → Instr
  | none => .return_
  | some (.int _) => .ireturn
  | some (.long _) => .lreturn
  | some _ => .areturn
def zrOK (rt : Option FieldType) : Option Value → Prop
  | none => rt = none
  | some (.int x) => ∃ ty, rt = some ty ∧ narrow ty (.int x) = .int x
  | some (.long _) => rt = some .long
  | some .null => ∃ ty, rt = some ty ∧ ((∃ n, ty = .object n) ∨ ∃ t, ty = .array t)
  | some (.ref _) => ∃ ty, rt = some ty ∧ ((∃ n, ty = .object n) ∨ ∃ t, ty = .array t)
  | some _ => False
theorem zs_ret {ts : zTs} {ev : zEv} {call : zCa} {nL : Nat} {rt : Option FieldType} {q : zEn} {fr : zFr} {hp : zHp} {r : zRe} (hR : zisR q.1 = true) (h : zdo ts ev call nL rt q fr hp = some (.inr r)) : r.2 = hp ∧ fr.2.2 = r.1.toList ∧ q.1 = zrI r.1 ∧ zrOK rt r.1 := by
  obtain ⟨ins, len, a, b, v⟩ := q
  cases ins with
  | ireturn =>
    replace h : zIret rt fr hp = some (.inr r) := h
    unfold zIret at h
    split at h
    · next x ty hst =>
      split at h
      · next hn => cases h; exact ⟨rfl, hst, rfl, ty, rfl, hn⟩
      · cases h
    · cases h
  | lreturn =>
    replace h : zLret rt fr hp = some (.inr r) := h
    unfold zLret at h
    split at h
    · next x hst => cases h; exact ⟨rfl, hst, rfl, rfl⟩
    · cases h
  | areturn =>
    replace h : zAret rt fr hp = some (.inr r) := h
    unfold zAret at h
    split at h
    · next x n hst => cases h; exact ⟨rfl, hst, rfl, _, rfl, Or.inl ⟨_, rfl⟩⟩
    · next x n hst => cases h; exact ⟨rfl, hst, rfl, _, rfl, Or.inr ⟨_, rfl⟩⟩
    · next n hst => cases h; exact ⟨rfl, hst, rfl, _, rfl, Or.inl ⟨_, rfl⟩⟩
    · next n hst => cases h; exact ⟨rfl, hst, rfl, _, rfl, Or.inr ⟨_, rfl⟩⟩
    · cases h
  | return_ =>
    replace h : zVret rt fr hp = some (.inr r) := h
    unfold zVret at h
    split at h
    · next hst => cases h; exact ⟨rfl, hst, rfl, rfl⟩
    · cases h
  | _ => cases hR
theorem zrI_len (r : Option Value) : zlen (zrI r) = 1 := by
  cases r with
  | none => rfl
  | some v => cases v <;> rfl
section ZSND
variable {p : Program} {l : Launch} {e : Env} {R : Room} {s : State} {m : MethodId} {args : Array Value} {below : List Frame} {meth : Method} {c : Code} {Q : State → Prop} {w : zWd} {ev : zEv} {d : Nat} {y : MethodName} {cc : ByteArray} {nL : Nat} {rt : Option FieldType} {n0 nF : Nat} {fr fr' : zFr} {hp hp' : zHp}
theorem za_ldc (C : zCx w ev d y cc nL rt n0 nF p R s m args meth c) {i : Nat} {v : Value} (hd : decode cc fr.1 = .ok (.ldc i, 2)) (hI : zok_c y i v = true) (h : zPush 2 v fr hp = some (.inl (fr', hp'))) (K : zG w nL n0 p l e R s m args below meth c Q fr' hp') : zG w nL n0 p l e R s m args below meth c Q fr hp := by
  obtain ⟨hx, hb, hml, hrt, hown, hts, hlk, hini, hbs, hsp, hfr, hlo, hrc, hrs⟩ := C
  cases v with
  | int x => exact za_push h K (fun H locs cells slots ls rest hS k => lv_ldc hx hb hown (hts _ (zin_mem hI)) hd k)
  | ref z =>
    have hI2 : zstrs.any (fun t => decide (t.1 = y.cls) && decide (t.2.1 = i) && decide (z = zSC + 1 + t.2.2.2)) = true := hI
    obtain ⟨t, ht, h2⟩ := List.any_eq_true.mp hI2
    simp only [Bool.and_eq_true, decide_eq_true_eq] at h2
    obtain ⟨⟨e1, e2⟩, e3⟩ := h2
    have hv := hsp.2.2.2.1 t ht
    rw [e1, e2] at hv
    refine za_push h K (fun H locs cells slots ls rest hS k => ?_)
    refine va_ldcS hx hb hown hv hd ?_
    have e4 : ztv w (.ref z) = .ref (w.2.1 (1 + t.2.2.2)) := by
      show Value.ref (zta w z) = _
      rw [e3, zs_e3]
    rw [← e4]
    exact k
  | _ => cases hI
theorem za_ldcw (C : zCx w ev d y cc nL rt n0 nF p R s m args meth c) {i : Nat} {v : Value} (hd : decode cc fr.1 = .ok (.ldc_w i, 3)) (hI : zok_k y i v = true) (h : zPush 3 v fr hp = some (.inl (fr', hp'))) (K : zG w nL n0 p l e R s m args below meth c Q fr' hp') : zG w nL n0 p l e R s m args below meth c Q fr hp := by
  obtain ⟨hx, hb, hml, hrt, hown, hts, hlk, hini, hbs, hsp, hfr, hlo, hrc, hrs⟩ := C
  cases v with
  | int x => exact za_push h K (fun H locs cells slots ls rest hS k => lv_ldcw hx hb hown (hts _ (zin_mem hI)) hd k)
  | _ => cases hI
theorem za_ldc2 (C : zCx w ev d y cc nL rt n0 nF p R s m args meth c) {i : Nat} {v : Value} (hd : decode cc fr.1 = .ok (.ldc2_w i, 3)) (hI : zok_l y i v = true) (h : zPush 3 v fr hp = some (.inl (fr', hp'))) (K : zG w nL n0 p l e R s m args below meth c Q fr' hp') : zG w nL n0 p l e R s m args below meth c Q fr hp := by
  obtain ⟨hx, hb, hml, hrt, hown, hts, hlk, hini, hbs, hsp, hfr, hlo, hrc, hrs⟩ := C
  cases v with
  | long x => exact za_push h K (fun H locs cells slots ls rest hS k => lv_ldc2 hx hb hown (hts _ (zin_mem hI)) hd k)
  | _ => cases hI
theorem za_gets (C : zCx w ev d y cc nL rt n0 nF p R s m args meth c) {i a : Nat} {v : Value} (hd : decode cc fr.1 = .ok (.getstatic i, 3)) (hI : zok_t y i a v = true) (h : zPush 3 v fr hp = some (.inl (fr', hp'))) (K : zG w nL n0 p l e R s m args below meth c Q fr' hp') : zG w nL n0 p l e R s m args below meth c Q fr hp := by
  obtain ⟨hx, hb, hml, hrt, hown, hts, hlk, hini, hbs, hsp, hfr, hlo, hrc, hrs⟩ := C
  unfold zok_t at hI
  simp only [Bool.and_eq_true, decide_eq_true_eq] at hI
  obtain ⟨hI1, hI2⟩ := hI
  obtain ⟨b, hb5, eb⟩ := zsta_min a
  rw [eb] at hI1 hI2
  have hZ := hsp.2.2.2.2.2.1 b hb5
  rw [← hI2] at hZ
  exact za_push h K (fun H locs cells slots ls rest hS k => va_gets hx hb hZ hS hown (hts _ (zin_mem hI1)) (fun _ q => q) hd k)
theorem zs_step (C : zCx w ev d y cc nL rt n0 nF p R s m args meth c) {call : zCa} (ok : zOK w d call) {q : zEn} (hq : zokE y cc fr.1 q = true) (h0 : n0 ≤ hp.1) (hm : hp.1 ≤ hp'.1) (hF : hp'.1 ≤ nF) (h : zdo zts ev call nL rt q fr hp = some (.inl (fr', hp'))) (K : zG w nL n0 p l e R s m args below meth c Q fr' hp') : zG w nL n0 p l e R s m args below meth c Q fr hp := by
  obtain ⟨ins, len, a, b, v⟩ := q
  unfold zokE at hq
  simp only [Bool.and_eq_true, decide_eq_true_eq, Bool.or_eq_true, beq_iff_eq] at hq
  obtain ⟨hd, hlen, hI⟩ := hq
  have hD : ∀ k, zlen ins = k → 0 < k → decode cc fr.1 = .ok (ins, k) := by
    intro k hk hk0
    rcases hlen with q | q
    · omega
    · rw [← hk, ← q]
      exact hd
  have hx := C.1
  have hb := C.2.1
  cases ins with
  | iconst n => exact za_push h K (fun H locs cells slots ls rest hS k => lv_iconst hx hb (hD 1 rfl (by decide)) rfl k)
  | bipush n => exact za_push h K (fun H locs cells slots ls rest hS k => lv_bipush hx hb (hD 2 rfl (by decide)) rfl k)
  | sipush n => exact za_push h K (fun H locs cells slots ls rest hS k => lv_sipush hx hb (hD 3 rfl (by decide)) rfl k)
  | lconst n => exact za_push h K (fun H locs cells slots ls rest hS k => lv_lconst hx hb (hD 1 rfl (by decide)) rfl k)
  | aconst_null => exact za_push h K (fun H locs cells slots ls rest hS k => lv_null hx hb (hD 1 rfl (by decide)) k)
  | ldc i => exact za_ldc C (hD 2 rfl (by decide)) hI h K
  | ldc_w i => exact za_ldcw C (hD 3 rfl (by decide)) hI h K
  | ldc2_w i => exact za_ldc2 C (hD 3 rfl (by decide)) hI h K
  | getstatic i => exact za_gets C (hD 3 rfl (by decide)) hI h K
  | iload_n k => exact za_loadI h K (fun H locs cells slots ls rest x hl k => lv_iload_n hx hb (hD 1 rfl (by decide)) rfl hl k)
  | iload i => exact za_loadI h K (fun H locs cells slots ls rest x hl k => lv_iload hx hb (hD 2 rfl (by decide)) hl k)
  | istore_n k => exact za_stoI h K (fun H locs cells slots ls rest x lv lv2 a1 a2 a3 k => lv_istore_n hx hb (hD 1 rfl (by decide)) rfl a1 a2 a3 k)
  | istore i => exact za_stoI h K (fun H locs cells slots ls rest x lv lv2 a1 a2 a3 k => lv_istore hx hb (hD 2 rfl (by decide)) a1 a2 a3 k)
  | lload_n k => exact za_loadL h K (fun H locs cells slots ls rest x hl k => lv_lload_n hx hb (hD 1 rfl (by decide)) rfl hl k)
  | lload i => exact za_loadL h K (fun H locs cells slots ls rest x hl k => lv_lload hx hb (hD 2 rfl (by decide)) hl k)
  | lstore_n k => exact za_stoL h K (fun H locs cells slots ls rest x lv lv2 a1 a2 a3 k => lv_lstore_n hx hb (hD 1 rfl (by decide)) rfl a1 a2 a3 k)
  | lstore i => exact za_stoL h K (fun H locs cells slots ls rest x lv lv2 a1 a2 a3 k => lv_lstore hx hb (hD 2 rfl (by decide)) a1 a2 a3 k)
  | aload_n k => exact za_loadA h K (fun H locs cells slots ls rest x hl k => lv_aload_n hx hb (hD 1 rfl (by decide)) rfl hl k) (fun H locs cells slots ls rest hl k => lv_aload_nN hx hb (hD 1 rfl (by decide)) rfl hl k)
  | aload i => exact za_loadA h K (fun H locs cells slots ls rest x hl k => lv_aload hx hb (hD 2 rfl (by decide)) hl k) (fun H locs cells slots ls rest hl k => lv_aloadN hx hb (hD 2 rfl (by decide)) hl k)
  | astore_n k => exact za_stoA h K (fun H locs cells slots ls rest x lv lv2 a1 a2 a3 k => lv_astore_n hx hb (hD 1 rfl (by decide)) rfl a1 a2 a3 k) (fun H locs cells slots ls rest lv lv2 a1 a2 a3 k => lv_astore_nN hx hb (hD 1 rfl (by decide)) rfl a1 a2 a3 k)
  | astore i => exact za_stoA h K (fun H locs cells slots ls rest x lv lv2 a1 a2 a3 k => lv_astore hx hb (hD 2 rfl (by decide)) a1 a2 a3 k) (fun H locs cells slots ls rest lv lv2 a1 a2 a3 k => lv_astoreN hx hb (hD 2 rfl (by decide)) a1 a2 a3 k)
  | iinc i n => exact za_inc C (hD 3 rfl (by decide)) h K
  | iadd => exact za_bin h K (fun H locs cells slots ls rest x y k => lv_iadd hx hb (hD 1 rfl (by decide)) k)
  | isub => exact za_bin h K (fun H locs cells slots ls rest x y k => lv_isub hx hb (hD 1 rfl (by decide)) k)
  | imul => exact za_bin h K (fun H locs cells slots ls rest x y k => lv_imul hx hb (hD 1 rfl (by decide)) k)
  | iand => exact za_bin h K (fun H locs cells slots ls rest x y k => lv_iand hx hb (hD 1 rfl (by decide)) k)
  | ior => exact za_bin h K (fun H locs cells slots ls rest x y k => lv_ior hx hb (hD 1 rfl (by decide)) k)
  | ixor => exact za_bin h K (fun H locs cells slots ls rest x y k => lv_ixor hx hb (hD 1 rfl (by decide)) k)
  | ishl => exact za_bin h K (fun H locs cells slots ls rest x y k => lv_ishl hx hb (hD 1 rfl (by decide)) k)
  | ishr => exact za_bin h K (fun H locs cells slots ls rest x y k => lv_ishr hx hb (hD 1 rfl (by decide)) k)
  | iushr => exact za_bin h K (fun H locs cells slots ls rest x y k => lv_iushr hx hb (hD 1 rfl (by decide)) rfl k)
  | idiv => exact za_binD h K (fun H locs cells slots ls rest x y hy k => lv_idiv hx hb (hD 1 rfl (by decide)) hy k)
  | irem => exact za_binD h K (fun H locs cells slots ls rest x y hy k => lv_irem hx hb (hD 1 rfl (by decide)) hy k)
  | ladd => exact za_bnl h K (fun H locs cells slots ls rest x y k => lv_ladd hx hb (hD 1 rfl (by decide)) k)
  | lsub => exact za_bnl h K (fun H locs cells slots ls rest x y k => lv_lsub hx hb (hD 1 rfl (by decide)) k)
  | lmul => exact za_bnl h K (fun H locs cells slots ls rest x y k => lv_lmul hx hb (hD 1 rfl (by decide)) k)
  | land => exact za_bnl h K (fun H locs cells slots ls rest x y k => lv_land hx hb (hD 1 rfl (by decide)) k)
  | lor => exact za_bnl h K (fun H locs cells slots ls rest x y k => lv_lor hx hb (hD 1 rfl (by decide)) k)
  | ldiv => exact za_bnlD h K (fun H locs cells slots ls rest x y hy k => lv_ldiv hx hb (hD 1 rfl (by decide)) hy k)
  | lrem => exact za_bnlD h K (fun H locs cells slots ls rest x y hy k => lv_lrem hx hb (hD 1 rfl (by decide)) hy k)
  | lshl => exact za_lshl C (hD 1 rfl (by decide)) h K
  | lcmp => exact za_lcmp C (hD 1 rfl (by decide)) h K
  | i2l => exact za_un h K (fun H locs cells slots ls rest x k => lv_i2l hx hb (hD 1 rfl (by decide)) rfl k)
  | i2b => exact za_un h K (fun H locs cells slots ls rest x k => lv_i2b hx hb (hD 1 rfl (by decide)) rfl k)
  | i2c => exact za_un h K (fun H locs cells slots ls rest x k => lv_i2c hx hb (hD 1 rfl (by decide)) rfl k)
  | l2i => exact za_unl h K (fun H locs cells slots ls rest x k => lv_l2i hx hb (hD 1 rfl (by decide)) rfl k)
  | dup => exact za_dup C (hD 1 rfl (by decide)) h K
  | dup2 => exact za_dup2 C (hD 1 rfl (by decide)) h K
  | pop => exact za_pop C (hD 1 rfl (by decide)) h K
  | ifCond cd off => exact za_if C (hD 3 rfl (by decide)) (of_decide_eq_true hI) h K
  | if_icmp cd off => exact za_ifc C (hD 3 rfl (by decide)) (of_decide_eq_true hI) h K
  | goto off => exact za_goto C (hD 3 rfl (by decide)) (of_decide_eq_true hI) h K
  | ifnull off => exact za_nul C (hD 3 rfl (by decide)) (of_decide_eq_true hI) h K
  | ifnonnull off => exact za_nnl C (hD 3 rfl (by decide)) (of_decide_eq_true hI) h K
  | tableswitch df lo hi offs => exact za_tab C hd h K
  | lookupswitch df ps => exact za_lkp C hd h K
  | getfield i => exact za_getf C (hD 3 rfl (by decide)) hI h K
  | putfield i => exact za_putf C (hD 3 rfl (by decide)) hI h K
  | new i => exact za_new C (hD 3 rfl (by decide)) hI h0 hF h K
  | newarray ty => exact za_newa C (hD 2 rfl (by decide)) h0 hF h K
  | anewarray i => exact za_anew C (hD 3 rfl (by decide)) hI h0 hF h K
  | multianewarray i n => exact za_mna C (hD 4 rfl (by decide)) hI h0 hF h K
  | arraylength => exact za_alen C (hD 1 rfl (by decide)) h K
  | iaload => exact za_iald C (hD 1 rfl (by decide)) h K
  | baload => exact za_bald C (hD 1 rfl (by decide)) h K
  | laload => exact za_lald C (hD 1 rfl (by decide)) h K
  | aaload => exact za_aald C (hD 1 rfl (by decide)) h K
  | iastore => exact za_iast C (hD 1 rfl (by decide)) h K
  | bastore => exact za_bast C (hD 1 rfl (by decide)) h K
  | lastore => exact za_last C (hD 1 rfl (by decide)) h K
  | aastore => exact za_aast C (hD 1 rfl (by decide)) h K
  | invokevirtual i =>
    have hI9 : (if b = 9 then zin (.methodLink y.cls i ⟨"[I", "clone", "()Ljava/lang/Object;"⟩) else zok_v y i a) = true := hI
    have h9 : (if b = 9 then zCln fr hp else zCall call a (zar a).1 (zar a).2 fr hp) = some (.inl (fr', hp')) := h
    by_cases hb9 : b = 9
    · rw [if_pos hb9] at hI9 h9
      exact za_cln C (hD 3 rfl (by decide)) hI9 h0 hF h9 K
    · rw [if_neg hb9] at hI9 h9
      exact za_call C ok (hD 3 rfl (by decide)) hI9 h0 hF h9 K
  | checkcast i => exact za_cst C (hD 3 rfl (by decide)) hI h K
  | invokespecial i =>
    by_cases hb0 : b = 0
    · have hI2 : zin (.methodLink y.cls i objectInit) = true := by
        have h9 : (if b = 0 then zin (.methodLink y.cls i objectInit) else zok_i y i a b) = true := hI
        rw [if_pos hb0] at h9
        exact h9
      have h2 : zObj fr hp = some (.inl (fr', hp')) := by
        have h9 : (if b = 0 then zObj fr hp else zCalI call a (zar a).1 fr hp) = some (.inl (fr', hp')) := h
        rw [if_pos hb0] at h9
        exact h9
      exact za_obj C (hD 3 rfl (by decide)) hI2 h2 K
    · have hI2 : zok_i y i a b = true := by
        have h9 : (if b = 0 then zin (.methodLink y.cls i objectInit) else zok_i y i a b) = true := hI
        rw [if_neg hb0] at h9
        exact h9
      have h2 : zCalI call a (zar a).1 fr hp = some (.inl (fr', hp')) := by
        have h9 : (if b = 0 then zObj fr hp else zCalI call a (zar a).1 fr hp) = some (.inl (fr', hp')) := h
        rw [if_neg hb0] at h9
        exact h9
      exact za_calI C ok (hD 3 rfl (by decide)) hI2 h0 hF h2 K
  | invokestatic i =>
    have hI9 : (if b = 0 then zin (.methodLink y.cls i arraycopyName) else if b = 2 then zin (.methodLink y.cls i Lib.Math.max.name) else if b = 3 then zin (.methodLink y.cls i Lib.Math.min.name) else zok_s y i a) = true := hI
    have h9 : (if b = 0 then zCpy fr hp else if b = 2 then zMax fr hp else if b = 3 then zMin fr hp else zCalS call a (zar a).1 fr hp) = some (.inl (fr', hp')) := h
    by_cases hb0 : b = 0
    · rw [if_pos hb0] at hI9 h9
      exact za_cpy C (hD 3 rfl (by decide)) hI9 h9 K
    · rw [if_neg hb0] at hI9 h9
      by_cases hb2 : b = 2
      · rw [if_pos hb2] at hI9 h9
        exact za_max C (hD 3 rfl (by decide)) hI9 h0 (Nat.le_trans hm hF) h9 K
      · rw [if_neg hb2] at hI9 h9
        by_cases hb3 : b = 3
        · rw [if_pos hb3] at hI9 h9
          exact za_min C (hD 3 rfl (by decide)) hI9 h0 (Nat.le_trans hm hF) h9 K
        · rw [if_neg hb3] at hI9 h9
          exact za_calS C ok (hD 3 rfl (by decide)) hI9 h0 hF h9 K
  | ireturn => exact absurd h zi_1
  | lreturn => exact absurd h zi_2
  | areturn => exact absurd h zi_3
  | return_ => exact absurd h zi_4
  | _ => exact zi_0 h
theorem zs_run (C : zCx w ev d y cc nL rt n0 nF p R s m args meth c) {call : zCa} (ok : zOK w d call) {cd : List (Option zEn)} (hcd : zokC y cc 0 cd = true) {r : Option Value} {hpF : zHp} (hnF : hpF.1 ≤ nF)
    (hret : ∀ (pc : Nat) (H : Heap) (locs : List Loc) (ls : Array Slot), zHd w hpF H → va_S (zA w) s.heap H locs → decode cc pc = .ok (zrI r, 1) → zrOK rt r → W p l e R s m args below meth c H locs (hpF.1 - n0) (zSL * (hpF.1 - n0)) Q (F0 m pc ls ((r.map (ztv w)).toList))) :
    ∀ (f : Nat) (fr : zFr) (hp : zHp), n0 ≤ hp.1 → zrun zts ev call nL rt cd f fr hp = some (r, hpF) → hp.1 ≤ hpF.1 ∧ zG w nL n0 p l e R s m args below meth c Q fr hp := by
  intro f
  induction f with
  | zero => intro fr hp h0 h; cases h
  | succ f ih =>
    intro fr hp h0 h
    unfold zrun at h
    split at h
    · cases h
    · next q hq =>
      have hqok := zokC_at hcd hq
      rw [Nat.zero_add] at hqok
      split at h
      · cases h
      · next fr' hp' hdo =>
        split at h
        · next hm =>
          obtain ⟨i1, i2⟩ := ih fr' hp' (Nat.le_trans h0 hm) h
          exact ⟨Nat.le_trans hm i1, zs_step C ok hqok h0 hm (Nat.le_trans i1 hnF) hdo i2⟩
        · cases h
      · next r2 hdo =>
        split at h
        · next hR =>
          cases h
          obtain ⟨e1, e2, e3, e4⟩ := zs_ret hR hdo
          have e1 : hpF = hp := e1
          subst e1
          refine ⟨Nat.le_refl _, fun H locs ls hH hS hl => ?_⟩
          unfold zokE at hqok
          simp only [Bool.and_eq_true, decide_eq_true_eq, Bool.or_eq_true, beq_iff_eq] at hqok
          obtain ⟨hd, hlen, hI⟩ := hqok
          have hd2 : decode cc fr.1 = .ok (zrI r, 1) := by
            have e3 : q.1 = zrI r := e3
            rw [e3] at hd hlen
            rw [zrI_len] at hlen
            rcases hlen with z | z
            · cases z
            · rw [← z]
              exact hd
          have e2 : fr.2.2 = r.toList := e2
          have k := hret fr.1 H locs ls hH hS hd2 e4
          rw [e2]
          have e5 : r.toList.map (ztv w) = (r.map (ztv w)).toList := by cases r <;> rfl
          rw [e5]
          exact k
        · cases h
end ZSND
theorem zlg_len (w : zWd) (as : List Value) : (lg_sl (as.map (ztv w))).length = (lg_sl as).length := by
  induction as with
  | nil => rfl
  | cons v vs ih =>
    have e1 : lg_sl (v :: vs) = (if v.category = 2 then [Slot.val v, .second] else [.val v]) ++ lg_sl vs := by simp [lg_sl]
    have e2 : lg_sl ((v :: vs).map (ztv w)) = (if v.category = 2 then [Slot.val (ztv w v), .second] else [.val (ztv w v)]) ++ lg_sl (vs.map (ztv w)) := by
      simp [lg_sl, ztv_cat]
    rw [e1, e2, List.length_append, List.length_append, ih]
    split <;> rfl
theorem zs_zcall (w : zWd) (f : Nat) : ∀ d, zOK w d (zcall zts zms f d)
  | 0 => fun k as hp r hp' h => by cases h
  | d + 1 => fun k as hp r hp' h => by
    unfold zcall at h
    split at h
    · cases h
    · next md hmd =>
      split at h
      · next hc =>
        split at h
        · next rr hrun =>
          split at h
          · next hmono =>
            cases h
            refine ⟨hmono, ?_⟩
            obtain ⟨mi, hmi, e1, e2, hcd⟩ := zt_all k md hmd
            refine ⟨mi, hmi, fun l => ?_⟩
            obtain ⟨hy, hcode⟩ := zy_all k mi hmi
            obtain ⟨y1, y2, y3, y4, y5, y6⟩ := zyk hy
            rw [e1] at hc hrun
            rw [e2] at hrun
            refine Met.ofW (cc := mi.2.1) (maxL := mi.2.2.1) (ret := mi.2.2.2.1) y3 rfl ?_
            intro p e s m args below meth c s₁ B hml hv
            obtain ⟨rfl, hH, hsp⟩ := hv
            have hts := atoms_spec (ws := zwk mi) B.pre
            have hx := B.exec
            have hb := B.bytes
            have hr := B.returns
            have hown : s.vm.findClass mi.1.cls = some m.cls := findClass_of_methodNamed B.named
            have hlk := B.notSynchronized
            have hnm := (name_of_methodNamed B.named B.method).1
            have hl := lv_entry (as.map (ztv w)) (n := mi.2.2.1) (by rw [zlg_len]; exact hc.1)
            rw [lg_entry_eq]
            generalize (lg_sl (as.map (ztv w)) ++ List.replicate (mi.2.2.1 - (lg_sl (as.map (ztv w))).length) Slot.unset).toArray = ls at hl ⊢
            have C : zCx w none d mi.1 mi.2.1 mi.2.2.1 mi.2.2.2.1 hp.1 hp'.1 p ({ frames := d + 1, cells := hp'.1 - hp.1, slots := zSL * (hp'.1 - hp.1), locals := 60 * (d + 1) } : Room) s m (as.map (ztv w)).toArray meth c :=
              ⟨hx, hb, hml, hr, hown, fun q hq => hts q (List.mem_cons_of_mem _ hq), hlk, fun h9 => hnm.trans h9, by rw [hH.1]; omega, hsp, Nat.le_refl _, Nat.le_refl _, Nat.le_refl _, Nat.le_refl _⟩
            have run := zs_run (l := l) (e := e) (below := below) (Q := MQ below (zQc w r hp') (as.map (ztv w)).toArray s (hp'.1 - hp.1) (zSL * (hp'.1 - hp.1)) (zA w)) C (zs_zcall w f d) hcd (r := r) (hpF := hp') (Nat.le_refl _) (fun pc H locs ls hH2 hS hdec hrok => ?_) f (0, lv_args 0 as, []) hp (Nat.le_refl _) hrun
            · have k := run.2 s.heap [] ls hH va_S.rf (by rw [zlm_args]; exact hl)
              rw [Nat.sub_self, Nat.mul_zero] at k
              exact k
            · have hq : ∀ t : State, t.heap = H → s.WarmedH t.vm → zQc w r hp' (as.map (ztv w)).toArray s (.returned (r.map (ztv w))) t := fun t ht _ => ⟨rfl, by rw [ht]; exact hH2, hS.F ht⟩
              cases r with
              | none => exact W.vret hx hb (hr.trans hrok) hq hS.2.2 hdec hlk
              | some v =>
                cases v with
                | int x =>
                  obtain ⟨ty, h9, hn⟩ := hrok
                  exact W.zret hx hb (hr.trans h9) hn hq hS.2.2 hdec hlk
                | long x => exact W.lret hx hb (hr.trans hrok) hq hS.2.2 hdec hlk
                | null =>
                  obtain ⟨ty, h9, hn⟩ := hrok
                  exact W.aret hx hb (hr.trans h9) hn (Or.inl rfl) hq hS.2.2 hdec hlk
                | ref a =>
                  obtain ⟨ty, h9, hn⟩ := hrok
                  exact W.aret hx hb (hr.trans h9) hn (Or.inr ⟨_, rfl⟩) hq hS.2.2 hdec hlk
                | _ => exact absurd hrok id
          · cases h
        · cases h
      · cases h
