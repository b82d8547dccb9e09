/-! Runs of the interpreter, whatever the fuel: judgements and rules. -/
/-- a body comes to r from here, with calls to depth d -/
def zR (ev : zEv) (d nL : Nat) (rt : Option FieldType) (cd : List (Option zEn)) (fr : zFr) (hp : zHp) (r : zRe) : Prop := ∃ n0 f0 : Nat, ∀ f1 f2 : Nat, f0 ≤ f1 → n0 ≤ f2 → zrun zts ev (zcall zts zms f1 d) nL rt cd f2 fr hp = some r
/-- a call answers r -/
def zCan (d k : Nat) (as : List Value) (hp : zHp) (r : zRe) : Prop := ∃ f0 : Nat, ∀ f : Nat, f0 ≤ f → zcall zts zms f d k as hp = some r
theorem zdo_mono {ev : zEv} {call call2 : zCa} (hc : ∀ k as hp r, call k as hp = some r → call2 k as hp = some r) {nL : Nat} {rt : Option FieldType} {q : zEn} {fr : zFr} {hp : zHp} {x : (zFr × zHp) ⊕ zRe} (h : zdo zts none call nL rt q fr hp = some x) : zdo zts ev call2 nL rt q fr hp = some x := by
  have hbk : ∀ {k : Nat} {as : List Value} {hp : zHp} {pc : Nat} {lv : List (Nat × Value)} {rest : List Value} {z : (zFr × zHp) ⊕ zRe}, zBk (call k as hp) pc lv rest = some z → zBk (call2 k as hp) pc lv rest = some z := by
    intro k as hp pc lv rest z h
    obtain ⟨r, h2, h3, rfl⟩ := zu_bk h
    rw [hc _ _ _ _ h3]
    rfl
  obtain ⟨ins, len, a, b, v⟩ := q
  cases ins with
  | arraylength =>
    have h : zAlen ztb none fr hp = some x := h
    show zAlen ztb ev fr hp = some x
    unfold zAlen at h ⊢
    split at h
    · split at h
      · next h1 => rw [if_pos h1]; exact h
      · next h1 =>
        rw [if_neg h1]
        split at h
        · next hj => rw [ztb_none hj]; exact h
        · cases h
    · cases h
  | iaload =>
    have h : zIald ztb none fr hp = some x := h
    show zIald ztb ev fr hp = some x
    unfold zIald at h ⊢
    split at h
    · split at h
      · next h1 => rw [if_pos h1]; exact h
      · next h1 =>
        rw [if_neg h1]
        split at h
        · next hj => rw [ztb_none hj]; exact h
        · cases h
    · cases h
  | baload =>
    have h : zBald ztb none fr hp = some x := h
    show zBald ztb ev fr hp = some x
    unfold zBald at h ⊢
    split at h
    · split at h
      · next h1 => rw [if_pos h1]; exact h
      · next h1 =>
        rw [if_neg h1]
        split at h
        · next hj => rw [ztb_none hj]; exact h
        · cases h
    · cases h
  | invokevirtual i =>
    have h : (if b = 9 then zCln fr hp else zCall call a (zar a).1 (zar a).2 fr hp) = some x := h
    show (if b = 9 then zCln fr hp else zCall call2 a (zar a).1 (zar a).2 fr hp) = some x
    by_cases hb : b = 9
    · rw [if_pos hb] at h ⊢
      exact h
    · rw [if_neg hb] at h ⊢
      unfold zCall at h ⊢
      split at h
      · split at h
        · next h1 => rw [if_pos h1]; exact hbk h
        · cases h
      · cases h
  | invokespecial i =>
    have h : (if b = 0 then zObj fr hp else zCalI call a (zar a).1 fr hp) = some x := h
    show (if b = 0 then zObj fr hp else zCalI call2 a (zar a).1 fr hp) = some x
    by_cases hb : b = 0
    · rw [if_pos hb] at h ⊢
      exact h
    · rw [if_neg hb] at h ⊢
      unfold zCalI at h ⊢
      split at h
      · split at h
        · next h1 => rw [if_pos h1]; exact hbk h
        · cases h
      · cases h
  | invokestatic i =>
    have h : (if b = 0 then zCpy fr hp else if b = 2 then zMax fr hp else if b = 3 then zMin fr hp else zCalS call a (zar a).1 fr hp) = some x := h
    show (if b = 0 then zCpy fr hp else if b = 2 then zMax fr hp else if b = 3 then zMin fr hp else zCalS call2 a (zar a).1 fr hp) = some x
    by_cases hb : b = 0
    · rw [if_pos hb] at h ⊢
      exact h
    · rw [if_neg hb] at h ⊢
      by_cases hb2 : b = 2
      · rw [if_pos hb2] at h ⊢
        exact h
      · rw [if_neg hb2] at h ⊢
        by_cases hb3 : b = 3
        · rw [if_pos hb3] at h ⊢
          exact h
        · rw [if_neg hb3] at h ⊢
          unfold zCalS at h ⊢
          split at h
          · next h1 => rw [if_pos h1]; exact hbk h
          · cases h
  | _ => exact h
theorem zrun_mono {ev : zEv} {call call2 : zCa} (hc : ∀ k as hp r, call k as hp = some r → call2 k as hp = some r) {nL : Nat} {rt : Option FieldType} {cd : List (Option zEn)} {r : zRe} : ∀ {f f2 : Nat} {fr : zFr} {hp : zHp}, f ≤ f2 → zrun zts none call nL rt cd f fr hp = some r → zrun zts ev call2 nL rt cd f2 fr hp = some r := by
  intro f
  induction f with
  | zero => intro f2 fr hp _ h; cases h
  | succ f ih =>
    intro f2 fr hp hf h
    cases f2 with
    | zero => omega
    | succ f2 =>
      unfold zrun at h ⊢
      split at h
      · cases h
      · next q hq =>
        try rw [hq]
        try dsimp only
        split at h
        · cases h
        · next fr' hp' hdo =>
          rw [zdo_mono hc hdo]
          dsimp only
          split at h
          · next hm => rw [if_pos hm]; exact ih (by omega) h
          · cases h
        · next r2 hdo =>
          rw [zdo_mono hc hdo]
          exact h
theorem zcall_mono {f f2 : Nat} (hf : f ≤ f2) : ∀ (d k : Nat) (as : List Value) (hp : zHp) (r : zRe), zcall zts zms f d k as hp = some r → zcall zts zms f2 d k as hp = some r
  | 0, k, as, hp, r, h => by cases h
  | d + 1, k, as, hp, r, h => by
    unfold zcall at h ⊢
    split at h
    · cases h
    · next md hmd =>
      try rw [hmd]
      try dsimp only
      split at h
      · next hc =>
        rw [if_pos hc]
        split at h
        · next rr hrun =>
          rw [zrun_mono (zcall_mono hf d) hf hrun]
          exact h
        · cases h
      · cases h
theorem zCan_of {f d k : Nat} {as : List Value} {hp : zHp} {r : zRe} (h : zcall zts zms f d k as hp = some r) : zCan d k as hp r := ⟨f, fun f2 hf => zcall_mono hf d k as hp r h⟩
def zstN (call : zCa) (nL : Nat) (rt : Option FieldType) (cd : List (Option zEn)) : Nat → zFr → zHp → Option (zFr × zHp)
  | 0, fr, hp => some (fr, hp)
  | n + 1, fr, hp => match zg cd fr.1 with
    | none => none
    | some q => match zdo zts none call nL rt q fr hp with
      | some (.inl (fr', hp')) => if hp.1 ≤ hp'.1 then zstN call nL rt cd n fr' hp' else none
      | _ => none
section ZPUR
variable {ev : zEv} {d nL : Nat} {rt : Option FieldType} {cd : List (Option zEn)} {fr fr' : zFr} {hp hp' : zHp} {r : zRe}
/-- a body's answer is the call's -/
theorem zCan_body {k : Nat} {as : List Value} (hm : zg zms k = some (nL, rt, cd)) (hl : (lg_sl as).length ≤ nL ∧ nL ≤ 41) (hg : hp.1 ≤ r.2.1) (h : zR none d nL rt cd (0, lv_args 0 as, []) hp r) : zCan (d + 1) k as hp r := by
  obtain ⟨n0, f0, h⟩ := h
  refine ⟨n0 + f0, fun f hf => ?_⟩
  unfold zcall
  rw [hm]
  dsimp only
  rw [if_pos hl, h f f (by omega) (by omega)]
  dsimp only
  rw [if_pos hg]
/-- a step that no call takes part in -/
theorem r_s {q : zEn} (hq : zg cd fr.1 = some q) (hd : ∀ call : zCa, zdo zts ev call nL rt q fr hp = some (.inl (fr', hp'))) (hm : hp.1 ≤ hp'.1) (K : zR ev d nL rt cd fr' hp' r) : zR ev d nL rt cd fr hp r := by
  obtain ⟨n0, f0, K⟩ := K
  refine ⟨n0 + 1, f0, fun f1 f2 h1 h2 => ?_⟩
  obtain ⟨g, rfl⟩ : ∃ g, f2 = g + 1 := ⟨f2 - 1, by omega⟩
  unfold zrun
  rw [hq]
  dsimp only
  rw [hd (zcall zts zms f1 d)]
  dsimp only
  rw [if_pos hm]
  exact K f1 g h1 (by omega)
theorem r_ret {q : zEn} (hq : zg cd fr.1 = some q) (hR : zisR q.1 = true) (hd : ∀ call : zCa, zdo zts ev call nL rt q fr hp = some (.inr r)) : zR ev d nL rt cd fr hp r := by
  refine ⟨1, 0, fun f1 f2 h1 h2 => ?_⟩
  obtain ⟨g, rfl⟩ : ∃ g, f2 = g + 1 := ⟨f2 - 1, by omega⟩
  unfold zrun
  rw [hq]
  dsimp only
  rw [hd (zcall zts zms f1 d)]
  dsimp only
  rw [if_pos hR]
/-- a call whose answer is known: a receiver -/
theorem r_call {pc i len k ix n ci : Nat} {lv : List (Nat × Value)} {as st rest : List Value} {v : Value} {rv : Option Value} (hq : zg cd pc = some (.invokevirtual i, len, k, 0, v)) (ha : zar k = (n, ci)) (hst : st.drop n = .ref ix :: rest) (htk : (st.take n).reverse = as) (hln : (st.take n).length = n) (hkd : zKd ix hp = some ci) (hsm : (rest.map fun v => v.category).sum ≤ 8) (hc : zCan d k (.ref ix :: as) hp (rv, hp')) (hm : hp.1 ≤ hp'.1) (K : zR ev d nL rt cd (pc + 3, lv, rv.toList ++ rest) hp' r) : zR ev d nL rt cd (pc, lv, st) hp r := by
  obtain ⟨n0, f0, K⟩ := K
  obtain ⟨fc, hc⟩ := hc
  refine ⟨n0 + 1, f0 + fc, fun f1 f2 h1 h2 => ?_⟩
  obtain ⟨g, rfl⟩ : ∃ g, f2 = g + 1 := ⟨f2 - 1, by omega⟩
  unfold zrun
  rw [hq]
  dsimp only
  have e : zdo zts ev (zcall zts zms f1 d) nL rt (.invokevirtual i, len, k, 0, v) (pc, lv, st) hp = some (.inl ((pc + 3, lv, rv.toList ++ rest), hp')) := by
    show zCall (zcall zts zms f1 d) k (zar k).1 (zar k).2 (pc, lv, st) hp = _
    rw [ha]
    unfold zCall
    dsimp only
    rw [hst]
    dsimp only
    rw [if_pos ⟨hln, hkd, hsm⟩, htk, hc f1 (by omega)]
    rfl
  rw [e]
  dsimp only
  rw [if_pos hm]
  exact K f1 g (by omega) (by omega)
/-- a static method's call whose answer is known -/
theorem r_callS {pc i len k n ci : Nat} {lv : List (Nat × Value)} {as st rest : List Value} {v : Value} {rv : Option Value} (hq : zg cd pc = some (.invokestatic i, len, k, 1, v)) (ha : zar k = (n, ci)) (hst : st.drop n = rest) (htk : (st.take n).reverse = as) (hln : (st.take n).length = n) (hsm : (rest.map fun v => v.category).sum ≤ 8) (hc : zCan d k as hp (rv, hp')) (hm : hp.1 ≤ hp'.1) (K : zR ev d nL rt cd (pc + 3, lv, rv.toList ++ rest) hp' r) : zR ev d nL rt cd (pc, lv, st) hp r := by
  obtain ⟨n0, f0, K⟩ := K
  obtain ⟨fc, hc⟩ := hc
  refine ⟨n0 + 1, f0 + fc, fun f1 f2 h1 h2 => ?_⟩
  obtain ⟨g, rfl⟩ : ∃ g, f2 = g + 1 := ⟨f2 - 1, by omega⟩
  unfold zrun
  rw [hq]
  dsimp only
  have e : zdo zts ev (zcall zts zms f1 d) nL rt (.invokestatic i, len, k, 1, v) (pc, lv, st) hp = some (.inl ((pc + 3, lv, rv.toList ++ rest), hp')) := by
    show zCalS (zcall zts zms f1 d) k (zar k).1 (pc, lv, st) hp = _
    rw [ha]
    unfold zCalS
    dsimp only
    rw [hst]
    rw [if_pos ⟨hln, hsm⟩, htk, hc f1 (by omega)]
    rfl
  rw [e]
  dsimp only
  rw [if_pos hm]
  exact K f1 g (by omega) (by omega)
/-- fields and rows, by what the cell is known to hold -/
theorem r_get {pc i len a b ix : Nat} {lv : List (Nat × Value)} {rest fs : List Value} {v v0 : Value} (hq : zg cd pc = some (.getfield i, len, a, b, v0)) (ha : ¬ a = 100) (hi : ix < hp.1 ∧ ix < zSC) (hc : hp.2 ix = .inr (a, fs)) (hv : fs[b]? = some v) (K : zR ev d nL rt cd (pc + 3, lv, v :: rest) hp r) : zR ev d nL rt cd (pc, lv, .ref ix :: rest) hp r := by
  refine r_s hq (fun call => ?_) (Nat.le_refl _) K
  show zGetf a b (pc, lv, .ref ix :: rest) hp = _
  unfold zGetf zn
  dsimp only
  rw [if_neg ha, if_pos hi, hc]
  dsimp only
  rw [if_pos rfl, hv]
theorem r_iald {pc len a b ix n : Nat} {lv : List (Nat × Value)} {rest : List Value} {v0 : Value} {f : Nat → Int32} {j : Int32} {x : Int32} (hq : zg cd pc = some (.iaload, len, a, b, v0)) (hi : ix < zSC ∧ ix < hp.1) (hc : hp.2 ix = .inl (0, n, .inl f)) (hj : ¬ (j < 0 ∨ n ≤ j.toNatClampNeg)) (hv : f j.toNatClampNeg = x) (K : zR ev d nL rt cd (pc + 1, lv, .int x :: rest) hp r) : zR ev d nL rt cd (pc, lv, .int j :: .ref ix :: rest) hp r := by
  refine r_s hq (fun call => ?_) (Nat.le_refl _) K
  show zIald ztb ev (pc, lv, .int j :: .ref ix :: rest) hp = _
  unfold zIald zn
  dsimp only
  rw [if_pos hi.1, if_pos hi.2, hc]
  show (if ¬ (j < 0 ∨ n ≤ j.toNatClampNeg) then zn (pc + 1) lv (.int (f j.toNatClampNeg) :: rest) hp else none) = _
  rw [if_pos hj, hv]
  rfl
theorem r_if {pc len a b : Nat} {lv : List (Nat × Value)} {rest : List Value} {v0 : Value} {cn : _root_.Jvm.ClassFile.Cond} {off : Int} {x : Int32} (hq : zg cd pc = some (.ifCond cn off, len, a, b, v0)) (kt : zcmp cn x 0 = true → zR ev d nL rt cd (a, lv, rest) hp r) (kf : zcmp cn x 0 = false → zR ev d nL rt cd (pc + 3, lv, rest) hp r) : zR ev d nL rt cd (pc, lv, .int x :: rest) hp r := by
  by_cases h : zcmp cn x 0 = true
  · refine r_s hq (fun call => ?_) (Nat.le_refl _) (kt h)
    show zIf cn a (pc, lv, .int x :: rest) hp = _
    unfold zIf zn
    dsimp only
    rw [if_pos h]
  · refine r_s hq (fun call => ?_) (Nat.le_refl _) (kf (by cases hb : zcmp cn x 0 <;> simp_all))
    show zIf cn a (pc, lv, .int x :: rest) hp = _
    unfold zIf zn
    dsimp only
    rw [if_neg h]
theorem r_ifc {pc len a b : Nat} {lv : List (Nat × Value)} {rest : List Value} {v0 : Value} {cn : _root_.Jvm.ClassFile.Cond} {off : Int} {x y : Int32} (hq : zg cd pc = some (.if_icmp cn off, len, a, b, v0)) (kt : zcmp cn x y = true → zR ev d nL rt cd (a, lv, rest) hp r) (kf : zcmp cn x y = false → zR ev d nL rt cd (pc + 3, lv, rest) hp r) : zR ev d nL rt cd (pc, lv, .int y :: .int x :: rest) hp r := by
  by_cases h : zcmp cn x y = true
  · refine r_s hq (fun call => ?_) (Nat.le_refl _) (kt h)
    show zIfc cn a (pc, lv, .int y :: .int x :: rest) hp = _
    unfold zIfc zn
    dsimp only
    rw [if_pos h]
  · refine r_s hq (fun call => ?_) (Nat.le_refl _) (kf (by cases hb : zcmp cn x y <;> simp_all))
    show zIfc cn a (pc, lv, .int y :: .int x :: rest) hp = _
    unfold zIfc zn
    dsimp only
    rw [if_neg h]
/-- stores -/
theorem r_put {pc i len a b ix : Nat} {lv : List (Nat × Value)} {rest fs : List Value} {v v0 : Value} (hq : zg cd pc = some (.putfield i, len, a, b, v0)) (hi : ix < hp.1 ∧ ix < zSC ∧ zfit (ztyp a b) v = true) (hc : hp.2 ix = .inr (a, fs)) (hb : b < fs.length) (K : zR ev d nL rt cd (pc + 3, lv, rest) (hp.1, zup hp.2 ix (.inr (a, fs.set b v))) r) : zR ev d nL rt cd (pc, lv, v :: .ref ix :: rest) hp r := by
  refine r_s (hp' := (hp.1, zup hp.2 ix _)) hq (fun call => ?_) (Nat.le_refl _) K
  show zPutf (ztyp a b) a b (pc, lv, v :: .ref ix :: rest) hp = _
  unfold zPutf zn
  dsimp only
  rw [if_pos hi, hc]
  dsimp only
  rw [if_pos ⟨rfl, hb⟩]
theorem r_iast {pc len a b ix n : Nat} {lv : List (Nat × Value)} {rest : List Value} {v0 : Value} {f : Nat → Int32} {j x : Int32} (hq : zg cd pc = some (.iastore, len, a, b, v0)) (hi : ix < hp.1 ∧ ix < zSC) (hc : hp.2 ix = .inl (0, n, .inl f)) (hj : ¬ (j < 0 ∨ n ≤ j.toNatClampNeg)) (K : zR ev d nL rt cd (pc + 1, lv, rest) (hp.1, zup hp.2 ix (.inl (0, n, .inl (upd f j.toNatClampNeg x)))) r) : zR ev d nL rt cd (pc, lv, .int x :: .int j :: .ref ix :: rest) hp r := by
  refine r_s (hp' := (hp.1, zup hp.2 ix _)) hq (fun call => ?_) (Nat.le_refl _) K
  show zIast (pc, lv, .int x :: .int j :: .ref ix :: rest) hp = _
  unfold zIast zn
  dsimp only
  rw [if_pos hi, hc]
  show (if ¬ (j < 0 ∨ n ≤ j.toNatClampNeg) then zn (pc + 1) lv rest (hp.1, zup hp.2 ix (.inl (0, n, .inl (upd f j.toNatClampNeg x)))) else none) = _
  rw [if_pos hj]
  rfl
theorem r_bast {pc len a b ix n : Nat} {lv : List (Nat × Value)} {rest : List Value} {v0 : Value} {f : Nat → Int32} {j x : Int32} (hq : zg cd pc = some (.bastore, len, a, b, v0)) (hi : ix < hp.1 ∧ ix < zSC) (hc : hp.2 ix = .inl (1, n, .inl f)) (hj : ¬ (j < 0 ∨ n ≤ j.toNatClampNeg)) (K : zR ev d nL rt cd (pc + 1, lv, rest) (hp.1, zup hp.2 ix (.inl (1, n, .inl (upd f j.toNatClampNeg (vp_nar .byte x))))) r) : zR ev d nL rt cd (pc, lv, .int x :: .int j :: .ref ix :: rest) hp r := by
  refine r_s (hp' := (hp.1, zup hp.2 ix _)) hq (fun call => ?_) (Nat.le_refl _) K
  show zBast (pc, lv, .int x :: .int j :: .ref ix :: rest) hp = _
  unfold zBast zn
  dsimp only
  rw [if_pos hi, hc]
  show (if ¬ (j < 0 ∨ n ≤ j.toNatClampNeg) then zn (pc + 1) lv rest (hp.1, zup hp.2 ix (.inl (1, n, .inl (upd f j.toNatClampNeg (vp_nar .byte x))))) else none) = _
  rw [if_pos hj]
  rfl
/-- a stretch of closed steps -/
theorem r_N {f : Nat} : ∀ (n : Nat) {fr fr' : zFr} {hp hp' : zHp}, zstN (zcall zts zms f d) nL rt cd n fr hp = some (fr', hp') → zR ev d nL rt cd fr' hp' r → zR ev d nL rt cd fr hp r := by
  intro n
  induction n with
  | zero => intro fr fr' hp hp' h K; cases h; exact K
  | succ n ih =>
    intro fr fr' hp hp' h K
    unfold zstN at h
    split at h
    · cases h
    · next q hq =>
      split at h
      · next fr2 hp2 hdo =>
        split at h
        · next hm =>
          obtain ⟨n0, f0, K2⟩ := ih h K
          refine ⟨n0 + 1, f0 + f, fun f1 f2 h1 h2 => ?_⟩
          obtain ⟨g, rfl⟩ : ∃ g, f2 = g + 1 := ⟨f2 - 1, by omega⟩
          unfold zrun
          rw [hq]
          dsimp only
          rw [zdo_mono (zcall_mono (show f ≤ f1 by omega) d) hdo]
          dsimp only
          rw [if_pos hm]
          exact K2 f1 g (by omega) (by omega)
        · cases h
      · cases h
end ZPUR
