section
theorem zs_start {p : Program} {e : Env} {s : State} {m : MethodId} {below : List Frame} {meth : Method} {c : Code} (l : Launch) {b L : Nat} {xs : Nat → Int32} (C0 : lw_At p s m meth c b L xs) {f1 f : Nat} {hpF : zHp} (hrun : zlaw f1 f L xs = some (some (.int 1), hpF)) (hF : hpF.1 ≤ 2000) : W p l e room_1 s m #[Value.ref b] below meth c s.heap [] 0 0 (lw_Z below #[Value.ref b] s) (entryFrame m ([Value.ref b] : List Value).toArray 4) := by
  obtain ⟨hx, hb, hr, hml, hown, hts, hX, hbl, hlocks, hgv⟩ := C0
  have hs : ∀ q, zfm q = true → q.before #[Value.ref b] s = true := fun q h => flat_of_before _ hgv q (of_decide_eq_true h)
  have hw : ∀ q, zlm_w q = true → q.before #[Value.ref b] s = true := fun q h => hts q (of_decide_eq_true h)
  have ht2 : ∀ q ∈ zTw, q.before #[Value.ref b] s = true := fun q h => hts q (List.mem_filter.mp h).1
  have hA : ∀ a : Nat, a < s.heap.size → ¬ (fun q : Nat => s.heap.size ≤ q) a := fun a h h2 => absurd h (Nat.not_lt.mpr h2)
  obtain ⟨adK, adV, hSt, hEv⟩ := vk_Sof (args := #[Value.ref b]) (s := s) (N := 6) (tm := ztm) (len := zsl) (byt := zsb) (A := fun q : Nat => s.heap.size ≤ q) zst_ln (fun i hi => hs _ (zra zst_ex hi)) (fun i hi => hs _ (zra zst_co hi)) (fun i hi => hs _ (zra zst_ar hi)) (fun i hi => hs _ (zra zst_le hi)) (fun i hi j hj => hs _ (zra (zra zst_el hi) hj)) (fun i j hi hj hij => by
    have h := zra (zra zst_ne hi) hj
    simp only [Bool.or_eq_true, decide_eq_true_eq] at h
    rcases h with h | h | h
    · exact absurd h hij
    · exact Or.inl (hs _ h)
    · exact Or.inr (hs _ h)) hA
  have hTo : ∀ i : Nat, ∃ t : Nat, i < 3 → (zrt i).eval #[Value.ref b] s none [] s = some (.ref t) ∧ va_T .int t (zrw.getD i []).length (fun j => .int ((zrw.getD i []).getD j 0)) (fun q : Nat => s.heap.size ≤ q) s s.heap := by
    intro i
    by_cases hi : i < 3
    · obtain ⟨t, h1, h2⟩ := va_Tof (args := #[Value.ref b]) (s := s) (tm := zrt i) (ty := .int) (N := (zrw.getD i []).length) (f := fun j => .int ((zrw.getD i []).getD j 0)) (A := fun q : Nat => s.heap.size ≤ q) (by rcases (show i = 0 ∨ i = 1 ∨ i = 2 by omega) with rfl | rfl | rfl <;> decide) (hs _ (zra zrw_ar hi)) (va_eqt (hs _ (zra zrw_le hi))) (fun j hj => va_eqt (hs _ (zra (zra zrw_el hi) hj))) hA
      exact ⟨t, fun _ => ⟨h1, h2⟩⟩
    · exact ⟨0, fun h => absurd h hi⟩
  obtain ⟨adR, hRo⟩ := Classical.axiomOfChoice hTo
  obtain ⟨fmt, hfmt⟩ : ∃ r : Option Nat, va_Z "jdk/internal/util/Preconditions" "SIOOBE_FORMATTER" "Ljava/util/function/BiFunction;" (va_rf r) (fun q : Nat => s.heap.size ≤ q) s s.heap := by
    rcases va_Zqof (hw _ zfo_1) (hw _ zfo_2) (hs _ zfo_3) hA with h | ⟨t, h⟩
    · exact ⟨none, h⟩
    · exact ⟨some t, h⟩
  have hCl : ∀ k : Nat, ∃ z : ClassId × (Nat → Nat), ∀ q : vw_C, zcls[k]? = some q → u_Kn s q.1 q.2.1 q.2.2 z.1 z.2 := by
    intro k
    cases hq : zcls[k]? with
    | none => exact ⟨(0, fun _ => 0), fun q h => by cases h⟩
    | some q =>
      obtain ⟨cC, iS, h⟩ := u_known (n := q.2.2) ht2 (zk_all hq).1 (ht2 _ (zin_mem (List.all_eq_true.mp zins_1 q (List.mem_of_getElem? hq))))
      exact ⟨(cC, iS), fun q2 h2 => by cases h2; exact h⟩
  obtain ⟨dd, hdd⟩ := Classical.axiomOfChoice hCl
  obtain ⟨c0, k0, m0, a01, a02, a03⟩ := Cond.arrayClass_spec (ht2 _ (zin_mem zar_i))
  obtain ⟨c1, k1, m1, a11, a12, a13⟩ := Cond.arrayClass_spec (ht2 _ (zin_mem zar_b))
  obtain ⟨c2, k2, m2, a21, a22, a23⟩ := Cond.arrayClass_spec (ht2 _ (zin_mem zar_z))
  obtain ⟨c3, k3, m3, a31, a32, a33⟩ := Cond.arrayClass_spec (ht2 _ (zin_mem zar_l))
  obtain ⟨m4, c4, k4, a41, a42, a43, a44, a45⟩ := Cond.arrayOver_spec (hw _ zao_1)
  obtain ⟨m5, c5, k5, a51, a52, a53, a54, a55⟩ := _root_.Jvm.Stand.arrayOver_specB (hw _ zao_2)
  have harr : ∀ {cA : ClassId} {kA : Class} {cm : ClassId} {ty : FieldType}, s.vm.classes[cA]? = some kA → kA.kind = .array cm ty → ArrOfT s cA ty := fun h1 h2 n z => ⟨(fun k h => by cases h), _, h1, _, h2⟩
  obtain ⟨w, ew⟩ : ∃ w : zWd, w = (s.heap.size, (fun j => if j = 0 then b else if j < 7 then adK (j - 1) else if j < 26 then adV (j - 20) else adR (j - 30)), (fun t => match t with | 0 => c0 | 1 => c1 | 2 => c2 | 3 => c3 | 4 => c4 | _ => c5), ((fun k => (dd k).1), (fun k => (dd k).2)), fmt) := ⟨_, rfl⟩
  have w1 : w.1 = s.heap.size := by rw [ew]
  have wA : zA w = fun q : Nat => s.heap.size ≤ q := by unfold zA; rw [w1]
  have we0 : w.2.1 0 = b := by rw [ew]; rfl
  have weK : ∀ j, j < 6 → w.2.1 (1 + j) = adK j := fun j hj => by
    rw [ew]
    show (if 1 + j = 0 then b else if 1 + j < 7 then adK (1 + j - 1) else if 1 + j < 26 then adV (1 + j - 20) else adR (1 + j - 30)) = adK j
    rw [if_neg (by omega), if_pos (by omega), Nat.add_sub_cancel_left]
  have weV : ∀ j, j < 6 → w.2.1 (20 + j) = adV j := fun j hj => by
    rw [ew]
    show (if 20 + j = 0 then b else if 20 + j < 7 then adK (20 + j - 1) else if 20 + j < 26 then adV (20 + j - 20) else adR (20 + j - 30)) = adV j
    rw [if_neg (by omega), if_neg (by omega), if_pos (by omega), Nat.add_sub_cancel_left]
  have weR : ∀ j, j < 3 → w.2.1 (30 + j) = adR j := fun j hj => by
    rw [ew]
    show (if 30 + j = 0 then b else if 30 + j < 7 then adK (30 + j - 1) else if 30 + j < 26 then adV (30 + j - 20) else adR (30 + j - 30)) = adR j
    rw [if_neg (by omega), if_neg (by omega), if_neg (by omega), Nat.add_sub_cancel_left]
  have hK : va_K w.2.2.2.1 zcls (ztys w) s := by
    refine ⟨fun k q hq => ?_, fun k q hq => ?_⟩
    · rw [ew]
      exact hdd k q hq
    · have hk : k < 6 := (List.getElem?_eq_some_iff.mp hq).1
      rw [ew] at hq
      rcases (show k = 0 ∨ k = 1 ∨ k = 2 ∨ k = 3 ∨ k = 4 ∨ k = 5 by omega) with rfl | rfl | rfl | rfl | rfl | rfl <;> cases hq
      · exact ⟨harr a02 a03, a01⟩
      · exact ⟨harr a12 a13, a11⟩
      · exact ⟨harr a22 a23, a21⟩
      · exact ⟨harr a32 a33, a31⟩
      · exact ⟨harr a43 a44, k4, m4, a43, a44, a41, a45⟩
      · exact ⟨harr a53 a54, a55⟩
  have hZr : ∀ j, j < 3 → va_Z "LentTools$VillageReader" (zrn j) "[I" (.ref (w.2.1 (30 + j))) (fun q : Nat => s.heap.size ≤ q) s s.heap := fun j hj => by
    rw [weR j hj]
    exact va_Zref (hw _ (zra zrw_ls hj)) (hw _ zrw_in) (hRo j hj).1 hA
  have hSp : zSp w (some (L, xs)) s s.heap := by
    refine ⟨hK, ?_, ?_, ?_, ?_, ?_, va_AO.of (hw _ zao_1), hw _ zao_2, va_Nw.of rfl (hw _ zcl_9)⟩
    · intro j t n g hj
      rw [wA]
      unfold ztb at hj
      by_cases j0 : j = 0
      · rw [if_pos j0] at hj
        cases hj
        subst j0
        rw [we0]
        obtain ⟨scr, q1, q2, q3, q4, q5⟩ := hX
        exact ⟨scr, q1, q2, q3, Nat.le_of_eq q4.symm, (by rw [q4]; first | done | rfl), q5, hA b hbl⟩
      · rw [if_neg j0] at hj
        by_cases j1 : 20 ≤ j ∧ j < 26
        · rw [if_pos j1] at hj
          cases hj
          obtain ⟨i, rfl⟩ : ∃ i, j = 20 + i := ⟨j - 20, by omega⟩
          rw [weV i (by omega), Nat.add_sub_cancel_left]
          exact (hSt.1 i (by omega)).2.2.2
        · rw [if_neg j1] at hj
          by_cases j2 : 30 ≤ j ∧ j < 33
          · rw [if_pos j2] at hj
            cases hj
            obtain ⟨i, rfl⟩ : ∃ i, j = 30 + i := ⟨j - 30, by omega⟩
            rw [weR i (by omega), Nat.add_sub_cancel_left]
            exact (hRo i (by omega)).2
          · rw [if_neg j2] at hj
            cases hj
    · intro j hj
      rw [wA, weK j hj, weV j hj]
      obtain ⟨q1, q2, q3, -⟩ := hSt.1 j hj
      exact ⟨q1, q2, q3⟩
    · intro q hq
      obtain ⟨h6, hq2⟩ := zstr_i q hq
      rw [weK _ h6]
      have h1 := hw _ (zra zsr_1 h6)
      have h2 := hEv _ h6
      unfold ztm at h2
      rw [← hq2] at h1 h2
      exact vk_R.of h1 h2
    · intro q hq
      exact va_Nw.of rfl (hw _ (List.all_eq_true.mp zne_1 q hq))
    · intro a ha
      rw [wA]
      have eR : ∀ j, j < 3 → ztv w (.ref (1030 + j)) = .ref (w.2.1 (30 + j)) := fun j hj => by
        show Value.ref (zta w (1030 + j)) = _
        rw [zta_hi w (show ¬ (1030 + j : Nat) < 1000 by omega), show (1030 + j : Nat) - zSC = 30 + j by show (1030 + j : Nat) - 1000 = 30 + j; omega]
      rcases (show a = 0 ∨ a = 1 ∨ a = 2 ∨ a = 3 ∨ a = 4 by omega) with rfl | rfl | rfl | rfl | rfl
      · exact va_Zof (hw _ zcs_1) (hw _ zcs_2) (va_eqt (hs _ zcs_3)) hA
      · have h9 := hZr 0 (by decide)
        rw [← eR 0 (by decide)] at h9
        exact h9
      · have h9 := hZr 1 (by decide)
        rw [← eR 1 (by decide)] at h9
        exact h9
      · have h9 := hZr 2 (by decide)
        rw [← eR 2 (by decide)] at h9
        exact h9
      · have e9 : ztv w (.retAddr 0) = va_rf fmt := by rw [ew]; rfl
        show va_Z _ _ _ (ztv w (.retAddr 0)) _ _ _
        rw [e9]
        exact hfmt
  have C : zCx w (some (L, xs)) 20 zyL code 4 ret 0 hpF.1 p room_1 s m #[Value.ref b] meth c :=
    ⟨hx, hb, hml, hr, hown, ht2, hlocks, fun h => absurd h (by decide), by rw [w1]; exact Nat.le_refl _, hSp, by decide, by decide, by show hpF.1 - 0 ≤ 600000; omega, by show 3000 * (hpF.1 - 0) ≤ 7302250; omega⟩
  have run := zs_run (l := l) (e := e) (below := below) (Q := lw_Z below #[Value.ref b] s) C (zs_zcall w f1 20) zokL (r := some (.int 1)) (hpF := hpF) (Nat.le_refl _) (fun pc H locs ls hH hS hdec hrok => ?_) f (0, [(0, .ref zSC)], []) zh0 (Nat.le_refl _) hrun
  · have hl := lv_entry ([.ref b]) (n := 4) (Nat.le_of_ble_eq_true rfl)
    rw [lg_entry_eq]
    generalize (lg_sl ([.ref b]) ++ List.replicate (4 - (lg_sl ([.ref b])).length) Slot.unset).toArray = ls at hl ⊢
    have k := run.2 s.heap [] ls ⟨by rw [w1]; rfl, fun k q h => by cases h⟩ va_S.rf (by
      show lv_has ls 4 [(0, .ref (zta w zSC))]
      have e9 : zta w zSC = b := by
        rw [zta_hi w (Nat.lt_irrefl _), Nat.sub_self]
        exact we0
      rw [e9]
      exact hl)
    exact k
  · refine va_forget (fun q hq => by have h9 := hS.2.2 q hq; rw [wA] at h9; exact h9) ?_
    refine W.widen (k := 600000) (n := 7302250) (by omega) (by show 3000 * (hpF.1 - 0) ≤ 7302250; omega) ?_
    exact lw_ret hx hb hr hlocks hdec
end
section
/-! Runs of the interpreter, whatever the fuel: judgements and rules. -/
/-- a body comes to r from here, with calls to depth d -/
def zR (ev : zEv) (d nL : Nat) (rt : Option FieldType) (cd : List (Option zEn)) (fr : zFr) (hp : zHp) (r : zRe) : Prop := ∃ n0 f0 : Nat, ∀ f1 f2 : Nat, f0 ≤ f1 → n0 ≤ f2 → zrun zts ev (zcall zts zms f1 d) nL rt cd f2 fr hp = some r
/-- a call answers r -/
def zCan (d k : Nat) (as : List Value) (hp : zHp) (r : zRe) : Prop := ∃ f0 : Nat, ∀ f : Nat, f0 ≤ f → zcall zts zms f d k as hp = some r
theorem zdo_mono {ev : zEv} {call call2 : zCa} (hc : ∀ k as hp r, call k as hp = some r → call2 k as hp = some r) {nL : Nat} {rt : Option FieldType} {q : zEn} {fr : zFr} {hp : zHp} {x : (zFr × zHp) ⊕ zRe} (h : zdo zts none call nL rt q fr hp = some x) : zdo zts ev call2 nL rt q fr hp = some x := by
  have hbk : ∀ {k : Nat} {as : List Value} {hp : zHp} {pc : Nat} {lv : List (Nat × Value)} {rest : List Value} {z : (zFr × zHp) ⊕ zRe}, zBk (call k as hp) pc lv rest = some z → zBk (call2 k as hp) pc lv rest = some z := by
    intro k as hp pc lv rest z h
    obtain ⟨r, h2, h3, rfl⟩ := zu_bk h
    rw [hc _ _ _ _ h3]
    rfl
  obtain ⟨ins, len, a, b, v⟩ := q
  cases ins with
  | arraylength =>
    have h : zAlen ztb none fr hp = some x := h
    show zAlen ztb ev fr hp = some x
    unfold zAlen at h ⊢
    split at h
    · split at h
      · next h1 => rw [if_pos h1]; exact h
      · next h1 =>
        rw [if_neg h1]
        split at h
        · next hj => rw [ztb_none hj]; exact h
        · cases h
    · cases h
  | iaload =>
    have h : zIald ztb none fr hp = some x := h
    show zIald ztb ev fr hp = some x
    unfold zIald at h ⊢
    split at h
    · split at h
      · next h1 => rw [if_pos h1]; exact h
      · next h1 =>
        rw [if_neg h1]
        split at h
        · next hj => rw [ztb_none hj]; exact h
        · cases h
    · cases h
  | baload =>
    have h : zBald ztb none fr hp = some x := h
    show zBald ztb ev fr hp = some x
    unfold zBald at h ⊢
    split at h
    · split at h
      · next h1 => rw [if_pos h1]; exact h
      · next h1 =>
        rw [if_neg h1]
        split at h
        · next hj => rw [ztb_none hj]; exact h
        · cases h
    · cases h
  | invokevirtual i =>
    have h : (if b = 9 then zCln fr hp else zCall call a (zar a).1 (zar a).2 fr hp) = some x := h
    show (if b = 9 then zCln fr hp else zCall call2 a (zar a).1 (zar a).2 fr hp) = some x
    by_cases hb : b = 9
    · rw [if_pos hb] at h ⊢
      exact h
    · rw [if_neg hb] at h ⊢
      unfold zCall at h ⊢
      split at h
      · split at h
        · next h1 => rw [if_pos h1]; exact hbk h
        · cases h
      · cases h
  | invokespecial i =>
    have h : (if b = 0 then zObj fr hp else zCalI call a (zar a).1 fr hp) = some x := h
    show (if b = 0 then zObj fr hp else zCalI call2 a (zar a).1 fr hp) = some x
    by_cases hb : b = 0
    · rw [if_pos hb] at h ⊢
      exact h
    · rw [if_neg hb] at h ⊢
      unfold zCalI at h ⊢
      split at h
      · split at h
        · next h1 => rw [if_pos h1]; exact hbk h
        · cases h
      · cases h
  | invokestatic i =>
    have h : (if b = 0 then zCpy fr hp else if b = 2 then zMax fr hp else if b = 3 then zMin fr hp else zCalS call a (zar a).1 fr hp) = some x := h
    show (if b = 0 then zCpy fr hp else if b = 2 then zMax fr hp else if b = 3 then zMin fr hp else zCalS call2 a (zar a).1 fr hp) = some x
    by_cases hb : b = 0
    · rw [if_pos hb] at h ⊢
      exact h
    · rw [if_neg hb] at h ⊢
      by_cases hb2 : b = 2
      · rw [if_pos hb2] at h ⊢
        exact h
      · rw [if_neg hb2] at h ⊢
        by_cases hb3 : b = 3
        · rw [if_pos hb3] at h ⊢
          exact h
        · rw [if_neg hb3] at h ⊢
          unfold zCalS at h ⊢
          split at h
          · next h1 => rw [if_pos h1]; exact hbk h
          · cases h
  | _ => exact h
theorem zrun_mono {ev : zEv} {call call2 : zCa} (hc : ∀ k as hp r, call k as hp = some r → call2 k as hp = some r) {nL : Nat} {rt : Option FieldType} {cd : List (Option zEn)} {r : zRe} : ∀ {f f2 : Nat} {fr : zFr} {hp : zHp}, f ≤ f2 → zrun zts none call nL rt cd f fr hp = some r → zrun zts ev call2 nL rt cd f2 fr hp = some r := by
  intro f
  induction f with
  | zero => intro f2 fr hp _ h; cases h
  | succ f ih =>
    intro f2 fr hp hf h
    cases f2 with
    | zero => omega
    | succ f2 =>
      unfold zrun at h ⊢
      split at h
      · cases h
      · next q hq =>
        try rw [hq]
        try dsimp only
        split at h
        · cases h
        · next fr' hp' hdo =>
          rw [zdo_mono hc hdo]
          dsimp only
          split at h
          · next hm => rw [if_pos hm]; exact ih (by omega) h
          · cases h
        · next r2 hdo =>
          rw [zdo_mono hc hdo]
          exact h
theorem zcall_mono {f f2 : Nat} (hf : f ≤ f2) : ∀ (d k : Nat) (as : List Value) (hp : zHp) (r : zRe), zcall zts zms f d k as hp = some r → zcall zts zms f2 d k as hp = some r
  | 0, k, as, hp, r, h => by cases h
  | d + 1, k, as, hp, r, h => by
    unfold zcall at h ⊢
    split at h
    · cases h
    · next md hmd =>
      try rw [hmd]
      try dsimp only
      split at h
      · next hc =>
        rw [if_pos hc]
        split at h
        · next rr hrun =>
          rw [zrun_mono (zcall_mono hf d) hf hrun]
          exact h
        · cases h
      · cases h
theorem zCan_of {f d k : Nat} {as : List Value} {hp : zHp} {r : zRe} (h : zcall zts zms f d k as hp = some r) : zCan d k as hp r := ⟨f, fun f2 hf => zcall_mono hf d k as hp r h⟩
def zstN (call : zCa) (nL : Nat) (rt : Option FieldType) (cd : List (Option zEn)) : Nat → zFr → zHp → Option (zFr × zHp)
  | 0, fr, hp => some (fr, hp)
  | n + 1, fr, hp => match zg cd fr.1 with
    | none => none
    | some q => match zdo zts none call nL rt q fr hp with
      | some (.inl (fr', hp')) => if hp.1 ≤ hp'.1 then zstN call nL rt cd n fr' hp' else none
      | _ => none
section ZPUR
variable {ev : zEv} {d nL : Nat} {rt : Option FieldType} {cd : List (Option zEn)} {fr fr' : zFr} {hp hp' : zHp} {r : zRe}
/-- a body's answer is the call's -/
theorem zCan_body {k : Nat} {as : List Value} (hm : zg zms k = some (nL, rt, cd)) (hl : (lg_sl as).length ≤ nL ∧ nL ≤ 41) (hg : hp.1 ≤ r.2.1) (h : zR none d nL rt cd (0, lv_args 0 as, []) hp r) : zCan (d + 1) k as hp r := by
  obtain ⟨n0, f0, h⟩ := h
  refine ⟨n0 + f0, fun f hf => ?_⟩
  unfold zcall
  rw [hm]
  dsimp only
  rw [if_pos hl, h f f (by omega) (by omega)]
  dsimp only
  rw [if_pos hg]
/-- a step that no call takes part in -/
theorem r_s {q : zEn} (hq : zg cd fr.1 = some q) (hd : ∀ call : zCa, zdo zts ev call nL rt q fr hp = some (.inl (fr', hp'))) (hm : hp.1 ≤ hp'.1) (K : zR ev d nL rt cd fr' hp' r) : zR ev d nL rt cd fr hp r := by
  obtain ⟨n0, f0, K⟩ := K
  refine ⟨n0 + 1, f0, fun f1 f2 h1 h2 => ?_⟩
  obtain ⟨g, rfl⟩ : ∃ g, f2 = g + 1 := ⟨f2 - 1, by omega⟩
  unfold zrun
  rw [hq]
  dsimp only
  rw [hd (zcall zts zms f1 d)]
  dsimp only
  rw [if_pos hm]
  exact K f1 g h1 (by omega)
theorem r_ret {q : zEn} (hq : zg cd fr.1 = some q) (hR : zisR q.1 = true) (hd : ∀ call : zCa, zdo zts ev call nL rt q fr hp = some (.inr r)) : zR ev d nL rt cd fr hp r := by
  refine ⟨1, 0, fun f1 f2 h1 h2 => ?_⟩
  obtain ⟨g, rfl⟩ : ∃ g, f2 = g + 1 := ⟨f2 - 1, by omega⟩
  unfold zrun
  rw [hq]
  dsimp only
  rw [hd (zcall zts zms f1 d)]
  dsimp only
  rw [if_pos hR]
/-- a call whose answer is known: a receiver -/
theorem r_call {pc i len k ix n ci : Nat} {lv : List (Nat × Value)} {as st rest : List Value} {v : Value} {rv : Option Value} (hq : zg cd pc = some (.invokevirtual i, len, k, 0, v)) (ha : zar k = (n, ci)) (hst : st.drop n = .ref ix :: rest) (htk : (st.take n).reverse = as) (hln : (st.take n).length = n) (hkd : zKd ix hp = some ci) (hsm : (rest.map fun v => v.category).sum ≤ 8) (hc : zCan d k (.ref ix :: as) hp (rv, hp')) (hm : hp.1 ≤ hp'.1) (K : zR ev d nL rt cd (pc + 3, lv, rv.toList ++ rest) hp' r) : zR ev d nL rt cd (pc, lv, st) hp r := by
  obtain ⟨n0, f0, K⟩ := K
  obtain ⟨fc, hc⟩ := hc
  refine ⟨n0 + 1, f0 + fc, fun f1 f2 h1 h2 => ?_⟩
  obtain ⟨g, rfl⟩ : ∃ g, f2 = g + 1 := ⟨f2 - 1, by omega⟩
  unfold zrun
  rw [hq]
  dsimp only
  have e : zdo zts ev (zcall zts zms f1 d) nL rt (.invokevirtual i, len, k, 0, v) (pc, lv, st) hp = some (.inl ((pc + 3, lv, rv.toList ++ rest), hp')) := by
    show zCall (zcall zts zms f1 d) k (zar k).1 (zar k).2 (pc, lv, st) hp = _
    rw [ha]
    unfold zCall
    dsimp only
    rw [hst]
    dsimp only
    rw [if_pos ⟨hln, hkd, hsm⟩, htk, hc f1 (by omega)]
    rfl
  rw [e]
  dsimp only
  rw [if_pos hm]
  exact K f1 g (by omega) (by omega)
/-- a static method's call whose answer is known -/
theorem r_callS {pc i len k n ci : Nat} {lv : List (Nat × Value)} {as st rest : List Value} {v : Value} {rv : Option Value} (hq : zg cd pc = some (.invokestatic i, len, k, 1, v)) (ha : zar k = (n, ci)) (hst : st.drop n = rest) (htk : (st.take n).reverse = as) (hln : (st.take n).length = n) (hsm : (rest.map fun v => v.category).sum ≤ 8) (hc : zCan d k as hp (rv, hp')) (hm : hp.1 ≤ hp'.1) (K : zR ev d nL rt cd (pc + 3, lv, rv.toList ++ rest) hp' r) : zR ev d nL rt cd (pc, lv, st) hp r := by
  obtain ⟨n0, f0, K⟩ := K
  obtain ⟨fc, hc⟩ := hc
  refine ⟨n0 + 1, f0 + fc, fun f1 f2 h1 h2 => ?_⟩
  obtain ⟨g, rfl⟩ : ∃ g, f2 = g + 1 := ⟨f2 - 1, by omega⟩
  unfold zrun
  rw [hq]
  dsimp only
  have e : zdo zts ev (zcall zts zms f1 d) nL rt (.invokestatic i, len, k, 1, v) (pc, lv, st) hp = some (.inl ((pc + 3, lv, rv.toList ++ rest), hp')) := by
    show zCalS (zcall zts zms f1 d) k (zar k).1 (pc, lv, st) hp = _
    rw [ha]
    unfold zCalS
    dsimp only
    rw [hst]
    rw [if_pos ⟨hln, hsm⟩, htk, hc f1 (by omega)]
    rfl
  rw [e]
  dsimp only
  rw [if_pos hm]
  exact K f1 g (by omega) (by omega)
/-- fields and rows, by what the cell is known to hold -/
theorem r_get {pc i len a b ix : Nat} {lv : List (Nat × Value)} {rest fs : List Value} {v v0 : Value} (hq : zg cd pc = some (.getfield i, len, a, b, v0)) (ha : ¬ a = 100) (hi : ix < hp.1 ∧ ix < zSC) (hc : hp.2 ix = .inr (a, fs)) (hv : fs[b]? = some v) (K : zR ev d nL rt cd (pc + 3, lv, v :: rest) hp r) : zR ev d nL rt cd (pc, lv, .ref ix :: rest) hp r := by
  refine r_s hq (fun call => ?_) (Nat.le_refl _) K
  show zGetf a b (pc, lv, .ref ix :: rest) hp = _
  unfold zGetf zn
  dsimp only
  rw [if_neg ha, if_pos hi, hc]
  dsimp only
  rw [if_pos rfl, hv]
theorem r_iald {pc len a b ix n : Nat} {lv : List (Nat × Value)} {rest : List Value} {v0 : Value} {f : Nat → Int32} {j : Int32} {x : Int32} (hq : zg cd pc = some (.iaload, len, a, b, v0)) (hi : ix < zSC ∧ ix < hp.1) (hc : hp.2 ix = .inl (0, n, .inl f)) (hj : ¬ (j < 0 ∨ n ≤ j.toNatClampNeg)) (hv : f j.toNatClampNeg = x) (K : zR ev d nL rt cd (pc + 1, lv, .int x :: rest) hp r) : zR ev d nL rt cd (pc, lv, .int j :: .ref ix :: rest) hp r := by
  refine r_s hq (fun call => ?_) (Nat.le_refl _) K
  show zIald ztb ev (pc, lv, .int j :: .ref ix :: rest) hp = _
  unfold zIald zn
  dsimp only
  rw [if_pos hi.1, if_pos hi.2, hc]
  show (if ¬ (j < 0 ∨ n ≤ j.toNatClampNeg) then zn (pc + 1) lv (.int (f j.toNatClampNeg) :: rest) hp else none) = _
  rw [if_pos hj, hv]
  rfl
theorem r_if {pc len a b : Nat} {lv : List (Nat × Value)} {rest : List Value} {v0 : Value} {cn : _root_.Jvm.ClassFile.Cond} {off : Int} {x : Int32} (hq : zg cd pc = some (.ifCond cn off, len, a, b, v0)) (kt : zcmp cn x 0 = true → zR ev d nL rt cd (a, lv, rest) hp r) (kf : zcmp cn x 0 = false → zR ev d nL rt cd (pc + 3, lv, rest) hp r) : zR ev d nL rt cd (pc, lv, .int x :: rest) hp r := by
  by_cases h : zcmp cn x 0 = true
  · refine r_s hq (fun call => ?_) (Nat.le_refl _) (kt h)
    show zIf cn a (pc, lv, .int x :: rest) hp = _
    unfold zIf zn
    dsimp only
    rw [if_pos h]
  · refine r_s hq (fun call => ?_) (Nat.le_refl _) (kf (by cases hb : zcmp cn x 0 <;> simp_all))
    show zIf cn a (pc, lv, .int x :: rest) hp = _
    unfold zIf zn
    dsimp only
    rw [if_neg h]
theorem r_ifc {pc len a b : Nat} {lv : List (Nat × Value)} {rest : List Value} {v0 : Value} {cn : _root_.Jvm.ClassFile.Cond} {off : Int} {x y : Int32} (hq : zg cd pc = some (.if_icmp cn off, len, a, b, v0)) (kt : zcmp cn x y = true → zR ev d nL rt cd (a, lv, rest) hp r) (kf : zcmp cn x y = false → zR ev d nL rt cd (pc + 3, lv, rest) hp r) : zR ev d nL rt cd (pc, lv, .int y :: .int x :: rest) hp r := by
  by_cases h : zcmp cn x y = true
  · refine r_s hq (fun call => ?_) (Nat.le_refl _) (kt h)
    show zIfc cn a (pc, lv, .int y :: .int x :: rest) hp = _
    unfold zIfc zn
    dsimp only
    rw [if_pos h]
  · refine r_s hq (fun call => ?_) (Nat.le_refl _) (kf (by cases hb : zcmp cn x y <;> simp_all))
    show zIfc cn a (pc, lv, .int y :: .int x :: rest) hp = _
    unfold zIfc zn
    dsimp only
    rw [if_neg h]
/-- stores -/
theorem r_put {pc i len a b ix : Nat} {lv : List (Nat × Value)} {rest fs : List Value} {v v0 : Value} (hq : zg cd pc = some (.putfield i, len, a, b, v0)) (hi : ix < hp.1 ∧ ix < zSC ∧ zfit (ztyp a b) v = true) (hc : hp.2 ix = .inr (a, fs)) (hb : b < fs.length) (K : zR ev d nL rt cd (pc + 3, lv, rest) (hp.1, zup hp.2 ix (.inr (a, fs.set b v))) r) : zR ev d nL rt cd (pc, lv, v :: .ref ix :: rest) hp r := by
  refine r_s (hp' := (hp.1, zup hp.2 ix _)) hq (fun call => ?_) (Nat.le_refl _) K
  show zPutf (ztyp a b) a b (pc, lv, v :: .ref ix :: rest) hp = _
  unfold zPutf zn
  dsimp only
  rw [if_pos hi, hc]
  dsimp only
  rw [if_pos ⟨rfl, hb⟩]
theorem r_iast {pc len a b ix n : Nat} {lv : List (Nat × Value)} {rest : List Value} {v0 : Value} {f : Nat → Int32} {j x : Int32} (hq : zg cd pc = some (.iastore, len, a, b, v0)) (hi : ix < hp.1 ∧ ix < zSC) (hc : hp.2 ix = .inl (0, n, .inl f)) (hj : ¬ (j < 0 ∨ n ≤ j.toNatClampNeg)) (K : zR ev d nL rt cd (pc + 1, lv, rest) (hp.1, zup hp.2 ix (.inl (0, n, .inl (upd f j.toNatClampNeg x)))) r) : zR ev d nL rt cd (pc, lv, .int x :: .int j :: .ref ix :: rest) hp r := by
  refine r_s (hp' := (hp.1, zup hp.2 ix _)) hq (fun call => ?_) (Nat.le_refl _) K
  show zIast (pc, lv, .int x :: .int j :: .ref ix :: rest) hp = _
  unfold zIast zn
  dsimp only
  rw [if_pos hi, hc]
  show (if ¬ (j < 0 ∨ n ≤ j.toNatClampNeg) then zn (pc + 1) lv rest (hp.1, zup hp.2 ix (.inl (0, n, .inl (upd f j.toNatClampNeg x)))) else none) = _
  rw [if_pos hj]
  rfl
theorem r_bast {pc len a b ix n : Nat} {lv : List (Nat × Value)} {rest : List Value} {v0 : Value} {f : Nat → Int32} {j x : Int32} (hq : zg cd pc = some (.bastore, len, a, b, v0)) (hi : ix < hp.1 ∧ ix < zSC) (hc : hp.2 ix = .inl (1, n, .inl f)) (hj : ¬ (j < 0 ∨ n ≤ j.toNatClampNeg)) (K : zR ev d nL rt cd (pc + 1, lv, rest) (hp.1, zup hp.2 ix (.inl (1, n, .inl (upd f j.toNatClampNeg (vp_nar .byte x))))) r) : zR ev d nL rt cd (pc, lv, .int x :: .int j :: .ref ix :: rest) hp r := by
  refine r_s (hp' := (hp.1, zup hp.2 ix _)) hq (fun call => ?_) (Nat.le_refl _) K
  show zBast (pc, lv, .int x :: .int j :: .ref ix :: rest) hp = _
  unfold zBast zn
  dsimp only
  rw [if_pos hi, hc]
  show (if ¬ (j < 0 ∨ n ≤ j.toNatClampNeg) then zn (pc + 1) lv rest (hp.1, zup hp.2 ix (.inl (1, n, .inl (upd f j.toNatClampNeg (vp_nar .byte x))))) else none) = _
  rw [if_pos hj]
  rfl
/-- a stretch of closed steps -/
theorem r_N {f : Nat} : ∀ (n : Nat) {fr fr' : zFr} {hp hp' : zHp}, zstN (zcall zts zms f d) nL rt cd n fr hp = some (fr', hp') → zR ev d nL rt cd fr' hp' r → zR ev d nL rt cd fr hp r := by
  intro n
  induction n with
  | zero => intro fr fr' hp hp' h K; cases h; exact K
  | succ n ih =>
    intro fr fr' hp hp' h K
    unfold zstN at h
    split at h
    · cases h
    · next q hq =>
      split at h
      · next fr2 hp2 hdo =>
        split at h
        · next hm =>
          obtain ⟨n0, f0, K2⟩ := ih h K
          refine ⟨n0 + 1, f0 + f, fun f1 f2 h1 h2 => ?_⟩
          obtain ⟨g, rfl⟩ : ∃ g, f2 = g + 1 := ⟨f2 - 1, by omega⟩
          unfold zrun
          rw [hq]
          dsimp only
          rw [zdo_mono (zcall_mono (show f ≤ f1 by omega) d) hdo]
          dsimp only
          rw [if_pos hm]
          exact K2 f1 g (by omega) (by omega)
        · cases h
      · cases h
end ZPUR
end
section
/-! A checker: runs of method bodies over symbols with bounds. What it accepts, the interpreter does. -/
/-- a form: a times a symbol, plus c -/
abbrev yL : Type := Int × Nat × Int
/-- a value: its kind (0 int, 1 long, 2 reference with -1 for null, 3 a rule or null, 4 what lcmp said of two forms, 5 a rule's steps, 6 a rule's stack, 7 the formatter) and forms -/
abbrev yV : Type := Nat × yL × yL
abbrev yB : Type := List (Nat × Int × Int)
/-- a sum of multiples of symbols, plus a number -/
abbrev yX : Type := List (Int × Nat) × Int
/-- at a cell's place stands a value -/
abbrev yK : Type := yL × yL × yV
/-- next symbol, bounds, sums that are not negative, places, locals, operands -/
abbrev yS : Type := Nat × yB × List yX × List yK × List (Nat × yV) × List yV
def yc (c : Int) : yL := (0, 0, c)
def yI (l : yL) : yV := (0, l, yc 0)
def yev (r : Nat → Int) (l : yL) : Int := l.1 * r l.2.1 + l.2.2
def yxs (r : Nat → Int) : List (Int × Nat) → Int
  | [] => 0
  | q :: l => q.1 * r q.2 + yxs r l
def yex (r : Nat → Int) (x : yX) : Int := yxs r x.1 + x.2
def yw (n : Nat) (l : yL) : Prop := l.1 = 0 ∨ l.2.1 < n
def ywv (n : Nat) (a : yV) : Prop := yw n a.2.1 ∧ yw n a.2.2
/-- what a value of the checker says of a value; h: how many cells there are -/
def yv (h : Nat) (r : Nat → Int) (a : yV) (w : Value) : Prop := match a.1 with
  | 0 => ∃ x : Int32, w = .int x ∧ x.toInt = yev r a.2.1
  | 1 => ∃ x : Int64, w = .long x ∧ x.toInt = yev r a.2.1
  | 2 => (yev r a.2.1 = -1 ∧ w = .null) ∨ (0 ≤ yev r a.2.1 ∧ w = .ref (yev r a.2.1).toNat)
  | 3 => (yev r a.2.1 = -1 ∧ w = .null) ∨ (0 ≤ yev r a.2.1 ∧ 88 + 3 * (yev r a.2.1).toNat + 2 < h ∧ w = .ref (88 + 3 * (yev r a.2.1).toNat))
  | 4 => ∃ x : Int32, w = .int x ∧ ((x.toInt = -1 ∧ yev r a.2.1 < yev r a.2.2) ∨ (x.toInt = 0 ∧ yev r a.2.1 = yev r a.2.2) ∨ (x.toInt = 1 ∧ yev r a.2.2 < yev r a.2.1))
  | 5 => 0 ≤ yev r a.2.1 ∧ 88 + 3 * (yev r a.2.1).toNat + 2 < h ∧ w = .ref (89 + 3 * (yev r a.2.1).toNat)
  | 6 => 0 ≤ yev r a.2.1 ∧ 88 + 3 * (yev r a.2.1).toNat + 2 < h ∧ w = .ref (90 + 3 * (yev r a.2.1).toNat)
  | 7 => w = .retAddr 0
  | _ => False
/-- what stands at a place of a cell; a row's place below 0: its length -/
def yrd (hp : zHp) (i : Nat) (j : Int) : Option Value := match hp.2 i with
  | .inr (_, fs) => if j < 0 then none else fs[j.toNat]?
  | .inl (_, n, x) => if j < 0 then (if i < hp.1 then some (.int (Int32.ofNat n)) else none) else match x with
    | .inl f => some (.int (f j.toNat))
    | .inr (.inl f) => some (.long (f j.toNat))
    | .inr (.inr (.inr (.inr f))) => some (va_rf (f j.toNat))
    | _ => none
/-- a length is known of a cell that is there alone -/
theorem yrd_lt {hp : zHp} {i : Nat} {j : Int} {w : Value} (h : yrd hp i j = some w) (hj : j < 0) : i < hp.1 := by
  unfold yrd at h
  cases e : hp.2 i with
  | inr q =>
    obtain ⟨c, fs⟩ := q
    rw [e] at h
    dsimp only at h
    rw [if_pos hj] at h
    cases h
  | inl q =>
    obtain ⟨c, n, x⟩ := q
    rw [e] at h
    dsimp only at h
    rw [if_pos hj] at h
    by_cases c : i < hp.1
    · exact c
    · rw [if_neg c] at h
      cases h
theorem yifs {i n : Nat} {x y : Value} (h : (if i < n then some x else none) = some y) : some x = some y := by
  by_cases k : i < n
  · rw [if_pos k] at h
    exact h
  · rw [if_neg k] at h
    cases h
def ytk (hp : zHp) (r : Nat → Int) (t : yK) : Prop := 0 ≤ yev r t.1 ∧ ∃ w, yrd hp (yev r t.1).toNat (yev r t.2.1) = some w ∧ yv hp.1 r t.2.2 w
def yld : List (Nat × yV) → Nat → Option yV
  | [], _ => none
  | q :: l, i => if q.1 = i then some q.2 else yld l i
def ystk (h : Nat) (r : Nat → Int) (n : Nat) : List yV → List Value → Prop
  | [], [] => True
  | a :: l, w :: m => (ywv n a ∧ yv h r a w) ∧ ystk h r n l m
  | _, _ => False
def yGe (r : Nat → Int) (n : Nat) (b : yB) : Prop := ∀ e ∈ b, e.1 < n ∧ e.2.1 ≤ r e.1 ∧ r e.1 ≤ e.2.2
def yGf (r : Nat → Int) (n : Nat) (f : List yX) : Prop := ∀ x ∈ f, (∀ t ∈ x.1, t.2 < n) ∧ 0 ≤ yex r x
def yGt (hp : zHp) (r : Nat → Int) (n : Nat) (t : List yK) : Prop := ∀ q ∈ t, (yw n q.1 ∧ yw n q.2.1 ∧ ywv n q.2.2) ∧ ytk hp r q
def yGl (h : Nat) (r : Nat → Int) (n : Nat) (l : List (Nat × yV)) (lv : List (Nat × Value)) : Prop := ∀ i a, yld l i = some a → ywv n a ∧ ∃ w, zld lv i = some w ∧ yv h r a w
/-- a state of the checker holds here -/
def yG (hp : zHp) (r : Nat → Int) (S : yS) (lv : List (Nat × Value)) (st : List Value) : Prop :=
  yGe r S.1 S.2.1 ∧ yGf r S.1 S.2.2.1 ∧ yGt hp r S.1 S.2.2.2.1 ∧ yGl hp.1 r S.1 S.2.2.2.2.1 lv ∧ ystk hp.1 r S.1 S.2.2.2.2.2 st
/-- two readings of symbols agree below n -/
def yag (n : Nat) (r r2 : Nat → Int) : Prop := ∀ s, s < n → r2 s = r s
theorem yev_ag {n : Nat} {r r2 : Nat → Int} (h : yag n r r2) {l : yL} (w : yw n l) : yev r2 l = yev r l := by
  obtain ⟨a, s, c⟩ := l
  rcases w with w | w
  · have w : a = 0 := w
    subst w
    simp [yev]
  · show a * r2 s + c = a * r s + c
    rw [h s w]
theorem yw_le {n m : Nat} (h : n ≤ m) {l : yL} (w : yw n l) : yw m l := w.imp_right (fun q => Nat.lt_of_lt_of_le q h)
theorem ywv_le {n m : Nat} (h : n ≤ m) {a : yV} (w : ywv n a) : ywv m a := ⟨yw_le h w.1, yw_le h w.2⟩
theorem yv_ag {n hn : Nat} {r r2 : Nat → Int} (h : yag n r r2) {a : yV} (w : ywv n a) {v : Value} (g : yv hn r a v) : yv hn r2 a v := by
  unfold yv at g ⊢
  rw [yev_ag h w.1, yev_ag h w.2]
  exact g
theorem yxs_ag {n : Nat} {r r2 : Nat → Int} (h : yag n r r2) : ∀ {l : List (Int × Nat)}, (∀ t ∈ l, t.2 < n) → yxs r2 l = yxs r l
  | [], _ => rfl
  | q :: l, w => by
    show q.1 * r2 q.2 + yxs r2 l = q.1 * r q.2 + yxs r l
    rw [h q.2 (w q List.mem_cons_self), yxs_ag h (fun t ht => w t (List.mem_cons_of_mem _ ht))]
theorem yGe_ag {n m : Nat} (hm : n ≤ m) {r r2 : Nat → Int} (h : yag n r r2) {b : yB} (g : yGe r n b) : yGe r2 m b := fun e he => by
  have q := g e he
  rw [h e.1 q.1]
  exact ⟨Nat.lt_of_lt_of_le q.1 hm, q.2⟩
theorem yGf_ag {n m : Nat} (hm : n ≤ m) {r r2 : Nat → Int} (h : yag n r r2) {f : List yX} (g : yGf r n f) : yGf r2 m f := fun x hx => by
  have q := g x hx
  refine ⟨fun t ht => Nat.lt_of_lt_of_le (q.1 t ht) hm, ?_⟩
  unfold yex
  rw [yxs_ag h q.1]
  exact q.2
theorem yGt_ag {hp : zHp} {n m : Nat} (hm : n ≤ m) {r r2 : Nat → Int} (h : yag n r r2) {t : List yK} (g : yGt hp r n t) : yGt hp r2 m t := fun q hq => by
  obtain ⟨⟨w1, w2, w3⟩, h1, w, h2, h3⟩ := g q hq
  refine ⟨⟨yw_le hm w1, yw_le hm w2, ywv_le hm w3⟩, ?_, w, ?_, yv_ag h w3 h3⟩
  · rw [yev_ag h w1]; exact h1
  · rw [yev_ag h w1, yev_ag h w2]; exact h2
theorem yGl_ag {hn n m : Nat} (hm : n ≤ m) {r r2 : Nat → Int} (h : yag n r r2) {l : List (Nat × yV)} {lv : List (Nat × Value)} (g : yGl hn r n l lv) : yGl hn r2 m l lv := fun i a e => by
  obtain ⟨w, v, h1, h2⟩ := g i a e
  exact ⟨ywv_le hm w, v, h1, yv_ag h w h2⟩
theorem ystk_ag {hn n m : Nat} (hm : n ≤ m) {r r2 : Nat → Int} (h : yag n r r2) : ∀ {l : List yV} {st : List Value}, ystk hn r n l st → ystk hn r2 m l st
  | [], [], _ => trivial
  | [], _ :: _, g => g.elim
  | _ :: _, [], g => g.elim
  | a :: l, w :: st, g => ⟨⟨ywv_le hm g.1.1, yv_ag h g.1.1 g.1.2⟩, ystk_ag hm h g.2⟩
/-- bounds -/
def ybd : yB → Nat → Option (Int × Int)
  | [], _ => none
  | e :: l, s => if e.1 = s then some e.2 else ybd l s
def yrg (b : yB) (l : yL) : Option (Int × Int) := if l.1 = 0 then some (l.2.2, l.2.2) else match ybd b l.2.1 with
  | none => none
  | some q => if 0 ≤ l.1 then some (l.1 * q.1 + l.2.2, l.1 * q.2 + l.2.2) else some (l.1 * q.2 + l.2.2, l.1 * q.1 + l.2.2)
theorem ybd_mem : ∀ {b : yB} {s : Nat} {q : Int × Int}, ybd b s = some q → (s, q) ∈ b
  | [], _, _, h => by cases h
  | e :: l, s, q, h => by
    unfold ybd at h
    split at h
    · next he =>
      cases h
      cases he
      exact List.mem_cons_self
    · exact List.mem_cons_of_mem _ (ybd_mem h)
theorem yrg_ok {r : Nat → Int} {n : Nat} {b : yB} (g : yGe r n b) {l : yL} {q : Int × Int} (h : yrg b l = some q) : q.1 ≤ yev r l ∧ yev r l ≤ q.2 := by
  obtain ⟨a, s, c⟩ := l
  unfold yrg at h
  split at h
  · next ha =>
    have ha : a = 0 := ha
    subst ha
    cases h
    simp [yev]
  · next ha =>
    split at h
    · cases h
    · next e he =>
      have hb := g _ (ybd_mem he)
      have h1 : e.1 ≤ r s := hb.2.1
      have h2 : r s ≤ e.2 := hb.2.2
      show q.1 ≤ a * r s + c ∧ a * r s + c ≤ q.2
      split at h
      · next h0 =>
        have h0 : 0 ≤ a := h0
        cases h
        have := Int.mul_le_mul_of_nonneg_left h1 h0
        have := Int.mul_le_mul_of_nonneg_left h2 h0
        show a * e.1 + c ≤ a * r s + c ∧ a * r s + c ≤ a * e.2 + c
        omega
      · next h0 =>
        have h0 : a ≤ 0 := by have : ¬ (0 ≤ a) := h0; omega
        cases h
        have := Int.mul_le_mul_of_nonpos_left h0 h1
        have := Int.mul_le_mul_of_nonpos_left h0 h2
        show a * e.2 + c ≤ a * r s + c ∧ a * r s + c ≤ a * e.1 + c
        omega
/-- a number where the bounds leave but one -/
def ynm (b : yB) (l : yL) : yL := match yrg b l with
  | some q => if q.1 = q.2 then yc q.1 else l
  | none => l
theorem ynm_ok {r : Nat → Int} {n : Nat} {b : yB} (g : yGe r n b) {l : yL} (w : yw n l) : yev r (ynm b l) = yev r l ∧ yw n (ynm b l) := by
  unfold ynm
  split
  · next q hq =>
    split
    · next he =>
      have := yrg_ok g hq
      refine ⟨?_, Or.inl rfl⟩
      show 0 * r 0 + q.1 = _
      omega
    · exact ⟨rfl, w⟩
  · exact ⟨rfl, w⟩
/-- sums -/
def yin1 (k : Int) (s : Nat) : List (Int × Nat) → List (Int × Nat)
  | [] => [(k, s)]
  | q :: l => if q.2 = s then (q.1 + k, s) :: l else q :: yin1 k s l
theorem yin1_ok (r : Nat → Int) (k : Int) (s : Nat) : ∀ l, yxs r (yin1 k s l) = k * r s + yxs r l
  | [] => rfl
  | q :: l => by
    unfold yin1
    split
    · next h =>
      show (q.1 + k) * r s + yxs r l = k * r s + (q.1 * r q.2 + yxs r l)
      rw [h, Int.add_mul]
      omega
    · show q.1 * r q.2 + yxs r (yin1 k s l) = k * r s + (q.1 * r q.2 + yxs r l)
      rw [yin1_ok r k s l]
      omega
def yaddl (k : Int) : List (Int × Nat) → List (Int × Nat) → List (Int × Nat)
  | [], m => m
  | q :: l, m => yaddl k l (yin1 (k * q.1) q.2 m)
theorem yaddl_ok (r : Nat → Int) (k : Int) : ∀ l m, yxs r (yaddl k l m) = k * yxs r l + yxs r m
  | [], m => by show yxs r m = k * 0 + yxs r m; omega
  | q :: l, m => by
    show yxs r (yaddl k l (yin1 (k * q.1) q.2 m)) = k * (q.1 * r q.2 + yxs r l) + yxs r m
    rw [yaddl_ok r k l, yin1_ok, Int.mul_add, Int.mul_assoc]
    omega
/-- e plus k times f -/
def yadd (k : Int) (f e : yX) : yX := (yaddl k f.1 e.1, k * f.2 + e.2)
theorem yadd_ok (r : Nat → Int) (k : Int) (f e : yX) : yex r (yadd k f e) = k * yex r f + yex r e := by
  show yxs r (yaddl k f.1 e.1) + (k * f.2 + e.2) = k * (yxs r f.1 + f.2) + (yxs r e.1 + e.2)
  rw [yaddl_ok, Int.mul_add]
  omega
def yxl (l : yL) : yX := if l.1 = 0 then ([], l.2.2) else ([(l.1, l.2.1)], l.2.2)
theorem yxl_ok (r : Nat → Int) (l : yL) : yex r (yxl l) = yev r l := by
  unfold yxl
  split
  · next h =>
    show 0 + l.2.2 = l.1 * r l.2.1 + l.2.2
    rw [h]
    omega
  · show l.1 * r l.2.1 + 0 + l.2.2 = l.1 * r l.2.1 + l.2.2
    omega
/-- a lower bound of a sum -/
def ylbs (b : yB) : List (Int × Nat) → Option Int
  | [] => some 0
  | q :: l => if q.1 = 0 then ylbs b l else match ylbs b l, ybd b q.2 with
    | some z, some e => if 0 ≤ q.1 then some (q.1 * e.1 + z) else some (q.1 * e.2 + z)
    | _, _ => none
theorem ylbs_ok {r : Nat → Int} {n : Nat} {b : yB} (g : yGe r n b) : ∀ {l : List (Int × Nat)} {z : Int}, ylbs b l = some z → z ≤ yxs r l
  | [], z, h => by cases h; exact Int.le_refl _
  | q :: l, z, h => by
    unfold ylbs at h
    show z ≤ q.1 * r q.2 + yxs r l
    split at h
    · next h0 =>
      have := ylbs_ok g h
      rw [h0]
      omega
    · split at h
      · next z2 e h2 he =>
        have hb := g _ (ybd_mem he)
        have i1 : e.1 ≤ r q.2 := hb.2.1
        have i2 : r q.2 ≤ e.2 := hb.2.2
        have := ylbs_ok g h2
        split at h
        · next h0 =>
          cases h
          have := Int.mul_le_mul_of_nonneg_left i1 h0
          omega
        · next h0 =>
          cases h
          have := Int.mul_le_mul_of_nonpos_left (show q.1 ≤ 0 by omega) i2
          omega
      · cases h
def yge0 (b : yB) (x : yX) : Bool := match ylbs b x.1 with
  | some z => decide (0 ≤ z + x.2)
  | none => false
theorem yge0_ok {r : Nat → Int} {n : Nat} {b : yB} (g : yGe r n b) {x : yX} (h : yge0 b x = true) : 0 ≤ yex r x := by
  unfold yge0 at h
  split at h
  · next z hz =>
    have := ylbs_ok g hz
    have h2 : 0 ≤ z + x.2 := of_decide_eq_true h
    show 0 ≤ yxs r x.1 + x.2
    omega
  · cases h
/-- it isn't negative, by the bounds and two of the facts at most -/
def yprv (b : yB) (f : List yX) (x : yX) : Bool := yge0 b x || f.any (fun g => yge0 b (yadd (-1) g x)) || f.any (fun g => f.any (fun h => yge0 b (yadd (-1) h (yadd (-1) g x))))
theorem yprv_ok {r : Nat → Int} {n : Nat} {b : yB} {f : List yX} (g : yGe r n b) (gf : yGf r n f) {x : yX} (h : yprv b f x = true) : 0 ≤ yex r x := by
  unfold yprv at h
  simp only [Bool.or_eq_true, List.any_eq_true] at h
  rcases h with (h | ⟨y, hy, h⟩) | ⟨y, hy, z, hz, h⟩
  · exact yge0_ok g h
  · have h1 := yge0_ok g h
    rw [yadd_ok] at h1
    have h2 := (gf y hy).2
    omega
  · have h1 := yge0_ok g h
    rw [yadd_ok, yadd_ok] at h1
    have h2 := (gf y hy).2
    have h3 := (gf z hz).2
    omega
end
section
/-! Sums and products of forms, what the machine's operations make of them. -/
def yladd (l1 l2 : yL) : Option yL := if l1.1 = 0 then some (l2.1, l2.2.1, l2.2.2 + l1.2.2) else if l2.1 = 0 then some (l1.1, l1.2.1, l1.2.2 + l2.2.2) else if l1.2.1 = l2.2.1 then (if l1.1 + l2.1 = 0 then some (yc (l1.2.2 + l2.2.2)) else some (l1.1 + l2.1, l1.2.1, l1.2.2 + l2.2.2)) else none
def ylneg (l : yL) : yL := (-l.1, l.2.1, -l.2.2)
def ylsc (k : Int) (l : yL) : yL := if k * l.1 = 0 then yc (k * yev (fun _ => 0) l) else (k * l.1, l.2.1, k * l.2.2)
theorem yev_c (r : Nat → Int) (c : Int) : yev r (yc c) = c := by show 0 * r 0 + c = c; omega
theorem yev_0 {r : Nat → Int} {l : yL} (h : l.1 = 0) : yev r l = l.2.2 := by show l.1 * r l.2.1 + l.2.2 = l.2.2; rw [h]; omega
theorem yladd_ok {r : Nat → Int} {n : Nat} {l1 l2 l : yL} (w1 : yw n l1) (w2 : yw n l2) (h : yladd l1 l2 = some l) : yw n l ∧ yev r l = yev r l1 + yev r l2 := by
  unfold yladd at h
  split at h
  · next h0 =>
    cases h
    refine ⟨w2, ?_⟩
    rw [yev_0 h0]
    show l2.1 * r l2.2.1 + (l2.2.2 + l1.2.2) = l1.2.2 + (l2.1 * r l2.2.1 + l2.2.2)
    omega
  · split at h
    · next h0 =>
      cases h
      refine ⟨w1, ?_⟩
      rw [yev_0 h0]
      show l1.1 * r l1.2.1 + (l1.2.2 + l2.2.2) = l1.1 * r l1.2.1 + l1.2.2 + l2.2.2
      omega
    · split at h
      · next hs =>
        split at h
        · next h0 =>
          cases h
          refine ⟨Or.inl rfl, ?_⟩
          rw [yev_c]
          show _ = l1.1 * r l1.2.1 + l1.2.2 + (l2.1 * r l2.2.1 + l2.2.2)
          rw [← hs]
          have : l1.1 * r l1.2.1 + l2.1 * r l1.2.1 = 0 := by rw [← Int.add_mul, h0]; omega
          omega
        · cases h
          refine ⟨Or.inr (w1.resolve_left (by assumption)), ?_⟩
          show (l1.1 + l2.1) * r l1.2.1 + (l1.2.2 + l2.2.2) = l1.1 * r l1.2.1 + l1.2.2 + (l2.1 * r l2.2.1 + l2.2.2)
          rw [← hs, Int.add_mul]
          omega
      · cases h
theorem ylneg_ok {r : Nat → Int} {n : Nat} {l : yL} (w : yw n l) : yw n (ylneg l) ∧ yev r (ylneg l) = - yev r l := by
  refine ⟨w.imp_left (fun h => by show -l.1 = 0; omega), ?_⟩
  show -l.1 * r l.2.1 + -l.2.2 = -(l.1 * r l.2.1 + l.2.2)
  rw [Int.neg_mul]
  omega
theorem ylsc_ok {r : Nat → Int} {n : Nat} (k : Int) {l : yL} (w : yw n l) : yw n (ylsc k l) ∧ yev r (ylsc k l) = k * yev r l := by
  unfold ylsc
  split
  · next h =>
    refine ⟨Or.inl rfl, ?_⟩
    rw [yev_c]
    show k * (l.1 * 0 + l.2.2) = k * (l.1 * r l.2.1 + l.2.2)
    rw [Int.mul_add, Int.mul_add, ← Int.mul_assoc, ← Int.mul_assoc, h]
    omega
  · next h =>
    refine ⟨Or.inr (w.resolve_left (fun z => h (by rw [z]; omega))), ?_⟩
    show k * l.1 * r l.2.1 + k * l.2.2 = k * (l.1 * r l.2.1 + l.2.2)
    rw [Int.mul_add, Int.mul_assoc]
def ymin (a b : Int) : Int := if a ≤ b then a else b
def ymax (a b : Int) : Int := if a ≤ b then b else a
theorem ymin_l (a b : Int) : ymin a b ≤ a ∧ ymin a b ≤ b := by unfold ymin; split <;> omega
theorem ymax_l (a b : Int) : a ≤ ymax a b ∧ b ≤ ymax a b := by unfold ymax; split <;> omega
def ymul (p q : Int × Int) : Int × Int := (ymin (ymin (p.1 * q.1) (p.1 * q.2)) (ymin (p.2 * q.1) (p.2 * q.2)), ymax (ymax (p.1 * q.1) (p.1 * q.2)) (ymax (p.2 * q.1) (p.2 * q.2)))
theorem ymul1 {a b x y : Int} (h1 : a ≤ x) (h2 : x ≤ b) : (a * y ≤ x * y ∨ b * y ≤ x * y) ∧ (x * y ≤ a * y ∨ x * y ≤ b * y) := by
  by_cases h : 0 ≤ y
  · exact ⟨Or.inl (Int.mul_le_mul_of_nonneg_right h1 h), Or.inr (Int.mul_le_mul_of_nonneg_right h2 h)⟩
  · have h : y ≤ 0 := by omega
    exact ⟨Or.inr (Int.mul_le_mul_of_nonpos_right h2 h), Or.inl (Int.mul_le_mul_of_nonpos_right h1 h)⟩
theorem ymul_ok {p q : Int × Int} {x y : Int} (h1 : p.1 ≤ x ∧ x ≤ p.2) (h2 : q.1 ≤ y ∧ y ≤ q.2) : (ymul p q).1 ≤ x * y ∧ x * y ≤ (ymul p q).2 := by
  have e := ymul1 (y := y) h1.1 h1.2
  have f := ymul1 (y := p.1) h2.1 h2.2
  have g := ymul1 (y := p.2) h2.1 h2.2
  rw [Int.mul_comm q.1 p.1, Int.mul_comm q.2 p.1, Int.mul_comm y p.1] at f
  rw [Int.mul_comm q.1 p.2, Int.mul_comm q.2 p.2, Int.mul_comm y p.2] at g
  have a1 := ymin_l (p.1 * q.1) (p.1 * q.2)
  have a2 := ymin_l (p.2 * q.1) (p.2 * q.2)
  have a3 := ymin_l (ymin (p.1 * q.1) (p.1 * q.2)) (ymin (p.2 * q.1) (p.2 * q.2))
  have b1 := ymax_l (p.1 * q.1) (p.1 * q.2)
  have b2 := ymax_l (p.2 * q.1) (p.2 * q.2)
  have b3 := ymax_l (ymax (p.1 * q.1) (p.1 * q.2)) (ymax (p.2 * q.1) (p.2 * q.2))
  show ymin (ymin (p.1 * q.1) (p.1 * q.2)) (ymin (p.2 * q.1) (p.2 * q.2)) ≤ x * y ∧ x * y ≤ ymax (ymax (p.1 * q.1) (p.1 * q.2)) (ymax (p.2 * q.1) (p.2 * q.2))
  obtain ⟨e1 | e1, e2 | e2⟩ := e <;> obtain ⟨f1 | f1, f2 | f2⟩ := f <;> obtain ⟨g1 | g1, g2 | g2⟩ := g <;> constructor <;> omega
/-- operations: 0 add, 1 sub, 2 mul, 9 div, 10 rem -/
def ymo (o : Nat) (x y : Int) : Int := match o with
  | 0 => x + y
  | 1 => x - y
  | 2 => x * y
  | 9 => x.tdiv y
  | _ => x.tmod y
def yma (o : Nat) (p q : Int × Int) (l1 l2 : yL) : Option ((Int × Int) × Option yL) := match o with
  | 0 => some ((p.1 + q.1, p.2 + q.2), yladd l1 l2)
  | 1 => some ((p.1 - q.2, p.2 - q.1), yladd l1 (ylneg l2))
  | 2 => some (ymul p q, if p.1 = p.2 then some (ylsc p.1 l2) else if q.1 = q.2 then some (ylsc q.1 l1) else none)
  | 9 => if 0 < q.1 ∧ 0 ≤ p.1 then some ((0, p.2), none) else none
  | 10 => if 0 < q.1 ∧ 0 ≤ p.1 then some ((0, ymin p.2 (q.2 - 1)), none) else none
  | _ => none
theorem yma_ok {r : Nat → Int} {n : Nat} {o : Nat} {p q : Int × Int} {l1 l2 : yL} (w1 : yw n l1) (w2 : yw n l2) (h1 : p.1 ≤ yev r l1 ∧ yev r l1 ≤ p.2) (h2 : q.1 ≤ yev r l2 ∧ yev r l2 ≤ q.2) {t : (Int × Int) × Option yL} (h : yma o p q l1 l2 = some t) :
    (t.1.1 ≤ ymo o (yev r l1) (yev r l2) ∧ ymo o (yev r l1) (yev r l2) ≤ t.1.2) ∧ ∀ l, t.2 = some l → yw n l ∧ yev r l = ymo o (yev r l1) (yev r l2) := by
  unfold yma at h
  split at h
  · cases h
    refine ⟨?_, fun l hl => yladd_ok w1 w2 hl⟩
    show p.1 + q.1 ≤ yev r l1 + yev r l2 ∧ yev r l1 + yev r l2 ≤ p.2 + q.2
    omega
  · cases h
    refine ⟨?_, fun l hl => ?_⟩
    · show p.1 - q.2 ≤ yev r l1 - yev r l2 ∧ yev r l1 - yev r l2 ≤ p.2 - q.1
      omega
    · obtain ⟨a, b⟩ := yladd_ok (r := r) w1 (ylneg_ok (r := r) w2).1 hl
      rw [(ylneg_ok w2).2] at b
      refine ⟨a, b.trans ?_⟩
      show _ = yev r l1 - yev r l2
      omega
  · cases h
    refine ⟨ymul_ok h1 h2, fun l hl => ?_⟩
    have hl : (if p.1 = p.2 then some (ylsc p.1 l2) else if q.1 = q.2 then some (ylsc q.1 l1) else none) = some l := hl
    show yw n l ∧ yev r l = yev r l1 * yev r l2
    split at hl
    · next e =>
      cases hl
      have : yev r l1 = p.1 := by omega
      rw [this]
      exact ylsc_ok _ w2
    · split at hl
      · next e =>
        cases hl
        have : yev r l2 = q.1 := by omega
        rw [this, Int.mul_comm]
        exact ylsc_ok _ w1
      · cases hl
  · split at h
    · next e =>
      cases h
      refine ⟨?_, fun l hl => by cases hl⟩
      have e1 : 0 ≤ yev r l1 := by omega
      have e2 : 0 ≤ yev r l2 := by omega
      show 0 ≤ (yev r l1).tdiv (yev r l2) ∧ (yev r l1).tdiv (yev r l2) ≤ p.2
      have := Int.tdiv_nonneg e1 e2
      have := Int.tdiv_le_self (yev r l2) e1
      omega
    · cases h
  · split at h
    · next e =>
      cases h
      refine ⟨?_, fun l hl => by cases hl⟩
      have e1 : 0 ≤ yev r l1 := by omega
      have e2 : 0 < yev r l2 := by omega
      show 0 ≤ (yev r l1).tmod (yev r l2) ∧ (yev r l1).tmod (yev r l2) ≤ ymin p.2 (q.2 - 1)
      have a1 := Int.tmod_nonneg (yev r l2) e1
      have a2 := Int.tmod_lt_of_pos (yev r l1) e2
      have a3 : (yev r l1).tmod (yev r l2) ≤ yev r l1 := by
        have := Int.tdiv_nonneg e1 (Int.le_of_lt e2)
        have := Int.mul_nonneg (Int.le_of_lt e2) this
        rw [Int.tmod_def]
        omega
      refine ⟨a1, ?_⟩
      unfold ymin
      split <;> omega
    · cases h
  · cases h
/-- within the machine's numbers (from -m on, below m), or anything -/
def yop (m : Int) (o : Nat) (p q : Int × Int) (l1 l2 : yL) : (Int × Int) × Option yL := match yma o p q l1 l2 with
  | some t => if -m ≤ t.1.1 ∧ t.1.2 < m then t else ((-m, m - 1), none)
  | none => ((-m, m - 1), none)
theorem yop_ok {r : Nat → Int} {n : Nat} {m : Int} {k : Nat} (hk : (k : Int) = 2 * m) {o : Nat} {p q : Int × Int} {l1 l2 : yL} (w1 : yw n l1) (w2 : yw n l2) (h1 : p.1 ≤ yev r l1 ∧ yev r l1 ≤ p.2) (h2 : q.1 ≤ yev r l2 ∧ yev r l2 ≤ q.2) {z : Int} (hz : z = (ymo o (yev r l1) (yev r l2)).bmod k) (hm : -m ≤ z ∧ z < m) :
    ((yop m o p q l1 l2).1.1 ≤ z ∧ z ≤ (yop m o p q l1 l2).1.2) ∧ ∀ l, (yop m o p q l1 l2).2 = some l → yw n l ∧ yev r l = z := by
  unfold yop
  split
  · next t ht =>
    have g := yma_ok w1 w2 h1 h2 ht
    split
    · next hb =>
      have e : z = ymo o (yev r l1) (yev r l2) := hz.trans (Int.bmod_eq_of_le_mul_two (by omega) (by omega))
      rw [e]
      exact g
    · exact ⟨⟨hm.1, by show z ≤ m - 1; omega⟩, fun l hl => by cases hl⟩
  · exact ⟨⟨hm.1, by show z ≤ m - 1; omega⟩, fun l hl => by cases hl⟩
def yfI (o : Nat) (x y : Int32) : Int32 := match o with
  | 0 => x + y
  | 1 => x - y
  | 2 => x * y
  | 3 => x &&& y
  | 4 => x ||| y
  | 5 => x ^^^ y
  | 6 => x <<< (y &&& 31)
  | 7 => x >>> (y &&& 31)
  | 8 => (x.toUInt32 >>> (y.toUInt32 &&& Int32.toUInt32 31)).toInt32
  | 9 => x / y
  | _ => x - x / y * y
def yfL (o : Nat) (x y : Int64) : Int64 := match o with
  | 0 => x + y
  | 1 => x - y
  | 2 => x * y
  | 3 => x &&& y
  | 4 => x ||| y
  | 9 => x / y
  | _ => x - x / y * y
theorem yfI_m {o : Nat} (ho : o < 3 ∨ o = 9 ∨ o = 10) (x y : Int32) : (yfI o x y).toInt = (ymo o x.toInt y.toInt).bmod (2 ^ 32) := by
  rcases ho with ho | rfl | rfl
  · match o, ho with
    | 0, _ => exact Int32.toInt_add x y
    | 1, _ => exact Int32.toInt_sub x y
    | 2, _ => exact Int32.toInt_mul x y
  · exact Int32.toInt_div x y
  · show (x - x / y * y).toInt = (x.toInt.tmod y.toInt).bmod (2 ^ 32)
    rw [Int32.toInt_sub, Int32.toInt_mul, Int32.toInt_div, Int.bmod_mul_bmod, Int.sub_bmod_bmod, Int.tmod_def, Int.mul_comm y.toInt]
theorem yfL_m {o : Nat} (ho : o < 3 ∨ o = 9 ∨ o = 10) (x y : Int64) : (yfL o x y).toInt = (ymo o x.toInt y.toInt).bmod (2 ^ 64) := by
  rcases ho with ho | rfl | rfl
  · match o, ho with
    | 0, _ => exact Int64.toInt_add x y
    | 1, _ => exact Int64.toInt_sub x y
    | 2, _ => exact Int64.toInt_mul x y
  · exact Int64.toInt_div x y
  · show (x - x / y * y).toInt = (x.toInt.tmod y.toInt).bmod (2 ^ 64)
    rw [Int64.toInt_sub, Int64.toInt_mul, Int64.toInt_div, Int.bmod_mul_bmod, Int.sub_bmod_bmod, Int.tmod_def, Int.mul_comm y.toInt]
theorem y32 (x : Int32) : -2147483648 ≤ x.toInt ∧ x.toInt < 2147483648 := ⟨x.le_toInt, x.toInt_lt⟩
theorem y64 (x : Int64) : -9223372036854775808 ≤ x.toInt ∧ x.toInt < 9223372036854775808 := ⟨x.le_toInt, x.toInt_lt⟩
theorem ynat {x : Int32} (h : 0 ≤ x.toInt) : x.toInt = (x.toBitVec.toNat : Int) ∧ x.toBitVec.toNat < 2147483648 := by
  have e : x.toInt = x.toBitVec.toInt := rfl
  rw [e, BitVec.toInt_eq_toNat_cond] at h ⊢
  have := x.toBitVec.isLt
  split at h <;> split <;> omega
theorem ynat_of {b : BitVec 32} (h : b.toNat < 2147483648) : b.toInt = (b.toNat : Int) := BitVec.toInt_eq_toNat_of_lt (by omega)
theorem yand_l {x y : Int32} (h : 0 ≤ x.toInt) : 0 ≤ (x &&& y).toInt ∧ (x &&& y).toInt ≤ x.toInt := by
  obtain ⟨h1, h2⟩ := ynat h
  have e : (x &&& y).toBitVec.toNat ≤ x.toBitVec.toNat := by
    rw [Int32.toBitVec_and, BitVec.toNat_and]
    exact Nat.and_le_left
  have e2 : (x &&& y).toInt = ((x &&& y).toBitVec.toNat : Int) := ynat_of (Nat.lt_of_le_of_lt e h2)
  rw [e2, h1]
  omega
theorem yand_r {x y : Int32} (h : 0 ≤ y.toInt) : 0 ≤ (x &&& y).toInt ∧ (x &&& y).toInt ≤ y.toInt := by
  obtain ⟨h1, h2⟩ := ynat h
  have e : (x &&& y).toBitVec.toNat ≤ y.toBitVec.toNat := by
    rw [Int32.toBitVec_and, BitVec.toNat_and]
    exact Nat.and_le_right
  have e2 : (x &&& y).toInt = ((x &&& y).toBitVec.toNat : Int) := ynat_of (Nat.lt_of_le_of_lt e h2)
  rw [e2, h1]
  omega
theorem yor_64 {x y : Int32} (h1 : 0 ≤ x.toInt) (h2 : x.toInt < 64) (h3 : 0 ≤ y.toInt) (h4 : y.toInt < 64) : 0 ≤ (x ||| y).toInt ∧ (x ||| y).toInt ≤ 63 := by
  obtain ⟨a1, a2⟩ := ynat h1
  obtain ⟨b1, b2⟩ := ynat h3
  have e : (x ||| y).toBitVec.toNat < 2 ^ 6 := by
    rw [Int32.toBitVec_or, BitVec.toNat_or]
    exact Nat.or_lt_two_pow (by show _ < 64; omega) (by show _ < 64; omega)
  have e3 : (x ||| y).toBitVec.toNat < 64 := e
  have e2 : (x ||| y).toInt = ((x ||| y).toBitVec.toNat : Int) := ynat_of (by omega)
  rw [e2]
  omega
theorem yshl_t : ∀ l, l < 31 → ((1 : Int32) <<< (Int32.ofInt (l : Nat) &&& 31)).toInt = 2 ^ l := by decide +kernel
theorem yofI {x : Int32} {k : Int} (h : x.toInt = k) : x = Int32.ofInt k := by rw [← h, Int32.ofInt_toInt]
theorem ypw {a b : Nat} (h : a ≤ b) : (2 : Int) ^ a ≤ 2 ^ b := by
  have := Nat.pow_le_pow_right (n := 2) (by decide) h
  have e : ∀ k : Nat, ((2 ^ k : Nat) : Int) = (2 : Int) ^ k := fun k => by simp
  rw [← e, ← e]
  omega
/-- of ints: 3 and, 4 or, 6 shl beside those of yop; what is not known may be anything -/
def yoI (o : Nat) (p q : Int × Int) (l1 l2 : yL) : (Int × Int) × Option yL :=
  if o < 9 ∧ p.1 = p.2 ∧ q.1 = q.2 then (((yfI o (Int32.ofInt p.1) (Int32.ofInt q.1)).toInt, (yfI o (Int32.ofInt p.1) (Int32.ofInt q.1)).toInt), none) else
  if o < 3 ∨ o = 9 ∨ o = 10 then yop 2147483648 o p q l1 l2 else
  if o = 3 ∧ 0 ≤ p.1 ∧ 0 ≤ q.1 then ((0, ymin p.2 q.2), none) else
  if o = 3 ∧ 0 ≤ p.1 then ((0, p.2), none) else
  if o = 3 ∧ 0 ≤ q.1 then ((0, q.2), none) else
  if o = 4 ∧ 0 ≤ p.1 ∧ p.2 < 64 ∧ 0 ≤ q.1 ∧ q.2 < 64 then ((0, 63), none) else
  if o = 6 ∧ p.1 = 1 ∧ p.2 = 1 ∧ 0 ≤ q.1 ∧ q.2 ≤ 30 then ((2 ^ q.1.toNat, 2 ^ q.2.toNat), none) else
  ((-2147483648, 2147483647), none)
theorem yoI_ok {r : Nat → Int} {n : Nat} {o : Nat} {p q : Int × Int} {l1 l2 : yL} {x y : Int32} (w1 : yw n l1) (w2 : yw n l2) (hx : x.toInt = yev r l1) (hy : y.toInt = yev r l2) (h1 : p.1 ≤ yev r l1 ∧ yev r l1 ≤ p.2) (h2 : q.1 ≤ yev r l2 ∧ yev r l2 ≤ q.2) :
    ((yoI o p q l1 l2).1.1 ≤ (yfI o x y).toInt ∧ (yfI o x y).toInt ≤ (yoI o p q l1 l2).1.2) ∧ ∀ l, (yoI o p q l1 l2).2 = some l → yw n l ∧ yev r l = (yfI o x y).toInt := by
  have hz := y32 (yfI o x y)
  have nl : ∀ {P : yL → Prop}, ∀ l, (none : Option yL) = some l → P l := fun l hl => by cases hl
  unfold yoI
  split
  · next h =>
    have e1 : x = Int32.ofInt p.1 := yofI (by omega)
    have e2 : y = Int32.ofInt q.1 := yofI (by omega)
    rw [e1, e2]
    exact ⟨⟨Int.le_refl _, Int.le_refl _⟩, nl⟩
  split
  · next h =>
    refine yop_ok (k := 2 ^ 32) (by decide) w1 w2 h1 h2 ?_ hz
    rw [← hx, ← hy]
    exact yfI_m h x y
  split
  · next h =>
    obtain ⟨rfl, h3, h4⟩ := h
    have a := yand_l (x := x) (y := y) (by omega)
    have b := yand_r (x := x) (y := y) (by omega)
    refine ⟨⟨a.1, ?_⟩, nl⟩
    show (x &&& y).toInt ≤ ymin p.2 q.2
    unfold ymin
    split <;> omega
  split
  · next h =>
    obtain ⟨rfl, h3⟩ := h
    have a := yand_l (x := x) (y := y) (by omega)
    exact ⟨⟨a.1, by show (x &&& y).toInt ≤ p.2; omega⟩, nl⟩
  split
  · next h =>
    obtain ⟨rfl, h3⟩ := h
    have a := yand_r (x := x) (y := y) (by omega)
    exact ⟨⟨a.1, by show (x &&& y).toInt ≤ q.2; omega⟩, nl⟩
  split
  · next h =>
    obtain ⟨rfl, h3⟩ := h
    exact ⟨yor_64 (by omega) (by omega) (by omega) (by omega), nl⟩
  split
  · next h =>
    obtain ⟨rfl, h3, h4, h5, h6⟩ := h
    have e1 : x = 1 := by
      rw [yofI (show x.toInt = 1 by omega)]
      rfl
    obtain ⟨k, hk⟩ : ∃ k : Nat, yev r l2 = (k : Int) := ⟨(yev r l2).toNat, by omega⟩
    have e2 : y = Int32.ofInt (k : Nat) := yofI (by omega)
    have e3 : (yfI 6 x y).toInt = 2 ^ k := by
      rw [e1, e2]
      exact yshl_t k (by omega)
    rw [e3]
    exact ⟨⟨ypw (by omega), ypw (by omega)⟩, nl⟩
  · exact ⟨⟨hz.1, by show (yfI o x y).toInt ≤ 2147483647; omega⟩, nl⟩
def yoL (o : Nat) (p q : Int × Int) (l1 l2 : yL) : (Int × Int) × Option yL :=
  if o < 3 ∨ o = 9 ∨ o = 10 then yop 9223372036854775808 o p q l1 l2 else ((-9223372036854775808, 9223372036854775807), none)
theorem yoL_ok {r : Nat → Int} {n : Nat} {o : Nat} {p q : Int × Int} {l1 l2 : yL} {x y : Int64} (w1 : yw n l1) (w2 : yw n l2) (hx : x.toInt = yev r l1) (hy : y.toInt = yev r l2) (h1 : p.1 ≤ yev r l1 ∧ yev r l1 ≤ p.2) (h2 : q.1 ≤ yev r l2 ∧ yev r l2 ≤ q.2) :
    ((yoL o p q l1 l2).1.1 ≤ (yfL o x y).toInt ∧ (yfL o x y).toInt ≤ (yoL o p q l1 l2).1.2) ∧ ∀ l, (yoL o p q l1 l2).2 = some l → yw n l ∧ yev r l = (yfL o x y).toInt := by
  have hz := y64 (yfL o x y)
  unfold yoL
  split
  · next h =>
    refine yop_ok (k := 2 ^ 64) (by decide) w1 w2 h1 h2 ?_ hz
    rw [← hx, ← hy]
    exact yfL_m h x y
  · exact ⟨⟨hz.1, by show (yfL o x y).toInt ≤ 9223372036854775807; omega⟩, fun l hl => by cases hl⟩
end
section
/-! New symbols; what a comparison tells. -/
def yput (S : yS) (t : (Int × Int) × Option yL) : yS × yL := if t.1.1 = t.1.2 then (S, yc t.1.1) else match t.2 with
  | some l => (S, l)
  | none => ((S.1 + 1, (S.1, t.1.1, t.1.2) :: S.2.1, S.2.2), (1, S.1, 0))
def yset (r : Nat → Int) (n : Nat) (z : Int) : Nat → Int := fun s => if s = n then z else r s
theorem yset_ag (r : Nat → Int) (n : Nat) (z : Int) : yag n r (yset r n z) := fun s hs => by
  unfold yset
  rw [if_neg (Nat.ne_of_lt hs)]
theorem yset_n (r : Nat → Int) (n : Nat) (z : Int) : yset r n z n = z := if_pos rfl
section YREF
variable {hp : zHp} {r : Nat → Int} {S : yS} {lv : List (Nat × Value)} {st : List Value}
theorem yG_new (g : yG hp r S lv st) {lo hi z : Int} (h : lo ≤ z ∧ z ≤ hi) : yG hp (yset r S.1 z) (S.1 + 1, (S.1, lo, hi) :: S.2.1, S.2.2) lv st := by
  have a := yset_ag r S.1 z
  refine ⟨fun e he => ?_, yGf_ag (Nat.le_succ _) a g.2.1, yGt_ag (Nat.le_succ _) a g.2.2.1, yGl_ag (Nat.le_succ _) a g.2.2.2.1, ystk_ag (Nat.le_succ _) a g.2.2.2.2⟩
  rcases List.mem_cons.mp he with rfl | he
  · refine ⟨Nat.lt_succ_self _, ?_⟩
    show lo ≤ yset r S.1 z S.1 ∧ yset r S.1 z S.1 ≤ hi
    rw [yset_n]
    exact h
  · exact yGe_ag (Nat.le_succ _) a g.1 e he
theorem yput_ok (g : yG hp r S lv st) {t : (Int × Int) × Option yL} {z : Int} (h : (t.1.1 ≤ z ∧ z ≤ t.1.2) ∧ ∀ l, t.2 = some l → yw S.1 l ∧ yev r l = z) :
    ∃ r2, yag S.1 r r2 ∧ S.1 ≤ (yput S t).1.1 ∧ (yput S t).1.2.2 = S.2.2 ∧ yG hp r2 (yput S t).1 lv st ∧ yw (yput S t).1.1 (yput S t).2 ∧ yev r2 (yput S t).2 = z := by
  unfold yput
  split
  · next e =>
    refine ⟨r, fun _ _ => rfl, Nat.le_refl _, rfl, g, Or.inl rfl, ?_⟩
    rw [yev_c]
    omega
  · split
    · next l hl => exact ⟨r, fun _ _ => rfl, Nat.le_refl _, rfl, g, h.2 l hl⟩
    · refine ⟨yset r S.1 z, yset_ag _ _ _, Nat.le_succ _, rfl, yG_new g h.1, Or.inr (Nat.lt_succ_self _), ?_⟩
      show 1 * yset r S.1 z S.1 + 0 = z
      rw [yset_n]
      omega
/-- the greatest of the lower bounds of x that the facts give -/
def ylow (b : yB) (x : yX) (z : Int) : List yX → Int
  | [] => z
  | g :: l => ylow b x (match ylbs b (yadd (-1) g x).1 with
    | some u => ymax z (u + (yadd (-1) g x).2)
    | none => z) l
theorem ylow_ok {n : Nat} {b : yB} (gb : yGe r n b) {x : yX} : ∀ {f : List yX} {z : Int}, yGf r n f → z ≤ yex r x → ylow b x z f ≤ yex r x
  | [], z, _, h => h
  | g :: l, z, gf, h => by
    unfold ylow
    refine ylow_ok gb (fun y hy => gf y (List.mem_cons_of_mem _ hy)) ?_
    split
    · next u hu =>
      have h1 := ylbs_ok gb hu
      have h2 := (gf g List.mem_cons_self).2
      have h3 := yadd_ok r (-1) g x
      have h4 : yex r (yadd (-1) g x) = yxs r (yadd (-1) g x).1 + (yadd (-1) g x).2 := rfl
      unfold ymax
      split <;> omega
    · exact h
def yneg (x : yX) : yX := yadd (-1) x ([], 0)
theorem yneg_ok (r : Nat → Int) (x : yX) : yex r (yneg x) = - yex r x := by
  unfold yneg
  rw [yadd_ok]
  show -1 * yex r x + (0 + 0) = _
  omega
/-- the sum of two forms of different symbols: a new symbol, and what it is -/
def ysum (S : yS) (l1 l2 : yL) (p : Int × Int) : yS × yL :=
  ((S.1 + 1, (S.1, ylow S.2.1 (yadd 1 (yxl l1) (yxl l2)) p.1 S.2.2.1, - ylow S.2.1 (yneg (yadd 1 (yxl l1) (yxl l2))) (-p.2) S.2.2.1) :: S.2.1, yadd (-1) (yxl (1, S.1, 0)) (yadd 1 (yxl l1) (yxl l2)) :: yneg (yadd (-1) (yxl (1, S.1, 0)) (yadd 1 (yxl l1) (yxl l2))) :: S.2.2.1, S.2.2.2), (1, S.1, 0))
theorem yin1_w {n : Nat} {k : Int} {s : Nat} (hs : s < n) : ∀ {l : List (Int × Nat)}, (∀ t ∈ l, t.2 < n) → ∀ t ∈ yin1 k s l, t.2 < n
  | [], _, t, ht => by
    rcases List.mem_cons.mp ht with rfl | ht
    · exact hs
    · cases ht
  | q :: l, h, t, ht => by
    unfold yin1 at ht
    split at ht
    · rcases List.mem_cons.mp ht with rfl | ht
      · exact hs
      · exact h t (List.mem_cons_of_mem _ ht)
    · rcases List.mem_cons.mp ht with rfl | ht
      · exact h _ List.mem_cons_self
      · exact yin1_w hs (fun t ht => h t (List.mem_cons_of_mem _ ht)) t ht
theorem yaddl_w {n : Nat} {k : Int} : ∀ {l m : List (Int × Nat)}, (∀ t ∈ l, t.2 < n) → (∀ t ∈ m, t.2 < n) → ∀ t ∈ yaddl k l m, t.2 < n
  | [], m, _, h => h
  | q :: l, m, h1, h2 => by
    unfold yaddl
    exact yaddl_w (fun t ht => h1 t (List.mem_cons_of_mem _ ht)) (yin1_w (h1 q List.mem_cons_self) h2)
theorem yxl_w {n : Nat} {l : yL} (w : yw n l) : ∀ t ∈ (yxl l).1, t.2 < n := by
  unfold yxl
  split
  · intro t ht; cases ht
  · next h =>
    intro t ht
    rcases List.mem_cons.mp ht with rfl | ht
    · exact w.resolve_left h
    · cases ht
theorem ysum_ok (g : yG hp r S lv st) {l1 l2 : yL} (w1 : yw S.1 l1) (w2 : yw S.1 l2) {p : Int × Int} (h : p.1 ≤ yev r l1 + yev r l2 ∧ yev r l1 + yev r l2 ≤ p.2) :
    ∃ r2, yag S.1 r r2 ∧ S.1 ≤ (ysum S l1 l2 p).1.1 ∧ (ysum S l1 l2 p).1.2.2.2 = S.2.2.2 ∧ yG hp r2 (ysum S l1 l2 p).1 lv st ∧ yw (ysum S l1 l2 p).1.1 (ysum S l1 l2 p).2 ∧ yev r2 (ysum S l1 l2 p).2 = yev r l1 + yev r l2 := by
  have ex : yex r (yadd 1 (yxl l1) (yxl l2)) = yev r l1 + yev r l2 := by rw [yadd_ok, yxl_ok, yxl_ok]; omega
  have lo := ylow_ok (r := r) g.1 (x := yadd 1 (yxl l1) (yxl l2)) (z := p.1) g.2.1 (by omega)
  have hi := ylow_ok (r := r) g.1 (x := yneg (yadd 1 (yxl l1) (yxl l2))) (z := -p.2) g.2.1 (by rw [yneg_ok]; omega)
  rw [yneg_ok] at hi
  have g2 := yG_new g (z := yev r l1 + yev r l2) (lo := ylow S.2.1 (yadd 1 (yxl l1) (yxl l2)) p.1 S.2.2.1) (hi := - ylow S.2.1 (yneg (yadd 1 (yxl l1) (yxl l2))) (-p.2) S.2.2.1) (by omega)
  have a := yset_ag r S.1 (yev r l1 + yev r l2)
  have ev : yev (yset r S.1 (yev r l1 + yev r l2)) (1, S.1, 0) = yev r l1 + yev r l2 := by
    show 1 * yset r S.1 _ S.1 + 0 = _
    rw [yset_n]
    omega
  have wn : yw (S.1 + 1) (1, S.1, 0) := Or.inr (Nat.lt_succ_self _)
  have e0 : yex (yset r S.1 (yev r l1 + yev r l2)) (yadd (-1) (yxl (1, S.1, 0)) (yadd 1 (yxl l1) (yxl l2))) = 0 := by
    rw [yadd_ok, yxl_ok, ev, yadd_ok, yxl_ok, yxl_ok, yev_ag a w1, yev_ag a w2]
    omega
  have ww : ∀ t ∈ (yadd (-1) (yxl (1, S.1, 0)) (yadd 1 (yxl l1) (yxl l2))).1, t.2 < S.1 + 1 := yaddl_w (yxl_w wn) (yaddl_w (yxl_w (yw_le (Nat.le_succ _) w1)) (yxl_w (yw_le (Nat.le_succ _) w2)))
  refine ⟨yset r S.1 (yev r l1 + yev r l2), a, Nat.le_succ _, rfl, ⟨g2.1, fun x hx => ?_, g2.2.2⟩, wn, ev⟩
  rcases List.mem_cons.mp hx with rfl | hx
  · exact ⟨ww, by rw [e0]; exact Int.le_refl _⟩
  · rcases List.mem_cons.mp hx with rfl | hx
    · exact ⟨yaddl_w ww (fun t ht => by cases ht), by rw [yneg_ok, e0]; exact Int.le_refl _⟩
    · exact g2.2.1 x hx
/-- two ints by an operation -/
def ybi (S : yS) (o : Nat) (l1 l2 : yL) : Option (yS × yL) := match yrg S.2.1 l1, yrg S.2.1 l2 with
  | some p, some q =>
    if (yoI o p q l1 l2).2 = none ∧ ¬ (yoI o p q l1 l2).1.1 = (yoI o p q l1 l2).1.2 ∧ o = 0 ∧ -1000 ≤ p.1 + q.1 ∧ p.2 + q.2 ≤ 1000 then some (ysum S l1 l2 (p.1 + q.1, p.2 + q.2)) else
    if (yoI o p q l1 l2).2 = none ∧ ¬ (yoI o p q l1 l2).1.1 = (yoI o p q l1 l2).1.2 ∧ o = 1 ∧ -1000 ≤ p.1 - q.2 ∧ p.2 - q.1 ≤ 1000 then some (ysum S l1 (ylneg l2) (p.1 - q.2, p.2 - q.1)) else
    some (yput S (yoI o p q l1 l2))
  | _, _ => none
theorem ybi_ok (g : yG hp r S lv st) {o : Nat} {l1 l2 : yL} (w1 : yw S.1 l1) (w2 : yw S.1 l2) {x y : Int32} (hx : x.toInt = yev r l1) (hy : y.toInt = yev r l2) {T : yS × yL} (h : ybi S o l1 l2 = some T) :
    ∃ r2, yag S.1 r r2 ∧ S.1 ≤ T.1.1 ∧ T.1.2.2.2 = S.2.2.2 ∧ yG hp r2 T.1 lv st ∧ yw T.1.1 T.2 ∧ (yfI o x y).toInt = yev r2 T.2 := by
  unfold ybi at h
  split at h
  · next p q hp1 hq1 =>
    have b1 := yrg_ok g.1 hp1
    have b2 := yrg_ok g.1 hq1
    split at h
    · next c =>
      cases h
      obtain ⟨r2, a1, a2, a3, a4, a5, a6⟩ := ysum_ok g w1 w2 (p := (p.1 + q.1, p.2 + q.2)) (by show p.1 + q.1 ≤ _ ∧ _ ≤ p.2 + q.2; omega)
      refine ⟨r2, a1, a2, a3, a4, a5, ?_⟩
      rw [a6, c.2.2.1]
      show (x + y).toInt = _
      rw [Int32.toInt_add, hx, hy]
      exact Int.bmod_eq_of_le_mul_two (by omega) (by omega)
    · split at h
      · next c =>
        cases h
        have n2 := ylneg_ok (r := r) w2
        obtain ⟨r2, a1, a2, a3, a4, a5, a6⟩ := ysum_ok g w1 n2.1 (p := (p.1 - q.2, p.2 - q.1)) (by rw [n2.2]; show p.1 - q.2 ≤ _ ∧ _ ≤ p.2 - q.1; omega)
        refine ⟨r2, a1, a2, a3, a4, a5, ?_⟩
        rw [a6, n2.2, c.2.2.1]
        show (x - y).toInt = _
        rw [Int32.toInt_sub, hx, hy]
        have := Int.bmod_eq_of_le_mul_two (x := yev r l1 - yev r l2) (y := 2 ^ 32) (by omega) (by omega)
        omega
      · cases h
        obtain ⟨r2, a1, a2, a3, a4, a5, a6⟩ := yput_ok g (yoI_ok (o := o) w1 w2 hx hy b1 b2)
        exact ⟨r2, a1, a2, congrArg (fun z => z.2) a3, a4, a5, a6.symm⟩
  · cases h
def ybl (S : yS) (o : Nat) (l1 l2 : yL) : Option (yS × yL) := match yrg S.2.1 l1, yrg S.2.1 l2 with
  | some p, some q => some (yput S (yoL o p q l1 l2))
  | _, _ => none
theorem ybl_ok (g : yG hp r S lv st) {o : Nat} {l1 l2 : yL} (w1 : yw S.1 l1) (w2 : yw S.1 l2) {x y : Int64} (hx : x.toInt = yev r l1) (hy : y.toInt = yev r l2) {T : yS × yL} (h : ybl S o l1 l2 = some T) :
    ∃ r2, yag S.1 r r2 ∧ S.1 ≤ T.1.1 ∧ T.1.2.2.2 = S.2.2.2 ∧ yG hp r2 T.1 lv st ∧ yw T.1.1 T.2 ∧ (yfL o x y).toInt = yev r2 T.2 := by
  unfold ybl at h
  split at h
  · next p q hp1 hq1 =>
    cases h
    obtain ⟨r2, a1, a2, a3, a4, a5, a6⟩ := yput_ok g (yoL_ok (o := o) w1 w2 hx hy (yrg_ok g.1 hp1) (yrg_ok g.1 hq1))
    exact ⟨r2, a1, a2, congrArg (fun z => z.2) a3, a4, a5, a6.symm⟩
  · cases h
/-- l1 is at most l2; none: that can't be -/
def yup (b : yB) (l : yL) (z : Int) : yB := if l.1 = 1 then (match ybd b l.2.1 with
  | some e => if z - l.2.2 < e.2 then (l.2.1, e.1, z - l.2.2) :: b else b
  | none => b) else b
def ydn (b : yB) (l : yL) (z : Int) : yB := if l.1 = 1 then (match ybd b l.2.1 with
  | some e => if e.1 < z - l.2.2 then (l.2.1, z - l.2.2, e.2) :: b else b
  | none => b) else b
theorem yup_ok {n : Nat} {b : yB} (g : yGe r n b) {l : yL} {z : Int} (h : yev r l ≤ z) : yGe r n (yup b l z) := by
  unfold yup
  split
  · next h1 =>
    split
    · next e he =>
      split
      · intro q hq
        have m := g _ (ybd_mem he)
        rcases List.mem_cons.mp hq with rfl | hq
        · refine ⟨m.1, m.2.1, ?_⟩
          show r l.2.1 ≤ z - l.2.2
          have : l.1 * r l.2.1 + l.2.2 ≤ z := h
          rw [h1] at this
          omega
        · exact g q hq
      · exact g
    · exact g
  · exact g
theorem ydn_ok {n : Nat} {b : yB} (g : yGe r n b) {l : yL} {z : Int} (h : z ≤ yev r l) : yGe r n (ydn b l z) := by
  unfold ydn
  split
  · next h1 =>
    split
    · next e he =>
      split
      · intro q hq
        have m := g _ (ybd_mem he)
        rcases List.mem_cons.mp hq with rfl | hq
        · refine ⟨m.1, ?_, m.2.2⟩
          show z - l.2.2 ≤ r l.2.1
          have : z ≤ l.1 * r l.2.1 + l.2.2 := h
          rw [h1] at this
          omega
        · exact g q hq
      · exact g
    · exact g
  · exact g
def yle (S : yS) (l1 l2 : yL) (fact : Bool) : Option yS := match yrg S.2.1 l1, yrg S.2.1 l2 with
  | some p, some q => if q.2 < p.1 then none else some (S.1, ydn (yup S.2.1 l1 q.2) l2 p.1, (if fact && !(l1.1 == 0) && !(l2.1 == 0) && !(l1.2.1 == l2.2.1) && decide (q.1 < p.2) then yadd (-1) (yxl l1) (yxl l2) :: S.2.2.1 else S.2.2.1), S.2.2.2)
  | _, _ => some S
theorem yle_ok (g : yG hp r S lv st) {l1 l2 : yL} (w1 : yw S.1 l1) (w2 : yw S.1 l2) (fact : Bool) (h : yev r l1 ≤ yev r l2) : ∃ T, yle S l1 l2 fact = some T ∧ T.1 = S.1 ∧ T.2.2.2 = S.2.2.2 ∧ yG hp r T lv st := by
  unfold yle
  split
  · next p q hp1 hq1 =>
    have b1 := yrg_ok g.1 hp1
    have b2 := yrg_ok g.1 hq1
    rw [if_neg (by omega)]
    refine ⟨_, rfl, rfl, rfl, ydn_ok (yup_ok g.1 (by omega)) (by omega), ?_, g.2.2⟩
    split
    · intro x hx
      rcases List.mem_cons.mp hx with rfl | hx
      · refine ⟨yaddl_w (yxl_w w1) (yxl_w w2), ?_⟩
        rw [yadd_ok, yxl_ok, yxl_ok]
        omega
      · exact g.2.1 x hx
    · exact g.2.1
  · exact ⟨S, rfl, rfl, rfl, g⟩
def yp1 (l : yL) : yL := (l.1, l.2.1, l.2.2 + 1)
theorem yp1_ev (l : yL) : yev r (yp1 l) = yev r l + 1 := by
  show l.1 * r l.2.1 + (l.2.2 + 1) = l.1 * r l.2.1 + l.2.2 + 1
  omega
/-- l1 is not l2 -/
def yne (S : yS) (l1 l2 : yL) : Option yS := match yrg S.2.1 l1, yrg S.2.1 l2 with
  | some p, some q => if (p.1 = p.2 ∧ q.1 = q.2 ∧ p.1 = q.1) ∨ l1 = l2 then none else
    if q.1 = q.2 ∧ p.1 = q.1 then some (S.1, ydn S.2.1 l1 (p.1 + 1), S.2.2) else
    if q.1 = q.2 ∧ p.2 = q.1 then some (S.1, yup S.2.1 l1 (p.2 - 1), S.2.2) else
    if p.1 = p.2 ∧ q.1 = p.1 then some (S.1, ydn S.2.1 l2 (q.1 + 1), S.2.2) else
    if p.1 = p.2 ∧ q.2 = p.1 then some (S.1, yup S.2.1 l2 (q.2 - 1), S.2.2) else some S
  | _, _ => some S
theorem yne_ok (g : yG hp r S lv st) {l1 l2 : yL} (h : yev r l1 ≠ yev r l2) : ∃ T, yne S l1 l2 = some T ∧ T.1 = S.1 ∧ T.2.2.2 = S.2.2.2 ∧ yG hp r T lv st := by
  unfold yne
  split
  · next p q hp1 hq1 =>
    have b1 := yrg_ok g.1 hp1
    have b2 := yrg_ok g.1 hq1
    rw [if_neg (fun z => by
      rcases z with z | z
      · omega
      · exact h (by rw [z]))]
    split
    · exact ⟨_, rfl, rfl, rfl, ydn_ok g.1 (by omega), g.2⟩
    split
    · exact ⟨_, rfl, rfl, rfl, yup_ok g.1 (by omega), g.2⟩
    split
    · exact ⟨_, rfl, rfl, rfl, ydn_ok g.1 (by omega), g.2⟩
    split
    · exact ⟨_, rfl, rfl, rfl, yup_ok g.1 (by omega), g.2⟩
    · exact ⟨S, rfl, rfl, rfl, g⟩
  · exact ⟨S, rfl, rfl, rfl, g⟩
def yref (c : _root_.Jvm.ClassFile.Cond) (S : yS) (l1 l2 : yL) : Option yS := match c with
  | .le => yle S l1 l2 true
  | .lt => yle S (yp1 l1) l2 true
  | .ge => yle S l2 l1 true
  | .gt => yle S (yp1 l2) l1 true
  | .eq => match yle S l1 l2 false with
    | some T => yle T l2 l1 false
    | none => none
  | .ne => yne S l1 l2
def yhl (c : _root_.Jvm.ClassFile.Cond) (x y : Int) : Prop := match c with
  | .le => x ≤ y
  | .lt => x < y
  | .ge => y ≤ x
  | .gt => y < x
  | .eq => x = y
  | .ne => x ≠ y
theorem yref_ok (g : yG hp r S lv st) {c : _root_.Jvm.ClassFile.Cond} {l1 l2 : yL} (w1 : yw S.1 l1) (w2 : yw S.1 l2) (h : yhl c (yev r l1) (yev r l2)) : ∃ T, yref c S l1 l2 = some T ∧ T.1 = S.1 ∧ T.2.2.2 = S.2.2.2 ∧ yG hp r T lv st := by
  cases c with
  | le => exact yle_ok g w1 w2 true h
  | lt => exact yle_ok g (l1 := yp1 l1) w1 w2 true (by rw [yp1_ev]; have h : yev r l1 < yev r l2 := h; omega)
  | ge => exact yle_ok g w2 w1 true h
  | gt => exact yle_ok g (l1 := yp1 l2) w2 w1 true (by rw [yp1_ev]; have h : yev r l2 < yev r l1 := h; omega)
  | eq =>
    have h : yev r l1 = yev r l2 := h
    obtain ⟨T, e1, e2, e3, g2⟩ := yle_ok g w1 w2 false (by omega)
    obtain ⟨T2, f1, f2, f3, g3⟩ := yle_ok g2 (by rw [e2]; exact w2) (by rw [e2]; exact w1) false (by omega)
    refine ⟨T2, ?_, f2.trans e2, f3.trans e3, g3⟩
    show (match yle S l1 l2 false with
    | some T => yle T l2 l1 false
    | none => none) = some T2
    rw [e1]
    exact f1
  | ne => exact yne_ok g h
theorem yhl_cmp (c : _root_.Jvm.ClassFile.Cond) (x y : Int32) : zcmp c x y = true ↔ yhl c x.toInt y.toInt := by
  cases c with
  | eq => simp [zcmp, yhl, Int32.toInt_inj]
  | ne => simp [zcmp, yhl, Int32.toInt_inj]
  | lt => simp [zcmp, yhl, Int32.lt_iff_toInt_lt]
  | ge => simp [zcmp, yhl, Int32.le_iff_toInt_le]
  | gt => simp [zcmp, yhl, Int32.lt_iff_toInt_lt]
  | le => simp [zcmp, yhl, Int32.le_iff_toInt_le]
def ynot (c : _root_.Jvm.ClassFile.Cond) : _root_.Jvm.ClassFile.Cond := match c with
  | .le => .gt
  | .lt => .ge
  | .ge => .lt
  | .gt => .le
  | .eq => .ne
  | .ne => .eq
theorem yhl_not (c : _root_.Jvm.ClassFile.Cond) (x y : Int) : ¬ yhl c x y ↔ yhl (ynot c) x y := by
  cases c <;> simp only [yhl, ynot] <;> omega
end YREF
end
section
/-! What each cell holds at all times. -/
/-- bounds of a row's element by the row's code -/
def yel (ec j : Nat) : Int × Int := match ec with
  | 1 => if j = 0 ∨ j = 2 ∨ j = 3 then (0, 6) else if (6 ≤ j ∧ j < 12) ∨ (24 ≤ j ∧ j < 30) ∨ (42 ≤ j ∧ j < 48) then (0, 5) else if 72 ≤ j ∧ j < 78 then (0, 63) else (-2147483648, 2147483647)
  | 2 => if j = 0 ∨ j = 2 ∨ j = 3 then (0, 6) else if 10 ≤ j ∧ j < 46 ∧ ((j - 10) % 6 = 0 ∨ (j - 10) % 6 = 3) then (0, 5) else if 124 ≤ j ∧ j < 148 ∧ (j - 124) % 4 = 0 then (0, 5) else (-2147483648, 2147483647)
  | 3 => (0, 5)
  | 4 => (-1, 5)
  | 5 => (0, 255)
  | 6 => (-128, 127)
  | 7 => (0, 1)
  | 8 => (0, 63)
  | 9 => if j % 124 = 0 ∨ j % 124 = 2 ∨ j % 124 = 3 then (0, 6) else if 10 ≤ j % 124 ∧ j % 124 < 46 ∧ ((j % 124 - 10) % 6 = 0 ∨ (j % 124 - 10) % 6 = 3) then (0, 5) else (-2147483648, 2147483647)
  | 10 => if j % 148 = 0 ∨ j % 148 = 2 ∨ j % 148 = 3 then (0, 6) else if 10 ≤ j % 148 ∧ j % 148 < 46 ∧ ((j % 148 - 10) % 6 = 0 ∨ (j % 148 - 10) % 6 = 3) then (0, 5) else if 124 ≤ j % 148 ∧ (j % 148 - 124) % 4 = 0 then (0, 5) else (-2147483648, 2147483647)
  | 11 => (0, 400)
  | 12 => (0, 12)
  | 13 => (0, 2147483647)
  | _ => (-2147483648, 2147483647)
/-- codes whose elements differ -/
def yed (ec : Nat) : Bool := ec == 1 || ec == 2 || ec == 9 || ec == 10
theorem yel_same {ec : Nat} (h : yed ec = false) (j : Nat) : yel ec j = yel ec 0 := by
  unfold yed at h
  match ec, h with
  | 0, _ => rfl
  | 3, _ => rfl
  | 4, _ => rfl
  | 5, _ => rfl
  | 6, _ => rfl
  | 7, _ => rfl
  | 8, _ => rfl
  | 11, _ => rfl
  | 12, _ => rfl
  | 13, _ => rfl
  | n + 14, _ => rfl
/-- a cell's kind: 0 an object (its class, its fields' kinds and bounds), 1 a row (kind of row, length, code), 2 a row of ints of some length -/
abbrev yC : Type := Nat × Nat × Nat × Nat × List (Nat × Int × Int)
def yft (t : Nat × Int × Int) (v : Value) : Prop := match t.1 with
  | 0 => ∃ x : Int32, v = .int x ∧ t.2.1 ≤ x.toInt ∧ x.toInt ≤ t.2.2
  | 1 => ∃ x : Int64, v = .long x ∧ t.2.1 ≤ x.toInt ∧ x.toInt ≤ t.2.2
  | _ => ∃ i : Nat, v = .ref i ∧ t.2.1 ≤ (i : Int) ∧ (i : Int) ≤ t.2.2
def yokc (h : Nat) (c : yC) (x : zCl) : Prop := match c.1 with
  | 0 => ∃ fs : List Value, x = .inr (c.2.1, fs) ∧ fs.length = c.2.2.2.2.length ∧ ∀ (j : Nat) (t : Nat × Int × Int), c.2.2.2.2[j]? = some t → ∃ v, fs[j]? = some v ∧ yft t v
  | 1 => match c.2.1 with
    | 3 => ∃ f : Nat → Int64, x = .inl (3, c.2.2.1, .inr (.inl f))
    | 4 => ∃ f : Nat → Option Nat, x = .inl (4, c.2.2.1, .inr (.inr (.inr (.inr f)))) ∧ ∀ j, j < c.2.2.1 → f j = none ∨ ∃ k : Nat, f j = some (88 + 3 * k) ∧ 88 + 3 * k + 2 < h
    | 5 => ∃ f : Nat → Option Nat, x = .inl (5, c.2.2.1, .inr (.inr (.inr (.inr f)))) ∧ ∀ j, j < c.2.2.1 → f j = some (c.2.2.2.1 + j)
    | k => k < 3 ∧ ∃ f : Nat → Int32, x = .inl (k, c.2.2.1, .inl f) ∧ ∀ j, j < c.2.2.1 → (yel c.2.2.2.1 j).1 ≤ (f j).toInt ∧ (f j).toInt ≤ (yel c.2.2.2.1 j).2
  | _ => ∃ (n : Nat) (f : Nat → Int32), n ≤ 400 ∧ x = .inl (0, n, .inl f)
def ytab : List yC := [(0, 10, 0, 0, [(2, 1, 1), (0, 0, 400), (2, 2, 2), (2, 4, 4), (2, 6, 6), (2, 9, 9), (2, 11, 11), (2, 13, 13), (0, 0, 6), (2, 14, 14), (2, 36, 36), (2, 41, 41), (2, 42, 42), (2, 43, 43), (2, 44, 44), (2, 50, 50), (2, 67, 67)]),
  (1, 0, 400, 5, []),
  (0, 6, 0, 0, [(2, 1, 3), (0, 0, 400), (0, 0, 400), (0, 0, 400), (0, 0, 4000)]),
  (1, 0, 0, 0, []),
  (0, 9, 0, 0, [(2, 5, 5)]),
  (1, 0, 4, 0, []),
  (0, 5, 0, 0, [(2, 7, 7), (0, 0, 400), (2, 8, 8), (0, 0, 400), (0, (-2147483648), 2147483647), (0, (-2147483648), 2147483647), (0, (-2147483648), 2147483647), (0, (-2147483648), 2147483647), (0, (-2147483648), 2147483647), (0, (-2147483648), 2147483647)]),
  (1, 0, 400, 0, []),
  (1, 0, 400, 0, []),
  (0, 8, 0, 0, [(2, 10, 10)]),
  (1, 0, 114, 1, []),
  (0, 8, 0, 0, [(2, 12, 12)]),
  (1, 0, 114, 1, []),
  (1, 4, 6, 0, []),
  (0, 2, 0, 0, [(2, 15, 15), (0, 0, 19), (0, 0, 20)]),
  (1, 5, 20, 16, []),
  (1, 0, 114, 1, []),
  (1, 0, 114, 1, []),
  (1, 0, 114, 1, []),
  (1, 0, 114, 1, []),
  (1, 0, 114, 1, []),
  (1, 0, 114, 1, []),
  (1, 0, 114, 1, []),
  (1, 0, 114, 1, []),
  (1, 0, 114, 1, []),
  (1, 0, 114, 1, []),
  (1, 0, 114, 1, []),
  (1, 0, 114, 1, []),
  (1, 0, 114, 1, []),
  (1, 0, 114, 1, []),
  (1, 0, 114, 1, []),
  (1, 0, 114, 1, []),
  (1, 0, 114, 1, []),
  (1, 0, 114, 1, []),
  (1, 0, 114, 1, []),
  (1, 0, 114, 1, []),
  (1, 5, 4, 37, []),
  (1, 0, 114, 1, []),
  (1, 0, 114, 1, []),
  (1, 0, 114, 1, []),
  (1, 0, 114, 1, []),
  (1, 0, 4, 13, []),
  (1, 2, 4, 7, []),
  (0, 1, 0, 0, [(0, 0, 2147483647)]),
  (0, 0, 0, 0, [(2, 45, 45), (2, 46, 46), (2, 47, 47), (0, (-2147483648), 2147483647), (2, 48, 48), (0, (-2147483648), 2147483647), (0, (-2147483648), 2147483647), (2, 49, 49), (0, (-2147483648), 2147483647), (0, (-2147483648), 2147483647), (0, (-2147483648), 2147483647)]),
  (1, 0, 6, 0, []),
  (1, 0, 6, 0, []),
  (1, 0, 64, 0, []),
  (1, 0, 5, 0, []),
  (1, 0, 5, 3, []),
  (0, 3, 0, 0, [(2, 51, 51), (0, 0, 6), (2, 57, 57), (2, 58, 58), (2, 59, 59)]),
  (0, 0, 0, 0, [(2, 52, 52), (2, 53, 53), (2, 54, 54), (0, (-2147483648), 2147483647), (2, 55, 55), (0, (-2147483648), 2147483647), (0, (-2147483648), 2147483647), (2, 56, 56), (0, (-2147483648), 2147483647), (0, (-2147483648), 2147483647), (0, (-2147483648), 2147483647)]),
  (1, 0, 6, 0, []),
  (1, 0, 6, 0, []),
  (1, 0, 64, 0, []),
  (1, 0, 5, 0, []),
  (1, 0, 5, 3, []),
  (1, 0, 6, 0, []),
  (1, 0, 6, 0, []),
  (1, 5, 7, 60, []),
  (1, 0, 64, 0, []),
  (1, 0, 64, 0, []),
  (1, 0, 64, 0, []),
  (1, 0, 64, 0, []),
  (1, 0, 64, 0, []),
  (1, 0, 64, 0, []),
  (1, 0, 64, 0, []),
  (0, 7, 0, 0, [(2, 68, 68), (0, 0, 6), (2, 69, 69)]),
  (1, 0, 6, 3, []),
  (1, 0, 6, 0, []),
  (0, 11, 0, 0, [(2, 71, 71), (0, 0, 400), (0, 0, 6), (2, 72, 72), (2, 73, 73), (2, 74, 74), (2, 75, 75), (2, 76, 76), (0, 0, 400), (0, 0, 4000), (0, 0, 99999), (0, 0, 6), (0, 0, 60), (0, (-2147483648), 2147483647), (0, 0, 40), (2, 77, 77), (0, 0, 400), (0, 0, 5), (0, 0, 5), (2, 78, 78), (0, 0, 64), (2, 79, 79), (2, 80, 80), (0, 0, 2147483647), (2, 81, 81), (0, 0, 20), (0, 0, 2147483647), (0, 0, 2147483647), (2, 82, 82), (2, 83, 83), (0, (-2147483648), 2147483647), (2, 84, 84), (0, (-2147483648), 2147483647), (0, (-2147483648), 2147483647), (0, (-2147483648), 2147483647), (1, 0, 2147483647), (2, 85, 85), (2, 86, 86), (2, 87, 87)]),
  (1, 1, 400, 6, []),
  (1, 0, 2400, 0, []),
  (1, 0, 7, 11, []),
  (1, 0, 288, 0, []),
  (1, 0, 6, 12, []),
  (1, 0, 148, 2, []),
  (1, 0, 400, 0, []),
  (1, 3, 64, 0, []),
  (1, 3, 13, 0, []),
  (1, 0, 148, 2, []),
  (1, 0, 2480, 9, []),
  (1, 2, 36, 7, []),
  (1, 0, 6, 0, []),
  (1, 0, 124, 2, []),
  (1, 0, 592, 10, []),
  (1, 0, 4, 13, []),
  (1, 2, 4, 7, [])]
def yty (i : Nat) : yC := if i < 88 then ytab.getD i (9, 0, 0, 0, []) else match (i - 88) % 3 with
  | 0 => (0, 4, 0, 0, [(2, (i : Int) + 1, (i : Int) + 1), (2, (i : Int) + 2, (i : Int) + 2)])
  | 1 => (2, 0, 400, 0, [])
  | _ => (1, 3, 64, 0, [])
/-- all cells hold what they should -/
def yH0 (hp : zHp) : Prop := 88 ≤ hp.1 ∧ hp.1 ≤ 1000 ∧ ∀ i, i < hp.1 → yokc hp.1 (yty i) (hp.2 i)
/-- which places may change: cells from, to; a place, or 1000: all -/
abbrev yM : Type := List (Nat × Nat × Nat)
def yinM (M : yM) (i : Nat) (j : Int) : Bool := M.any (fun m => decide (m.1 ≤ i) && decide (i ≤ m.2.1) && (m.2.2 == 1000 || decide ((m.2.2 : Int) = j)))
/-- nothing else has changed -/
def yF (M : yM) (hp hp' : zHp) : Prop := hp.1 ≤ hp'.1 ∧ (yinM M 999 0 = false → hp'.1 = hp.1) ∧ ∀ (i : Nat) (j : Int), ((j < 0 ∧ i < hp.1) ∨ yinM M i j = false) → yrd hp' i j = yrd hp i j
theorem yF_refl (M : yM) (hp : zHp) : yF M hp hp := ⟨Nat.le_refl _, fun _ => rfl, fun _ _ _ => rfl⟩
theorem yF_trans {M : yM} {a b c : zHp} (h1 : yF M a b) (h2 : yF M b c) : yF M a c := ⟨Nat.le_trans h1.1 h2.1, fun h => (h2.2.1 h).trans (h1.2.1 h), fun i j h => (h2.2.2 i j (h.imp_left (fun q => ⟨q.1, Nat.lt_of_lt_of_le q.2 h1.1⟩))).trans (h1.2.2 i j h)⟩
def yleM (M N : yM) : Bool := M.all (fun m => N.any (fun n => decide (n.1 ≤ m.1) && decide (m.2.1 ≤ n.2.1) && (n.2.2 == 1000 || n.2.2 == m.2.2)))
theorem yleM_ok {M N : yM} (h : yleM M N = true) {i : Nat} {j : Int} (hn : yinM N i j = false) : yinM M i j = false := by
  cases hm : yinM M i j with
  | false => rfl
  | true =>
    exfalso
    unfold yinM at hm
    rw [List.any_eq_true] at hm
    obtain ⟨m, h1, h2⟩ := hm
    have h3 := List.all_eq_true.mp h m h1
    rw [List.any_eq_true] at h3
    obtain ⟨n, h4, h5⟩ := h3
    have : yinM N i j = true := by
      unfold yinM
      rw [List.any_eq_true]
      refine ⟨n, h4, ?_⟩
      simp only [Bool.and_eq_true, Bool.or_eq_true, decide_eq_true_eq, beq_iff_eq] at h2 h5 ⊢
      obtain ⟨⟨a1, a2⟩, a3⟩ := h2
      obtain ⟨⟨b1, b2⟩, b3⟩ := h5
      refine ⟨⟨by omega, by omega⟩, ?_⟩
      rcases b3 with b3 | b3
      · exact Or.inl b3
      · rw [b3]
        exact a3
    rw [this] at hn
    cases hn
theorem yF_le {M N : yM} (h : yleM M N = true) {a b : zHp} (f : yF M a b) : yF N a b := ⟨f.1, fun q => f.2.1 (yleM_ok h q), fun i j q => f.2.2 i j (q.imp_right (yleM_ok h))⟩
/-- values that places hold -/
def yeq (a b : yL) : Bool := a.1 == b.1 && a.2.1 == b.2.1 && a.2.2 == b.2.2
theorem yeq_ok {a b : yL} (h : yeq a b = true) : a = b := by
  unfold yeq at h
  simp only [Bool.and_eq_true, beq_iff_eq] at h
  exact Prod.ext h.1.1 (Prod.ext h.1.2 h.2)
def ylk : List yK → yL → yL → Option yV
  | [], _, _ => none
  | t :: l, cl, il => if yeq t.1 cl && yeq t.2.1 il then some t.2.2 else ylk l cl il
theorem ylk_mem : ∀ {l : List yK} {cl il : yL} {a : yV}, ylk l cl il = some a → (cl, il, a) ∈ l
  | [], _, _, _, h => by cases h
  | t :: l, cl, il, a, h => by
    unfold ylk at h
    split at h
    · next e =>
      rw [Bool.and_eq_true] at e
      cases h
      have e1 := yeq_ok e.1
      have e2 := yeq_ok e.2
      obtain ⟨t1, t2, t3⟩ := t
      cases e1
      cases e2
      exact List.mem_cons_self
    · exact List.mem_cons_of_mem _ (ylk_mem h)
/-- never the same place -/
def yap (b : yB) (x y : yL) : Bool := match yrg b x, yrg b y with
  | some p, some q => decide (p.2 < q.1) || decide (q.2 < p.1)
  | _, _ => false
theorem yap_ok {r : Nat → Int} {n : Nat} {b : yB} (g : yGe r n b) {x y : yL} (h : yap b x y = true) : yev r x ≠ yev r y := by
  unfold yap at h
  split at h
  · next p q h1 h2 =>
    have a := yrg_ok g h1
    have c := yrg_ok g h2
    simp only [Bool.or_eq_true, decide_eq_true_eq] at h
    omega
  · cases h
def ykill (b : yB) (cl il : yL) (t : List yK) : List yK := t.filter (fun q => yap b cl q.1 || yap b il q.2.1)
/-- a cell that a value points to: its form, its kind -/
def yceq (a b : yC) : Bool := a.1 == b.1 && (a.2.1 == b.2.1 && (a.2.2.1 == b.2.2.1 && (a.2.2.2.1 == b.2.2.2.1 && (a.2.2.2.2.isEmpty && b.2.2.2.2.isEmpty))))
theorem yceq_ok {a b : yC} (h : yceq a b = true) : a = b := by
  unfold yceq at h
  simp only [Bool.and_eq_true, beq_iff_eq, List.isEmpty_iff] at h
  obtain ⟨h1, h2, h3, h4, h5, h6⟩ := h
  exact Prod.ext h1 (Prod.ext h2 (Prod.ext h3 (Prod.ext h4 (h5.trans h6.symm))))
def yall (c : yC) : Nat → Nat → Bool
  | 0, _ => true
  | n + 1, i => yceq (yty i) c && yall c n (i + 1)
theorem yall_ok {c : yC} : ∀ {n i : Nat}, yall c n i = true → ∀ k, k < n → yty (i + k) = c
  | 0, _, _, k, hk => by omega
  | n + 1, i, h, k, hk => by
    unfold yall at h
    rw [Bool.and_eq_true] at h
    cases k with
    | zero => exact yceq_ok h.1
    | succ k =>
      have := yall_ok h.2 k (by omega)
      rw [show i + (k + 1) = i + 1 + k by omega]
      exact this
def ycel (b : yB) (v : yV) : Option (yL × yC) := match v.1 with
  | 2 => match yrg b v.2.1 with
    | some p => if 0 ≤ p.1 ∧ p.2 < 88 then (if p.1 = p.2 then some (yc p.1, yty p.1.toNat) else if yall (yty p.1.toNat) (p.2 - p.1 + 1).toNat p.1.toNat = true then some (v.2.1, yty p.1.toNat) else none) else none
    | none => none
  | 3 => match yrg b v.2.1 with
    | some p => if 0 ≤ p.1 then some ((3 * v.2.1.1, v.2.1.2.1, 3 * v.2.1.2.2 + 88), (7, 4, 0, 0, [])) else none
    | none => none
  | 5 => some ((3 * v.2.1.1, v.2.1.2.1, 3 * v.2.1.2.2 + 89), (2, 0, 400, 0, []))
  | 6 => some ((3 * v.2.1.1, v.2.1.2.1, 3 * v.2.1.2.2 + 90), (1, 3, 64, 0, []))
  | _ => none
theorem yty_r0 (k : Nat) : yty (88 + 3 * k) = (0, 4, 0, 0, [(2, ((88 + 3 * k : Nat) : Int) + 1, ((88 + 3 * k : Nat) : Int) + 1), (2, ((88 + 3 * k : Nat) : Int) + 2, ((88 + 3 * k : Nat) : Int) + 2)]) := by
  unfold yty
  rw [if_neg (by omega), show (88 + 3 * k - 88) % 3 = 0 by omega]
  rfl
theorem yty_r1 (k : Nat) : yty (89 + 3 * k) = (2, 0, 400, 0, []) := by
  unfold yty
  rw [if_neg (by omega), show (89 + 3 * k - 88) % 3 = 1 by omega]
  rfl
theorem yty_r2 (k : Nat) : yty (90 + 3 * k) = (1, 3, 64, 0, []) := by
  unfold yty
  rw [if_neg (by omega), show (90 + 3 * k - 88) % 3 = 2 by omega]
  rfl
theorem y3w {n : Nat} {l : yL} (w : yw n l) (d : Int) : yw n (3 * l.1, l.2.1, 3 * l.2.2 + d) := w.imp_left (fun h => by show 3 * l.1 = 0; omega)
theorem y3e (r : Nat → Int) (l : yL) (d : Int) : yev r (3 * l.1, l.2.1, 3 * l.2.2 + d) = 3 * yev r l + d := by
  show 3 * l.1 * r l.2.1 + (3 * l.2.2 + d) = 3 * (l.1 * r l.2.1 + l.2.2) + d
  rw [Int.mul_assoc]
  omega
theorem ycel_ok {hp : zHp} {r : Nat → Int} {n : Nat} {b : yB} (g : yGe r n b) (H : yH0 hp) {v : yV} {w : Value} (hw : ywv n v) (hv : yv hp.1 r v w) {q : yL × yC} (h : ycel b v = some q) :
    ∃ i : Nat, w = .ref i ∧ i < hp.1 ∧ (i : Int) = yev r q.1 ∧ yw n q.1 ∧ (q.2.1 ≠ 7 → yokc hp.1 q.2 (hp.2 i)) ∧ (v.1 = 2 → i < 88 ∧ q.2 = yty i) ∧ (v.1 = 3 → ∃ k : Nat, i = 88 + 3 * k ∧ (k : Int) = yev r v.2.1 ∧ i + 2 < hp.1) := by
  obtain ⟨tag, l, l2⟩ := v
  unfold ycel at h
  split at h
  · next e =>
    have e : tag = 2 := e
    subst e
    have hv : (yev r l = -1 ∧ w = .null) ∨ (0 ≤ yev r l ∧ w = .ref (yev r l).toNat) := hv
    split at h
    · next p hp1 =>
      have bb := yrg_ok g hp1
      have bb1 : p.1 ≤ yev r l := bb.1
      have bb2 : yev r l ≤ p.2 := bb.2
      split at h
      · next c =>
        rcases hv with ⟨hv, -⟩ | ⟨hv, rfl⟩
        · omega
        · have hi : (yev r l).toNat < hp.1 := by have := H.1; omega
          split at h
          · next c2 =>
            cases h
            have e2 : (yev r l).toNat = p.1.toNat := by omega
            refine ⟨(yev r l).toNat, rfl, hi, ?_, Or.inl rfl, fun _ => ?_, fun _ => ⟨by omega, by rw [e2]⟩, fun z => by cases z⟩
            · show _ = yev r (yc p.1)
              rw [yev_c]
              omega
            · show yokc hp.1 (yty p.1.toNat) _
              rw [← e2]
              exact H.2.2 _ hi
          · split at h
            · next c3 =>
              cases h
              have e2 : yty (yev r l).toNat = yty p.1.toNat := by
                have := yall_ok c3 ((yev r l).toNat - p.1.toNat) (by omega)
                rw [show p.1.toNat + ((yev r l).toNat - p.1.toNat) = (yev r l).toNat by omega] at this
                exact this
              refine ⟨(yev r l).toNat, rfl, hi, ?_, hw.1, fun _ => ?_, fun _ => ⟨by omega, e2.symm⟩, fun z => by cases z⟩
              · show _ = yev r l
                omega
              · show yokc hp.1 (yty p.1.toNat) _
                rw [← e2]
                exact H.2.2 _ hi
            · cases h
      · cases h
    · cases h
  · next e =>
    have e : tag = 3 := e
    subst e
    have hv : (yev r l = -1 ∧ w = .null) ∨ (0 ≤ yev r l ∧ 88 + 3 * (yev r l).toNat + 2 < hp.1 ∧ w = .ref (88 + 3 * (yev r l).toNat)) := hv
    split at h
    · next p hp1 =>
      have bb := yrg_ok g hp1
      have bb1 : p.1 ≤ yev r l := bb.1
      split at h
      · next c =>
        cases h
        rcases hv with ⟨hv, -⟩ | ⟨hv, hv2, rfl⟩
        · omega
        · refine ⟨_, rfl, by omega, ?_, y3w hw.1 88, fun z => (z rfl).elim, (fun z => by cases z), fun _ => ⟨(yev r l).toNat, rfl, by show _ = yev r l; omega, by omega⟩⟩
          show _ = yev r (3 * l.1, l.2.1, 3 * l.2.2 + 88)
          rw [y3e]
          omega
      · cases h
    · cases h
  · next e =>
    have e : tag = 5 := e
    subst e
    cases h
    obtain ⟨h1, h2, rfl⟩ : 0 ≤ yev r l ∧ 88 + 3 * (yev r l).toNat + 2 < hp.1 ∧ w = .ref (89 + 3 * (yev r l).toNat) := hv
    refine ⟨_, rfl, by omega, ?_, y3w hw.1 89, fun _ => ?_, (fun z => by cases z), fun z => by cases z⟩
    · show _ = yev r (3 * l.1, l.2.1, 3 * l.2.2 + 89)
      rw [y3e]
      omega
    · have := H.2.2 (89 + 3 * (yev r l).toNat) (by omega)
      rw [yty_r1] at this
      exact this
  · next e =>
    have e : tag = 6 := e
    subst e
    cases h
    obtain ⟨h1, h2, rfl⟩ : 0 ≤ yev r l ∧ 88 + 3 * (yev r l).toNat + 2 < hp.1 ∧ w = .ref (90 + 3 * (yev r l).toNat) := hv
    refine ⟨_, rfl, by omega, ?_, y3w hw.1 90, fun _ => ?_, (fun z => by cases z), fun z => by cases z⟩
    · show _ = yev r (3 * l.1, l.2.1, 3 * l.2.2 + 90)
      rw [y3e]
      omega
    · have := H.2.2 (90 + 3 * (yev r l).toNat) (by omega)
      rw [yty_r2] at this
      exact this
  · cases h
end
section
/-! Steps of the checker that touch no cell. -/
def yst (S : yS) (s : List yV) : yS := (S.1, S.2.1, S.2.2.1, S.2.2.2.1, S.2.2.2.2.1, s)
abbrev yO : Type := Option (List (Nat × yS))
/-- the step is done, and one of the states holds behind it -/
def yD (hp : zHp) (r : Nat → Int) (n : Nat) (L : List (Nat × yS)) (o : zO) : Prop := ∃ fr' : zFr, o = some (.inl (fr', hp)) ∧ ∃ q ∈ L, q.1 = fr'.1 ∧ ∃ r2, yag n r r2 ∧ n ≤ q.2.1 ∧ yG hp r2 q.2 fr'.2.1 fr'.2.2
theorem yag_refl (n : Nat) (r : Nat → Int) : yag n r r := fun _ _ => rfl
section YARM
variable {hp : zHp} {r : Nat → Int} {S : yS} {lv : List (Nat × Value)} {st : List Value} {pc : Nat}
theorem yG_st {T : yS} {st2 : List Value} (g : yG hp r T lv st) {s : List yV} (h : ystk hp.1 r T.1 s st2) : yG hp r (yst T s) lv st2 := ⟨g.1, g.2.1, g.2.2.1, g.2.2.2.1, h⟩
theorem yD1 {k : Nat} {T : yS} {lv2 : List (Nat × Value)} {st2 : List Value} {r2 : Nat → Int} {o : zO} {n : Nat} (ho : o = zn k lv2 st2 hp) (ha : yag n r r2) (hn : n ≤ T.1) (g : yG hp r2 T lv2 st2) : yD hp r n [(k, T)] o := ⟨(k, lv2, st2), ho, (k, T), List.mem_cons_self, rfl, r2, ha, hn, g⟩
def aPush (k : Nat) (a : yV) (pc : Nat) (S : yS) : yO := some [(pc + k, yst S (a :: S.2.2.2.2.2))]
theorem aPush_ok (g : yG hp r S lv st) {k : Nat} {a : yV} {v : Value} (hw : ywv S.1 a) (hv : yv hp.1 r a v) {L : List (Nat × yS)} (h : aPush k a pc S = some L) : yD hp r S.1 L (zPush k v (pc, lv, st) hp) := by
  cases h
  exact yD1 rfl (yag_refl _ _) (Nat.le_refl _) (yG_st g ⟨⟨hw, hv⟩, g.2.2.2.2⟩)
theorem ywI {n : Nat} {l : yL} (w : yw n l) : ywv n (yI l) := ⟨w, Or.inl rfl⟩
theorem ywc (n : Nat) (c : Int) : yw n (yc c) := Or.inl rfl
theorem yvI {h : Nat} {x : Int32} {l : yL} (e : x.toInt = yev r l) : yv h r (yI l) (.int x) := by
  show ∃ y : Int32, Value.int x = .int y ∧ y.toInt = yev r l
  exact ⟨x, rfl, e⟩
theorem yvL {h : Nat} {x : Int64} {l : yL} (e : x.toInt = yev r l) : yv h r (1, l, yc 0) (.long x) := by
  show ∃ y : Int64, Value.long x = .long y ∧ y.toInt = yev r l
  exact ⟨x, rfl, e⟩
theorem yvI' {h : Nat} {a : yV} {v : Value} (e : a.1 = 0) (hv : yv h r a v) : ∃ x : Int32, v = .int x ∧ x.toInt = yev r a.2.1 := by
  unfold yv at hv
  rw [e] at hv
  exact hv
theorem yvL' {h : Nat} {a : yV} {v : Value} (e : a.1 = 1) (hv : yv h r a v) : ∃ x : Int64, v = .long x ∧ x.toInt = yev r a.2.1 := by
  unfold yv at hv
  rw [e] at hv
  exact hv
/-- the number n, if it fits -/
def aConst (k : Nat) (n lo hi : Int) (pc : Nat) (S : yS) : yO := if lo ≤ n ∧ n ≤ hi then aPush k (yI (yc n)) pc S else none
theorem aConst_ok (g : yG hp r S lv st) {k : Nat} {n lo hi : Int} {x : Int32} (hx : lo ≤ n → n ≤ hi → x.toInt = n) {L : List (Nat × yS)} (h : aConst k n lo hi pc S = some L) : yD hp r S.1 L (zPush k (.int x) (pc, lv, st) hp) := by
  unfold aConst at h
  split at h
  · next c => exact aPush_ok g (ywI (ywc _ _)) (yvI (by rw [hx c.1 c.2]; exact (yev_c r n).symm)) h
  · cases h
def aLoadI (k i : Nat) (pc : Nat) (S : yS) : yO := match yld S.2.2.2.2.1 i with
  | some a => if a.1 = 0 then aPush k a pc S else none
  | none => none
theorem aLoadI_ok (g : yG hp r S lv st) {k i : Nat} {L : List (Nat × yS)} (h : aLoadI k i pc S = some L) : yD hp r S.1 L (zLoadI k i (pc, lv, st) hp) := by
  unfold aLoadI at h
  split at h
  · next a ha =>
    split at h
    · next h0 =>
      obtain ⟨w, v, h1, h2⟩ := g.2.2.2.1 i a ha
      have h3 := h2
      unfold yv at h3
      rw [h0] at h3
      obtain ⟨x, rfl, -⟩ := h3
      unfold zLoadI
      dsimp only
      rw [h1]
      exact aPush_ok g w h2 h
    · cases h
  · cases h
def aLoadL (k i : Nat) (pc : Nat) (S : yS) : yO := match yld S.2.2.2.2.1 i with
  | some a => if a.1 = 1 then aPush k a pc S else none
  | none => none
theorem aLoadL_ok (g : yG hp r S lv st) {k i : Nat} {L : List (Nat × yS)} (h : aLoadL k i pc S = some L) : yD hp r S.1 L (zLoadL k i (pc, lv, st) hp) := by
  unfold aLoadL at h
  split at h
  · next a ha =>
    split at h
    · next h0 =>
      obtain ⟨w, v, h1, h2⟩ := g.2.2.2.1 i a ha
      have h3 := h2
      unfold yv at h3
      rw [h0] at h3
      obtain ⟨x, rfl, -⟩ := h3
      unfold zLoadL
      dsimp only
      rw [h1]
      exact aPush_ok g w h2 h
    · cases h
  · cases h
/-- kinds that are references -/
def yisR (t : Nat) : Bool := t == 2 || t == 3 || t == 5 || t == 6
theorem yisR_ok {h : Nat} {a : yV} {v : Value} (e : yisR a.1 = true) (hv : yv h r a v) : v = .null ∨ ∃ i, v = .ref i := by
  obtain ⟨t, l⟩ := a
  have e : (t == 2 || t == 3 || t == 5 || t == 6) = true := e
  simp only [Bool.or_eq_true, beq_iff_eq] at e
  rcases e with ((rfl | rfl) | rfl) | rfl
  · rcases hv with hv | hv
    · exact Or.inl hv.2
    · exact Or.inr ⟨_, hv.2⟩
  · rcases hv with hv | hv
    · exact Or.inl hv.2
    · exact Or.inr ⟨_, hv.2.2⟩
  · exact Or.inr ⟨_, hv.2.2⟩
  · exact Or.inr ⟨_, hv.2.2⟩
def aLoadA (k i : Nat) (pc : Nat) (S : yS) : yO := match yld S.2.2.2.2.1 i with
  | some a => if yisR a.1 = true then aPush k a pc S else none
  | none => none
theorem aLoadA_ok (g : yG hp r S lv st) {k i : Nat} {L : List (Nat × yS)} (h : aLoadA k i pc S = some L) : yD hp r S.1 L (zLoadA k i (pc, lv, st) hp) := by
  unfold aLoadA at h
  split at h
  · next a ha =>
    split at h
    · next h0 =>
      obtain ⟨w, v, h1, h2⟩ := g.2.2.2.1 i a ha
      unfold zLoadA
      dsimp only
      rw [h1]
      rcases yisR_ok h0 h2 with rfl | ⟨x, rfl⟩
      · exact aPush_ok g w h2 h
      · exact aPush_ok g w h2 h
    · cases h
  · cases h
def ylong (l : List (Nat × yV)) (j : Nat) : Bool := match yld l j with
  | some b => b.1 == 1
  | none => false
def ykd (i : Nat) (a : yV) (l : List (Nat × yV)) (j : Nat) : Bool := !(j == i) && (!(j + 1 == i && ylong l j) && !(j == i + 1 && a.1 == 1))
def ysto (i : Nat) (a : yV) (l : List (Nat × yV)) : List (Nat × yV) := (i, a) :: l.filter (fun q => ykd i a l q.1)
theorem yld_filter {p : Nat → Bool} : ∀ {l : List (Nat × yV)} {j : Nat} {a : yV}, yld (l.filter (fun q => p q.1)) j = some a → p j = true ∧ yld l j = some a
  | [], _, _, h => by cases h
  | q :: l, j, a, h => by
    unfold yld
    by_cases hq : p q.1 = true
    · rw [List.filter_cons_of_pos (p := fun q : Nat × yV => p q.1) hq] at h
      unfold yld at h
      by_cases e : q.1 = j
      · rw [if_pos e] at h ⊢
        exact ⟨e ▸ hq, h⟩
      · rw [if_neg e] at h ⊢
        exact yld_filter h
    · rw [List.filter_cons_of_neg (p := fun q : Nat × yV => p q.1) hq] at h
      have k := yld_filter h
      have e : ¬ q.1 = j := fun z => hq (z ▸ k.1)
      rw [if_neg e]
      exact k
theorem zld_filter {p : Nat × Value → Bool} : ∀ {l : List (Nat × Value)} {j : Nat} {v : Value}, zld l j = some v → p (j, v) = true → zld (l.filter p) j = some v
  | [], _, _, h, _ => by cases h
  | q :: l, j, v, h, hp => by
    unfold zld at h
    split at h
    · next e =>
      cases h
      cases e
      have hp : p q = true := hp
      rw [List.filter_cons_of_pos hp]
      unfold zld
      rw [if_pos rfl]
    · next e =>
      by_cases hq : p q = true
      · rw [List.filter_cons_of_pos hq]
        unfold zld
        rw [if_neg e]
        exact zld_filter h hp
      · rw [List.filter_cons_of_neg hq]
        exact zld_filter h hp
theorem ycat {h : Nat} {a : yV} {v : Value} (hv : yv h r a v) : v.category = if a.1 = 1 then 2 else 1 := by
  obtain ⟨t, l⟩ := a
  unfold yv at hv
  split at hv
  · next e => obtain ⟨x, rfl, -⟩ := hv; have e : t = 0 := e; subst e; rfl
  · next e => obtain ⟨x, rfl, -⟩ := hv; have e : t = 1 := e; subst e; rfl
  · next e => have e : t = 2 := e; subst e; rcases hv with ⟨-, rfl⟩ | ⟨-, rfl⟩ <;> rfl
  · next e => have e : t = 3 := e; subst e; rcases hv with ⟨-, rfl⟩ | ⟨-, -, rfl⟩ <;> rfl
  · next e => obtain ⟨x, rfl, -⟩ := hv; have e : t = 4 := e; subst e; rfl
  · next e => obtain ⟨-, -, rfl⟩ := hv; have e : t = 5 := e; subst e; rfl
  · next e => obtain ⟨-, -, rfl⟩ := hv; have e : t = 6 := e; subst e; rfl
  · next e => subst hv; have e : t = 7 := e; subst e; rfl
  · exact hv.elim
/-- a local is set -/
theorem yGl_set {h n : Nat} {l : List (Nat × yV)} (g : yGl h r n l lv) {i : Nat} {a : yV} {v : Value} (w : ywv n a) (hv : yv h r a v) {lv2 : List (Nat × Value)} (h0 : zld lv2 i = some v)
    (h1 : ∀ j u, zld lv j = some u → j ≠ i → ¬ (j + 1 = i ∧ u.category = 2) → ¬ (j = i + 1 ∧ a.1 = 1) → zld lv2 j = some u) : yGl h r n (ysto i a l) lv2 := by
  intro j b hb
  unfold ysto at hb
  by_cases e : j = i
  · subst e
    unfold yld at hb
    rw [if_pos rfl] at hb
    cases hb
    exact ⟨w, v, h0, hv⟩
  · unfold yld at hb
    rw [if_neg (fun z => e z.symm)] at hb
    obtain ⟨k, m⟩ := yld_filter hb
    unfold ykd at k
    simp only [Bool.and_eq_true, Bool.not_eq_true', Bool.and_eq_false_iff, beq_eq_false_iff_ne] at k
    obtain ⟨wb, u, hu, hub⟩ := g j b m
    refine ⟨wb, u, h1 j u hu e ?_ ?_, hub⟩
    · rintro ⟨z1, z2⟩
      rw [ycat hub] at z2
      split at z2
      · next z3 =>
        rcases k.2.1 with k1 | k1
        · exact k1 z1
        · unfold ylong at k1
          rw [m] at k1
          simp [z3] at k1
      · omega
    · rintro ⟨z1, z2⟩
      rcases k.2.2 with k1 | k1 <;> contradiction
theorem ystk_nil {h n : Nat} {s : List Value} (g : ystk h r n [] s) : s = [] := by
  cases s with
  | nil => rfl
  | cons a b => exact g.elim
theorem ystk_cons {h n : Nat} {a : yV} {l : List yV} {s : List Value} (g : ystk h r n (a :: l) s) : ∃ v m, s = v :: m ∧ (ywv n a ∧ yv h r a v) ∧ ystk h r n l m := by
  cases s with
  | nil => exact g.elim
  | cons v m => exact ⟨v, m, rfl, g.1, g.2⟩
def ysz (t : Nat) : Nat := if t = 1 then 1 else 0
def aSto (k i nL : Nat) (t : Nat → Bool) (pc : Nat) (S : yS) : yO := match S.2.2.2.2.2 with
  | a :: s => if t a.1 = true ∧ i + ysz a.1 < nL then some [(pc + k, (S.1, S.2.1, S.2.2.1, S.2.2.2.1, ysto i a S.2.2.2.2.1, s))] else none
  | _ => none
theorem zs1_ld (l : List (Nat × Value)) (i : Nat) (v : Value) : zld (zs1 l i v) i = some v := by unfold zs1 zld; rw [if_pos rfl]
theorem zs1_ot {l : List (Nat × Value)} {i j : Nat} {v u : Value} (h : zld l j = some u) (h1 : j ≠ i) (h2 : ¬ (j + 1 = i ∧ u.category = 2)) : zld (zs1 l i v) j = some u := by
  unfold zs1 zld
  rw [if_neg (fun z => h1 z.symm)]
  refine zld_filter h ?_
  simp only [Bool.and_eq_true, Bool.not_eq_true', Bool.and_eq_false_iff, beq_eq_false_iff_ne]
  refine ⟨h1, ?_⟩
  by_cases e : j + 1 = i
  · exact Or.inr (fun z => h2 ⟨e, z⟩)
  · exact Or.inl e
theorem zs2_ld (l : List (Nat × Value)) (i : Nat) (v : Value) : zld (zs2 l i v) i = some v := by unfold zs2 zld; rw [if_pos rfl]
theorem zs2_ot {l : List (Nat × Value)} {i j : Nat} {v u : Value} (h : zld l j = some u) (h1 : j ≠ i) (h2 : ¬ (j + 1 = i ∧ u.category = 2)) (h3 : j ≠ i + 1) : zld (zs2 l i v) j = some u := by
  unfold zs2 zld
  rw [if_neg (fun z => h1 z.symm)]
  refine zld_filter h ?_
  simp only [Bool.and_eq_true, Bool.not_eq_true', Bool.and_eq_false_iff, beq_eq_false_iff_ne]
  refine ⟨h1, h3, ?_⟩
  by_cases e : j + 1 = i
  · exact Or.inr (fun z => h2 ⟨e, z⟩)
  · exact Or.inl e
theorem aStoI_ok (g : yG hp r S lv st) {k i nL : Nat} {L : List (Nat × yS)} (h : aSto k i nL (fun t => t == 0) pc S = some L) : yD hp r S.1 L (zStoI k i nL (pc, lv, st) hp) := by
  unfold aSto at h
  split at h
  · next a s hs =>
    split at h
    · next c =>
      cases h
      have g5 := g.2.2.2.2
      rw [hs] at g5
      obtain ⟨v, m, rfl, ⟨w, hv⟩, gm⟩ := ystk_cons g5
      have e : a.1 = 0 := by simpa using c.1
      have h3 := hv
      unfold yv at h3
      rw [e] at h3
      obtain ⟨x, rfl, -⟩ := h3
      have c2 : i < nL := by have := c.2; rw [e] at this; exact this
      refine yD1 (k := pc + k) (lv2 := zs1 lv i (.int x)) (st2 := m) ?_ (yag_refl _ _) (Nat.le_refl _) ⟨g.1, g.2.1, g.2.2.1, yGl_set g.2.2.2.1 w hv (zs1_ld _ _ _) (fun j u h1 h2 h3 _ => zs1_ot h1 h2 h3), gm⟩
      unfold zStoI
      dsimp only
      rw [if_pos c2]
    · cases h
  · cases h
theorem aStoL_ok (g : yG hp r S lv st) {k i nL : Nat} {L : List (Nat × yS)} (h : aSto k i nL (fun t => t == 1) pc S = some L) : yD hp r S.1 L (zStoL k i nL (pc, lv, st) hp) := by
  unfold aSto at h
  split at h
  · next a s hs =>
    split at h
    · next c =>
      cases h
      have g5 := g.2.2.2.2
      rw [hs] at g5
      obtain ⟨v, m, rfl, ⟨w, hv⟩, gm⟩ := ystk_cons g5
      have e : a.1 = 1 := by simpa using c.1
      have h3 := hv
      unfold yv at h3
      rw [e] at h3
      obtain ⟨x, rfl, -⟩ := h3
      have c2 : i + 1 < nL := by have := c.2; rw [e] at this; exact this
      refine yD1 (k := pc + k) (lv2 := zs2 lv i (.long x)) (st2 := m) ?_ (yag_refl _ _) (Nat.le_refl _) ⟨g.1, g.2.1, g.2.2.1, yGl_set g.2.2.2.1 w hv (zs2_ld _ _ _) (fun j u h1 h2 h3 h4 => zs2_ot h1 h2 h3 (fun z => h4 ⟨z, e⟩)), gm⟩
      unfold zStoL
      dsimp only
      rw [if_pos c2]
    · cases h
  · cases h
theorem aStoA_ok (g : yG hp r S lv st) {k i nL : Nat} {L : List (Nat × yS)} (h : aSto k i nL yisR pc S = some L) : yD hp r S.1 L (zStoA k i nL (pc, lv, st) hp) := by
  unfold aSto at h
  split at h
  · next a s hs =>
    split at h
    · next c =>
      cases h
      have g5 := g.2.2.2.2
      rw [hs] at g5
      obtain ⟨v, m, rfl, ⟨w, hv⟩, gm⟩ := ystk_cons g5
      have e : ¬ a.1 = 1 := by
        intro z
        have := c.1
        rw [z] at this
        cases this
      have c2 : i < nL := by have := c.2; unfold ysz at this; rw [if_neg e] at this; exact this
      refine yD1 (k := pc + k) (lv2 := zs1 lv i v) (st2 := m) ?_ (yag_refl _ _) (Nat.le_refl _) ⟨g.1, g.2.1, g.2.2.1, yGl_set g.2.2.2.1 w hv (zs1_ld _ _ _) (fun j u h1 h2 h3 _ => zs1_ot h1 h2 h3), gm⟩
      rcases yisR_ok c.1 hv with rfl | ⟨x, rfl⟩
      · unfold zStoA
        dsimp only
        rw [if_pos c2]
      · unfold zStoA
        dsimp only
        rw [if_pos c2]
    · cases h
  · cases h
end YARM
end
section
/-! Steps of the checker that touch no cell: operations and jumps. -/
section YARN
variable {hp : zHp} {r : Nat → Int} {S : yS} {lv : List (Nat × Value)} {st : List Value} {pc : Nat}
/-- behind an operation on the upper operands: T is S with new symbols -/
theorem yG_res {r2 : Nat → Int} {T : yS} (g : yG hp r2 T lv st) (e : T.2.2.2 = S.2.2.2) {s : List yV} {a : yV} {m : List Value} {v : Value} (hs : ystk hp.1 r2 T.1 s m) (w : ywv T.1 a) (hv : yv hp.1 r2 a v) : yG hp r2 (yst T (a :: s)) lv (v :: m) := yG_st g ⟨⟨w, hv⟩, hs⟩
def aBin (o : Nat) (pc : Nat) (S : yS) : yO := match S.2.2.2.2.2 with
  | b :: a :: s => if a.1 = 0 ∧ b.1 = 0 then (match ybi S o a.2.1 b.2.1 with
    | some T => some [(pc + 1, yst T.1 (yI T.2 :: s))]
    | none => none) else none
  | _ => none
theorem aBin_pre (g : yG hp r S lv st) {o : Nat} {L : List (Nat × yS)} (h : aBin o pc S = some L) : ∃ (x y : Int32) (m : List Value) (a b : yV) (s : List yV), st = .int y :: .int x :: m ∧ S.2.2.2.2.2 = b :: a :: s ∧ y.toInt = yev r b.2.1 ∧ ywv S.1 b ∧ ∃ (T : yS) (r2 : Nat → Int), L = [(pc + 1, T)] ∧ yag S.1 r r2 ∧ S.1 ≤ T.1 ∧ yG hp r2 T lv (.int (yfI o x y) :: m) := by
  unfold aBin at h
  split at h
  · next b a s hs =>
    split at h
    · next c =>
      have g5 := g.2.2.2.2
      rw [hs] at g5
      obtain ⟨v1, m1, rfl, ⟨w1, hv1⟩, g6⟩ := ystk_cons g5
      obtain ⟨v2, m, rfl, ⟨w2, hv2⟩, g7⟩ := ystk_cons g6
      obtain ⟨y, rfl, hy⟩ := yvI' c.2 hv1
      obtain ⟨x, rfl, hx⟩ := yvI' c.1 hv2
      split at h
      · next T hT =>
        cases h
        obtain ⟨r2, a1, a2, a3, a4, a5, a6⟩ := ybi_ok g w2.1 w1.1 hx hy hT
        exact ⟨x, y, m, a, b, s, rfl, hs, hy, w1, _, r2, rfl, a1, a2, yG_st a4 ⟨⟨ywI a5, yvI a6⟩, ystk_ag a2 a1 g7⟩⟩
      · cases h
    · cases h
  · cases h
theorem aBin_ok (g : yG hp r S lv st) {o : Nat} {L : List (Nat × yS)} (h : aBin o pc S = some L) : yD hp r S.1 L (zBin (yfI o) (pc, lv, st) hp) := by
  obtain ⟨x, y, m, a, b, s, rfl, -, -, -, T, r2, rfl, a1, a2, a3⟩ := aBin_pre g h
  exact yD1 rfl a1 a2 a3
def ynz (S : yS) : Bool := match S.2.2.2.2.2 with
  | b :: _ => (match yrg S.2.1 b.2.1 with
    | some p => decide (0 < p.1) || decide (p.2 < 0)
    | none => false)
  | _ => false
theorem aBinD_ok (g : yG hp r S lv st) {o : Nat} {L : List (Nat × yS)} (h : (if ynz S = true then aBin o pc S else none) = some L) : yD hp r S.1 L (zBinD (yfI o) (pc, lv, st) hp) := by
  split at h
  · next c =>
    obtain ⟨x, y, m, a, b, s, rfl, hs, hy, hw, T, r2, rfl, a1, a2, a3⟩ := aBin_pre g h
    have y0 : ¬ y = 0 := by
      intro e
      unfold ynz at c
      rw [hs] at c
      dsimp only at c
      split at c
      · next p hp1 =>
        have := yrg_ok g.1 hp1
        rw [← hy, e] at this
        have e0 : (0 : Int32).toInt = 0 := rfl
        rw [e0] at this
        simp only [Bool.or_eq_true, decide_eq_true_eq] at c
        omega
      · cases c
    refine yD1 (lv2 := lv) (st2 := .int (yfI o x y) :: m) ?_ a1 a2 a3
    unfold zBinD
    dsimp only
    rw [if_neg y0]
  · cases h
def aBnl (o : Nat) (pc : Nat) (S : yS) : yO := match S.2.2.2.2.2 with
  | b :: a :: s => if a.1 = 1 ∧ b.1 = 1 then (match ybl S o a.2.1 b.2.1 with
    | some T => some [(pc + 1, yst T.1 ((1, T.2, yc 0) :: s))]
    | none => none) else none
  | _ => none
theorem aBnl_pre (g : yG hp r S lv st) {o : Nat} {L : List (Nat × yS)} (h : aBnl o pc S = some L) : ∃ (x y : Int64) (m : List Value) (a b : yV) (s : List yV), st = .long y :: .long x :: m ∧ S.2.2.2.2.2 = b :: a :: s ∧ y.toInt = yev r b.2.1 ∧ ywv S.1 b ∧ ∃ (T : yS) (r2 : Nat → Int), L = [(pc + 1, T)] ∧ yag S.1 r r2 ∧ S.1 ≤ T.1 ∧ yG hp r2 T lv (.long (yfL o x y) :: m) := by
  unfold aBnl at h
  split at h
  · next b a s hs =>
    split at h
    · next c =>
      have g5 := g.2.2.2.2
      rw [hs] at g5
      obtain ⟨v1, m1, rfl, ⟨w1, hv1⟩, g6⟩ := ystk_cons g5
      obtain ⟨v2, m, rfl, ⟨w2, hv2⟩, g7⟩ := ystk_cons g6
      obtain ⟨y, rfl, hy⟩ := yvL' c.2 hv1
      obtain ⟨x, rfl, hx⟩ := yvL' c.1 hv2
      split at h
      · next T hT =>
        cases h
        obtain ⟨r2, a1, a2, a3, a4, a5, a6⟩ := ybl_ok g w2.1 w1.1 hx hy hT
        exact ⟨x, y, m, a, b, s, rfl, hs, hy, w1, _, r2, rfl, a1, a2, yG_st a4 ⟨⟨⟨a5, Or.inl rfl⟩, yvL a6⟩, ystk_ag a2 a1 g7⟩⟩
      · cases h
    · cases h
  · cases h
theorem aBnl_ok (g : yG hp r S lv st) {o : Nat} {L : List (Nat × yS)} (h : aBnl o pc S = some L) : yD hp r S.1 L (zBnl (yfL o) (pc, lv, st) hp) := by
  obtain ⟨x, y, m, a, b, s, rfl, -, -, -, T, r2, rfl, a1, a2, a3⟩ := aBnl_pre g h
  exact yD1 rfl a1 a2 a3
theorem aBnlD_ok (g : yG hp r S lv st) {o : Nat} {L : List (Nat × yS)} (h : (if ynz S = true then aBnl o pc S else none) = some L) : yD hp r S.1 L (zBnlD (yfL o) (pc, lv, st) hp) := by
  split at h
  · next c =>
    obtain ⟨x, y, m, a, b, s, rfl, hs, hy, hw, T, r2, rfl, a1, a2, a3⟩ := aBnl_pre g h
    have y0 : ¬ y = 0 := by
      intro e
      unfold ynz at c
      rw [hs] at c
      dsimp only at c
      split at c
      · next p hp1 =>
        have := yrg_ok g.1 hp1
        rw [← hy, e] at this
        have e0 : (0 : Int64).toInt = 0 := rfl
        rw [e0] at this
        simp only [Bool.or_eq_true, decide_eq_true_eq] at c
        omega
      · cases c
    refine yD1 (lv2 := lv) (st2 := .long (yfL o x y) :: m) ?_ a1 a2 a3
    unfold zBnlD
    dsimp only
    rw [if_neg y0]
  · cases h
def aInc (i : Nat) (n : Int) (nL : Nat) (pc : Nat) (S : yS) : yO := match yld S.2.2.2.2.1 i with
  | some a => if a.1 = 0 ∧ i < nL ∧ -2147483648 ≤ n ∧ n < 2147483648 then (match ybi S 0 a.2.1 (yc n) with
    | some T => some [(pc + 3, (T.1.1, T.1.2.1, T.1.2.2.1, T.1.2.2.2.1, ysto i (yI T.2) T.1.2.2.2.2.1, T.1.2.2.2.2.2))]
    | none => none) else none
  | none => none
theorem aInc_ok (g : yG hp r S lv st) {i nL : Nat} {n : Int} {L : List (Nat × yS)} (h : aInc i n nL pc S = some L) : yD hp r S.1 L (zInc i n nL (pc, lv, st) hp) := by
  unfold aInc at h
  split at h
  · next a ha =>
    split at h
    · next c =>
      obtain ⟨w, v, h1, h2⟩ := g.2.2.2.1 i a ha
      obtain ⟨x, rfl, hx⟩ := yvI' c.1 h2
      split at h
      · next T hT =>
        cases h
        obtain ⟨r2, a1, a2, a3, a4, a5, a6⟩ := ybi_ok g w.1 (ywc _ _) hx (y := Int32.ofInt n) (by rw [yev_c]; exact Int32.toInt_ofInt_of_le c.2.2.1 c.2.2.2) hT
        refine yD1 (lv2 := zs1 lv i (.int (x + Int32.ofInt n))) (st2 := st) ?_ a1 a2 ⟨a4.1, a4.2.1, a4.2.2.1, yGl_set a4.2.2.2.1 (ywI a5) (yvI a6) (zs1_ld _ _ _) (fun j u h1 h2 h3 _ => zs1_ot h1 h2 h3), a4.2.2.2.2⟩
        unfold zInc
        dsimp only
        rw [h1]
        dsimp only
        rw [if_pos c.2.1]
      · cases h
    · cases h
  · cases h
/-- an int or long by a function of one: a form that stays, or a new symbol -/
def aUn (t t2 : Nat) (lo hi : Int) (pc : Nat) (S : yS) : yO := match S.2.2.2.2.2 with
  | a :: s => if a.1 = t then (match yrg S.2.1 a.2.1 with
    | some p => if lo ≤ p.1 ∧ p.2 ≤ hi then some [(pc + 1, yst S ((t2, a.2.1, yc 0) :: s))] else some [(pc + 1, yst (yput S ((lo, hi), none)).1 ((t2, (yput S ((lo, hi), none)).2, yc 0) :: s))]
    | none => none) else none
  | _ => none
theorem aUn_ok (g : yG hp r S lv st) {t t2 : Nat} {lo hi : Int} {L : List (Nat × yS)} (h : aUn t t2 lo hi pc S = some L) :
    ∃ (a : yV) (v : Value) (m : List Value), st = v :: m ∧ a.1 = t ∧ yv hp.1 r a v ∧ ∀ (z : Int) (u : Value), (lo ≤ z ∧ z ≤ hi) → (lo ≤ yev r a.2.1 → yev r a.2.1 ≤ hi → z = yev r a.2.1) → (∀ (r2 : Nat → Int) (l : yL), yev r2 l = z → yv hp.1 r2 (t2, l, yc 0) u) → yD hp r S.1 L (zn (pc + 1) lv (u :: m) hp) := by
  unfold aUn at h
  split at h
  · next a s hs =>
    split at h
    · next c =>
      have g5 := g.2.2.2.2
      rw [hs] at g5
      obtain ⟨v, m, rfl, ⟨w, hv⟩, gm⟩ := ystk_cons g5
      refine ⟨a, v, m, rfl, c, hv, fun z u hz he hu => ?_⟩
      split at h
      · next p hp1 =>
        have b := yrg_ok g.1 hp1
        split at h
        · next c2 =>
          cases h
          exact yD1 rfl (yag_refl _ _) (Nat.le_refl _) (yG_st g ⟨⟨⟨w.1, Or.inl rfl⟩, hu r _ (he (by omega) (by omega)).symm⟩, gm⟩)
        · cases h
          obtain ⟨r2, a1, a2, a3, a4, a5, a6⟩ := yput_ok g (t := ((lo, hi), none)) (z := z) ⟨hz, fun l hl => by cases hl⟩
          exact yD1 rfl a1 a2 (yG_st a4 ⟨⟨⟨a5, Or.inl rfl⟩, hu r2 _ a6⟩, ystk_ag a2 a1 gm⟩)
      · cases h
    · cases h
  · cases h
theorem aI2l_ok (g : yG hp r S lv st) {L : List (Nat × yS)} (h : aUn 0 1 (-2147483648) 2147483647 pc S = some L) : yD hp r S.1 L (zUn (fun x => .long x.toInt64) (pc, lv, st) hp) := by
  obtain ⟨a, v, m, rfl, ha, hv, K⟩ := aUn_ok g h
  obtain ⟨x, rfl, hx⟩ := yvI' ha hv
  have := y32 x
  exact K x.toInt (.long x.toInt64) (by omega) (fun _ _ => hx) (fun r2 l e => yvL (by rw [Int32.toInt_toInt64]; exact e.symm))
theorem aL2i_ok (g : yG hp r S lv st) {L : List (Nat × yS)} (h : aUn 1 0 (-2147483648) 2147483647 pc S = some L) : yD hp r S.1 L (zUnl (fun x => .int x.toInt32) (pc, lv, st) hp) := by
  obtain ⟨a, v, m, rfl, ha, hv, K⟩ := aUn_ok g h
  obtain ⟨x, rfl, hx⟩ := yvL' ha hv
  have := y32 x.toInt32
  exact K x.toInt32.toInt (.int x.toInt32) (by omega) (fun h1 h2 => by rw [Int64.toInt_toInt32, hx]; exact Int.bmod_eq_of_le_mul_two (by omega) (by omega)) (fun r2 l e => yvI e.symm)
theorem aI2b_ok (g : yG hp r S lv st) {L : List (Nat × yS)} (h : aUn 0 0 (-128) 127 pc S = some L) : yD hp r S.1 L (zUn (fun x => .int x.toInt8.toInt32) (pc, lv, st) hp) := by
  obtain ⟨a, v, m, rfl, ha, hv, K⟩ := aUn_ok g h
  obtain ⟨x, rfl, hx⟩ := yvI' ha hv
  have e : x.toInt8.toInt32.toInt = x.toInt8.toInt := Int8.toInt_toInt32 _
  have b1 : -128 ≤ x.toInt8.toInt := x.toInt8.le_toInt
  have b2 : x.toInt8.toInt < 128 := x.toInt8.toInt_lt
  exact K x.toInt8.toInt32.toInt (.int x.toInt8.toInt32) (by rw [e]; omega) (fun h1 h2 => by rw [e, Int32.toInt_toInt8, hx]; exact Int.bmod_eq_of_le_mul_two (by omega) (by omega)) (fun r2 l e => yvI e.symm)
theorem y2c (x : Int32) : ((x.toUInt32 % 65536).toInt32).toInt = ((x.toBitVec.toNat % 65536 : Nat) : Int) := by
  have e : ((x.toUInt32 % 65536).toInt32).toBitVec.toNat = x.toBitVec.toNat % 65536 := by
    show (x.toBitVec % 65536#32).toNat = _
    rw [BitVec.toNat_umod]
    rfl
  have e2 := ynat_of (b := ((x.toUInt32 % 65536).toInt32).toBitVec) (by rw [e]; omega)
  rw [e] at e2
  exact e2
theorem aI2c_ok (g : yG hp r S lv st) {L : List (Nat × yS)} (h : aUn 0 0 0 65535 pc S = some L) : yD hp r S.1 L (zUn (fun x => .int (x.toUInt32 % 65536).toInt32) (pc, lv, st) hp) := by
  obtain ⟨a, v, m, rfl, ha, hv, K⟩ := aUn_ok g h
  obtain ⟨x, rfl, hx⟩ := yvI' ha hv
  exact K ((x.toUInt32 % 65536).toInt32).toInt (.int (x.toUInt32 % 65536).toInt32) (by rw [y2c]; omega) (fun h1 h2 => by
    rw [y2c, ← hx]
    have := ynat (x := x) (by omega)
    omega) (fun r2 l e => yvI e.symm)
def aLshl (pc : Nat) (S : yS) : yO := match S.2.2.2.2.2 with
  | b :: a :: s => if a.1 = 1 ∧ b.1 = 0 then some [(pc + 1, yst (yput S ((-9223372036854775808, 9223372036854775807), none)).1 ((1, (yput S ((-9223372036854775808, 9223372036854775807), none)).2, yc 0) :: s))] else none
  | _ => none
theorem aLshl_ok (g : yG hp r S lv st) {L : List (Nat × yS)} (h : aLshl pc S = some L) : yD hp r S.1 L (zLshl (pc, lv, st) hp) := by
  unfold aLshl at h
  split at h
  · next b a s hs =>
    split at h
    · next c =>
      have g5 := g.2.2.2.2
      rw [hs] at g5
      obtain ⟨v1, m1, rfl, ⟨w1, hv1⟩, g6⟩ := ystk_cons g5
      obtain ⟨v2, m, rfl, ⟨w2, hv2⟩, g7⟩ := ystk_cons g6
      obtain ⟨y, rfl, hy⟩ := yvI' c.2 hv1
      obtain ⟨x, rfl, hx⟩ := yvL' c.1 hv2
      cases h
      have := y64 (x <<< (y.toInt64 &&& 63))
      obtain ⟨r2, a1, a2, a3, a4, a5, a6⟩ := yput_ok g (t := ((-9223372036854775808, 9223372036854775807), none)) (z := (x <<< (y.toInt64 &&& 63)).toInt) ⟨⟨this.1, Int.le_of_lt_add_one this.2⟩, fun l hl => by cases hl⟩
      exact yD1 rfl a1 a2 (yG_st a4 ⟨⟨⟨a5, Or.inl rfl⟩, yvL a6.symm⟩, ystk_ag a2 a1 g7⟩)
    · cases h
  · cases h
def aLcmp (pc : Nat) (S : yS) : yO := match S.2.2.2.2.2 with
  | b :: a :: s => if a.1 = 1 ∧ b.1 = 1 then some [(pc + 1, yst S ((4, a.2.1, b.2.1) :: s))] else none
  | _ => none
theorem ylcmp (x y : Int64) : ((lg_cmp x y).toInt = -1 ∧ x.toInt < y.toInt) ∨ ((lg_cmp x y).toInt = 0 ∧ x.toInt = y.toInt) ∨ ((lg_cmp x y).toInt = 1 ∧ y.toInt < x.toInt) := by
  unfold lg_cmp
  split
  · next h => exact Or.inr (Or.inr ⟨rfl, Int64.lt_iff_toInt_lt.mp h⟩)
  · next h =>
    split
    · next h2 => exact Or.inr (Or.inl ⟨rfl, by rw [h2]⟩)
    · next h2 =>
      refine Or.inl ⟨rfl, ?_⟩
      have h3 : ¬ y.toInt < x.toInt := fun z => h (Int64.lt_iff_toInt_lt.mpr z)
      have h4 : ¬ x.toInt = y.toInt := fun z => h2 (Int64.toInt_inj.mp z)
      omega
theorem aLcmp_ok (g : yG hp r S lv st) {L : List (Nat × yS)} (h : aLcmp pc S = some L) : yD hp r S.1 L (zLcmp (pc, lv, st) hp) := by
  unfold aLcmp at h
  split at h
  · next b a s hs =>
    split at h
    · next c =>
      have g5 := g.2.2.2.2
      rw [hs] at g5
      obtain ⟨v1, m1, rfl, ⟨w1, hv1⟩, g6⟩ := ystk_cons g5
      obtain ⟨v2, m, rfl, ⟨w2, hv2⟩, g7⟩ := ystk_cons g6
      obtain ⟨y, rfl, hy⟩ := yvL' c.2 hv1
      obtain ⟨x, rfl, hx⟩ := yvL' c.1 hv2
      cases h
      refine yD1 rfl (yag_refl _ _) (Nat.le_refl _) (yG_st g ⟨⟨⟨w2.1, w1.1⟩, ?_⟩, g7⟩)
      show ∃ z : Int32, Value.int (lg_cmp x y) = .int z ∧ _
      refine ⟨lg_cmp x y, rfl, ?_⟩
      have e := ylcmp x y
      rw [hx, hy] at e
      exact e
    · cases h
  · cases h
def aDup (pc : Nat) (S : yS) : yO := match S.2.2.2.2.2 with
  | a :: s => if a.1 = 1 then none else some [(pc + 1, yst S (a :: a :: s))]
  | _ => none
theorem aDup_ok (g : yG hp r S lv st) {L : List (Nat × yS)} (h : aDup pc S = some L) : yD hp r S.1 L (zDup (pc, lv, st) hp) := by
  unfold aDup at h
  split at h
  · next a s hs =>
    split at h
    · cases h
    · next c =>
      cases h
      have g5 := g.2.2.2.2
      rw [hs] at g5
      obtain ⟨v, m, rfl, hv, gm⟩ := ystk_cons g5
      refine yD1 (lv2 := lv) (st2 := v :: v :: m) ?_ (yag_refl _ _) (Nat.le_refl _) (yG_st g ⟨hv, hv, gm⟩)
      unfold zDup
      dsimp only
      rw [if_pos (by rw [ycat hv.2, if_neg c])]
  · cases h
def aDup2 (pc : Nat) (S : yS) : yO := match S.2.2.2.2.2 with
  | a :: b :: s => if a.1 = 1 ∨ b.1 = 1 then none else some [(pc + 1, yst S (a :: b :: a :: b :: s))]
  | _ => none
theorem aDup2_ok (g : yG hp r S lv st) {L : List (Nat × yS)} (h : aDup2 pc S = some L) : yD hp r S.1 L (zDup2 (pc, lv, st) hp) := by
  unfold aDup2 at h
  split at h
  · next a b s hs =>
    split at h
    · cases h
    · next c =>
      cases h
      have g5 := g.2.2.2.2
      rw [hs] at g5
      obtain ⟨v, m1, rfl, hv, gm1⟩ := ystk_cons g5
      obtain ⟨u, m, rfl, hu, gm⟩ := ystk_cons gm1
      refine yD1 (lv2 := lv) (st2 := v :: u :: v :: u :: m) ?_ (yag_refl _ _) (Nat.le_refl _) (yG_st g ⟨hv, hu, hv, hu, gm⟩)
      unfold zDup2
      dsimp only
      rw [if_pos ⟨by rw [ycat hv.2, if_neg (fun z => c (Or.inl z))], by rw [ycat hu.2, if_neg (fun z => c (Or.inr z))]⟩]
  · cases h
def aPop (pc : Nat) (S : yS) : yO := match S.2.2.2.2.2 with
  | a :: s => if a.1 = 1 then none else some [(pc + 1, yst S s)]
  | _ => none
theorem aPop_ok (g : yG hp r S lv st) {L : List (Nat × yS)} (h : aPop pc S = some L) : yD hp r S.1 L (zPop (pc, lv, st) hp) := by
  unfold aPop at h
  split at h
  · next a s hs =>
    split at h
    · cases h
    · next c =>
      cases h
      have g5 := g.2.2.2.2
      rw [hs] at g5
      obtain ⟨v, m, rfl, hv, gm⟩ := ystk_cons g5
      refine yD1 (lv2 := lv) (st2 := m) ?_ (yag_refl _ _) (Nat.le_refl _) (yG_st g gm)
      unfold zPop
      dsimp only
      rw [if_pos (by rw [ycat hv.2, if_neg c])]
  · cases h
/-- both ways of a comparison -/
def ytry (c : _root_.Jvm.ClassFile.Cond) (k : Nat) (S : yS) (l1 l2 : yL) : List (Nat × yS) := match yref c S l1 l2 with
  | some T => [(k, T)]
  | none => []
def ybra (c : _root_.Jvm.ClassFile.Cond) (sp : Bool) (k : Nat) (S : yS) (l1 l2 : yL) : List (Nat × yS) := match sp, c with
  | true, .ne => ytry .lt k S l1 l2 ++ ytry .gt k S l1 l2
  | _, c => ytry c k S l1 l2
theorem ytry_ok (g : yG hp r S lv st) {c : _root_.Jvm.ClassFile.Cond} {k : Nat} {l1 l2 : yL} (w1 : yw S.1 l1) (w2 : yw S.1 l2) (h : yhl c (yev r l1) (yev r l2)) : ∃ q ∈ ytry c k S l1 l2, q.1 = k ∧ S.1 ≤ q.2.1 ∧ yG hp r q.2 lv st := by
  obtain ⟨T, e1, e2, e3, g2⟩ := yref_ok g w1 w2 h
  refine ⟨(k, T), ?_, rfl, Nat.le_of_eq e2.symm, g2⟩
  unfold ytry
  rw [e1]
  exact List.mem_cons_self
theorem ybra_ok (g : yG hp r S lv st) {c : _root_.Jvm.ClassFile.Cond} {sp : Bool} {k : Nat} {l1 l2 : yL} (w1 : yw S.1 l1) (w2 : yw S.1 l2) (h : yhl c (yev r l1) (yev r l2)) : ∃ q ∈ ybra c sp k S l1 l2, q.1 = k ∧ S.1 ≤ q.2.1 ∧ yG hp r q.2 lv st := by
  unfold ybra
  split
  · have h : yev r l1 ≠ yev r l2 := h
    by_cases e : yev r l1 < yev r l2
    · obtain ⟨q, m, x⟩ := ytry_ok (c := .lt) (k := k) g w1 w2 e
      exact ⟨q, List.mem_append_left _ m, x⟩
    · obtain ⟨q, m, x⟩ := ytry_ok (c := .gt) (k := k) g w1 w2 (show yev r l2 < yev r l1 by omega)
      exact ⟨q, List.mem_append_right _ m, x⟩
  · exact ytry_ok g w1 w2 h
def aIf (c : _root_.Jvm.ClassFile.Cond) (a : Nat) (pc : Nat) (S : yS) : yO := match S.2.2.2.2.2 with
  | v :: s => if v.1 = 0 then some (ybra c false a (yst S s) v.2.1 (yc 0) ++ ybra (ynot c) false (pc + 3) (yst S s) v.2.1 (yc 0)) else
    if v.1 = 4 then some (ybra c true a (yst S s) v.2.1 v.2.2 ++ ybra (ynot c) true (pc + 3) (yst S s) v.2.1 v.2.2) else none
  | _ => none
theorem yD_bra {sp : Bool} {c : _root_.Jvm.ClassFile.Cond} {a b : Nat} {l1 l2 : yL} {m : List Value} {z : Bool} {o : zO} (g : yG hp r S lv m) (w1 : yw S.1 l1) (w2 : yw S.1 l2) (hz : z = true ↔ yhl c (yev r l1) (yev r l2)) (ho : o = zn (if z = true then a else b) lv m hp) : yD hp r S.1 (ybra c sp a S l1 l2 ++ ybra (ynot c) sp b S l1 l2) o := by
  by_cases h : z = true
  · rw [if_pos h] at ho
    obtain ⟨q, h1, h2, h3, h4⟩ := ybra_ok (sp := sp) (k := a) g w1 w2 (hz.mp h)
    exact ⟨(a, lv, m), ho, q, List.mem_append_left _ h1, h2, r, yag_refl _ _, h3, h4⟩
  · rw [if_neg h] at ho
    obtain ⟨q, h1, h2, h3, h4⟩ := ybra_ok (sp := sp) (k := b) g w1 w2 ((yhl_not _ _ _).mp (fun z => h (hz.mpr z)))
    exact ⟨(b, lv, m), ho, q, List.mem_append_right _ h1, h2, r, yag_refl _ _, h3, h4⟩
theorem aIf_ok (g : yG hp r S lv st) {c : _root_.Jvm.ClassFile.Cond} {a : Nat} {L : List (Nat × yS)} (h : aIf c a pc S = some L) : yD hp r S.1 L (zIf c a (pc, lv, st) hp) := by
  unfold aIf at h
  split at h
  · next v s hs =>
    have g5 := g.2.2.2.2
    rw [hs] at g5
    obtain ⟨u, m, rfl, ⟨w, hv⟩, gm⟩ := ystk_cons g5
    have g2 := yG_st g gm
    split at h
    · next h0 =>
      cases h
      obtain ⟨x, rfl, hx⟩ := yvI' h0 hv
      refine yD_bra g2 w.1 (ywc _ _) (z := zcmp c x 0) ?_ rfl
      rw [yhl_cmp, hx, yev_c]
      exact Iff.rfl
    · split at h
      · next h4 =>
        cases h
        unfold yv at hv
        rw [h4] at hv
        obtain ⟨x, rfl, hx⟩ := hv
        refine yD_bra g2 w.1 w.2 (z := zcmp c x 0) ?_ rfl
        rw [yhl_cmp, show (0 : Int32).toInt = 0 from rfl]
        cases c <;> simp only [yhl] <;> omega
      · cases h
  · cases h
def aIfc (c : _root_.Jvm.ClassFile.Cond) (a : Nat) (pc : Nat) (S : yS) : yO := match S.2.2.2.2.2 with
  | v :: u :: s => if v.1 = 0 ∧ u.1 = 0 then some (ybra c false a (yst S s) u.2.1 v.2.1 ++ ybra (ynot c) false (pc + 3) (yst S s) u.2.1 v.2.1) else none
  | _ => none
theorem aIfc_ok (g : yG hp r S lv st) {c : _root_.Jvm.ClassFile.Cond} {a : Nat} {L : List (Nat × yS)} (h : aIfc c a pc S = some L) : yD hp r S.1 L (zIfc c a (pc, lv, st) hp) := by
  unfold aIfc at h
  split at h
  · next v u s hs =>
    have g5 := g.2.2.2.2
    rw [hs] at g5
    obtain ⟨v1, m1, rfl, ⟨w1, hv1⟩, g6⟩ := ystk_cons g5
    obtain ⟨v2, m, rfl, ⟨w2, hv2⟩, g7⟩ := ystk_cons g6
    split at h
    · next h0 =>
      cases h
      obtain ⟨y, rfl, hy⟩ := yvI' h0.1 hv1
      obtain ⟨x, rfl, hx⟩ := yvI' h0.2 hv2
      refine yD_bra (yG_st g g7) w2.1 w1.1 (z := zcmp c x y) ?_ rfl
      rw [yhl_cmp, hx, hy]
    · cases h
  · cases h
def aNul (n : Bool) (a : Nat) (pc : Nat) (S : yS) : yO := match S.2.2.2.2.2 with
  | v :: s => if v.1 = 3 then some (ytry .eq (if n then a else pc + 3) (yst S s) v.2.1 (yc (-1)) ++ ytry .ge (if n then pc + 3 else a) (yst S s) v.2.1 (yc 0)) else none
  | _ => none
theorem aNul_ok (g : yG hp r S lv st) {n : Bool} {a : Nat} {L : List (Nat × yS)} (h : aNul n a pc S = some L) : yD hp r S.1 L (if n = true then zNul a (pc, lv, st) hp else zNnl a (pc, lv, st) hp) := by
  unfold aNul at h
  split at h
  · next v s hs =>
    have g5 := g.2.2.2.2
    rw [hs] at g5
    obtain ⟨u, m, rfl, ⟨w, hv⟩, gm⟩ := ystk_cons g5
    have g2 := yG_st g gm
    split at h
    · next h3 =>
      cases h
      unfold yv at hv
      rw [h3] at hv
      rcases hv with ⟨hv, rfl⟩ | ⟨hv, -, rfl⟩
      · obtain ⟨q, h1, h2, h3, h4⟩ := ytry_ok (c := .eq) (k := if n then a else pc + 3) g2 w.1 (ywc _ _) (show yev r v.2.1 = yev r (yc (-1)) by rw [yev_c]; exact hv)
        refine ⟨(if n then a else pc + 3, lv, m), ?_, q, List.mem_append_left _ h1, h2, r, yag_refl _ _, h3, h4⟩
        cases n <;> rfl
      · obtain ⟨q, h1, h2, h3, h4⟩ := ytry_ok (c := .ge) (k := if n then pc + 3 else a) g2 w.1 (ywc _ _) (show yev r (yc 0) ≤ yev r v.2.1 by rw [yev_c]; exact hv)
        refine ⟨(if n then pc + 3 else a, lv, m), ?_, q, List.mem_append_right _ h1, h2, r, yag_refl _ _, h3, h4⟩
        cases n <;> rfl
    · cases h
  · cases h
def yj (pc : Nat) (off : Int) : Bool := decide ((pc : Int) + off = (((pc : Int) + off).toNat : Int))
def aTabL (pc : Nat) (S : yS) (l : yL) : Int → List Int → Option (List (Nat × yS))
  | _, [] => some []
  | k, off :: os => if yj pc off = true then (match aTabL pc S l (k + 1) os with
    | some R => some (ytry .eq ((pc : Int) + off).toNat S l (yc k) ++ R)
    | none => none) else none
def aTab (d lo hi : Int) (offs : Array Int) (pc : Nat) (S : yS) : yO := match S.2.2.2.2.2 with
  | v :: s => if v.1 = 0 ∧ yj pc d = true ∧ hi - lo + 1 = (offs.toList.length : Int) then (match aTabL pc (yst S s) v.2.1 lo offs.toList with
    | some R => some (ytry .lt ((pc : Int) + d).toNat (yst S s) v.2.1 (yc lo) ++ (ytry .gt ((pc : Int) + d).toNat (yst S s) v.2.1 (yc hi) ++ R))
    | none => none) else none
  | _ => none
theorem aTabL_ok (g : yG hp r S lv st) {l : yL} (w : yw S.1 l) : ∀ {os : List Int} {k : Int} {R : List (Nat × yS)}, aTabL pc S l k os = some R → ∀ {i : Nat} {off : Int}, os[i]? = some off → yev r l = k + (i : Int) → yj pc off = true ∧ ∃ q ∈ R, q.1 = ((pc : Int) + off).toNat ∧ S.1 ≤ q.2.1 ∧ yG hp r q.2 lv st
  | [], _, _, _, _, _, h, _ => by cases h
  | o :: os, k, R, h, i, off, hi, he => by
    unfold aTabL at h
    split at h
    · next c =>
      split at h
      · next R2 hR =>
        cases h
        cases i with
        | zero =>
          cases hi
          obtain ⟨q, h1, h2⟩ := ytry_ok (c := .eq) (k := ((pc : Int) + o).toNat) g w (ywc _ k) (show yev r l = yev r (yc k) by rw [yev_c]; omega)
          exact ⟨c, q, List.mem_append_left _ h1, h2⟩
        | succ i =>
          obtain ⟨a1, q, h1, h2⟩ := aTabL_ok g w hR (i := i) (off := off) (by simpa using hi) (by omega)
          exact ⟨a1, q, List.mem_append_right _ h1, h2⟩
      · cases h
    · cases h
theorem zJmp_ok {off : Int} {m : List Value} (h : yj pc off = true) : zJmp off lv m pc hp = zn ((pc : Int) + off).toNat lv m hp := by
  unfold zJmp
  rw [if_pos (of_decide_eq_true h)]
theorem aTab_ok (g : yG hp r S lv st) {d lo hi : Int} {offs : Array Int} {L : List (Nat × yS)} (h : aTab d lo hi offs pc S = some L) : yD hp r S.1 L (zTab d lo hi offs (pc, lv, st) hp) := by
  unfold aTab at h
  split at h
  · next v s hs =>
    have g5 := g.2.2.2.2
    rw [hs] at g5
    obtain ⟨u, m, rfl, ⟨w, hv⟩, gm⟩ := ystk_cons g5
    have g2 := yG_st g gm
    split at h
    · next c =>
      split at h
      · next R hR =>
        cases h
        obtain ⟨x, rfl, hx⟩ := yvI' c.1 hv
        unfold zTab
        dsimp only
        by_cases e1 : x.toInt < lo
        · rw [if_pos (Or.inl e1), zJmp_ok c.2.1]
          obtain ⟨q, h1, h2, h3, h4⟩ := ytry_ok (c := .lt) (k := ((pc : Int) + d).toNat) g2 w.1 (ywc _ lo) (show yev r v.2.1 < yev r (yc lo) by rw [yev_c]; omega)
          exact ⟨_, rfl, q, List.mem_append_left _ h1, h2, r, yag_refl _ _, h3, h4⟩
        · by_cases e2 : hi < x.toInt
          · rw [if_pos (Or.inr e2), zJmp_ok c.2.1]
            obtain ⟨q, h1, h2, h3, h4⟩ := ytry_ok (c := .gt) (k := ((pc : Int) + d).toNat) g2 w.1 (ywc _ hi) (show yev r (yc hi) < yev r v.2.1 by rw [yev_c]; omega)
            exact ⟨_, rfl, q, List.mem_append_right _ (List.mem_append_left _ h1), h2, r, yag_refl _ _, h3, h4⟩
          · rw [if_neg (by omega)]
            have hl : (x.toInt - lo).toNat < offs.toList.length := by omega
            obtain ⟨off, ho⟩ : ∃ off, offs.toList[(x.toInt - lo).toNat]? = some off := ⟨_, List.getElem?_eq_getElem hl⟩
            have ho2 : offs[(x.toInt - lo).toNat]? = some off := by rw [← Array.getElem?_toList]; exact ho
            rw [ho2]
            obtain ⟨a1, q, h1, h2, h3, h4⟩ := aTabL_ok (pc := pc) g2 w.1 hR ho (by omega)
            dsimp only
            rw [zJmp_ok a1]
            exact ⟨_, rfl, q, List.mem_append_right _ (List.mem_append_right _ h1), h2, r, yag_refl _ _, h3, h4⟩
      · cases h
    · cases h
  · cases h
/-- Math.max, Math.min -/
def ysl (s : List yV) : Nat := (s.map (fun a => if a.1 = 1 then 2 else 1)).sum
theorem ysl_ok {h n : Nat} : ∀ {s : List yV} {m : List Value}, ystk h r n s m → (m.map fun v => v.category).sum = ysl s
  | [], [], _ => rfl
  | [], _ :: _, g => g.elim
  | _ :: _, [], g => g.elim
  | a :: s, v :: m, g => by
    show ((v.category) :: (m.map fun v => v.category)).sum = ((if a.1 = 1 then 2 else 1) :: (s.map (fun a => if a.1 = 1 then 2 else 1))).sum
    rw [List.sum_cons, List.sum_cons, ycat g.1.2, ysl_ok g.2]
    rfl
def aMm (mx : Bool) (pc : Nat) (S : yS) : yO := match S.2.2.2.2.2 with
  | b :: a :: s => if a.1 = 0 ∧ b.1 = 0 ∧ ysl s ≤ 8 then (match yrg S.2.1 a.2.1, yrg S.2.1 b.2.1 with
    | some p, some q => some [(pc + 3, yst (yput S ((if mx then (ymax p.1 q.1, ymax p.2 q.2) else (ymin p.1 q.1, ymin p.2 q.2)), none)).1 (yI (yput S ((if mx then (ymax p.1 q.1, ymax p.2 q.2) else (ymin p.1 q.1, ymin p.2 q.2)), none)).2 :: s))]
    | _, _ => none) else none
  | _ => none
theorem aMm_ok (g : yG hp r S lv st) {mx : Bool} {L : List (Nat × yS)} (h : aMm mx pc S = some L) : yD hp r S.1 L (if mx = true then zMax (pc, lv, st) hp else zMin (pc, lv, st) hp) := by
  unfold aMm at h
  split at h
  · next b a s hs =>
    have g5 := g.2.2.2.2
    rw [hs] at g5
    obtain ⟨v1, m1, rfl, ⟨w1, hv1⟩, g6⟩ := ystk_cons g5
    obtain ⟨v2, m, rfl, ⟨w2, hv2⟩, g7⟩ := ystk_cons g6
    split at h
    · next c =>
      obtain ⟨y, rfl, hy⟩ := yvI' c.2.1 hv1
      obtain ⟨x, rfl, hx⟩ := yvI' c.1 hv2
      split at h
      · next p q h1 h2 =>
        have b1 := yrg_ok g.1 h1
        have b2 := yrg_ok g.1 h2
        rw [← hx] at b1
        rw [← hy] at b2
        cases h
        have sl : (m.map fun v => v.category).sum ≤ 8 := by rw [ysl_ok g7]; exact c.2.2
        cases mx with
        | true =>
          have a1 : ∃ z : Int32, zMax (pc, lv, .int y :: .int x :: m) hp = zn (pc + 3) lv (.int z :: m) hp ∧ ymax p.1 q.1 ≤ z.toInt ∧ z.toInt ≤ ymax p.2 q.2 := by
            refine ⟨if x < y then y else x, ?_, ?_⟩
            · unfold zMax
              dsimp only
              rw [if_pos sl]
            · by_cases e : x < y
              · rw [if_pos e]
                have e := Int32.lt_iff_toInt_lt.mp e
                unfold ymax
                split <;> split <;> omega
              · rw [if_neg e]
                have e : ¬ x.toInt < y.toInt := fun z => e (Int32.lt_iff_toInt_lt.mpr z)
                unfold ymax
                split <;> split <;> omega
          obtain ⟨z, e1, e2⟩ := a1
          obtain ⟨r2, a1, a2, a3, a4, a5, a6⟩ := yput_ok g (t := ((if true then (ymax p.1 q.1, ymax p.2 q.2) else (ymin p.1 q.1, ymin p.2 q.2)), none)) (z := z.toInt) ⟨e2, fun l hl => by cases hl⟩
          exact yD1 (lv2 := lv) (st2 := .int z :: m) (by rw [if_pos rfl]; exact e1) a1 a2 (yG_st a4 ⟨⟨ywI a5, yvI a6.symm⟩, ystk_ag a2 a1 g7⟩)
        | false =>
          have a1 : ∃ z : Int32, zMin (pc, lv, .int y :: .int x :: m) hp = zn (pc + 3) lv (.int z :: m) hp ∧ ymin p.1 q.1 ≤ z.toInt ∧ z.toInt ≤ ymin p.2 q.2 := by
            refine ⟨if y < x then y else x, ?_, ?_⟩
            · unfold zMin
              dsimp only
              rw [if_pos sl]
            · by_cases e : y < x
              · rw [if_pos e]
                have e := Int32.lt_iff_toInt_lt.mp e
                unfold ymin
                split <;> split <;> omega
              · rw [if_neg e]
                have e : ¬ y.toInt < x.toInt := fun z => e (Int32.lt_iff_toInt_lt.mpr z)
                unfold ymin
                split <;> split <;> omega
          obtain ⟨z, e1, e2⟩ := a1
          obtain ⟨r2, a1, a2, a3, a4, a5, a6⟩ := yput_ok g (t := ((if false then (ymax p.1 q.1, ymax p.2 q.2) else (ymin p.1 q.1, ymin p.2 q.2)), none)) (z := z.toInt) ⟨e2, fun l hl => by cases hl⟩
          exact yD1 (lv2 := lv) (st2 := .int z :: m) (by rw [if_neg (by decide)]; exact e1) a1 a2 (yG_st a4 ⟨⟨ywI a5, yvI a6.symm⟩, ystk_ag a2 a1 g7⟩)
      · cases h
    · cases h
  · cases h
end YARN
end
section
/-! Steps of the checker that read cells. -/
section YRD
variable {hp : zHp} {r : Nat → Int} {S : yS} {lv : List (Nat × Value)} {st : List Value} {pc : Nat}
theorem yG_tr {t : yK} (g : yG hp r S lv st) (w : yw S.1 t.1 ∧ yw S.1 t.2.1 ∧ ywv S.1 t.2.2) (h : ytk hp r t) : yG hp r (S.1, S.2.1, S.2.2.1, t :: S.2.2.2.1, S.2.2.2.2) lv st :=
  ⟨g.1, g.2.1, fun q hq => by
    rcases List.mem_cons.mp hq with rfl | hq
    · exact ⟨w, h⟩
    · exact g.2.2.1 q hq, g.2.2.2⟩
/-- a place by its bounds: a new symbol, kept as the place's -/
def yfrs (S : yS) (tag : Nat) (q : Int × Int) (keep : Bool) (cl il : yL) : yS × yV :=
  if keep && !((yput S (q, none)).2.1 == 0) then (((yput S (q, none)).1.1, (yput S (q, none)).1.2.1, (yput S (q, none)).1.2.2.1, (cl, il, (tag, (yput S (q, none)).2, yc 0)) :: (yput S (q, none)).1.2.2.2.1, (yput S (q, none)).1.2.2.2.2), (tag, (yput S (q, none)).2, yc 0)) else ((yput S (q, none)).1, (tag, (yput S (q, none)).2, yc 0))
theorem yfrs_ok (g : yG hp r S lv st) {tag : Nat} {q : Int × Int} {keep : Bool} {cl il : yL} {z : Int} {w : Value} (hz : q.1 ≤ z ∧ z ≤ q.2) (hw : ∀ (r2 : Nat → Int) (l : yL), yev r2 l = z → yv hp.1 r2 (tag, l, yc 0) w) (wc : yw S.1 cl) (wi : yw S.1 il) (hr : keep = true → 0 ≤ yev r cl ∧ yrd hp (yev r cl).toNat (yev r il) = some w) :
    ∃ r2, yag S.1 r r2 ∧ S.1 ≤ (yfrs S tag q keep cl il).1.1 ∧ (yfrs S tag q keep cl il).1.2.2.2.2 = S.2.2.2.2 ∧ yG hp r2 (yfrs S tag q keep cl il).1 lv st ∧ ywv (yfrs S tag q keep cl il).1.1 (yfrs S tag q keep cl il).2 ∧ yv hp.1 r2 (yfrs S tag q keep cl il).2 w := by
  obtain ⟨r2, a1, a2, a3, a4, a5, a6⟩ := yput_ok g (t := (q, none)) (z := z) ⟨hz, fun l hl => by cases hl⟩
  unfold yfrs
  split
  · next c =>
    rw [Bool.and_eq_true] at c
    obtain ⟨h1, h2⟩ := hr c.1
    refine ⟨r2, a1, a2, congrArg (fun z => z.2.2) a3, yG_tr a4 ⟨yw_le a2 wc, yw_le a2 wi, a5, Or.inl rfl⟩ ?_, ⟨a5, Or.inl rfl⟩, hw r2 _ a6⟩
    refine ⟨?_, w, ?_, hw r2 _ a6⟩
    · show 0 ≤ yev r2 cl
      rw [yev_ag a1 wc]
      exact h1
    · show yrd hp (yev r2 cl).toNat (yev r2 il) = some w
      rw [yev_ag a1 wc, yev_ag a1 wi]
      exact h2
  · exact ⟨r2, a1, a2, congrArg (fun z => z.2.2) a3, a4, ⟨a5, Or.inl rfl⟩, hw r2 _ a6⟩
theorem yft_v {h : Nat} {t : Nat × Int × Int} {w : Value} (ht : t.1 < 3) (hw : yft t w) : ∃ z : Int, (t.2.1 ≤ z ∧ z ≤ t.2.2) ∧ ∀ (r2 : Nat → Int) (l : yL), yev r2 l = z → yv h r2 (t.1, l, yc 0) w := by
  obtain ⟨t, lo, hi⟩ := t
  match t, ht with
  | 0, _ =>
    obtain ⟨x, rfl, h1⟩ : ∃ x : Int32, w = .int x ∧ lo ≤ x.toInt ∧ x.toInt ≤ hi := hw
    exact ⟨x.toInt, h1, fun r2 l e => yvI e.symm⟩
  | 1, _ =>
    obtain ⟨x, rfl, h1⟩ : ∃ x : Int64, w = .long x ∧ lo ≤ x.toInt ∧ x.toInt ≤ hi := hw
    exact ⟨x.toInt, h1, fun r2 l e => yvL e.symm⟩
  | 2, _ =>
    obtain ⟨i, rfl, h1⟩ : ∃ i : Nat, w = .ref i ∧ lo ≤ (i : Int) ∧ (i : Int) ≤ hi := hw
    refine ⟨(i : Int), h1, fun r2 l e => ?_⟩
    show (yev r2 l = -1 ∧ Value.ref i = .null) ∨ (0 ≤ yev r2 l ∧ Value.ref i = .ref (yev r2 l).toNat)
    rw [e]
    exact Or.inr ⟨by omega, by rw [Int.toNat_natCast]⟩
def aGetf (a b : Nat) (pc : Nat) (S : yS) : yO := match S.2.2.2.2.2 with
  | v :: s =>
    if a = 100 then (if v.1 = 2 then (match yrg S.2.1 v.2.1 with
      | some p => if p.1 = p.2 ∧ 1001 ≤ p.1 ∧ p.1 < 1007 then (if b = 0 then some [(pc + 3, yst S ((2, yc (p.1 + 19), yc 0) :: s))] else some [(pc + 3, yst S (yI (yc 0) :: s))]) else none
      | none => none) else none) else
    match ycel S.2.1 v with
    | some q =>
      if v.1 = 3 then (if a = 4 ∧ b < 2 then some [(pc + 3, yst S ((5 + b, v.2.1, yc 0) :: s))] else none) else
      if v.1 = 2 ∧ q.2.1 = 0 ∧ q.2.2.1 = a then (match ylk S.2.2.2.1 q.1 (yc b) with
        | some w => some [(pc + 3, yst S (w :: s))]
        | none => match q.2.2.2.2.2[b]? with
          | some t => if t.1 < 3 then some [(pc + 3, yst (yfrs S t.1 t.2 true q.1 (yc b)).1 ((yfrs S t.1 t.2 true q.1 (yc b)).2 :: s))] else none
          | none => none) else none
    | none => none
  | _ => none
theorem yrd_o {i : Nat} {ci : Nat} {fs : List Value} (h : hp.2 i = .inr (ci, fs)) (b : Nat) : yrd hp i (b : Int) = fs[b]? := by
  unfold yrd
  rw [h]
  dsimp only
  rw [if_neg (by omega), Int.toNat_natCast]
theorem zGetf_ok {a b i : Nat} {m fs : List Value} {w : Value} (ha : ¬ a = 100) (hi : i < hp.1) (h1 : hp.1 ≤ 1000) (hc : hp.2 i = .inr (a, fs)) (hv : fs[b]? = some w) : zGetf a b (pc, lv, .ref i :: m) hp = zn (pc + 3) lv (w :: m) hp := by
  unfold zGetf
  dsimp only
  rw [if_neg ha, if_pos ⟨hi, Nat.lt_of_lt_of_le hi h1⟩, hc]
  dsimp only
  rw [if_pos rfl, hv]
theorem yv_ref {h : Nat} {i : Nat} {l : yL} (e : yev r l = (i : Int)) : yv h r (2, l, yc 0) (.ref i) := by
  show (yev r l = -1 ∧ Value.ref i = .null) ∨ (0 ≤ yev r l ∧ Value.ref i = .ref (yev r l).toNat)
  rw [e]
  exact Or.inr ⟨by omega, by rw [Int.toNat_natCast]⟩
theorem aGetf_ok (g : yG hp r S lv st) (H : yH0 hp) {a b : Nat} {L : List (Nat × yS)} (h : aGetf a b pc S = some L) : yD hp r S.1 L (zGetf a b (pc, lv, st) hp) := by
  unfold aGetf at h
  split at h
  · next v s hs =>
    have g5 := g.2.2.2.2
    rw [hs] at g5
    obtain ⟨u, m, rfl, ⟨w, hv⟩, gm⟩ := ystk_cons g5
    split at h
    · next ha =>
      split at h
      · next h2 =>
        split at h
        · next p hp1 =>
          split at h
          · next c =>
            have bb := yrg_ok g.1 hp1
            unfold yv at hv
            rw [h2] at hv
            rcases hv with ⟨hv, -⟩ | ⟨hv, rfl⟩
            · omega
            · unfold zGetf
              dsimp only
              rw [if_pos ha, if_pos (show zSC + 1 ≤ (yev r v.2.1).toNat ∧ (yev r v.2.1).toNat < zSC + 7 from ⟨by show 1001 ≤ _; omega, by show _ < 1007; omega⟩)]
              split at h
              · next hb =>
                cases h
                rw [if_pos hb]
                exact yD1 rfl (yag_refl _ _) (Nat.le_refl _) (yG_st g ⟨⟨⟨Or.inl rfl, Or.inl rfl⟩, yv_ref (by rw [yev_c]; show _ = (((yev r v.2.1).toNat + 19 : Nat) : Int); omega)⟩, gm⟩)
              · next hb =>
                cases h
                rw [if_neg hb]
                exact yD1 rfl (yag_refl _ _) (Nat.le_refl _) (yG_st g ⟨⟨ywI (ywc _ _), yvI (by rw [yev_c]; rfl)⟩, gm⟩)
          · cases h
        · cases h
      · cases h
    · next ha =>
      split at h
      · next q hq =>
        obtain ⟨i, rfl, hi, ei, wq, hok, h2, h3⟩ := ycel_ok g.1 H w hv hq
        split at h
        · next e3 =>
          split at h
          · next c =>
            cases h
            obtain ⟨k, rfl, hk, hk2⟩ := h3 e3
            have hc := H.2.2 (88 + 3 * k) hi
            rw [yty_r0] at hc
            obtain ⟨fs, hc1, hc2, hc3⟩ := hc
            have hv2 : 0 ≤ yev r v.2.1 := by omega
            have ek : (yev r v.2.1).toNat = k := by omega
            obtain ⟨ca, cb⟩ := c
            subst ca
            have hb : ∀ b, b < 2 → ∃ x, fs[b]? = some x ∧ x = .ref (89 + b + 3 * k) := by
              intro b hb
              match b, hb with
              | 0, _ =>
                obtain ⟨x, x1, x2⟩ := hc3 0 _ rfl
                obtain ⟨j, rfl, j1, j2⟩ : ∃ j : Nat, x = .ref j ∧ ((88 + 3 * k : Nat) : Int) + 1 ≤ (j : Int) ∧ (j : Int) ≤ ((88 + 3 * k : Nat) : Int) + 1 := x2
                exact ⟨_, x1, congrArg Value.ref (show (j : Nat) = 89 + 0 + 3 * k by omega)⟩
              | 1, _ =>
                obtain ⟨x, x1, x2⟩ := hc3 1 _ rfl
                obtain ⟨j, rfl, j1, j2⟩ : ∃ j : Nat, x = .ref j ∧ ((88 + 3 * k : Nat) : Int) + 2 ≤ (j : Int) ∧ (j : Int) ≤ ((88 + 3 * k : Nat) : Int) + 2 := x2
                exact ⟨_, x1, congrArg Value.ref (show (j : Nat) = 89 + 1 + 3 * k by omega)⟩
            obtain ⟨x, x1, rfl⟩ := hb b cb
            rw [zGetf_ok ha hi H.2.1 hc1 x1]
            refine yD1 rfl (yag_refl _ _) (Nat.le_refl _) (yG_st g ⟨⟨⟨w.1, Or.inl rfl⟩, ?_⟩, gm⟩)
            match b, cb with
            | 0, _ =>
              show 0 ≤ yev r v.2.1 ∧ 88 + 3 * (yev r v.2.1).toNat + 2 < hp.1 ∧ Value.ref (89 + 0 + 3 * k) = .ref (89 + 3 * (yev r v.2.1).toNat)
              rw [ek]
              exact ⟨hv2, by omega, rfl⟩
            | 1, _ =>
              show 0 ≤ yev r v.2.1 ∧ 88 + 3 * (yev r v.2.1).toNat + 2 < hp.1 ∧ Value.ref (89 + 1 + 3 * k) = .ref (90 + 3 * (yev r v.2.1).toNat)
              rw [ek]
              exact ⟨hv2, by omega, rfl⟩
          · cases h
        · next e3 =>
          split at h
          · next c =>
            obtain ⟨c1, c2, c3⟩ := c
            have hc := hok (by rw [c2]; decide)
            unfold yokc at hc
            rw [c2] at hc
            obtain ⟨fs, hc1, hc2, hc3⟩ := hc
            rw [c3] at hc1
            split at h
            · next x hx =>
              cases h
              obtain ⟨⟨-, -, wx⟩, k1, k2, k3, k4⟩ := g.2.2.1 _ (ylk_mem hx)
              have e1 : (yev r q.1).toNat = i := by omega
              have k3 : yrd hp (yev r q.1).toNat (yev r (yc b)) = some k2 := k3
              rw [e1, yev_c, yrd_o hc1] at k3
              rw [zGetf_ok ha hi H.2.1 hc1 k3]
              exact yD1 rfl (yag_refl _ _) (Nat.le_refl _) (yG_st g ⟨⟨wx, k4⟩, gm⟩)
            · split at h
              · next t ht =>
                split at h
                · next ct =>
                  cases h
                  obtain ⟨x, x1, x2⟩ := hc3 b t ht
                  obtain ⟨z, z1, z2⟩ := yft_v (h := hp.1) ct x2
                  obtain ⟨r2, a1, a2, a3, a4, a5, a6⟩ := yfrs_ok g (tag := t.1) (q := t.2) (keep := true) (cl := q.1) (il := yc b) z1 z2 wq (ywc _ _) (fun _ => ⟨by omega, by
                    rw [show (yev r q.1).toNat = i by omega, yev_c, yrd_o hc1]
                    exact x1⟩)
                  rw [zGetf_ok ha hi H.2.1 hc1 x1]
                  exact yD1 rfl a1 a2 (yG_st a4 ⟨⟨a5, a6⟩, ystk_ag a2 a1 gm⟩)
                · cases h
              · cases h
          · cases h
      · cases h
  · cases h
end YRD
end
section
/-! Steps of the checker that read rows. -/
/-- bounds of elements at the places that a form can name -/
def yjn (p q : Int × Int) : Int × Int := (ymin p.1 q.1, ymax p.2 q.2)
def yej (ec : Nat) (a c : Int) : Nat → Int → Int × Int
  | 0, s => yel ec (a * s + c).toNat
  | n + 1, s => yjn (yel ec (a * s + c).toNat) (yej ec a c n (s + 1))
theorem yjn_l (p q : Int × Int) : (yjn p q).1 ≤ p.1 ∧ p.2 ≤ (yjn p q).2 ∧ (yjn p q).1 ≤ q.1 ∧ q.2 ≤ (yjn p q).2 := ⟨(ymin_l _ _).1, (ymax_l _ _).1, (ymin_l _ _).2, (ymax_l _ _).2⟩
theorem yej_ok (ec : Nat) (a c : Int) : ∀ (n : Nat) (s x : Int), s ≤ x → x ≤ s + (n : Int) → (yej ec a c n s).1 ≤ (yel ec (a * x + c).toNat).1 ∧ (yel ec (a * x + c).toNat).2 ≤ (yej ec a c n s).2
  | 0, s, x, h1, h2 => by
    have : x = s := by omega
    subst this
    exact ⟨Int.le_refl _, Int.le_refl _⟩
  | n + 1, s, x, h1, h2 => by
    have l := yjn_l (yel ec (a * s + c).toNat) (yej ec a c n (s + 1))
    show (yjn (yel ec (a * s + c).toNat) (yej ec a c n (s + 1))).1 ≤ _ ∧ _ ≤ (yjn (yel ec (a * s + c).toNat) (yej ec a c n (s + 1))).2
    by_cases e : x = s
    · subst e
      exact ⟨l.1, l.2.1⟩
    · have := yej_ok ec a c n (s + 1) x (by omega) (by omega)
      omega
def yelr (b : yB) (ec : Nat) (il : yL) : Int × Int := if yed ec = false then yel ec 0 else if il.1 = 0 then yel ec il.2.2.toNat else match ybd b il.2.1 with
  | some e => if e.2 - e.1 ≤ 400 then yej ec il.1 il.2.2 (e.2 - e.1).toNat e.1 else (-2147483648, 2147483647)
  | none => (-2147483648, 2147483647)
theorem yelr_ok {r : Nat → Int} {n : Nat} {b : yB} (g : yGe r n b) {ec : Nat} {il : yL} {x : Int32} (h : (yel ec (yev r il).toNat).1 ≤ x.toInt ∧ x.toInt ≤ (yel ec (yev r il).toNat).2) : (yelr b ec il).1 ≤ x.toInt ∧ x.toInt ≤ (yelr b ec il).2 := by
  have hx := y32 x
  unfold yelr
  split
  · next e =>
    rw [yel_same e] at h
    exact h
  · split
    · next e =>
      rw [yev_0 e] at h
      exact h
    · split
      · next e he =>
        have hb := g _ (ybd_mem he)
        have b1 : e.1 ≤ r il.2.1 := hb.2.1
        have b2 : r il.2.1 ≤ e.2 := hb.2.2
        split
        · have := yej_ok ec il.1 il.2.2 (e.2 - e.1).toNat e.1 (r il.2.1) b1 (by omega)
          have h2 : (yel ec (il.1 * r il.2.1 + il.2.2).toNat).1 ≤ x.toInt ∧ x.toInt ≤ (yel ec (il.1 * r il.2.1 + il.2.2).toNat).2 := h
          omega
        · exact ⟨hx.1, Int.le_of_lt_add_one hx.2⟩
      · exact ⟨hx.1, Int.le_of_lt_add_one hx.2⟩
def ybnd (S : yS) (cl il : yL) (c : yC) : Bool := match yrg S.2.1 il with
  | some p => decide (0 ≤ p.1) && (if c.1 = 1 then decide (p.2 < (c.2.2.1 : Int)) || yprv S.2.1 S.2.2.1 (yadd (-1) (yxl il) ([], (c.2.2.1 : Int) - 1)) else match ylk S.2.2.2.1 cl (yc (-1)) with
    | some a => a.1 == 0 && yprv S.2.1 S.2.2.1 (yadd (-1) (yxl il) (yadd 1 (yxl a.2.1) ([], -1)))
    | none => false)
  | none => false
section YROW
variable {hp : zHp} {r : Nat → Int} {S : yS} {lv : List (Nat × Value)} {st : List Value} {pc : Nat}
theorem ybnd_ok (g : yG hp r S lv st) {cl il : yL} {c : yC} {i n t : Nat} {x : (Nat → Int32) ⊕ (Nat → Int64) ⊕ (Nat → UInt32) ⊕ (Nat → UInt64) ⊕ (Nat → Option Nat)} (h : ybnd S cl il c = true) (hi : (i : Int) = yev r cl) (hc : hp.2 i = .inl (t, n, x)) (hn : c.1 = 1 → n = c.2.2.1) (hn2 : n ≤ 3000) : 0 ≤ yev r il ∧ (yev r il).toNat < n := by
  unfold ybnd at h
  split at h
  · next p hp1 =>
    have bb := yrg_ok g.1 hp1
    rw [Bool.and_eq_true] at h
    have h0 : 0 ≤ p.1 := of_decide_eq_true h.1
    refine ⟨by omega, ?_⟩
    have h2 := h.2
    split at h2
    · next c1 =>
      rw [hn c1]
      rw [Bool.or_eq_true] at h2
      rcases h2 with h2 | h2
      · have h2 : p.2 < (c.2.2.1 : Int) := of_decide_eq_true h2
        omega
      · have := yprv_ok g.1 g.2.1 h2
        rw [yadd_ok, yxl_ok] at this
        have e : yex r (([] : List (Int × Nat)), (c.2.2.1 : Int) - 1) = (c.2.2.1 : Int) - 1 := by show 0 + _ = _; omega
        rw [e] at this
        omega
    · split at h2
      · next a ha =>
        rw [Bool.and_eq_true] at h2
        obtain ⟨-, k1, k2, k3, k4⟩ := g.2.2.1 _ (ylk_mem ha)
        have a0 : a.1 = 0 := by simpa using h2.1
        have k3 : yrd hp (yev r cl).toNat (yev r (yc (-1))) = some k2 := k3
        rw [← hi, yev_c, Int.toNat_natCast] at k3
        unfold yrd at k3
        rw [hc] at k3
        dsimp only at k3
        rw [if_pos (by decide)] at k3
        have k3 := yifs k3
        cases k3
        obtain ⟨y, e1, e2⟩ := yvI' a0 k4
        cases e1
        rw [Int32.toInt_ofNat_of_lt (by omega)] at e2
        have := yprv_ok g.1 g.2.1 h2.2
        rw [yadd_ok, yxl_ok, yadd_ok, yxl_ok] at this
        have e : yex r (([] : List (Int × Nat)), (-1 : Int)) = -1 := rfl
        rw [e] at this
        have e2 : (n : Int) = yev r a.2.1 := e2
        omega
      · cases h2
  · cases h
theorem yix {j : Int32} {l : yL} {n : Nat} (e : j.toInt = yev r l) (h : 0 ≤ yev r l ∧ (yev r l).toNat < n) : ¬ (j < 0 ∨ n ≤ j.toNatClampNeg) ∧ j.toNatClampNeg = (yev r l).toNat := by
  have e2 : j.toNatClampNeg = (yev r l).toNat := by rw [← e]; rfl
  refine ⟨fun z => ?_, e2⟩
  rcases z with z | z
  · have := Int32.lt_iff_toInt_lt.mp z
    have e0 : (0 : Int32).toInt = 0 := rfl
    omega
  · omega
/-- rows outside -/
def ytj (f : Nat → Int32) : Nat → Nat → Int × Int
  | 0, k => ((f k).toInt, (f k).toInt)
  | n + 1, k => yjn ((f k).toInt, (f k).toInt) (ytj f n (k + 1))
theorem ytj_ok (f : Nat → Int32) : ∀ (n k j : Nat), k ≤ j → j ≤ k + n → (ytj f n k).1 ≤ (f j).toInt ∧ (f j).toInt ≤ (ytj f n k).2
  | 0, k, j, h1, h2 => by
    have : j = k := by omega
    subst this
    exact ⟨Int.le_refl _, Int.le_refl _⟩
  | n + 1, k, j, h1, h2 => by
    have l := yjn_l ((f k).toInt, (f k).toInt) (ytj f n (k + 1))
    show (yjn ((f k).toInt, (f k).toInt) (ytj f n (k + 1))).1 ≤ _ ∧ _ ≤ (yjn ((f k).toInt, (f k).toInt) (ytj f n (k + 1))).2
    by_cases e : j = k
    · subst e
      exact ⟨l.1, l.2.1⟩
    · have := ytj_ok f n (k + 1) j (by omega) (by omega)
      omega
def ytbl (b : yB) (v : yV) (l : yL) (tk : Nat) : Option (Int × Int) := if v.1 = 2 then (match yrg b v.2.1, yrg b l with
  | some p, some q => if p.1 = p.2 ∧ 1020 ≤ p.1 then (match ztb none (p.1.toNat - 1000) with
    | some t => if t.1 = tk ∧ 0 ≤ q.1 ∧ q.2 < (t.2.1 : Int) then some (ytj t.2.2 (q.2 - q.1).toNat q.1.toNat) else none
    | none => none) else none
  | _, _ => none) else none
theorem ytbl_ok (g : yG hp r S lv st) {v : yV} {w : Value} {l : yL} {tk : Nat} {q : Int × Int} (hv : yv hp.1 r v w) (h : ytbl S.2.1 v l tk = some q) : ∃ (i n : Nat) (f : Nat → Int32), w = .ref i ∧ ¬ i < 1000 ∧ ztb none (i - 1000) = some (tk, n, f) ∧ (0 ≤ yev r l ∧ (yev r l).toNat < n) ∧ q.1 ≤ (f (yev r l).toNat).toInt ∧ (f (yev r l).toNat).toInt ≤ q.2 := by
  unfold ytbl at h
  split at h
  · next h2 =>
    unfold yv at hv
    rw [h2] at hv
    split at h
    · next p q2 h3 h4 =>
      have b1 := yrg_ok g.1 h3
      have b2 := yrg_ok g.1 h4
      split at h
      · next c =>
        split at h
        · next t ht =>
          split at h
          · next c2 =>
            cases h
            rcases hv with ⟨hv, -⟩ | ⟨hv, rfl⟩
            · omega
            · obtain ⟨t1, n, f⟩ := t
              obtain ⟨rfl, c3, c4⟩ := c2
              have c4 : q2.2 < (n : Int) := c4
              have e : (yev r v.2.1).toNat = p.1.toNat := by omega
              refine ⟨_, n, f, rfl, by omega, by rw [e]; exact ht, by omega, ?_⟩
              exact ytj_ok f _ _ _ (by omega) (by omega)
          · cases h
        · cases h
      · cases h
    · cases h
  · cases h
def aIld (kd : yC → Bool) (tk : Nat) (pc : Nat) (S : yS) : yO := match S.2.2.2.2.2 with
  | j :: v :: s => if j.1 = 0 then (match ytbl S.2.1 v j.2.1 tk with
    | some q => some [(pc + 1, yst (yput S (q, none)).1 (yI (yput S (q, none)).2 :: s))]
    | none => match ycel S.2.1 v with
      | some q => if kd q.2 = true ∧ ybnd S q.1 (ynm S.2.1 j.2.1) q.2 = true then (match ylk S.2.2.2.1 q.1 (ynm S.2.1 j.2.1) with
        | some w => if w.1 = 0 then some [(pc + 1, yst S (w :: s))] else none
        | none => some [(pc + 1, yst (yfrs S 0 (yelr S.2.1 q.2.2.2.2.1 (ynm S.2.1 j.2.1)) (q.1.1 == 0) q.1 (ynm S.2.1 j.2.1)).1 ((yfrs S 0 (yelr S.2.1 q.2.2.2.2.1 (ynm S.2.1 j.2.1)) (q.1.1 == 0) q.1 (ynm S.2.1 j.2.1)).2 :: s))]) else none
      | none => none) else none
  | _ => none
theorem yrd_r {i t n : Nat} {f : Nat → Int32} (h : hp.2 i = .inl (t, n, .inl f)) {j : Int} (hj : 0 ≤ j) : yrd hp i j = some (.int (f j.toNat)) := by
  unfold yrd
  rw [h]
  dsimp only
  rw [if_neg (by omega)]
/-- what a load of an element does, the instruction's own step being T -/
theorem aIld_ok (g : yG hp r S lv st) (H : yH0 hp) {kd : yC → Bool} {tk : Nat} {T : zFr → zHp → zO} {L : List (Nat × yS)}
    (hkd : ∀ c i, kd c = true → yokc hp.1 c (hp.2 i) → ∃ (t n : Nat) (f : Nat → Int32), hp.2 i = .inl (t, n, .inl f) ∧ n ≤ 3000 ∧ (c.1 = 1 → n = c.2.2.1) ∧ c.1 ≠ 7 ∧ (∀ j, j < n → (yel c.2.2.2.1 j).1 ≤ (f j).toInt ∧ (f j).toInt ≤ (yel c.2.2.2.1 j).2) ∧ ∀ (j : Int32) (m : List Value), i < hp.1 → ¬ (j < 0 ∨ n ≤ j.toNatClampNeg) → T (pc, lv, .int j :: .ref i :: m) hp = zn (pc + 1) lv (.int (f j.toNatClampNeg) :: m) hp)
    (h7 : ∀ c, kd c = true → c.1 ≠ 7)
    (htb : ∀ (i n : Nat) (f : Nat → Int32) (j : Int32) (m : List Value), ¬ i < 1000 → ztb none (i - 1000) = some (tk, n, f) → ¬ (j < 0 ∨ n ≤ j.toNatClampNeg) → T (pc, lv, .int j :: .ref i :: m) hp = zn (pc + 1) lv (.int (f j.toNatClampNeg) :: m) hp)
    (h : aIld kd tk pc S = some L) : yD hp r S.1 L (T (pc, lv, st) hp) := by
  unfold aIld at h
  split at h
  · next j v s hs =>
    have g5 := g.2.2.2.2
    rw [hs] at g5
    obtain ⟨v1, m1, rfl, ⟨w1, hv1⟩, g6⟩ := ystk_cons g5
    obtain ⟨v2, m, rfl, ⟨w2, hv2⟩, g7⟩ := ystk_cons g6
    split at h
    · next hj =>
      obtain ⟨x, rfl, hx⟩ := yvI' hj hv1
      split at h
      · next q hq =>
        cases h
        obtain ⟨i, n, f, rfl, h1, h2, h3, h4⟩ := ytbl_ok g hv2 hq
        obtain ⟨i1, i2⟩ := yix hx h3
        rw [htb i n f x m h1 h2 i1, i2]
        obtain ⟨r2, a1, a2, a3, a4, a5, a6⟩ := yput_ok g (t := (q, none)) (z := (f (yev r j.2.1).toNat).toInt) ⟨h4, fun l hl => by cases hl⟩
        exact yD1 rfl a1 a2 (yG_st a4 ⟨⟨ywI a5, yvI a6.symm⟩, ystk_ag a2 a1 g7⟩)
      · split at h
        · next q hq =>
          split at h
          · next c =>
            obtain ⟨i, rfl, hi, ei, wq, hok, -, -⟩ := ycel_ok g.1 H w2 hv2 hq
            obtain ⟨t, n, f, hc, hn, hn1, -, hty, hT⟩ := hkd q.2 i c.1 (hok (h7 _ c.1))
            have nm := ynm_ok g.1 w1.1
            have bd := ybnd_ok g c.2 ei hc hn1 hn
            have hx2 : x.toInt = yev r (ynm S.2.1 j.2.1) := hx.trans nm.1.symm
            obtain ⟨i1, i2⟩ := yix hx2 bd
            rw [hT x m hi i1, i2]
            have e1 : (yev r q.1).toNat = i := by omega
            split at h
            · next w hw =>
              split at h
              · next hw0 =>
                cases h
                obtain ⟨⟨-, -, wx⟩, k1, k2, k3, k4⟩ := g.2.2.1 _ (ylk_mem hw)
                have k3 : yrd hp (yev r q.1).toNat (yev r (ynm S.2.1 j.2.1)) = some k2 := k3
                rw [e1, yrd_r hc bd.1] at k3
                cases k3
                exact yD1 rfl (yag_refl _ _) (Nat.le_refl _) (yG_st g ⟨⟨wx, k4⟩, g7⟩)
              · cases h
            · cases h
              obtain ⟨r2, a1, a2, a3, a4, a5, a6⟩ := yfrs_ok g (tag := 0) (q := yelr S.2.1 q.2.2.2.2.1 (ynm S.2.1 j.2.1)) (keep := (q.1.1 == 0)) (cl := q.1) (il := ynm S.2.1 j.2.1) (w := .int (f (yev r (ynm S.2.1 j.2.1)).toNat)) (yelr_ok g.1 (hty _ bd.2)) (fun r2 l e => yvI e.symm) wq nm.2 (fun _ => ⟨by omega, by rw [e1, yrd_r hc bd.1]⟩)
              exact yD1 rfl a1 a2 (yG_st a4 ⟨⟨a5, a6⟩, ystk_ag a2 a1 g7⟩)
          · cases h
        · cases h
    · cases h
  · cases h
/-- rows of ints: 1 of a known length, 2 of some length -/
def ykI (c : yC) : Bool := (c.1 == 1 && c.2.1 == 0 && decide (c.2.2.1 ≤ 3000)) || (c.1 == 2 && c.2.2.2.1 == 0)
def ykB (c : yC) : Bool := c.1 == 1 && (c.2.1 == 1 || c.2.1 == 2) && decide (c.2.2.1 ≤ 3000)
theorem yany (x : Int32) : (yel 0 0).1 ≤ x.toInt ∧ x.toInt ≤ (yel 0 0).2 := ⟨(y32 x).1, Int.le_of_lt_add_one (y32 x).2⟩
theorem yel0 (j : Nat) : yel 0 j = yel 0 0 := rfl
theorem ykI_c {c : yC} {i : Nat} (hk : ykI c = true) (hok : yokc hp.1 c (hp.2 i)) : ∃ (n : Nat) (f : Nat → Int32), hp.2 i = .inl (0, n, .inl f) ∧ n ≤ 3000 ∧ (c.1 = 1 → n = c.2.2.1) ∧ c.1 ≠ 7 ∧ ∀ j, j < n → (yel c.2.2.2.1 j).1 ≤ (f j).toInt ∧ (f j).toInt ≤ (yel c.2.2.2.1 j).2 := by
  obtain ⟨c1, c2, c3, c4, c5⟩ := c
  unfold ykI at hk
  simp only [Bool.or_eq_true, Bool.and_eq_true, beq_iff_eq, decide_eq_true_eq] at hk
  rcases hk with ⟨⟨rfl, rfl⟩, h3⟩ | ⟨rfl, rfl⟩
  · obtain ⟨-, f, e, hf⟩ : (0 < 3 ∧ ∃ f : Nat → Int32, hp.2 i = .inl (0, c3, .inl f) ∧ ∀ j, j < c3 → (yel c4 j).1 ≤ (f j).toInt ∧ (f j).toInt ≤ (yel c4 j).2) := hok
    exact ⟨c3, f, e, h3, fun _ => rfl, (show (1 : Nat) ≠ 7 by decide), hf⟩
  · obtain ⟨n, f, h1, e⟩ : ∃ (n : Nat) (f : Nat → Int32), n ≤ 400 ∧ hp.2 i = .inl (0, n, .inl f) := hok
    exact ⟨n, f, e, by omega, (fun z => by cases z), (show (2 : Nat) ≠ 7 by decide), fun j _ => yany _⟩
theorem ykB_c {c : yC} {i : Nat} (hk : ykB c = true) (hok : yokc hp.1 c (hp.2 i)) : ∃ (t n : Nat) (f : Nat → Int32), (t = 1 ∨ t = 2) ∧ t = c.2.1 ∧ hp.2 i = .inl (t, n, .inl f) ∧ n ≤ 3000 ∧ (c.1 = 1 → n = c.2.2.1) ∧ c.1 ≠ 7 ∧ ∀ j, j < n → (yel c.2.2.2.1 j).1 ≤ (f j).toInt ∧ (f j).toInt ≤ (yel c.2.2.2.1 j).2 := by
  obtain ⟨c1, c2, c3, c4, c5⟩ := c
  unfold ykB at hk
  simp only [Bool.or_eq_true, Bool.and_eq_true, beq_iff_eq, decide_eq_true_eq] at hk
  obtain ⟨⟨rfl, rfl | rfl⟩, h3⟩ := hk
  · obtain ⟨-, f, e, hf⟩ : (1 < 3 ∧ ∃ f : Nat → Int32, hp.2 i = .inl (1, c3, .inl f) ∧ ∀ j, j < c3 → (yel c4 j).1 ≤ (f j).toInt ∧ (f j).toInt ≤ (yel c4 j).2) := hok
    exact ⟨1, c3, f, Or.inl rfl, rfl, e, h3, fun _ => rfl, (show (1 : Nat) ≠ 7 by decide), hf⟩
  · obtain ⟨-, f, e, hf⟩ : (2 < 3 ∧ ∃ f : Nat → Int32, hp.2 i = .inl (2, c3, .inl f) ∧ ∀ j, j < c3 → (yel c4 j).1 ≤ (f j).toInt ∧ (f j).toInt ≤ (yel c4 j).2) := hok
    exact ⟨2, c3, f, Or.inr rfl, rfl, e, h3, fun _ => rfl, (show (1 : Nat) ≠ 7 by decide), hf⟩
theorem yk_7 {c : yC} (h : ykI c = true ∨ ykB c = true) : c.1 ≠ 7 := by
  intro e
  unfold ykI ykB at h
  rw [e] at h
  rcases h with h | h <;> simp at h
theorem aIald_ok (g : yG hp r S lv st) (H : yH0 hp) {L : List (Nat × yS)} (h : aIld ykI 0 pc S = some L) : yD hp r S.1 L (zIald ztb none (pc, lv, st) hp) := by
  refine aIld_ok (T := zIald ztb none) g H (fun c i hk hok => ?_) (fun c hc => yk_7 (Or.inl hc)) (fun i n f j m h1 h2 h3 => ?_) h
  · obtain ⟨n, f, e, h1, h2, h3, h4⟩ := ykI_c hk hok
    refine ⟨0, n, f, e, h1, h2, h3, h4, fun j m hi hj => ?_⟩
    unfold zIald
    dsimp only
    rw [if_pos (show i < zSC from Nat.lt_of_lt_of_le hi H.2.1), if_pos hi, e]
    show (if ¬ (j < 0 ∨ n ≤ j.toNatClampNeg) then zn (pc + 1) lv (.int (f j.toNatClampNeg) :: m) hp else none) = _
    rw [if_pos hj]
  · unfold zIald
    dsimp only
    rw [if_neg (show ¬ i < zSC from h1), show i - zSC = i - 1000 from rfl, h2]
    show (if ¬ (j < 0 ∨ n ≤ j.toNatClampNeg) then zn (pc + 1) lv (.int (f j.toNatClampNeg) :: m) hp else none) = _
    rw [if_pos h3]
theorem aBald_ok (g : yG hp r S lv st) (H : yH0 hp) {L : List (Nat × yS)} (h : aIld ykB 1 pc S = some L) : yD hp r S.1 L (zBald ztb none (pc, lv, st) hp) := by
  refine aIld_ok (T := zBald ztb none) g H (fun c i hk hok => ?_) (fun c hc => yk_7 (Or.inr hc)) (fun i n f j m h1 h2 h3 => ?_) h
  · obtain ⟨t, n, f, ht, -, e, h1, h2, h3, h4⟩ := ykB_c hk hok
    refine ⟨t, n, f, e, h1, h2, h3, h4, fun j m hi hj => ?_⟩
    unfold zBald
    dsimp only
    rw [if_pos (show i < zSC from Nat.lt_of_lt_of_le hi H.2.1), if_pos hi, e]
    rcases ht with rfl | rfl
    · show (if ¬ (j < 0 ∨ n ≤ j.toNatClampNeg) then zn (pc + 1) lv (.int (f j.toNatClampNeg) :: m) hp else none) = _
      rw [if_pos hj]
    · show (if ¬ (j < 0 ∨ n ≤ j.toNatClampNeg) then zn (pc + 1) lv (.int (f j.toNatClampNeg) :: m) hp else none) = _
      rw [if_pos hj]
  · unfold zBald
    dsimp only
    rw [if_neg (show ¬ i < zSC from h1), show i - zSC = i - 1000 from rfl, h2]
    show (if ¬ (j < 0 ∨ n ≤ j.toNatClampNeg) then zn (pc + 1) lv (.int (f j.toNatClampNeg) :: m) hp else none) = _
    rw [if_pos h3]
/-- rows of longs -/
def ykL (c : yC) : Bool := c.1 == 1 && c.2.1 == 3 && decide (c.2.2.1 ≤ 3000)
theorem ykL_c {c : yC} {i : Nat} (hk : ykL c = true) (hok : c.1 ≠ 7 → yokc hp.1 c (hp.2 i)) : ∃ f : Nat → Int64, hp.2 i = .inl (3, c.2.2.1, .inr (.inl f)) ∧ c.2.2.1 ≤ 3000 ∧ c.1 = 1 := by
  obtain ⟨c1, c2, c3, c4, c5⟩ := c
  unfold ykL at hk
  simp only [Bool.and_eq_true, beq_iff_eq, decide_eq_true_eq] at hk
  obtain ⟨⟨rfl, rfl⟩, h3⟩ := hk
  obtain ⟨f, e⟩ : ∃ f : Nat → Int64, hp.2 i = .inl (3, c3, .inr (.inl f)) := hok (show (1 : Nat) ≠ 7 by decide)
  exact ⟨f, e, h3, rfl⟩
def aLald (pc : Nat) (S : yS) : yO := match S.2.2.2.2.2 with
  | j :: v :: s => if j.1 = 0 then (match ycel S.2.1 v with
      | some q => if ykL q.2 = true ∧ ybnd S q.1 (ynm S.2.1 j.2.1) q.2 = true then some [(pc + 1, yst (yput S ((-9223372036854775808, 9223372036854775807), none)).1 ((1, (yput S ((-9223372036854775808, 9223372036854775807), none)).2, yc 0) :: s))] else none
      | none => none) else none
  | _ => none
theorem aLald_ok (g : yG hp r S lv st) (H : yH0 hp) {L : List (Nat × yS)} (h : aLald pc S = some L) : yD hp r S.1 L (zLald (pc, lv, st) hp) := by
  unfold aLald at h
  split at h
  · next j v s hs =>
    have g5 := g.2.2.2.2
    rw [hs] at g5
    obtain ⟨v1, m1, rfl, ⟨w1, hv1⟩, g6⟩ := ystk_cons g5
    obtain ⟨v2, m, rfl, ⟨w2, hv2⟩, g7⟩ := ystk_cons g6
    split at h
    · next hj =>
      obtain ⟨x, rfl, hx⟩ := yvI' hj hv1
      split at h
      · next q hq =>
        split at h
        · next c =>
          cases h
          obtain ⟨i, rfl, hi, ei, wq, hok, -, -⟩ := ycel_ok g.1 H w2 hv2 hq
          obtain ⟨f, hc, hn, hn1⟩ := ykL_c c.1 hok
          have nm := ynm_ok g.1 w1.1
          have bd := ybnd_ok g c.2 ei hc (fun _ => rfl) hn
          obtain ⟨i1, i2⟩ := yix (hx.trans nm.1.symm) bd
          have e : zLald (pc, lv, .int x :: .ref i :: m) hp = zn (pc + 1) lv (.long (f x.toNatClampNeg) :: m) hp := by
            unfold zLald
            dsimp only
            rw [if_pos (show i < hp.1 ∧ i < zSC from ⟨hi, Nat.lt_of_lt_of_le hi H.2.1⟩), hc]
            show (if ¬ (x < 0 ∨ q.2.2.2.1 ≤ x.toNatClampNeg) then zn (pc + 1) lv (.long (f x.toNatClampNeg) :: m) hp else none) = _
            rw [if_pos i1]
          rw [e]
          have := y64 (f x.toNatClampNeg)
          obtain ⟨r2, a1, a2, a3, a4, a5, a6⟩ := yput_ok g (t := ((-9223372036854775808, 9223372036854775807), none)) (z := (f x.toNatClampNeg).toInt) ⟨⟨this.1, Int.le_of_lt_add_one this.2⟩, fun l hl => by cases hl⟩
          exact yD1 rfl a1 a2 (yG_st a4 ⟨⟨⟨a5, Or.inl rfl⟩, yvL a6.symm⟩, ystk_ag a2 a1 g7⟩)
        · cases h
      · cases h
    · cases h
  · cases h
def ykA (c : yC) : Bool := c.1 == 1 && (c.2.1 == 4 || c.2.1 == 5) && decide (c.2.2.1 ≤ 3000)
def aAald (pc : Nat) (S : yS) : yO := match S.2.2.2.2.2 with
  | j :: v :: s => if j.1 = 0 then (match ycel S.2.1 v with
      | some q => if ykA q.2 = true ∧ ybnd S q.1 (ynm S.2.1 j.2.1) q.2 = true then (if q.2.2.1 = 5 then some [(pc + 1, yst S ((2, ((ynm S.2.1 j.2.1).1, (ynm S.2.1 j.2.1).2.1, (ynm S.2.1 j.2.1).2.2 + (q.2.2.2.2.1 : Int)), yc 0) :: s))] else (match ylk S.2.2.2.1 q.1 (ynm S.2.1 j.2.1) with
        | some w => if w.1 = 3 then some [(pc + 1, yst S (w :: s))] else none
        | none => some [(pc + 1, yst (yfrs S 3 (-1, 303) (q.1.1 == 0) q.1 (ynm S.2.1 j.2.1)).1 ((yfrs S 3 (-1, 303) (q.1.1 == 0) q.1 (ynm S.2.1 j.2.1)).2 :: s))])) else none
      | none => none) else none
  | _ => none
theorem yrd_f {i t n : Nat} {f : Nat → Option Nat} (h : hp.2 i = .inl (t, n, .inr (.inr (.inr (.inr f))))) {j : Int} (hj : 0 ≤ j) : yrd hp i j = some (va_rf (f j.toNat)) := by
  unfold yrd
  rw [h]
  dsimp only
  rw [if_neg (by omega)]
theorem aAald_ok (g : yG hp r S lv st) (H : yH0 hp) {L : List (Nat × yS)} (h : aAald pc S = some L) : yD hp r S.1 L (zAald (pc, lv, st) hp) := by
  unfold aAald at h
  split at h
  · next j v s hs =>
    have g5 := g.2.2.2.2
    rw [hs] at g5
    obtain ⟨v1, m1, rfl, ⟨w1, hv1⟩, g6⟩ := ystk_cons g5
    obtain ⟨v2, m, rfl, ⟨w2, hv2⟩, g7⟩ := ystk_cons g6
    split at h
    · next hj =>
      obtain ⟨x, rfl, hx⟩ := yvI' hj hv1
      split at h
      · next q hq =>
        split at h
        · next c =>
          obtain ⟨i, rfl, hi, ei, wq, hok, -, -⟩ := ycel_ok g.1 H w2 hv2 hq
          have nm := ynm_ok g.1 w1.1
          obtain ⟨cl, c1, c2, c3, c4, c5⟩ := q
          have hk := c.1
          unfold ykA at hk
          simp only [Bool.or_eq_true, Bool.and_eq_true, beq_iff_eq, decide_eq_true_eq] at hk
          obtain ⟨⟨rfl, hk2⟩, hk3⟩ := hk
          have hok := hok (show (1 : Nat) ≠ 7 by decide)
          have go : ∀ (t : Nat) (f : Nat → Option Nat), (t = 4 ∨ t = 5) → hp.2 i = .inl (t, c3, .inr (.inr (.inr (.inr f)))) → (0 ≤ yev r (ynm S.2.1 j.2.1) ∧ (yev r (ynm S.2.1 j.2.1)).toNat < c3) ∧ zAald (pc, lv, .int x :: .ref i :: m) hp = zn (pc + 1) lv (va_rf (f (yev r (ynm S.2.1 j.2.1)).toNat) :: m) hp := by
            intro t f ht hc
            have bd := ybnd_ok g c.2 ei hc (fun _ => rfl) hk3
            obtain ⟨i1, i2⟩ := yix (hx.trans nm.1.symm) bd
            refine ⟨bd, ?_⟩
            unfold zAald
            dsimp only
            rw [if_pos (show i < hp.1 ∧ i < zSC from ⟨hi, Nat.lt_of_lt_of_le hi H.2.1⟩), hc, ← i2]
            rcases ht with rfl | rfl
            · show (if ¬ (x < 0 ∨ c3 ≤ x.toNatClampNeg) then zn (pc + 1) lv (va_rf (f x.toNatClampNeg) :: m) hp else none) = _
              rw [if_pos i1]
            · show (if ¬ (x < 0 ∨ c3 ≤ x.toNatClampNeg) then zn (pc + 1) lv (va_rf (f x.toNatClampNeg) :: m) hp else none) = _
              rw [if_pos i1]
          split at h
          · next h5 =>
            have h5 : c2 = 5 := h5
            subst h5
            cases h
            obtain ⟨f, e, hf⟩ : ∃ f : Nat → Option Nat, hp.2 i = .inl (5, c3, .inr (.inr (.inr (.inr f)))) ∧ ∀ j, j < c3 → f j = some (c4 + j) := hok
            obtain ⟨bd, hz⟩ := go 5 f (Or.inr rfl) e
            rw [hz, hf _ bd.2]
            refine yD1 rfl (yag_refl _ _) (Nat.le_refl _) (yG_st g ⟨⟨⟨nm.2, Or.inl rfl⟩, yv_ref ?_⟩, g7⟩)
            show (ynm S.2.1 j.2.1).1 * r (ynm S.2.1 j.2.1).2.1 + ((ynm S.2.1 j.2.1).2.2 + (c4 : Int)) = ((c4 + (yev r (ynm S.2.1 j.2.1)).toNat : Nat) : Int)
            have : yev r (ynm S.2.1 j.2.1) = (ynm S.2.1 j.2.1).1 * r (ynm S.2.1 j.2.1).2.1 + (ynm S.2.1 j.2.1).2.2 := rfl
            omega
          · next h5 =>
            have h5 : ¬ c2 = 5 := h5
            have h4 : c2 = 4 := by omega
            subst h4
            obtain ⟨f, e, hf⟩ : ∃ f : Nat → Option Nat, hp.2 i = .inl (4, c3, .inr (.inr (.inr (.inr f)))) ∧ ∀ j, j < c3 → f j = none ∨ ∃ k : Nat, f j = some (88 + 3 * k) ∧ 88 + 3 * k + 2 < hp.1 := hok
            obtain ⟨bd, hz⟩ := go 4 f (Or.inl rfl) e
            rw [hz]
            have e1 : (yev r cl).toNat = i := by have : (i : Int) = yev r cl := ei; omega
            split at h
            · next w hw =>
              split at h
              · cases h
                obtain ⟨⟨-, -, wx⟩, k1, k2, k3, k4⟩ := g.2.2.1 _ (ylk_mem hw)
                have k3 : yrd hp (yev r cl).toNat (yev r (ynm S.2.1 j.2.1)) = some k2 := k3
                rw [e1, yrd_f e bd.1] at k3
                cases k3
                exact yD1 rfl (yag_refl _ _) (Nat.le_refl _) (yG_st g ⟨⟨wx, k4⟩, g7⟩)
              · cases h
            · cases h
              have hz : ∃ z : Int, (-1 ≤ z ∧ z ≤ 303) ∧ ∀ (r2 : Nat → Int) (l : yL), yev r2 l = z → yv hp.1 r2 (3, l, yc 0) (va_rf (f (yev r (ynm S.2.1 j.2.1)).toNat)) := by
                rcases hf _ bd.2 with h0 | ⟨k, h0, hk⟩
                · rw [h0]
                  refine ⟨-1, by decide, fun r2 l e => ?_⟩
                  exact Or.inl ⟨e, rfl⟩
                · rw [h0]
                  have := H.2.1
                  refine ⟨(k : Int), by omega, fun r2 l e => ?_⟩
                  refine Or.inr ⟨?_, ?_, ?_⟩
                  · show 0 ≤ yev r2 l
                    omega
                  · show 88 + 3 * (yev r2 l).toNat + 2 < hp.1
                    omega
                  · show Value.ref (88 + 3 * k) = .ref (88 + 3 * (yev r2 l).toNat)
                    rw [e, Int.toNat_natCast]
              obtain ⟨z, z1, z2⟩ := hz
              obtain ⟨r2, a1, a2, a3, a4, a5, a6⟩ := yfrs_ok g (tag := 3) (q := (-1, 303)) (keep := (cl.1 == 0)) (cl := cl) (il := ynm S.2.1 j.2.1) z1 z2 wq nm.2 (fun _ => ⟨by have : (i : Int) = yev r cl := ei; omega, by rw [e1, yrd_f e bd.1]⟩)
              exact yD1 rfl a1 a2 (yG_st a4 ⟨⟨a5, a6⟩, ystk_ag a2 a1 g7⟩)
        · cases h
      · cases h
    · cases h
  · cases h
end YROW
end
