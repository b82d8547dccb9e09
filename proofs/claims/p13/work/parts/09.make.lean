section
/-! What makes cells; rows copied; the methods that the kit has rows for. -/
theorem zroom {n0 nF a k N : Nat} (h1 : n0 ≤ a) (h2 : a + k ≤ nF) (hN : N ≤ zSL * k) : a - n0 + k = a + k - n0 ∧ zSL * (a - n0) + N ≤ zSL * (a + k - n0) ∧ a + k - n0 ≤ nF - n0 ∧ zSL * (a + k - n0) ≤ zSL * (nF - n0) := by
  refine ⟨by omega, ?_, by omega, Nat.mul_le_mul_left _ (by omega)⟩
  rw [show a + k - n0 = (a - n0) + k by omega, Nat.mul_add]
  exact Nat.add_le_add_left hN _
theorem zar_i : zin (.arrayClass .int) = true := by decide +kernel
theorem zar_b : zin (.arrayClass .byte) = true := by decide +kernel
theorem zar_z : zin (.arrayClass .boolean) = true := by decide +kernel
theorem zar_l : zin (.arrayClass .long) = true := by decide +kernel
theorem zva_S {A : Nat → Prop} {H0 H H1 : Heap} {locs : List Loc} (h : va_S A H0 H locs) (z : H.size ≤ H1.size) (o : ∀ q, q < H.size → H1[q]? = H[q]?) : va_S A H0 H1 locs := ⟨Nat.le_trans h.1 z, fun q h1 h2 => (o q (Nat.lt_of_lt_of_le h1 h.1)).trans (h.2.1 q h1 h2), h.2.2⟩
theorem A_use {A : Array Value} {U : State} (h : zAOA U) : (Cond.arrayOver (.array .int)).before A U = true := h
theorem zr_outer (c : ClassId) (N h0 : Nat) : ∀ i : Nat, Jvm.Free.Multi.outerC c N h0 i = arrV c N (fun j => va_rf (if j < i then some (h0 + 1 + j) else none))
  | 0 => by
    show ({ cls := c, slots := Array.replicate N .null, vm := .none } : Cell) = _
    rw [arrV_new]
    refine congrArg (arrV c N) (funext fun j => ?_)
    simp [va_rf]
  | i + 1 => by
    show (Jvm.Free.Multi.outerC c N h0 i).setSlot i (.ref (h0 + 1 + i)) = _
    rw [zr_outer c N h0 i, arrV_store]
    refine congrArg (arrV c N) (funext fun j => ?_)
    by_cases e : j = i
    · subst e
      simp [updV, va_rf]
    · by_cases h : j < i
      · simp [updV, e, h, Nat.lt_succ_of_lt h]
      · simp [updV, e, h, show ¬ j < i + 1 by omega]
section ZMAK
variable {p : Program} {l : Launch} {e : Env} {R : Room} {s : State} {m : MethodId} {args : Array Value} {below : List Frame} {meth : Method} {c : Code} {Q : State → Prop} {w : zWd} {ev : zEv} {d : Nat} {y : MethodName} {cc : ByteArray} {nL : Nat} {rt : Option FieldType} {n0 nF : Nat} {fr fr' : zFr} {hp hp' : zHp}
theorem za_new (C : zCx w ev d y cc nL rt n0 nF p R s m args meth c) {i a : Nat} (hd : decode cc fr.1 = .ok (.new i, 3)) (hI : zok_n y i a = true) (h0 : n0 ≤ hp.1) (hF : hp'.1 ≤ nF) (h : zNew a (zbirth a) fr hp = some (.inl (fr', hp'))) (K : zG w nL n0 p l e R s m args below meth c Q fr' hp') : zG w nL n0 p l e R s m args below meth c Q fr hp := by
  obtain ⟨hx, hb, hml, hrt, hown, hts, hlk, hini, hbs, hsp, hfr, hlo, hrc, hrs⟩ := C
  unfold zNew zn at h
  split at h
  · next hsc =>
    cases h
    intro H locs ls hH hS hl
    unfold zok_n at hI
    cases hcq : zcls[a]? with
    | none => rw [hcq] at hI; cases hI
    | some cq =>
      rw [hcq] at hI
      simp only [Bool.and_eq_true] at hI
      obtain ⟨hin, hty, hnm, hdf, hbi, hN⟩ := zk_all hcq
      have hKn := hsp.1.1 a _ hcq
      obtain ⟨r1, r2, r3, r4⟩ := zroom (N := cq.2.2) (k := 1) h0 hF (Nat.le_trans hN (by decide))
      refine W.newcK hx hb hown (hts _ (zin_mem hI.1.1)) (hts _ (zin_mem hI.1.2)) (hts _ (zin_mem hI.2)) rfl hd (by omega) (by omega) hKn.2.1 rfl fun H1 kC hkC e1 z1 o1 => ?_
      refine W.widen (k := hp.1 + 1 - n0) (n := zSL * (hp.1 + 1 - n0)) (by omega) r2 ?_
      have k := K H1 locs ls (zHd_push hH z1 o1 (c := .inr (a, zbirth a)) ?_) (zva_S hS (by omega) o1) hl
      · have e2 : zta w hp.1 = H.size := by rw [zta_lo hsc, hH.1]
        show W p l e R s m args below meth c H1 locs _ _ Q (F0 m (fr.1 + 3) ls (.ref H.size :: fr.2.2.map (ztv w)))
        rw [← e2]
        exact k
      · show ∃ r : vw_C, zcls[a]? = some r ∧ t_OB H.size (w.2.2.2.1.1 a) r.2.2 (w.2.2.2.1.2 a) H1 (vp_V ((zbirth a).map (ztv w)))
        rw [hbi w]
        exact ⟨_, hcq, (u_born (ztyp a) hts hin hKn hkC e1 hty).to hdf⟩
  · cases h
theorem za_newa (C : zCx w ev d y cc nL rt n0 nF p R s m args meth c) {ty : ArrayType} (hd : decode cc fr.1 = .ok (.newarray ty, 2)) (h0 : n0 ≤ hp.1) (hF : hp'.1 ≤ nF) (h : zNewa ty fr hp = some (.inl (fr', hp'))) (K : zG w nL n0 p l e R s m args below meth c Q fr' hp') : zG w nL n0 p l e R s m args below meth c Q fr hp := by
  obtain ⟨hx, hb, hml, hrt, hown, hts, hlk, hini, hbs, hsp, hfr, hlo, hrc, hrs⟩ := C
  unfold zNewa zn at h
  have go : ∀ (t : Nat) (n : Int32) (r : List Value) (z : vp_A), zin (.arrayClass (newarray.typeOf ty)) = true → (ztys w)[t]? = some (w.2.2.1 t, newarray.typeOf ty) → (∀ cA : ClassId, va_RA s cA (newarray.typeOf ty) = (s.vm.findClass ("[" ++ (newarray.typeOf ty).toString) = some cA)) → componentBytes (newarray.typeOf ty) ≤ 8 → (∀ cA : ClassId, vp_cell cA z = arrV cA n.toNatClampNeg (fun _ => defaultValue (newarray.typeOf ty))) → ztc w (.inl (t, z)) = .inl (w.2.2.1 t, z) → fr.2.2 = .int n :: r → (¬ n < 0 ∧ n.toNatClampNeg ≤ zSL ∧ hp.1 < zSC) → hp.1 + 1 ≤ nF → zG w nL n0 p l e R s m args below meth c Q (fr.1 + 2, fr.2.1, .ref hp.1 :: r) (hp.1 + 1, zup hp.2 hp.1 (.inl (t, z))) → zG w nL n0 p l e R s m args below meth c Q fr hp := by
    intro t n r z hz hty hra hcb hcell htc hst hc hF K H locs ls hH hS hl
    obtain ⟨r1, r2, r3, r4⟩ := zroom (N := n.toNatClampNeg) (k := 1) h0 hF (by rw [Nat.mul_one]; exact hc.2.1)
    have hK := hsp.1.2 t _ hty
    rw [hst]
    show W p l e R s m args below meth c H locs _ _ Q (F0 m fr.1 ls (.int n :: r.map (ztv w)))
    refine va_newaK hx hb (hts _ (zin_mem hz)) rfl hd rfl hc.1 rfl (Nat.le_trans (Nat.mul_le_mul hc.2.1 hcb) (by decide)) (by omega) (by omega) rfl fun H1 cA e1 z1 o1 hAr hNm => ?_
    refine W.widen (k := hp.1 + 1 - n0) (n := zSL * (hp.1 + 1 - n0)) (by omega) r2 ?_
    have ecA : cA = w.2.2.1 t := by
      have h2 := hK.2
      rw [hra] at h2
      exact Option.some.inj (hNm.symm.trans h2)
    have k := K H1 locs ls (zHd_push hH z1 o1 (c := .inl (t, z)) ?_) (zva_S hS (by omega) o1) hl
    · have e2 : zta w hp.1 = H.size := by rw [zta_lo hc.2.2, hH.1]
      show W p l e R s m args below meth c H1 locs _ _ Q (F0 m (fr.1 + 2) ls (.ref H.size :: r.map (ztv w)))
      rw [← e2]
      exact k
    · rw [htc]
      show H1[H.size]? = some (vp_cell (w.2.2.1 t) z)
      rw [hcell, ← ecA]
      exact e1
  split at h
  · next n r hst =>
    split at h
    · next hc =>
      cases ty with
      | int => cases h; exact go 0 n r _ zar_i rfl (fun _ => rfl) (by decide) (fun _ => rfl) rfl hst hc hF K
      | byte => cases h; exact go 1 n r _ zar_b rfl (fun _ => rfl) (by decide) (fun _ => rfl) rfl hst hc hF K
      | boolean => cases h; exact go 2 n r _ zar_z rfl (fun _ => rfl) (by decide) (fun _ => rfl) rfl hst hc hF K
      | long => cases h; exact go 3 n r _ zar_l rfl (fun _ => rfl) (by decide) (fun _ => rfl) rfl hst hc hF K
      | _ => cases h
    · cases h
  · cases h
theorem za_anew (C : zCx w ev d y cc nL rt n0 nF p R s m args meth c) {i : Nat} (hd : decode cc fr.1 = .ok (.anewarray i, 3)) (hI : zin (.classLink y.cls i "LentTools$Rule") = true) (h0 : n0 ≤ hp.1) (hF : hp'.1 ≤ nF) (h : zAnew fr hp = some (.inl (fr', hp'))) (K : zG w nL n0 p l e R s m args below meth c Q fr' hp') : zG w nL n0 p l e R s m args below meth c Q fr hp := by
  obtain ⟨hx, hb, hml, hrt, hown, hts, hlk, hini, hbs, hsp, hfr, hlo, hrc, hrs⟩ := C
  unfold zAnew zn at h
  split at h
  · next n r hst =>
    split at h
    · next hc =>
      cases h
      intro H locs ls hH hS hl
      obtain ⟨r1, r2, r3, r4⟩ := zroom (N := n.toNatClampNeg) (k := 1) h0 hF (by rw [Nat.mul_one]; exact hc.2.1)
      rw [hst]
      show W p l e R s m args below meth c H locs _ _ Q (F0 m fr.1 ls (.int n :: r.map (ztv w)))
      have hb4 : n.toNatClampNeg * 4 ≤ 536870912 := by
        have h9 : n.toNatClampNeg ≤ 3000 := hc.2.1
        omega
      refine W.anew hx hb hown (hts _ (zin_mem hI)) (va_AO.use hsp.2.2.2.2.2.2.1) rfl hd rfl hc.1 hb4 (by omega) (by omega) fun cA kA comp f1 f2 f3 f4 => ?_
      generalize hH1 : H.push ({ cls := cA, slots := Array.replicate n.toNatClampNeg .null, vm := .none } : Cell) = H1
      have z1 : H1.size = H.size + 1 := by rw [← hH1, Array.size_push]
      have e1 : H1[H.size]? = some (arrV cA n.toNatClampNeg (fun _ => .null)) := by rw [← hH1, Array.getElem?_push_size, ← arrV_new]
      have o1 : ∀ q : Nat, q < H.size → H1[q]? = H[q]? := fun q hq => by rw [← hH1, Array.getElem?_push, if_neg (Nat.ne_of_lt hq)]
      refine W.widen (k := hp.1 + 1 - n0) (n := zSL * (hp.1 + 1 - n0)) (by omega) r2 ?_
      have hK := hsp.1.2 4 (w.2.2.1 4, .object "LentTools$Rule") rfl
      obtain ⟨kA2, comp2, k1, k2, k3, k4⟩ := hK.2
      have ecA : cA = w.2.2.1 4 := Option.some.inj (f1.symm.trans k4)
      have k := K H1 locs ls (zHd_push hH z1 o1 (c := .inl (4, n.toNatClampNeg, .inr (.inr (.inr (.inr (fun _ => none)))))) ?_) (zva_S hS (by omega) o1) hl
      · have e2 : zta w hp.1 = H.size := by rw [zta_lo hc.2.2, hH.1]
        show W p l e R s m args below meth c H1 locs _ _ Q (F0 m (fr.1 + 3) ls (.ref H.size :: r.map (ztv w)))
        rw [← e2]
        exact k
      · show H1[H.size]? = some (vp_cell (w.2.2.1 4) (n.toNatClampNeg, .inr (.inr (.inr (.inr (fun _ => none))))))
        rw [← ecA, vp_cell_q]
        exact e1
    · cases h
  · cases h
theorem za_mna (C : zCx w ev d y cc nL rt n0 nF p R s m args meth c) {i n2 : Nat} (hd : decode cc fr.1 = .ok (.multianewarray i n2, 4)) (hI : (zin (.classLink y.cls i "[[I") && decide (n2 = 2)) = true) (h0 : n0 ≤ hp.1) (hF : hp'.1 ≤ nF) (h : zMna fr hp = some (.inl (fr', hp'))) (K : zG w nL n0 p l e R s m args below meth c Q fr' hp') : zG w nL n0 p l e R s m args below meth c Q fr hp := by
  obtain ⟨hx, hb, hml, hrt, hown, hts, hlk, hini, hbs, hsp, hfr, hlo, hrc, hrs⟩ := C
  simp only [Bool.and_eq_true, decide_eq_true_eq] at hI
  obtain ⟨hI, rfl⟩ := hI
  unfold zMna zn at h
  split at h
  · next k n r hst =>
    split at h
    · next hc =>
      cases h
      intro H locs ls hH hS hl
      have hF2 : hp.1 + (1 + n.toNatClampNeg) ≤ nF := by
        have h9 : hp.1 + 1 + n.toNatClampNeg ≤ nF := hF
        omega
      have hN3 : n.toNatClampNeg ≤ 3000 := hc.2.2.1
      have hK3 : k.toNatClampNeg ≤ 3000 := hc.2.2.2.1
      obtain ⟨r1, r2, r3, r4⟩ := zroom (N := n.toNatClampNeg + n.toNatClampNeg * k.toNatClampNeg) (k := 1 + n.toNatClampNeg) h0 hF2 (by
        have h9 : n.toNatClampNeg * k.toNatClampNeg ≤ n.toNatClampNeg * 3000 := Nat.mul_le_mul_left _ hK3
        show _ ≤ 3000 * (1 + n.toNatClampNeg)
        omega)
      rw [hst]
      show W p l e R s m args below meth c H locs _ _ Q (F0 m fr.1 ls (.int k :: .int n :: r.map (ztv w)))
      intro T hT Xs
      have hb1 : n.toNatClampNeg * 4 ≤ 536870912 := by omega
      have hb2 : k.toNatClampNeg * componentBytes FieldType.int ≤ 536870912 := by
        have h9 : componentBytes FieldType.int = 4 := rfl
        rw [h9]; omega
      obtain ⟨vm₁, cA, comp, -, fA, fC, hO, -, X', step⟩ := Xs.multianewarray2F (ty := .int) hx hown (hts _ (zin_mem hI)) (A_use hsp.2.2.2.2.2.2.2.1) (hts _ (zin_mem zar_i)) (g := F0 m fr.1 ls (.int k :: .int n :: r.map (ztv w))) rfl (by rw [hb]; exact hd) rfl hc.1 hc.2.1 hb1 hb2 (by omega) rfl rfl (by omega) (by omega)
      have hcy : comp = w.2.2.1 0 := by
        have h2 : s.vm.findClass ("[" ++ FieldType.int.toString) = some (w.2.2.1 0) := (hsp.1.2 0 (w.2.2.1 0, .int) rfl).2
        have fC2 : s.vm.findClass ("[" ++ FieldType.int.toString) = some comp := fC
        exact Option.some.inj (fC2.symm.trans h2)
      have hcA : cA = w.2.2.1 5 := by
        have h2 : s.vm.findClass ("[" ++ (FieldType.array .int).toString) = some (w.2.2.1 5) := (hsp.1.2 5 (w.2.2.1 5, .array .int) rfl).2
        exact Option.some.inj (fA.symm.trans h2)
      subst hcy
      subst hcA
      generalize hFe : Jvm.Free.Multi.fill (T.setVm vm₁) (w.2.2.1 5) (w.2.2.1 0) n.toNatClampNeg k.toNatClampNeg (defaultValue .int) n.toNatClampNeg = F at X' step
      have hTh : (T.setVm vm₁).heap = H := hT
      obtain ⟨f1, f2, -, -⟩ := Jvm.Free.Multi.fill_facts (T.setVm vm₁) (w.2.2.1 5) (w.2.2.1 0) n.toNatClampNeg k.toNatClampNeg (defaultValue .int) n.toNatClampNeg
      rw [hFe, hTh] at f1 f2
      have hold : ∀ x : Nat, x < H.size → F.heap[x]? = H[x]? := fun x hx9 => by
        have := Jvm.Free.Multi.fill_old (T.setVm vm₁) (w.2.2.1 5) (w.2.2.1 0) n.toNatClampNeg k.toNatClampNeg (defaultValue .int) (a := x) (by rw [hTh]; exact hx9) n.toNatClampNeg
        rw [hFe, hTh] at this
        exact this
      have hrow : ∀ j : Nat, j < n.toNatClampNeg → F.heap[H.size + 1 + j]? = some (vp_cell (w.2.2.1 0) (k.toNatClampNeg, .inl (fun _ => 0))) := fun j hj => by
        have := Jvm.Free.Multi.fill_inner (T.setVm vm₁) (w.2.2.1 5) (w.2.2.1 0) n.toNatClampNeg k.toNatClampNeg (defaultValue .int) n.toNatClampNeg j hj
        rw [hFe, hTh] at this
        rw [this, vp_cell_i, ← arrV_new]
        rfl
      have hout : Jvm.Free.Multi.outerC (w.2.2.1 5) n.toNatClampNeg H.size n.toNatClampNeg = vp_cell (w.2.2.1 5) (n.toNatClampNeg, .inr (.inr (.inr (.inr (fun i => if i < n.toNatClampNeg then some (H.size + 1 + i) else none))))) := by
        rw [vp_cell_q]
        exact zr_outer (w.2.2.1 5) n.toNatClampNeg H.size n.toNatClampNeg
      rw [hout] at f2
      have hsc : hp.1 + 1 + n.toNatClampNeg ≤ 1000 := hc.2.2.2.2
      have hsz := hH.1
      have hH1 : zHd w (hp.1 + 1 + n.toNatClampNeg, fun j => if j < hp.1 then hp.2 j else if j = hp.1 then .inl (5, n.toNatClampNeg, .inr (.inr (.inr (.inr (fun i => if i < n.toNatClampNeg then some (hp.1 + 1 + i) else none))))) else .inl (0, k.toNatClampNeg, .inl (fun _ => 0))) F.heap := by
        refine ⟨by rw [f1, hsz]; show w.1 + hp.1 + 1 + n.toNatClampNeg = w.1 + (hp.1 + 1 + n.toNatClampNeg); omega, fun j q hq => ?_⟩
        obtain ⟨hj, rfl⟩ := zwl_at hq
        have hj : j < hp.1 + 1 + n.toNatClampNeg := hj
        by_cases j1 : j < hp.1
        · have hc9 := zHd_cell hH j1
          have e9 : ((fun j => if j < hp.1 then hp.2 j else if j = hp.1 then .inl (5, n.toNatClampNeg, .inr (.inr (.inr (.inr (fun i => if i < n.toNatClampNeg then some (hp.1 + 1 + i) else none))))) else .inl (0, k.toNatClampNeg, .inl (fun _ => 0))) : Nat → zCl) j = hp.2 j := if_pos j1
          show va_at _ _ (w.1 + j, ztc w (((fun j => if j < hp.1 then hp.2 j else if j = hp.1 then .inl (5, n.toNatClampNeg, .inr (.inr (.inr (.inr (fun i => if i < n.toNatClampNeg then some (hp.1 + 1 + i) else none))))) else .inl (0, k.toNatClampNeg, .inl (fun _ => 0))) : Nat → zCl) j)) F.heap
          rw [e9]
          exact hc9.kept (hold _ (by show w.1 + j < H.size; omega))
        · by_cases j2 : j = hp.1
          · subst j2
            show va_at _ _ (w.1 + hp.1, ztc w (if hp.1 < hp.1 then hp.2 hp.1 else if hp.1 = hp.1 then .inl (5, n.toNatClampNeg, .inr (.inr (.inr (.inr (fun i => if i < n.toNatClampNeg then some (hp.1 + 1 + i) else none))))) else .inl (0, k.toNatClampNeg, .inl (fun _ => 0)))) F.heap
            rw [if_neg (Nat.lt_irrefl _), if_pos rfl]
            show F.heap[w.1 + hp.1]? = some (vp_cell (w.2.2.1 5) (n.toNatClampNeg, .inr (.inr (.inr (.inr (fun i => (if i < n.toNatClampNeg then some (hp.1 + 1 + i) else none).map (zta w)))))))
            rw [← hsz, f2]
            have e8 : (fun i => if i < n.toNatClampNeg then some (H.size + 1 + i) else none) = (fun i => (if i < n.toNatClampNeg then some (hp.1 + 1 + i) else none).map (zta w)) := by
              funext i
              by_cases hi : i < n.toNatClampNeg
              · rw [if_pos hi, if_pos hi]
                show some (H.size + 1 + i) = some (zta w (hp.1 + 1 + i))
                rw [zta_lo (show hp.1 + 1 + i < 1000 by omega)]
                congr 1
                omega
              · rw [if_neg hi, if_neg hi]
                rfl
            rw [e8]
          · show va_at _ _ (w.1 + j, ztc w (if j < hp.1 then hp.2 j else if j = hp.1 then .inl (5, n.toNatClampNeg, .inr (.inr (.inr (.inr (fun i => if i < n.toNatClampNeg then some (hp.1 + 1 + i) else none))))) else .inl (0, k.toNatClampNeg, .inl (fun _ => 0)))) F.heap
            rw [if_neg j1, if_neg j2]
            show F.heap[w.1 + j]? = some (vp_cell (w.2.2.1 0) (k.toNatClampNeg, .inl (fun _ => 0)))
            have := hrow (j - hp.1 - 1) (by omega)
            rw [show H.size + 1 + (j - hp.1 - 1) = w.1 + j by omega] at this
            exact this
      have kk := K F.heap locs ls hH1 (zva_S hS (by omega) hold) hl
      have kk2 : W p l e R s m args below meth c F.heap locs (hp.1 - n0 + 1 + n.toNatClampNeg) (zSL * (hp.1 - n0) + n.toNatClampNeg + n.toNatClampNeg * k.toNatClampNeg) Q (F0 m (fr.1 + 4) ls (.ref H.size :: r.map (ztv w))) := by
        refine W.widen (k := hp.1 + 1 + n.toNatClampNeg - n0) (n := zSL * (hp.1 + 1 + n.toNatClampNeg - n0)) (by omega) (by rw [show hp.1 + 1 + n.toNatClampNeg - n0 = hp.1 + (1 + n.toNatClampNeg) - n0 by omega]; omega) ?_
        have e2 : zta w hp.1 = H.size := by rw [zta_lo (show hp.1 < 1000 by omega), hH.1]
        rw [← e2]
        exact kk
      obtain ⟨t, a1, b1⟩ := kk2 F rfl X'
      refine ⟨t, step t ?_, b1⟩
      have e9 : T.heap.size = H.size := by rw [hT]
      rw [e9]
      exact a1
    · cases h
  · cases h
end ZMAK
end
section
/-! Calls, and the methods that the kit has rows for. -/
theorem zcp_1 : zin (.native arraycopyName) = true := by decide +kernel
theorem zcp_2 : zin (.static arraycopyName) = true := by decide +kernel
theorem zcp_3 : zin (.initialized "java/lang/System") = true := by decide +kernel
theorem zmm_1 : zin (.static Lib.Math.max.name) = true := by decide +kernel
theorem zmm_2 : zin (.static Lib.Math.min.name) = true := by decide +kernel
theorem zmm_3 : zin (.initialized "java/lang/Math") = true := by decide +kernel
theorem zob_1 : zin (.instanceMethod objectInit) = true := by decide +kernel
set_option maxRecDepth 20000 in
theorem zmm_4 : Cond.code Lib.Math.max.name Lib.Math.max.code 2 (some .int) ∈ zTw := List.mem_filter.mpr ⟨List.mem_of_getElem? (i := 758) rfl, rfl⟩
set_option maxRecDepth 20000 in
theorem zmm_5 : Cond.code Lib.Math.min.name Lib.Math.min.code 2 (some .int) ∈ zTw := List.mem_filter.mpr ⟨List.mem_of_getElem? (i := 435) rfl, rfl⟩
set_option maxRecDepth 20000 in
theorem zob_2 : Cond.code objectInit ⟨#[0xb1]⟩ 1 none ∈ zTw := List.mem_filter.mpr ⟨List.mem_of_getElem? (i := 149) rfl, rfl⟩
theorem zgood {ws : List Cond} (h : ∀ q ∈ ws, q ∈ zTw) : GoodIn zTw ws := fun q hq => ⟨h q hq, good_of_word (List.mem_filter.mp (h q hq)).2⟩
def zwk (mi : zMi) : List Cond := .code mi.1 mi.2.1 mi.2.2.1 mi.2.2.2.1 :: zTw
def zPc (w : zWd) (as : List Value) (hp : zHp) : Array Value → State → Prop := va_Pc (as.map (ztv w)) (fun U => zHd w hp U.heap ∧ zSp w none U U.heap)
def zQc (w : zWd) (r : Option Value) (hp' : zHp) : Array Value → State → Outcome → State → Prop := fun _ st oc t => oc = .returned (r.map (ztv w)) ∧ zHd w hp' t.heap ∧ va_F (zA w) st t
def zMet (w : zWd) (d : Nat) (mi : zMi) (as : List Value) (hp : zHp) (r : Option Value) (hp' : zHp) : Prop := ∀ l : Launch, Met l mi.1 (zwk mi) ({ frames := d, cells := hp'.1 - hp.1, slots := zSL * (hp'.1 - hp.1), locals := 60 * d }) (zPc w as hp) (zQc w r hp') (hp'.1 - hp.1) (zSL * (hp'.1 - hp.1)) (zA w)
def zOK (w : zWd) (d : Nat) (call : zCa) : Prop := ∀ (k : Nat) (as : List Value) (hp : zHp) (r : Option Value) (hp' : zHp), call k as hp = some (r, hp') → hp.1 ≤ hp'.1 ∧ ∃ mi : zMi, zg zml k = some mi ∧ zMet w d mi as hp r hp'
theorem zPc_blind (w : zWd) (as : List Value) (hp : zHp) : FrameBlind (zPc w as hp) := fun a U g mk q => ⟨q.1, q.2.1, zSp.same (U := U) (V := U.calling g mk a) rfl rfl q.2.2⟩
section ZCAL
variable {p : Program} {l : Launch} {e : Env} {R : Room} {s : State} {m : MethodId} {args : Array Value} {below : List Frame} {meth : Method} {c : Code} {Q : State → Prop} {w : zWd} {ev : zEv} {d : Nat} {y : MethodName} {cc : ByteArray} {nL : Nat} {rt : Option FieldType} {n0 nF : Nat} {fr fr' : zFr} {hp hp' : zHp}
theorem za_aast (C : zCx w ev d y cc nL rt n0 nF p R s m args meth c) (hd : decode cc fr.1 = .ok (.aastore, 1)) (h : zAast fr hp = some (.inl (fr', hp'))) (K : zG w nL n0 p l e R s m args below meth c Q fr' hp') : zG w nL n0 p l e R s m args below meth c Q fr hp := by
  obtain ⟨hx, hb, hml, hrt, hown, hts, hlk, hini, hbs, hsp, hfr, hlo, hrc, hrs⟩ := C
  unfold zAast zn at h
  split at h
  · next v j ix r hst =>
    split at h
    · next hlt =>
      split at h
      · next n f fs hc hv =>
        split at h
        · next hin =>
          cases h
          intro H locs ls hH hS hl
          have hK := hsp.1
          have hcel : H[w.1 + ix]? = some (vp_cell (w.2.2.1 4) (n, .inr (.inr (.inr (.inr (fun i => (f i).map (zta w))))))) := by
            have := zHd_cell hH hlt.1
            rw [hc] at this
            exact this
          have hcv := zHd_cell hH hlt.2.2.1
          rw [hv] at hcv
          obtain ⟨r', hr', cellV, g1, g2, g3, -⟩ := hcv
          have hcls := (hK.1 4 (zR4, zT4, 2) rfl).2
          obtain ⟨kA, comp, k1, k2, k3, -⟩ := (hK.2 4 (w.2.2.1 4, .object "LentTools$Rule") rfl).2
          have hcomp : comp = w.2.2.2.1.1 4 := Option.some.inj (k3.symm.trans hcls.1)
          subst hcomp
          obtain ⟨kC, hkC, -⟩ := hcls.2
          have hj : j.toNatClampNeg < n := Nat.not_le.mp fun q => hin (Or.inr q)
          rw [hst]
          show W p l e R s m args below meth c H locs _ _ Q (F0 m fr.1 ls (.ref (zta w v) :: .int j :: .ref (zta w ix) :: r.map (ztv w)))
          rw [zta_lo hlt.2.1, zta_lo hlt.2.2.2]
          refine W.aast hx hb hcel (fun q h => by cases h) (fun h => by cases h) k1 k2 rfl hkC ⟨fun q => hin (Or.inl q), by show _ < (arrV _ _ _).slots.size; rw [arrV_size]; exact hj⟩ g1 (fun q h => by rw [g3] at h; cases h) (by rw [g2]; exact hkC) (by rw [g2]; exact va_assign hcls) rfl rfl hd fun H1 e1 z oq => ?_
          refine K H1 _ ls (zHd_set hH hlt.1 z oq ?_) (hS.put z oq (zA_in w ix)) hl
          show H1[w.1 + ix]? = some (vp_cell (w.2.2.1 4) (n, .inr (.inr (.inr (.inr (fun i => (va_up f j.toNatClampNeg (some v) i).map (zta w)))))))
          rw [e1, vp_cell_q, vp_cell_q, arrV_store]
          congr 2
          funext q
          by_cases hq : q = j.toNatClampNeg
          · subst hq
            simp [updV, va_up, va_rf, zta_lo hlt.2.2.2]
          · simp [updV, va_up, hq]
        · cases h
      · cases h
    · cases h
  · cases h
theorem zcl_1 : zin (.sameMethod "[I" "java/lang/Object" "clone" "()Ljava/lang/Object;") = true := by decide +kernel
theorem zcl_2 : zin (.native ⟨"java/lang/Object", "clone", "()Ljava/lang/Object;"⟩) = true := by decide +kernel
theorem zcl_3 : zin (.instanceMethod ⟨"java/lang/Object", "clone", "()Ljava/lang/Object;"⟩) = true := by decide +kernel
theorem zcl_4 : zin (.selects "[I" ⟨"[I", "clone", "()Ljava/lang/Object;"⟩ ⟨"java/lang/Object", "clone", "()Ljava/lang/Object;"⟩) = true := by decide +kernel
theorem za_cln (C : zCx w ev d y cc nL rt n0 nF p R s m args meth c) {i : Nat} (hd : decode cc fr.1 = .ok (.invokevirtual i, 3)) (hI : zin (.methodLink y.cls i ⟨"[I", "clone", "()Ljava/lang/Object;"⟩) = true) (h0 : n0 ≤ hp.1) (hF : hp'.1 ≤ nF) (h : zCln fr hp = some (.inl (fr', hp'))) (K : zG w nL n0 p l e R s m args below meth c Q fr' hp') : zG w nL n0 p l e R s m args below meth c Q fr hp := by
  obtain ⟨hx, hb, hml, hrt, hown, hts, hlk, hini, hbs, hsp, hfr, hlo, hrc, hrs⟩ := C
  unfold zCln zn at h
  split at h
  · next ix r hst =>
    split at h
    · next hc =>
      split at h
      · next n f hcl =>
        split at h
        · next hn =>
          cases h
          intro H locs ls hH hS hl
          obtain ⟨r1, r2, r3, r4⟩ := zroom (N := n) (k := 1) h0 hF (by rw [Nat.mul_one]; exact hn)
          have hcel : H[w.1 + ix]? = some (vp_cell (w.2.2.1 0) (n, .inl f)) := by
            have := zHd_cell hH hc.1
            rw [hcl] at this
            exact this
          have hK := hsp.1.2 0 (w.2.2.1 0, .int) rfl
          have hnm : s.vm.findClass "[I" = some (w.2.2.1 0) := va_nm_int hK.2
          obtain ⟨c0, t0, f1, f2, f3⟩ := Cond.castable_spec (va_Nw.use (A := args) rfl hsp.2.2.2.2.2.2.2.2)
          cases hnm.symm.trans f1
          rw [hst]
          show W p l e R s m args below meth c H locs _ _ Q (F0 m fr.1 ls (.ref (zta w ix) :: r.map (ztv w)))
          rw [zta_lo hc.2.1]
          intro T hT X
          obtain ⟨-, kA, hkA, comp, hkind⟩ := State.isArrayOf_alike X.warmed.alike (hK.1 0 (fun _ => .null))
          obtain ⟨-, kS, hkS, compS, hkindS⟩ := hK.1 0 (fun _ => .null)
          have hsz : (vp_cell (w.2.2.1 0) (n, .inl f)).slots.size = n := arrV_size _ _ _
          have hcellE : ({ cls := (vp_cell (w.2.2.1 0) (n, .inl f)).cls, slots := (vp_cell (w.2.2.1 0) (n, .inl f)).slots } : Cell) = vp_cell (w.2.2.1 0) (n, .inl f) := rfl
          have hsum : ((r.map (ztv w)).map fun v => v.category).sum ≤ 8 := by rw [zmap_cat]; exact hc.2.2.2
          obtain ⟨vm', X', st⟩ := X.cloneArray hx hown (hts _ (zin_mem hI)) (hts _ (zin_mem zcl_1)) (hts _ (zin_mem zcl_2)) (hts _ (zin_mem zcl_3)) (hts _ (zin_mem zcl_4)) (a := w.1 + ix) (cell := vp_cell (w.2.2.1 0) (n, .inl f)) (by rw [hT]; exact hcel) (fun k h => by cases h) (fun h => by cases h) hnm f2 f3
            (fun i v hv => by
              have hk' : T.vm.classes[w.2.2.1 0]? = some kA := hkA
              have hfit : fits .int v = true := va_fit (cA := w.2.2.1 0) (n := n) (F := fun j => .int (f j)) (ty := .int) (fun i _ => rfl) i v hv
              have hcl0 : (vp_cell (w.2.2.1 0) (n, .inl f)).cls = w.2.2.1 0 := rfl
              rw [hcl0]
              simpa [State.fitsSlot, State.slotType?, hk', hkind] using hfit)
            (g := F0 m fr.1 ls (.ref (w.1 + ix) :: r.map (ztv w))) rfl (by rw [hml]; exact hl.1) rfl (by rw [hb]; exact hd) (by omega) (by show 2 * 0 + _ + 14 ≤ _; omega) (by omega) (by rw [hsz]; omega) (hloader := Vm.clonesLoader_of_array hkS hkindS)
          rw [hcellE, hsz] at X'
          generalize hH1 : H.push (vp_cell (w.2.2.1 0) (n, .inl f)) = H1
          have z1 : H1.size = H.size + 1 := by rw [← hH1, Array.size_push]
          have e1 : H1[H.size]? = some (vp_cell (w.2.2.1 0) (n, .inl f)) := by rw [← hH1, Array.getElem?_push_size]
          have o1 : ∀ q : Nat, q < H.size → H1[q]? = H[q]? := fun q hq => by rw [← hH1, Array.getElem?_push, if_neg (Nat.ne_of_lt hq)]
          have k := K H1 locs ls (zHd_push hH z1 o1 (c := .inl (0, n, .inl f)) e1) (zva_S hS (by omega) o1) hl
          have e2 : zta w hp.1 = H.size := by rw [zta_lo hc.2.2.1, hH.1]
          have k : W p l e R s m args below meth c H1 locs (hp.1 + 1 - n0) (zSL * (hp.1 + 1 - n0)) Q (F0 m (fr.1 + 3) ls (.ref (zta w hp.1) :: r.map (ztv w))) := k
          rw [e2] at k
          have k := W.widen (k := hp.1 + 1 - n0) (n := zSL * (hp.1 + 1 - n0)) (show hp.1 - n0 + 1 ≤ hp.1 + 1 - n0 by omega) r2 k
          obtain ⟨t, b1, b2⟩ := k ((T.setVm vm').pushCell (vp_cell (w.2.2.1 0) (n, .inl f))) (by rw [← hH1, ← hT]; rfl) X'
          refine ⟨t, st t ?_, b2⟩
          rw [hcellE, hT]
          exact b1
        · cases h
      · cases h
    · cases h
  · cases h
theorem za_cst (C : zCx w ev d y cc nL rt n0 nF p R s m args meth c) {i : Nat} (hd : decode cc fr.1 = .ok (.checkcast i, 3)) (hI : zin (.classLink y.cls i "[I") = true) (h : zCst fr hp = some (.inl (fr', hp'))) (K : zG w nL n0 p l e R s m args below meth c Q fr' hp') : zG w nL n0 p l e R s m args below meth c Q fr hp := by
  obtain ⟨hx, hb, hml, hrt, hown, hts, hlk, hini, hbs, hsp, hfr, hlo, hrc, hrs⟩ := C
  unfold zCst zn at h
  split at h
  · next ix r hst =>
    split at h
    · next hc =>
      split at h
      · next n f hcl =>
        cases h
        intro H locs ls hH hS hl
        have hK := hsp.1.2 0 (w.2.2.1 0, .int) rfl
        have hnm : s.vm.findClass "[I" = some (w.2.2.1 0) := va_nm_int hK.2
        have ha : (zwl w hp)[ix]? = some (w.1 + ix, .inl (w.2.2.1 0, n, .inl f)) := by
          rw [zwl_get hc.1, hcl]
          rfl
        have k := K H locs ls hH hS hl
        rw [hst]
        have k : W p l e R s m args below meth c H locs (hp.1 - n0) (zSL * (hp.1 - n0)) Q (F0 m (fr.1 + 3) ls (.ref (zta w ix) :: r.map (ztv w))) := k
        show W p l e R s m args below meth c H locs (hp.1 - n0) (zSL * (hp.1 - n0)) Q (F0 m fr.1 ls (.ref (zta w ix) :: r.map (ztv w)))
        rw [zta_lo hc.2] at k ⊢
        exact va_castA hx hb hown (hts _ (zin_mem hI)) hH.2 ix ha hnm hd k
      · cases h
    · cases h
  · cases h
theorem za_cpy (C : zCx w ev d y cc nL rt n0 nF p R s m args meth c) {i : Nat} (hd : decode cc fr.1 = .ok (.invokestatic i, 3)) (hI : zin (.methodLink y.cls i arraycopyName) = true) (h : zCpy fr hp = some (.inl (fr', hp'))) (K : zG w nL n0 p l e R s m args below meth c Q fr' hp') : zG w nL n0 p l e R s m args below meth c Q fr hp := by
  obtain ⟨hx, hb, hml, hrt, hown, hts, hlk, hini, hbs, hsp, hfr, hlo, hrc, hrs⟩ := C
  unfold zCpy zn at h
  split at h
  · next n dp ds sp sr r hst =>
    split at h
    · next hlt =>
      split at h
      · next m0 f m1 g hc0 hc1 =>
        split at h
        · next hin =>
          obtain ⟨l1, l2, l3, l4, l5, h1, h2, h3⟩ := hlt
          obtain ⟨h4, h5, h6⟩ := hin
          cases h
          intro H locs ls hH hS hl
          have hcel0 : H[w.1 + sr]? = some (vp_cell (w.2.2.1 0) (m0, .inl f)) := by
            have := zHd_cell hH l1
            rw [hc0] at this
            exact this
          have hcel1 : H[w.1 + ds]? = some (vp_cell (w.2.2.1 0) (m1, .inl g)) := by
            have := zHd_cell hH l3
            rw [hc1] at this
            exact this
          have nn : ∀ z : Int32, ¬ z < 0 → z.toInt = (z.toNatClampNeg : Int) := by
            intro z hz
            have hz0 : (0 : Int) ≤ z.toInt := by
              have := Int32.not_lt.mp hz
              simpa using Int32.le_iff_toInt_le.mp this
            show z.toInt = ((z.toInt.toNat : Nat) : Int)
            omega
          rw [hst]
          show W p l e R s m args below meth c H locs _ _ Q (F0 m fr.1 ls (.int n :: .int dp :: .ref (zta w ds) :: .int sp :: .ref (zta w sr) :: r.map (ztv w)))
          rw [zta_lo l2, zta_lo l4]
          intro T hT X
          obtain ⟨-, k0, hk0, cm0, hkk0⟩ := (hsp.1.2 0 (w.2.2.1 0, .int) rfl).1 m0 (fun j => .int (f j))
          obtain ⟨-, k1, hk1, cm1, hkk1⟩ := (hsp.1.2 0 (w.2.2.1 0, .int) rfl).1 m1 (fun j => .int (g j))
          have hsum : ((r.map (ztv w)).map fun v => v.category).sum ≤ 8 := by rw [zmap_cat]; exact h6
          have hnw : nativeFrameWords "java/lang/System" "arraycopy" 5 + 11 ≤ 40 := by decide
          obtain ⟨vm', X', step⟩ := X.arraycopy hx hown (hts _ (zin_mem hI)) (hts _ (zin_mem zcp_1)) (hts _ (zin_mem zcp_2)) (hts _ (zin_mem zcp_3)) (src := w.1 + sr) (dst := w.1 + ds) (cs := vp_cell (w.2.2.1 0) (m0, .inl f)) (cd := vp_cell (w.2.2.1 0) (m1, .inl g)) (srcPos := sp) (destPos := dp) (n := n) (by rw [hT]; exact hcel0) (by rw [hT]; exact hcel1)
            (fun _ h => by cases h) (fun _ h => by cases h) (fun h => by cases h) (fun h => by cases h) hk0 hk1 hkk0 hkk1 (by simp [refKind]) h1 h2 h3
            (by rw [nn sp h1, nn n h3]; show ¬ _ > ((arrV (w.2.2.1 0) m0 (fun j => .int (f j))).slots.size : Int); rw [arrV_size]; omega)
            (by rw [nn dp h2, nn n h3]; show ¬ _ > ((arrV (w.2.2.1 0) m1 (fun j => .int (g j))).slots.size : Int); rw [arrV_size]; omega)
            (fun vm₁ _ i hi => by
              have e : (vp_cell (w.2.2.1 0) (m0, .inl f)).slots.getD (sp.toNatClampNeg + i) .null = .int (f (sp.toNatClampNeg + i)) := by
                show (arrV (w.2.2.1 0) m0 (fun j => .int (f j))).slots.getD _ _ = _
                rw [Array.getD_eq_getD_getElem?, arrV_read _ _ (by omega)]
                rfl
              refine ⟨?_, ?_⟩
              · rw [e]
                rfl
              · rw [e]
                exact trivial)
            (g := F0 m fr.1 ls (.int n :: .int dp :: .ref (w.1 + ds) :: .int sp :: .ref (w.1 + sr) :: r.map (ztv w))) rfl (by rw [hml]; exact hl.1) (rest := r.map (ztv w)) rfl (by rw [hb]; exact hd) (by omega) (by show 2 * 0 + _ + _ ≤ _; omega)
          have e1 : copied (vp_cell (w.2.2.1 0) (m0, .inl f)) (vp_cell (w.2.2.1 0) (m1, .inl g)) sp dp n = vp_cell (w.2.2.1 0) (m1, .inl (va_cpy f g sp.toNatClampNeg dp.toNatClampNeg n.toNatClampNeg)) := va_copied (fun z => .int z) (w.2.2.1 0) (w.2.2.1 0) f g h4
          rw [e1] at X' step
          have hl9 : w.1 + ds < H.size := (Array.getElem?_eq_some_iff.mp hcel1).1
          have hheap : ((T.setVm vm').setCell (w.1 + ds) (vp_cell (w.2.2.1 0) (m1, .inl (va_cpy f g sp.toNatClampNeg dp.toNatClampNeg n.toNatClampNeg)))).heap = H.setIfInBounds (w.1 + ds) (vp_cell (w.2.2.1 0) (m1, .inl (va_cpy f g sp.toNatClampNeg dp.toNatClampNeg n.toNatClampNeg))) := by rw [← hT]; rfl
          have oq : ∀ q : Nat, q ≠ w.1 + ds → (H.setIfInBounds (w.1 + ds) (vp_cell (w.2.2.1 0) (m1, .inl (va_cpy f g sp.toNatClampNeg dp.toNatClampNeg n.toNatClampNeg))))[q]? = H[q]? := fun q hq => by simp [Array.getElem?_setIfInBounds, Ne.symm hq]
          have hz9 : (H.setIfInBounds (w.1 + ds) (vp_cell (w.2.2.1 0) (m1, .inl (va_cpy f g sp.toNatClampNeg dp.toNatClampNeg n.toNatClampNeg)))).size = H.size := by simp
          obtain ⟨t, a1, b1⟩ := K _ _ ls (zHd_set (c := .inl (0, m1, .inl (va_cpy f g sp.toNatClampNeg dp.toNatClampNeg n.toNatClampNeg))) hH l3 hz9 oq (show (H.setIfInBounds (w.1 + ds) _)[w.1 + ds]? = some _ by simp [Array.getElem?_setIfInBounds, hl9])) ⟨by rw [hz9]; exact hS.1, fun q g1 g2 => by
              rw [oq q (fun e => g2 (by rw [e]; exact zA_in w ds))]
              exact hS.2.1 q g1 g2, fun q hq => by
              rcases List.mem_append.mp hq with h | h
              · exact hS.2.2 q h
              · obtain ⟨z, -, hz⟩ := List.mem_map.mp h
                rw [← hz]
                exact zA_in w ds⟩ hl _ hheap X'
          exact ⟨t, step t a1, b1⟩
        · cases h
      · cases h
    · cases h
  · cases h
theorem za_max (C : zCx w ev d y cc nL rt n0 nF p R s m args meth c) {i : Nat} (hd : decode cc fr.1 = .ok (.invokestatic i, 3)) (hI : zin (.methodLink y.cls i Lib.Math.max.name) = true) (h0 : n0 ≤ hp.1) (hF : hp.1 ≤ nF) (h : zMax fr hp = some (.inl (fr', hp'))) (K : zG w nL n0 p l e R s m args below meth c Q fr' hp') : zG w nL n0 p l e R s m args below meth c Q fr hp := by
  obtain ⟨hx, hb, hml, hrt, hown, hts, hlk, hini, hbs, hsp, hfr, hlo, hrc, hrs⟩ := C
  unfold zMax zn at h
  split at h
  · next y2 x r hst =>
    split at h
    · next h6 =>
      cases h
      intro H locs ls hH hS hl
      have hsum : ((r.map (ztv w)).map fun v => v.category).sum ≤ 8 := by rw [zmap_cat]; exact h6
      have r4 : zSL * (hp.1 - n0) ≤ zSL * (nF - n0) := Nat.mul_le_mul_left _ (by omega)
      rw [hst]
      exact va_mmax hx hb (by rw [hml]; exact hl.1.symm) hown (hts _ (zin_mem hI)) (hts _ (zin_mem zmm_1)) (hts _ (zin_mem zmm_3)) (hts _ zmm_4) (by omega) (by omega) (by omega) (by omega) hd (K H locs ls hH hS hl)
    · cases h
  · cases h
theorem za_min (C : zCx w ev d y cc nL rt n0 nF p R s m args meth c) {i : Nat} (hd : decode cc fr.1 = .ok (.invokestatic i, 3)) (hI : zin (.methodLink y.cls i Lib.Math.min.name) = true) (h0 : n0 ≤ hp.1) (hF : hp.1 ≤ nF) (h : zMin fr hp = some (.inl (fr', hp'))) (K : zG w nL n0 p l e R s m args below meth c Q fr' hp') : zG w nL n0 p l e R s m args below meth c Q fr hp := by
  obtain ⟨hx, hb, hml, hrt, hown, hts, hlk, hini, hbs, hsp, hfr, hlo, hrc, hrs⟩ := C
  unfold zMin zn at h
  split at h
  · next y2 x r hst =>
    split at h
    · next h6 =>
      cases h
      intro H locs ls hH hS hl
      have hsum : ((r.map (ztv w)).map fun v => v.category).sum ≤ 8 := by rw [zmap_cat]; exact h6
      have r4 : zSL * (hp.1 - n0) ≤ zSL * (nF - n0) := Nat.mul_le_mul_left _ (by omega)
      rw [hst]
      exact va_mmin hx hb (by rw [hml]; exact hl.1.symm) hown (hts _ (zin_mem hI)) (hts _ (zin_mem zmm_2)) (hts _ (zin_mem zmm_3)) (hts _ zmm_5) (by omega) (by omega) (by omega) (by omega) hd (K H locs ls hH hS hl)
    · cases h
  · cases h
theorem za_obj (C : zCx w ev d y cc nL rt n0 nF p R s m args meth c) {i : Nat} (hd : decode cc fr.1 = .ok (.invokespecial i, 3)) (hI : zin (.methodLink y.cls i objectInit) = true) (h : zObj fr hp = some (.inl (fr', hp'))) (K : zG w nL n0 p l e R s m args below meth c Q fr' hp') : zG w nL n0 p l e R s m args below meth c Q fr hp := by
  obtain ⟨hx, hb, hml, hrt, hown, hts, hlk, hini, hbs, hsp, hfr, hlo, hrc, hrs⟩ := C
  unfold zObj zn at h
  split at h
  · next ix r hst =>
    split at h
    · next h6 =>
      cases h
      intro H locs ls hH hS hl
      have hsum : ((r.map (ztv w)).map fun v => v.category).sum ≤ 8 := by rw [zmap_cat]; exact h6
      rw [hst]
      exact W.objInit hx hb hown (hts _ (zin_mem hI)) (hts _ (zin_mem zob_1)) (hts _ zob_2) rfl (by rw [hml]; exact hl.1) rfl hd (by omega) (by show 2 * 0 + _ + _ ≤ _; omega) (K H locs ls hH hS hl)
    · cases h
  · cases h
/-- behind a call -/
theorem zs_back {H : Heap} {locs : List Loc} {cells slots mc ms pc : Nat} {ls : Array Slot} {rest st0 : List Value} {r : Option Value} {a : Array Value} (hr : va_Run p l e R s m args below meth c H locs cells slots mc ms (F0 m pc ls st0) rest (zQc w r hp' a) (zA w)) (hS : va_S (zA w) s.heap H locs)
    (kk : ∀ (H1 : Heap) (locs1 : List Loc), zHd w hp' H1 → va_S (zA w) s.heap H1 locs1 → W p l e R s m args below meth c H1 locs1 (cells + mc) (slots + ms) Q (F0 m (pc + 3) ls ((r.map (ztv w)).toList ++ rest))) : W p l e R s m args below meth c H locs cells slots Q (F0 m pc ls st0) := by
  intro T hT X
  obtain ⟨v, st₀, t, T', L, h0, X', hL, e1, e2, ⟨hv, hh, hz, hk⟩, st⟩ := hr T hT X
  cases hv
  rw [h0] at hz hk
  obtain ⟨t2, a1, b1⟩ := kk T'.heap (locs ++ L) (by rw [e1]; exact hh)
    ⟨Nat.le_trans hS.1 (by rw [e1]; exact hz), fun q h1 h2 => by rw [e1, hk q (Nat.lt_of_lt_of_le h1 hS.1) h2]; exact hS.2.1 q h1 h2, fun q hq => by
      rcases List.mem_append.mp hq with h | h
      · exact hS.2.2 q h
      · exact hL q h⟩ T' rfl X'
  exact ⟨t2, st t2 a1, b1⟩
theorem zu_bk {x : Option zRe} {pc : Nat} {lv : List (Nat × Value)} {rest : List Value} {z : (zFr × zHp) ⊕ zRe} (h : zBk x pc lv rest = some z) : ∃ r h2, x = some (r, h2) ∧ z = .inl ((pc + 3, lv, r.toList ++ rest), h2) := by
  unfold zBk zn at h
  split at h
  · next r h2 => exact ⟨r, h2, rfl, (Option.some.inj h).symm⟩
  · cases h
theorem zret_map (w : zWd) (r : Option Value) (rest : List Value) : (r.toList ++ rest).map (ztv w) = (r.map (ztv w)).toList ++ rest.map (ztv w) := by
  cases r <;> simp
theorem zyk {mi : zMi} (h : zokY mi = true) : zin (.initialized mi.1.cls) = true ∧ (mi.1.cls ≠ "java/lang/invoke/MethodHandle" ∧ mi.1.cls ≠ "java/lang/invoke/VarHandle" ∧ (parseMethodDescriptor mi.1.desc).map (fun d => d.parameters.length) = some mi.2.2.2.2.1) ∧ plainName mi.1.cls = true ∧ mi.2.2.1 ≤ 41 ∧
    (mi.2.2.2.2.2 = 200 → zin (.static mi.1) = true) ∧ (¬ mi.2.2.2.2.2 = 200 → zin (.instanceMethod mi.1) = true ∧ ((mi.1.name = "<init>" ∧ mi.2.2.2.1 = none) ∨ (¬ mi.1.name = "<init>" ∧ zin (.selects mi.1.cls mi.1 mi.1) = true)) ∧ (mi.2.2.2.2.2 = 100 → mi.1.cls = "java/lang/String") ∧ (¬ mi.2.2.2.2.2 = 100 → (zcls[mi.2.2.2.2.2]?).map (fun c => c.1) = some mi.1.cls)) := by
  unfold zokY at h
  simp only [Bool.and_eq_true, decide_eq_true_eq] at h
  obtain ⟨⟨⟨⟨⟨h1, h2⟩, h3⟩, h4⟩, h5⟩, h6⟩ := h
  refine ⟨h1, ⟨h2.1, h2.2, h3⟩, h4, h5, fun q => ?_, fun q => ?_⟩
  · rw [if_pos q] at h6
    exact h6
  · rw [if_neg q] at h6
    simp only [Bool.and_eq_true, Bool.or_eq_true, decide_eq_true_eq, Bool.not_eq_true', decide_eq_false_iff_not] at h6
    refine ⟨h6.1.1, h6.1.2, fun z => ?_, fun z => ?_⟩
    · have h7 := h6.2
      rw [if_pos z] at h7
      exact of_decide_eq_true h7
    · have h7 := h6.2
      rw [if_neg z] at h7
      exact of_decide_eq_true h7
theorem zroom2 (h0 : n0 ≤ hp.1) (h1 : hp.1 ≤ hp'.1) : hp.1 - n0 + (hp'.1 - hp.1) = hp'.1 - n0 ∧ zSL * (hp.1 - n0) + zSL * (hp'.1 - hp.1) = zSL * (hp'.1 - n0) := by
  refine ⟨by omega, ?_⟩
  rw [← Nat.mul_add]
  congr 1
  omega
theorem zar_of {k : Nat} {mi : zMi} (h : zg zml k = some mi) : zar k = (mi.2.2.2.2.1, mi.2.2.2.2.2) := by
  unfold zar
  rw [h]
theorem ztd (st : List Value) (n : Nat) {rest : List Value} {q : Value} (h : st.drop n = q :: rest) : st = (st.take n).reverse.reverse ++ q :: rest := by
  rw [List.reverse_reverse, ← h, List.take_append_drop]
theorem za_call (C : zCx w ev d y cc nL rt n0 nF p R s m args meth c) {call : zCa} (ok : zOK w d call) {i k : Nat} (hd : decode cc fr.1 = .ok (.invokevirtual i, 3)) (hI : zok_v y i k = true) (h0 : n0 ≤ hp.1) (hF : hp'.1 ≤ nF) (h : zCall call k (zar k).1 (zar k).2 fr hp = some (.inl (fr', hp'))) (K : zG w nL n0 p l e R s m args below meth c Q fr' hp') : zG w nL n0 p l e R s m args below meth c Q fr hp := by
  obtain ⟨hx, hb, hml, hrt, hown, hts, hlk, hini, hbs, hsp, hfr, hlo, hrc, hrs⟩ := C
  unfold zCall at h
  split at h
  · next ix rest hst =>
    split at h
    · next hc =>
      obtain ⟨r, h2, hcall, hz⟩ := zu_bk h
      cases hz
      obtain ⟨hmono, mi, hmi, hM⟩ := ok _ _ _ _ _ hcall
      obtain ⟨hy, hcode⟩ := zy_all k mi hmi
      obtain ⟨y1, y2, y3, y4, y5, y6⟩ := zyk hy
      unfold zok_v at hI
      rw [hmi] at hI
      simp only [Bool.and_eq_true, decide_eq_true_eq, Bool.not_eq_true', decide_eq_false_iff_not] at hI
      have hk200 : ¬ mi.2.2.2.2.2 = 200 := by omega
      obtain ⟨z1, z2, z3, z4⟩ := y6 hk200
      have hsel : zin (.selects mi.1.cls mi.1 mi.1) = true := by
        rcases z2 with q | q
        · exact absurd q.1 hI.2
        · exact q.2
      rw [zar_of hmi] at hc hst hcall hM
      intro H locs ls hH hS hl
      have hsum : ((rest.map (ztv w)).map fun v => v.category).sum ≤ 8 := by rw [zmap_cat]; exact hc.2.2
      obtain ⟨e1, e2⟩ := zroom2 h0 hmono
      have r4 : zSL * (hp'.1 - n0) ≤ zSL * (nF - n0) := Nat.mul_le_mul_left _ (by omega)
      have hcw : GoodIn zTw (wsV y.cls i mi.1.cls mi.1 (zwk mi)) := zgood (fun q hq => by
        unfold wsV zwk at hq
        simp only [List.cons_append, List.nil_append, List.mem_cons] at hq
        rcases hq with rfl | rfl | rfl | rfl | rfl | hq
        · exact zin_mem hI.1.1
        · exact zin_mem z1
        · exact zin_mem hsel
        · exact zin_mem y1
        · exact hcode
        · exact hq)
      have hrecv : ∃ cellB : Cell, H[zta w ix]? = some cellB ∧ cellB.vm.isStatics = false ∧ s.vm.findClass mi.1.cls = some cellB.cls := by
        have hkd := hc.2.1
        unfold zKd at hkd
        split at hkd
        · next q1 =>
          split at hkd
          · next q2 =>
            split at hkd
            · next ci fs hcell =>
              have hci := Option.some.inj hkd
              rw [zta_lo q1]
              have hcv := zHd_cell hH q2
              rw [hcell] at hcv
              obtain ⟨r', hr', cellV, g1, g2, g3, -⟩ := hcv
              have hr2 : zcls[ci]? = some r' := hr'
              refine ⟨cellV, g1, by rw [g3]; rfl, ?_⟩
              rw [g2]
              have h9 := (hsp.1.1 ci r' hr2).2.1
              have h100 : ¬ mi.2.2.2.2.2 = 100 := by
                intro q
                have q9 : ci = 100 := by rw [hci]; exact q
                rw [q9] at hr2
                cases hr2
              have h8 := z4 h100
              have hci2 : ci = mi.2.2.2.2.2 := hci
              rw [← hci2, hr2] at h8
              rw [← Option.some.inj h8]
              exact h9
            · cases hkd
          · cases hkd
        · next q1 =>
          split at hkd
          · next q2 =>
            have hci : 100 = mi.2.2.2.2.2 := Option.some.inj hkd
            obtain ⟨j, hj, rfl⟩ := zs_id q2
            rw [zs_e1]
            obtain ⟨cell, g1, g2, g3, -⟩ := (hsp.2.2.1 j hj).1.kept hS.2.1
            rw [z3 hci.symm]
            exact ⟨cell, g1, g2, g3⟩
          · cases hkd
      have hst2 := ztd fr.2.2 mi.2.2.2.2.1 hst
      have k := fun H1 locs1 a1 a2 => K H1 locs1 ls a1 a2 hl
      have run := va_runV (R := R) (p := p) (e := e) (below := below) (meth := meth) (H := H) (locs := locs) (cells := hp.1 - n0) (slots := zSL * (hp.1 - n0)) (As := ((fr.2.2.take mi.2.2.2.2.1).reverse.map (ztv w))) (rest := rest.map (ztv w)) (b := zta w ix) (g := F0 m fr.1 ls (fr.2.2.map (ztv w))) ⟨hx, hb, hml, hown, hts⟩ (hM l) (cwV mi.2.2.2.2.1 hts hcw rfl rfl rfl ⟨rfl, y2⟩ ⟨by show d + 1 ≤ _; exact hfr, by show 8 + (mi.2.2.1 + 11) + 60 * d ≤ _; omega⟩)
        ⟨zPc_blind w _ hp, hrecv, fun U hU hW => ⟨rfl, by rw [hU]; exact hH, zSp.go hsp hW (fun a h1 h2 => by rw [hU]; exact hS.2.1 a h1 h2)⟩⟩ rfl (by rw [List.length_map, List.length_reverse]; exact hc.1) hl.1
        (by
          show fr.2.2.map (ztv w) = _
          rw [← List.map_reverse]
          conv => lhs; rw [hst2]
          rw [List.map_append]
          rfl) (lv_room hsum) hd ⟨by rw [e1]; omega, by rw [e2]; omega⟩
      refine zs_back run hS (fun H1 locs1 a1 a2 => ?_)
      rw [e1, e2]
      have k2 := k H1 locs1 a1 a2
      rw [zret_map] at k2
      exact k2
    · cases h
  · cases h
theorem za_calS (C : zCx w ev d y cc nL rt n0 nF p R s m args meth c) {call : zCa} (ok : zOK w d call) {i k : Nat} (hd : decode cc fr.1 = .ok (.invokestatic i, 3)) (hI : zok_s y i k = true) (h0 : n0 ≤ hp.1) (hF : hp'.1 ≤ nF) (h : zCalS call k (zar k).1 fr hp = some (.inl (fr', hp'))) (K : zG w nL n0 p l e R s m args below meth c Q fr' hp') : zG w nL n0 p l e R s m args below meth c Q fr hp := by
  obtain ⟨hx, hb, hml, hrt, hown, hts, hlk, hini, hbs, hsp, hfr, hlo, hrc, hrs⟩ := C
  unfold zCalS at h
  split at h
  · next hc =>
    obtain ⟨r, h2, hcall, hz⟩ := zu_bk h
    cases hz
    obtain ⟨hmono, mi, hmi, hM⟩ := ok _ _ _ _ _ hcall
    obtain ⟨hy, hcode⟩ := zy_all k mi hmi
    obtain ⟨y1, y2, y3, y4, y5, y6⟩ := zyk hy
    unfold zok_s at hI
    rw [hmi] at hI
    simp only [Bool.and_eq_true, decide_eq_true_eq] at hI
    have hsta := y5 hI.2
    rw [zar_of hmi] at hc hcall hM K
    intro H locs ls hH hS hl
    have hsum : (((fr.2.2.drop mi.2.2.2.2.1).map (ztv w)).map fun v => v.category).sum ≤ 8 := by rw [zmap_cat]; exact hc.2
    obtain ⟨e1, e2⟩ := zroom2 h0 hmono
    have r4 : zSL * (hp'.1 - n0) ≤ zSL * (nF - n0) := Nat.mul_le_mul_left _ (by omega)
    have hcw : GoodIn zTw (va_wsS y.cls i mi.1 (zwk mi)) := zgood (fun q hq => by
      unfold va_wsS zwk at hq
      simp only [List.cons_append, List.nil_append, List.mem_cons] at hq
      rcases hq with rfl | rfl | rfl | rfl | hq
      · exact zin_mem hI.1
      · exact zin_mem hsta
      · exact zin_mem y1
      · exact hcode
      · exact hq)
    have run := va_runS (R := R) (p := p) (e := e) (below := below) (meth := meth) (H := H) (locs := locs) (cells := hp.1 - n0) (slots := zSL * (hp.1 - n0)) (As := ((fr.2.2.take mi.2.2.2.2.1).reverse.map (ztv w))) (rest := (fr.2.2.drop mi.2.2.2.2.1).map (ztv w)) (g := F0 m fr.1 ls (fr.2.2.map (ztv w))) ⟨hx, hb, hml, hown, hts⟩ (hM l) (va_cwS mi.2.2.2.2.1 hts hcw rfl rfl rfl y2 ⟨by show d + 1 ≤ _; exact hfr, by show 8 + (mi.2.2.1 + 11) + 60 * d ≤ _; omega⟩)
      ⟨zPc_blind w _ hp, fun U hU hW => ⟨rfl, by rw [hU]; exact hH, zSp.go hsp hW (fun a h1 h2 => by rw [hU]; exact hS.2.1 a h1 h2)⟩⟩ rfl (by rw [List.length_map, List.length_reverse]; exact hc.1) hl.1
      (by
        show fr.2.2.map (ztv w) = _
        rw [← List.map_reverse, List.reverse_reverse, ← List.map_append, List.take_append_drop]) (lv_room hsum) hd ⟨by rw [e1]; omega, by rw [e2]; omega⟩
    refine zs_back run hS (fun H1 locs1 a1 a2 => ?_)
    rw [e1, e2]
    have k2 := K H1 locs1 ls a1 a2 hl
    rw [zret_map] at k2
    exact k2
  · cases h
theorem za_calI (C : zCx w ev d y cc nL rt n0 nF p R s m args meth c) {call : zCa} (ok : zOK w d call) {i k b : Nat} (hd : decode cc fr.1 = .ok (.invokespecial i, 3)) (hI : zok_i y i k b = true) (h0 : n0 ≤ hp.1) (hF : hp'.1 ≤ nF) (h : zCalI call k (zar k).1 fr hp = some (.inl (fr', hp'))) (K : zG w nL n0 p l e R s m args below meth c Q fr' hp') : zG w nL n0 p l e R s m args below meth c Q fr hp := by
  obtain ⟨hx, hb, hml, hrt, hown, hts, hlk, hini, hbs, hsp, hfr, hlo, hrc, hrs⟩ := C
  unfold zCalI at h
  split at h
  · next ix rest hst =>
    split at h
    · next hc =>
      obtain ⟨r, h2, hcall, hz⟩ := zu_bk h
      cases hz
      obtain ⟨hmono, mi, hmi, hM⟩ := ok _ _ _ _ _ hcall
      obtain ⟨hy, hcode⟩ := zy_all k mi hmi
      obtain ⟨y1, y2, y3, y4, y5, y6⟩ := zyk hy
      unfold zok_i at hI
      rw [hmi] at hI
      simp only [Bool.and_eq_true, decide_eq_true_eq] at hI
      obtain ⟨⟨hI1, hI2⟩, hI3⟩ := hI
      have hk200 : ¬ mi.2.2.2.2.2 = 200 := by omega
      obtain ⟨z1, z2, z3, z4⟩ := y6 hk200
      have hret : mi.2.2.2.1 = none := by
        rcases z2 with q | q
        · exact q.2
        · exact absurd hI3 q.1
      rw [zar_of hmi] at hc hst hcall hM
      intro H locs ls hH hS hl
      have hsum : ((rest.map (ztv w)).map fun v => v.category).sum ≤ 8 := by rw [zmap_cat]; exact hc.2.2
      obtain ⟨e1, e2⟩ := zroom2 h0 hmono
      have r4 : zSL * (hp'.1 - n0) ≤ zSL * (nF - n0) := Nat.mul_le_mul_left _ (by omega)
      have hgd : GoodIn zTw (zwk mi) := zgood (fun q hq => by
        unfold zwk at hq
        rcases List.mem_cons.mp hq with rfl | hq
        · exact hcode
        · exact hq)
      have hwk : zwk mi = Cond.code mi.1 mi.2.1 mi.2.2.1 none :: zTw := by unfold zwk; rw [hret]
      have hst2 := ztd fr.2.2 mi.2.2.2.2.1 hst
      have hPre : PreS s H (zPc w (.ref ix :: (fr.2.2.take mi.2.2.2.2.1).reverse) hp) (.ref (zta w ix) :: ((fr.2.2.take mi.2.2.2.2.1).reverse.map (ztv w))) := ⟨zPc_blind w _ hp, fun U hU hW => ⟨rfl, by rw [hU]; exact hH, zSp.go hsp hW (fun a h1 h2 => by rw [hU]; exact hS.2.1 a h1 h2)⟩⟩
      have hstk : (F0 m fr.1 ls (fr.2.2.map (ztv w))).stack = ((fr.2.2.take mi.2.2.2.2.1).reverse.map (ztv w)).reverse ++ .ref (zta w ix) :: rest.map (ztv w) := by
        show fr.2.2.map (ztv w) = _
        rw [← List.map_reverse]
        conv => lhs; rw [hst2]
        rw [List.map_append]
        rfl
      have hroom : ({ frames := d, cells := hp'.1 - hp.1, slots := zSL * (hp'.1 - hp.1), locals := 60 * d } : Room).frames + 1 ≤ R.frames ∧ 8 + (mi.2.2.1 + 11) + ({ frames := d, cells := hp'.1 - hp.1, slots := zSL * (hp'.1 - hp.1), locals := 60 * d } : Room).locals ≤ R.locals := ⟨hfr, by show 8 + (mi.2.2.1 + 11) + 60 * d ≤ _; omega⟩
      have run : va_Run p l e R s m args below meth c H locs (hp.1 - n0) (zSL * (hp.1 - n0)) (hp'.1 - hp.1) (zSL * (hp'.1 - hp.1)) (F0 m fr.1 ls (fr.2.2.map (ztv w))) (rest.map (ztv w)) (zQc w r hp' (Value.ref (zta w ix) :: ((fr.2.2.take mi.2.2.2.2.1).reverse.map (ztv w))).toArray) (zA w) := by
        by_cases hb1 : b = 1
        · rw [if_pos hb1] at hI1
          exact va_runI ⟨hx, hb, hml, hown, hts⟩ (hM l) (cwI mi.2.2.2.2.1 hts hgd hwk rfl rfl (hts _ (zin_mem y1)) (hts _ (zin_mem hI1)) (hts _ (zin_mem z1)) hI3 y2 hroom) hPre rfl (by rw [List.length_map, List.length_reverse]; exact hc.1) hl.1 hstk (lv_room hsum) hd ⟨by rw [e1]; omega, by rw [e2]; omega⟩
        · rw [if_neg hb1] at hI1
          have hN := hsp.2.2.2.2.1 _ (of_decide_eq_true hI1)
          exact va_runIN ⟨hx, hb, hml, hown, hts⟩ (hM l) ⟨va_cnB mi.2.2.2.2.1 hts hgd hwk rfl rfl hN (hts _ (zin_mem y1)) y2 hroom, hI3, hts _ (zin_mem z1)⟩ hPre rfl (by rw [List.length_map, List.length_reverse]; exact hc.1) hl.1 hstk (lv_room hsum) hd ⟨by rw [e1]; omega, by rw [e2]; omega⟩
      refine zs_back run hS (fun H1 locs1 a1 a2 => ?_)
      rw [e1, e2]
      have k2 := K H1 locs1 ls a1 a2 hl
      rw [zret_map] at k2
      exact k2
    · cases h
  · cases h
end ZCAL
end
section
/-! The whole: what the interpreter says of a method's body and of a call, the machine does. -/
theorem zi_0 {α : Type} {x : α} {P : Prop} (h : (none : Option α) = some x) : P := by cases h
theorem zi_1 {rt : Option FieldType} {fr : zFr} {hp : zHp} {x : zFr × zHp} : ¬ zIret rt fr hp = some (.inl x) := by
  intro h
  unfold zIret at h
  split at h
  · split at h <;> cases h
  · cases h
theorem zi_2 {rt : Option FieldType} {fr : zFr} {hp : zHp} {x : zFr × zHp} : ¬ zLret rt fr hp = some (.inl x) := by
  intro h
  unfold zLret at h
  split at h <;> cases h
theorem zi_3 {rt : Option FieldType} {fr : zFr} {hp : zHp} {x : zFr × zHp} : ¬ zAret rt fr hp = some (.inl x) := by
  intro h
  unfold zAret at h
  split at h <;> cases h
theorem zi_4 {rt : Option FieldType} {fr : zFr} {hp : zHp} {x : zFr × zHp} : ¬ zVret rt fr hp = some (.inl x) := by
  intro h
  unfold zVret at h
  split at h <;> cases h
theorem zs_e3 (w : zWd) (j : Nat) : zta w (zSC + 1 + j) = w.2.1 (1 + j) := by
  rw [Nat.add_assoc]
  exact zs_e1 w j
theorem zsta_min (a : Nat) : ∃ b, b < 5 ∧ zsta a = zsta b := by
  by_cases h : a < 5
  · exact ⟨a, h, rfl⟩
  · refine ⟨4, by decide, ?_⟩
    obtain ⟨k, rfl⟩ : ∃ k, a = k + 5 := ⟨a - 5, by omega⟩
    rfl
def zrI : Option Value → Instr
  | none => .return_
  | some (.int _) => .ireturn
  | some (.long _) => .lreturn
  | some _ => .areturn
def zrOK (rt : Option FieldType) : Option Value → Prop
  | none => rt = none
  | some (.int x) => ∃ ty, rt = some ty ∧ narrow ty (.int x) = .int x
  | some (.long _) => rt = some .long
  | some .null => ∃ ty, rt = some ty ∧ ((∃ n, ty = .object n) ∨ ∃ t, ty = .array t)
  | some (.ref _) => ∃ ty, rt = some ty ∧ ((∃ n, ty = .object n) ∨ ∃ t, ty = .array t)
  | some _ => False
theorem zs_ret {ts : zTs} {ev : zEv} {call : zCa} {nL : Nat} {rt : Option FieldType} {q : zEn} {fr : zFr} {hp : zHp} {r : zRe} (hR : zisR q.1 = true) (h : zdo ts ev call nL rt q fr hp = some (.inr r)) : r.2 = hp ∧ fr.2.2 = r.1.toList ∧ q.1 = zrI r.1 ∧ zrOK rt r.1 := by
  obtain ⟨ins, len, a, b, v⟩ := q
  cases ins with
  | ireturn =>
    replace h : zIret rt fr hp = some (.inr r) := h
    unfold zIret at h
    split at h
    · next x ty hst =>
      split at h
      · next hn => cases h; exact ⟨rfl, hst, rfl, ty, rfl, hn⟩
      · cases h
    · cases h
  | lreturn =>
    replace h : zLret rt fr hp = some (.inr r) := h
    unfold zLret at h
    split at h
    · next x hst => cases h; exact ⟨rfl, hst, rfl, rfl⟩
    · cases h
  | areturn =>
    replace h : zAret rt fr hp = some (.inr r) := h
    unfold zAret at h
    split at h
    · next x n hst => cases h; exact ⟨rfl, hst, rfl, _, rfl, Or.inl ⟨_, rfl⟩⟩
    · next x n hst => cases h; exact ⟨rfl, hst, rfl, _, rfl, Or.inr ⟨_, rfl⟩⟩
    · next n hst => cases h; exact ⟨rfl, hst, rfl, _, rfl, Or.inl ⟨_, rfl⟩⟩
    · next n hst => cases h; exact ⟨rfl, hst, rfl, _, rfl, Or.inr ⟨_, rfl⟩⟩
    · cases h
  | return_ =>
    replace h : zVret rt fr hp = some (.inr r) := h
    unfold zVret at h
    split at h
    · next hst => cases h; exact ⟨rfl, hst, rfl, rfl⟩
    · cases h
  | _ => cases hR
theorem zrI_len (r : Option Value) : zlen (zrI r) = 1 := by
  cases r with
  | none => rfl
  | some v => cases v <;> rfl
section ZSND
variable {p : Program} {l : Launch} {e : Env} {R : Room} {s : State} {m : MethodId} {args : Array Value} {below : List Frame} {meth : Method} {c : Code} {Q : State → Prop} {w : zWd} {ev : zEv} {d : Nat} {y : MethodName} {cc : ByteArray} {nL : Nat} {rt : Option FieldType} {n0 nF : Nat} {fr fr' : zFr} {hp hp' : zHp}
theorem za_ldc (C : zCx w ev d y cc nL rt n0 nF p R s m args meth c) {i : Nat} {v : Value} (hd : decode cc fr.1 = .ok (.ldc i, 2)) (hI : zok_c y i v = true) (h : zPush 2 v fr hp = some (.inl (fr', hp'))) (K : zG w nL n0 p l e R s m args below meth c Q fr' hp') : zG w nL n0 p l e R s m args below meth c Q fr hp := by
  obtain ⟨hx, hb, hml, hrt, hown, hts, hlk, hini, hbs, hsp, hfr, hlo, hrc, hrs⟩ := C
  cases v with
  | int x => exact za_push h K (fun H locs cells slots ls rest hS k => lv_ldc hx hb hown (hts _ (zin_mem hI)) hd k)
  | ref z =>
    have hI2 : zstrs.any (fun t => decide (t.1 = y.cls) && decide (t.2.1 = i) && decide (z = zSC + 1 + t.2.2.2)) = true := hI
    obtain ⟨t, ht, h2⟩ := List.any_eq_true.mp hI2
    simp only [Bool.and_eq_true, decide_eq_true_eq] at h2
    obtain ⟨⟨e1, e2⟩, e3⟩ := h2
    have hv := hsp.2.2.2.1 t ht
    rw [e1, e2] at hv
    refine za_push h K (fun H locs cells slots ls rest hS k => ?_)
    refine va_ldcS hx hb hown hv hd ?_
    have e4 : ztv w (.ref z) = .ref (w.2.1 (1 + t.2.2.2)) := by
      show Value.ref (zta w z) = _
      rw [e3, zs_e3]
    rw [← e4]
    exact k
  | _ => cases hI
theorem za_ldcw (C : zCx w ev d y cc nL rt n0 nF p R s m args meth c) {i : Nat} {v : Value} (hd : decode cc fr.1 = .ok (.ldc_w i, 3)) (hI : zok_k y i v = true) (h : zPush 3 v fr hp = some (.inl (fr', hp'))) (K : zG w nL n0 p l e R s m args below meth c Q fr' hp') : zG w nL n0 p l e R s m args below meth c Q fr hp := by
  obtain ⟨hx, hb, hml, hrt, hown, hts, hlk, hini, hbs, hsp, hfr, hlo, hrc, hrs⟩ := C
  cases v with
  | int x => exact za_push h K (fun H locs cells slots ls rest hS k => lv_ldcw hx hb hown (hts _ (zin_mem hI)) hd k)
  | _ => cases hI
theorem za_ldc2 (C : zCx w ev d y cc nL rt n0 nF p R s m args meth c) {i : Nat} {v : Value} (hd : decode cc fr.1 = .ok (.ldc2_w i, 3)) (hI : zok_l y i v = true) (h : zPush 3 v fr hp = some (.inl (fr', hp'))) (K : zG w nL n0 p l e R s m args below meth c Q fr' hp') : zG w nL n0 p l e R s m args below meth c Q fr hp := by
  obtain ⟨hx, hb, hml, hrt, hown, hts, hlk, hini, hbs, hsp, hfr, hlo, hrc, hrs⟩ := C
  cases v with
  | long x => exact za_push h K (fun H locs cells slots ls rest hS k => lv_ldc2 hx hb hown (hts _ (zin_mem hI)) hd k)
  | _ => cases hI
theorem za_gets (C : zCx w ev d y cc nL rt n0 nF p R s m args meth c) {i a : Nat} {v : Value} (hd : decode cc fr.1 = .ok (.getstatic i, 3)) (hI : zok_t y i a v = true) (h : zPush 3 v fr hp = some (.inl (fr', hp'))) (K : zG w nL n0 p l e R s m args below meth c Q fr' hp') : zG w nL n0 p l e R s m args below meth c Q fr hp := by
  obtain ⟨hx, hb, hml, hrt, hown, hts, hlk, hini, hbs, hsp, hfr, hlo, hrc, hrs⟩ := C
  unfold zok_t at hI
  simp only [Bool.and_eq_true, decide_eq_true_eq] at hI
  obtain ⟨hI1, hI2⟩ := hI
  obtain ⟨b, hb5, eb⟩ := zsta_min a
  rw [eb] at hI1 hI2
  have hZ := hsp.2.2.2.2.2.1 b hb5
  rw [← hI2] at hZ
  exact za_push h K (fun H locs cells slots ls rest hS k => va_gets hx hb hZ hS hown (hts _ (zin_mem hI1)) (fun _ q => q) hd k)
theorem zs_step (C : zCx w ev d y cc nL rt n0 nF p R s m args meth c) {call : zCa} (ok : zOK w d call) {q : zEn} (hq : zokE y cc fr.1 q = true) (h0 : n0 ≤ hp.1) (hm : hp.1 ≤ hp'.1) (hF : hp'.1 ≤ nF) (h : zdo zts ev call nL rt q fr hp = some (.inl (fr', hp'))) (K : zG w nL n0 p l e R s m args below meth c Q fr' hp') : zG w nL n0 p l e R s m args below meth c Q fr hp := by
  obtain ⟨ins, len, a, b, v⟩ := q
  unfold zokE at hq
  simp only [Bool.and_eq_true, decide_eq_true_eq, Bool.or_eq_true, beq_iff_eq] at hq
  obtain ⟨hd, hlen, hI⟩ := hq
  have hD : ∀ k, zlen ins = k → 0 < k → decode cc fr.1 = .ok (ins, k) := by
    intro k hk hk0
    rcases hlen with q | q
    · omega
    · rw [← hk, ← q]
      exact hd
  have hx := C.1
  have hb := C.2.1
  cases ins with
  | iconst n => exact za_push h K (fun H locs cells slots ls rest hS k => lv_iconst hx hb (hD 1 rfl (by decide)) rfl k)
  | bipush n => exact za_push h K (fun H locs cells slots ls rest hS k => lv_bipush hx hb (hD 2 rfl (by decide)) rfl k)
  | sipush n => exact za_push h K (fun H locs cells slots ls rest hS k => lv_sipush hx hb (hD 3 rfl (by decide)) rfl k)
  | lconst n => exact za_push h K (fun H locs cells slots ls rest hS k => lv_lconst hx hb (hD 1 rfl (by decide)) rfl k)
  | aconst_null => exact za_push h K (fun H locs cells slots ls rest hS k => lv_null hx hb (hD 1 rfl (by decide)) k)
  | ldc i => exact za_ldc C (hD 2 rfl (by decide)) hI h K
  | ldc_w i => exact za_ldcw C (hD 3 rfl (by decide)) hI h K
  | ldc2_w i => exact za_ldc2 C (hD 3 rfl (by decide)) hI h K
  | getstatic i => exact za_gets C (hD 3 rfl (by decide)) hI h K
  | iload_n k => exact za_loadI h K (fun H locs cells slots ls rest x hl k => lv_iload_n hx hb (hD 1 rfl (by decide)) rfl hl k)
  | iload i => exact za_loadI h K (fun H locs cells slots ls rest x hl k => lv_iload hx hb (hD 2 rfl (by decide)) hl k)
  | istore_n k => exact za_stoI h K (fun H locs cells slots ls rest x lv lv2 a1 a2 a3 k => lv_istore_n hx hb (hD 1 rfl (by decide)) rfl a1 a2 a3 k)
  | istore i => exact za_stoI h K (fun H locs cells slots ls rest x lv lv2 a1 a2 a3 k => lv_istore hx hb (hD 2 rfl (by decide)) a1 a2 a3 k)
  | lload_n k => exact za_loadL h K (fun H locs cells slots ls rest x hl k => lv_lload_n hx hb (hD 1 rfl (by decide)) rfl hl k)
  | lload i => exact za_loadL h K (fun H locs cells slots ls rest x hl k => lv_lload hx hb (hD 2 rfl (by decide)) hl k)
  | lstore_n k => exact za_stoL h K (fun H locs cells slots ls rest x lv lv2 a1 a2 a3 k => lv_lstore_n hx hb (hD 1 rfl (by decide)) rfl a1 a2 a3 k)
  | lstore i => exact za_stoL h K (fun H locs cells slots ls rest x lv lv2 a1 a2 a3 k => lv_lstore hx hb (hD 2 rfl (by decide)) a1 a2 a3 k)
  | aload_n k => exact za_loadA h K (fun H locs cells slots ls rest x hl k => lv_aload_n hx hb (hD 1 rfl (by decide)) rfl hl k) (fun H locs cells slots ls rest hl k => lv_aload_nN hx hb (hD 1 rfl (by decide)) rfl hl k)
  | aload i => exact za_loadA h K (fun H locs cells slots ls rest x hl k => lv_aload hx hb (hD 2 rfl (by decide)) hl k) (fun H locs cells slots ls rest hl k => lv_aloadN hx hb (hD 2 rfl (by decide)) hl k)
  | astore_n k => exact za_stoA h K (fun H locs cells slots ls rest x lv lv2 a1 a2 a3 k => lv_astore_n hx hb (hD 1 rfl (by decide)) rfl a1 a2 a3 k) (fun H locs cells slots ls rest lv lv2 a1 a2 a3 k => lv_astore_nN hx hb (hD 1 rfl (by decide)) rfl a1 a2 a3 k)
  | astore i => exact za_stoA h K (fun H locs cells slots ls rest x lv lv2 a1 a2 a3 k => lv_astore hx hb (hD 2 rfl (by decide)) a1 a2 a3 k) (fun H locs cells slots ls rest lv lv2 a1 a2 a3 k => lv_astoreN hx hb (hD 2 rfl (by decide)) a1 a2 a3 k)
  | iinc i n => exact za_inc C (hD 3 rfl (by decide)) h K
  | iadd => exact za_bin h K (fun H locs cells slots ls rest x y k => lv_iadd hx hb (hD 1 rfl (by decide)) k)
  | isub => exact za_bin h K (fun H locs cells slots ls rest x y k => lv_isub hx hb (hD 1 rfl (by decide)) k)
  | imul => exact za_bin h K (fun H locs cells slots ls rest x y k => lv_imul hx hb (hD 1 rfl (by decide)) k)
  | iand => exact za_bin h K (fun H locs cells slots ls rest x y k => lv_iand hx hb (hD 1 rfl (by decide)) k)
  | ior => exact za_bin h K (fun H locs cells slots ls rest x y k => lv_ior hx hb (hD 1 rfl (by decide)) k)
  | ixor => exact za_bin h K (fun H locs cells slots ls rest x y k => lv_ixor hx hb (hD 1 rfl (by decide)) k)
  | ishl => exact za_bin h K (fun H locs cells slots ls rest x y k => lv_ishl hx hb (hD 1 rfl (by decide)) k)
  | ishr => exact za_bin h K (fun H locs cells slots ls rest x y k => lv_ishr hx hb (hD 1 rfl (by decide)) k)
  | iushr => exact za_bin h K (fun H locs cells slots ls rest x y k => lv_iushr hx hb (hD 1 rfl (by decide)) rfl k)
  | idiv => exact za_binD h K (fun H locs cells slots ls rest x y hy k => lv_idiv hx hb (hD 1 rfl (by decide)) hy k)
  | irem => exact za_binD h K (fun H locs cells slots ls rest x y hy k => lv_irem hx hb (hD 1 rfl (by decide)) hy k)
  | ladd => exact za_bnl h K (fun H locs cells slots ls rest x y k => lv_ladd hx hb (hD 1 rfl (by decide)) k)
  | lsub => exact za_bnl h K (fun H locs cells slots ls rest x y k => lv_lsub hx hb (hD 1 rfl (by decide)) k)
  | lmul => exact za_bnl h K (fun H locs cells slots ls rest x y k => lv_lmul hx hb (hD 1 rfl (by decide)) k)
  | land => exact za_bnl h K (fun H locs cells slots ls rest x y k => lv_land hx hb (hD 1 rfl (by decide)) k)
  | lor => exact za_bnl h K (fun H locs cells slots ls rest x y k => lv_lor hx hb (hD 1 rfl (by decide)) k)
  | ldiv => exact za_bnlD h K (fun H locs cells slots ls rest x y hy k => lv_ldiv hx hb (hD 1 rfl (by decide)) hy k)
  | lrem => exact za_bnlD h K (fun H locs cells slots ls rest x y hy k => lv_lrem hx hb (hD 1 rfl (by decide)) hy k)
  | lshl => exact za_lshl C (hD 1 rfl (by decide)) h K
  | lcmp => exact za_lcmp C (hD 1 rfl (by decide)) h K
  | i2l => exact za_un h K (fun H locs cells slots ls rest x k => lv_i2l hx hb (hD 1 rfl (by decide)) rfl k)
  | i2b => exact za_un h K (fun H locs cells slots ls rest x k => lv_i2b hx hb (hD 1 rfl (by decide)) rfl k)
  | i2c => exact za_un h K (fun H locs cells slots ls rest x k => lv_i2c hx hb (hD 1 rfl (by decide)) rfl k)
  | l2i => exact za_unl h K (fun H locs cells slots ls rest x k => lv_l2i hx hb (hD 1 rfl (by decide)) rfl k)
  | dup => exact za_dup C (hD 1 rfl (by decide)) h K
  | dup2 => exact za_dup2 C (hD 1 rfl (by decide)) h K
  | pop => exact za_pop C (hD 1 rfl (by decide)) h K
  | ifCond cd off => exact za_if C (hD 3 rfl (by decide)) (of_decide_eq_true hI) h K
  | if_icmp cd off => exact za_ifc C (hD 3 rfl (by decide)) (of_decide_eq_true hI) h K
  | goto off => exact za_goto C (hD 3 rfl (by decide)) (of_decide_eq_true hI) h K
  | ifnull off => exact za_nul C (hD 3 rfl (by decide)) (of_decide_eq_true hI) h K
  | ifnonnull off => exact za_nnl C (hD 3 rfl (by decide)) (of_decide_eq_true hI) h K
  | tableswitch df lo hi offs => exact za_tab C hd h K
  | lookupswitch df ps => exact za_lkp C hd h K
  | getfield i => exact za_getf C (hD 3 rfl (by decide)) hI h K
  | putfield i => exact za_putf C (hD 3 rfl (by decide)) hI h K
  | new i => exact za_new C (hD 3 rfl (by decide)) hI h0 hF h K
  | newarray ty => exact za_newa C (hD 2 rfl (by decide)) h0 hF h K
  | anewarray i => exact za_anew C (hD 3 rfl (by decide)) hI h0 hF h K
  | multianewarray i n => exact za_mna C (hD 4 rfl (by decide)) hI h0 hF h K
  | arraylength => exact za_alen C (hD 1 rfl (by decide)) h K
  | iaload => exact za_iald C (hD 1 rfl (by decide)) h K
  | baload => exact za_bald C (hD 1 rfl (by decide)) h K
  | laload => exact za_lald C (hD 1 rfl (by decide)) h K
  | aaload => exact za_aald C (hD 1 rfl (by decide)) h K
  | iastore => exact za_iast C (hD 1 rfl (by decide)) h K
  | bastore => exact za_bast C (hD 1 rfl (by decide)) h K
  | lastore => exact za_last C (hD 1 rfl (by decide)) h K
  | aastore => exact za_aast C (hD 1 rfl (by decide)) h K
  | invokevirtual i =>
    have hI9 : (if b = 9 then zin (.methodLink y.cls i ⟨"[I", "clone", "()Ljava/lang/Object;"⟩) else zok_v y i a) = true := hI
    have h9 : (if b = 9 then zCln fr hp else zCall call a (zar a).1 (zar a).2 fr hp) = some (.inl (fr', hp')) := h
    by_cases hb9 : b = 9
    · rw [if_pos hb9] at hI9 h9
      exact za_cln C (hD 3 rfl (by decide)) hI9 h0 hF h9 K
    · rw [if_neg hb9] at hI9 h9
      exact za_call C ok (hD 3 rfl (by decide)) hI9 h0 hF h9 K
  | checkcast i => exact za_cst C (hD 3 rfl (by decide)) hI h K
  | invokespecial i =>
    by_cases hb0 : b = 0
    · have hI2 : zin (.methodLink y.cls i objectInit) = true := by
        have h9 : (if b = 0 then zin (.methodLink y.cls i objectInit) else zok_i y i a b) = true := hI
        rw [if_pos hb0] at h9
        exact h9
      have h2 : zObj fr hp = some (.inl (fr', hp')) := by
        have h9 : (if b = 0 then zObj fr hp else zCalI call a (zar a).1 fr hp) = some (.inl (fr', hp')) := h
        rw [if_pos hb0] at h9
        exact h9
      exact za_obj C (hD 3 rfl (by decide)) hI2 h2 K
    · have hI2 : zok_i y i a b = true := by
        have h9 : (if b = 0 then zin (.methodLink y.cls i objectInit) else zok_i y i a b) = true := hI
        rw [if_neg hb0] at h9
        exact h9
      have h2 : zCalI call a (zar a).1 fr hp = some (.inl (fr', hp')) := by
        have h9 : (if b = 0 then zObj fr hp else zCalI call a (zar a).1 fr hp) = some (.inl (fr', hp')) := h
        rw [if_neg hb0] at h9
        exact h9
      exact za_calI C ok (hD 3 rfl (by decide)) hI2 h0 hF h2 K
  | invokestatic i =>
    have hI9 : (if b = 0 then zin (.methodLink y.cls i arraycopyName) else if b = 2 then zin (.methodLink y.cls i Lib.Math.max.name) else if b = 3 then zin (.methodLink y.cls i Lib.Math.min.name) else zok_s y i a) = true := hI
    have h9 : (if b = 0 then zCpy fr hp else if b = 2 then zMax fr hp else if b = 3 then zMin fr hp else zCalS call a (zar a).1 fr hp) = some (.inl (fr', hp')) := h
    by_cases hb0 : b = 0
    · rw [if_pos hb0] at hI9 h9
      exact za_cpy C (hD 3 rfl (by decide)) hI9 h9 K
    · rw [if_neg hb0] at hI9 h9
      by_cases hb2 : b = 2
      · rw [if_pos hb2] at hI9 h9
        exact za_max C (hD 3 rfl (by decide)) hI9 h0 (Nat.le_trans hm hF) h9 K
      · rw [if_neg hb2] at hI9 h9
        by_cases hb3 : b = 3
        · rw [if_pos hb3] at hI9 h9
          exact za_min C (hD 3 rfl (by decide)) hI9 h0 (Nat.le_trans hm hF) h9 K
        · rw [if_neg hb3] at hI9 h9
          exact za_calS C ok (hD 3 rfl (by decide)) hI9 h0 hF h9 K
  | ireturn => exact absurd h zi_1
  | lreturn => exact absurd h zi_2
  | areturn => exact absurd h zi_3
  | return_ => exact absurd h zi_4
  | _ => exact zi_0 h
theorem zs_run (C : zCx w ev d y cc nL rt n0 nF p R s m args meth c) {call : zCa} (ok : zOK w d call) {cd : List (Option zEn)} (hcd : zokC y cc 0 cd = true) {r : Option Value} {hpF : zHp} (hnF : hpF.1 ≤ nF)
    (hret : ∀ (pc : Nat) (H : Heap) (locs : List Loc) (ls : Array Slot), zHd w hpF H → va_S (zA w) s.heap H locs → decode cc pc = .ok (zrI r, 1) → zrOK rt r → W p l e R s m args below meth c H locs (hpF.1 - n0) (zSL * (hpF.1 - n0)) Q (F0 m pc ls ((r.map (ztv w)).toList))) :
    ∀ (f : Nat) (fr : zFr) (hp : zHp), n0 ≤ hp.1 → zrun zts ev call nL rt cd f fr hp = some (r, hpF) → hp.1 ≤ hpF.1 ∧ zG w nL n0 p l e R s m args below meth c Q fr hp := by
  intro f
  induction f with
  | zero => intro fr hp h0 h; cases h
  | succ f ih =>
    intro fr hp h0 h
    unfold zrun at h
    split at h
    · cases h
    · next q hq =>
      have hqok := zokC_at hcd hq
      rw [Nat.zero_add] at hqok
      split at h
      · cases h
      · next fr' hp' hdo =>
        split at h
        · next hm =>
          obtain ⟨i1, i2⟩ := ih fr' hp' (Nat.le_trans h0 hm) h
          exact ⟨Nat.le_trans hm i1, zs_step C ok hqok h0 hm (Nat.le_trans i1 hnF) hdo i2⟩
        · cases h
      · next r2 hdo =>
        split at h
        · next hR =>
          cases h
          obtain ⟨e1, e2, e3, e4⟩ := zs_ret hR hdo
          have e1 : hpF = hp := e1
          subst e1
          refine ⟨Nat.le_refl _, fun H locs ls hH hS hl => ?_⟩
          unfold zokE at hqok
          simp only [Bool.and_eq_true, decide_eq_true_eq, Bool.or_eq_true, beq_iff_eq] at hqok
          obtain ⟨hd, hlen, hI⟩ := hqok
          have hd2 : decode cc fr.1 = .ok (zrI r, 1) := by
            have e3 : q.1 = zrI r := e3
            rw [e3] at hd hlen
            rw [zrI_len] at hlen
            rcases hlen with z | z
            · cases z
            · rw [← z]
              exact hd
          have e2 : fr.2.2 = r.toList := e2
          have k := hret fr.1 H locs ls hH hS hd2 e4
          rw [e2]
          have e5 : r.toList.map (ztv w) = (r.map (ztv w)).toList := by cases r <;> rfl
          rw [e5]
          exact k
        · cases h
end ZSND
theorem zlg_len (w : zWd) (as : List Value) : (lg_sl (as.map (ztv w))).length = (lg_sl as).length := by
  induction as with
  | nil => rfl
  | cons v vs ih =>
    have e1 : lg_sl (v :: vs) = (if v.category = 2 then [Slot.val v, .second] else [.val v]) ++ lg_sl vs := by simp [lg_sl]
    have e2 : lg_sl ((v :: vs).map (ztv w)) = (if v.category = 2 then [Slot.val (ztv w v), .second] else [.val (ztv w v)]) ++ lg_sl (vs.map (ztv w)) := by
      simp [lg_sl, ztv_cat]
    rw [e1, e2, List.length_append, List.length_append, ih]
    split <;> rfl
theorem zs_zcall (w : zWd) (f : Nat) : ∀ d, zOK w d (zcall zts zms f d)
  | 0 => fun k as hp r hp' h => by cases h
  | d + 1 => fun k as hp r hp' h => by
    unfold zcall at h
    split at h
    · cases h
    · next md hmd =>
      split at h
      · next hc =>
        split at h
        · next rr hrun =>
          split at h
          · next hmono =>
            cases h
            refine ⟨hmono, ?_⟩
            obtain ⟨mi, hmi, e1, e2, hcd⟩ := zt_all k md hmd
            refine ⟨mi, hmi, fun l => ?_⟩
            obtain ⟨hy, hcode⟩ := zy_all k mi hmi
            obtain ⟨y1, y2, y3, y4, y5, y6⟩ := zyk hy
            rw [e1] at hc hrun
            rw [e2] at hrun
            refine Met.ofW (cc := mi.2.1) (maxL := mi.2.2.1) (ret := mi.2.2.2.1) y3 rfl ?_
            intro p e s m args below meth c s₁ B hml hv
            obtain ⟨rfl, hH, hsp⟩ := hv
            have hts := atoms_spec (ws := zwk mi) B.pre
            have hx := B.exec
            have hb := B.bytes
            have hr := B.returns
            have hown : s.vm.findClass mi.1.cls = some m.cls := findClass_of_methodNamed B.named
            have hlk := B.notSynchronized
            have hnm := (name_of_methodNamed B.named B.method).1
            have hl := lv_entry (as.map (ztv w)) (n := mi.2.2.1) (by rw [zlg_len]; exact hc.1)
            rw [lg_entry_eq]
            generalize (lg_sl (as.map (ztv w)) ++ List.replicate (mi.2.2.1 - (lg_sl (as.map (ztv w))).length) Slot.unset).toArray = ls at hl ⊢
            have C : zCx w none d mi.1 mi.2.1 mi.2.2.1 mi.2.2.2.1 hp.1 hp'.1 p ({ frames := d + 1, cells := hp'.1 - hp.1, slots := zSL * (hp'.1 - hp.1), locals := 60 * (d + 1) } : Room) s m (as.map (ztv w)).toArray meth c :=
              ⟨hx, hb, hml, hr, hown, fun q hq => hts q (List.mem_cons_of_mem _ hq), hlk, fun h9 => hnm.trans h9, by rw [hH.1]; omega, hsp, Nat.le_refl _, Nat.le_refl _, Nat.le_refl _, Nat.le_refl _⟩
            have run := zs_run (l := l) (e := e) (below := below) (Q := MQ below (zQc w r hp') (as.map (ztv w)).toArray s (hp'.1 - hp.1) (zSL * (hp'.1 - hp.1)) (zA w)) C (zs_zcall w f d) hcd (r := r) (hpF := hp') (Nat.le_refl _) (fun pc H locs ls hH2 hS hdec hrok => ?_) f (0, lv_args 0 as, []) hp (Nat.le_refl _) hrun
            · have k := run.2 s.heap [] ls hH va_S.rf (by rw [zlm_args]; exact hl)
              rw [Nat.sub_self, Nat.mul_zero] at k
              exact k
            · have hq : ∀ t : State, t.heap = H → s.WarmedH t.vm → zQc w r hp' (as.map (ztv w)).toArray s (.returned (r.map (ztv w))) t := fun t ht _ => ⟨rfl, by rw [ht]; exact hH2, hS.F ht⟩
              cases r with
              | none => exact W.vret hx hb (hr.trans hrok) hq hS.2.2 hdec hlk
              | some v =>
                cases v with
                | int x =>
                  obtain ⟨ty, h9, hn⟩ := hrok
                  exact W.zret hx hb (hr.trans h9) hn hq hS.2.2 hdec hlk
                | long x => exact W.lret hx hb (hr.trans hrok) hq hS.2.2 hdec hlk
                | null =>
                  obtain ⟨ty, h9, hn⟩ := hrok
                  exact W.aret hx hb (hr.trans h9) hn (Or.inl rfl) hq hS.2.2 hdec hlk
                | ref a =>
                  obtain ⟨ty, h9, hn⟩ := hrok
                  exact W.aret hx hb (hr.trans h9) hn (Or.inr ⟨_, rfl⟩) hq hS.2.2 hdec hlk
                | _ => exact absurd hrok id
          · cases h
        · cases h
      · cases h
end
