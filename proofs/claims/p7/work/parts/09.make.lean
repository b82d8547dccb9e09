/-! What makes cells; rows copied; the methods that the kit has rows for. -/
theorem zroom {n0 nF a k N : Nat} (h1 : n0 ≤ a) (h2 : a + k ≤ nF) (hN : N ≤ zSL * k) : a - n0 + k = a + k - n0 ∧ zSL * (a - n0) + N ≤ zSL * (a + k - n0) ∧ a + k - n0 ≤ nF - n0 ∧ zSL * (a + k - n0) ≤ zSL * (nF - n0) := by
  refine ⟨by omega, ?_, by omega, Nat.mul_le_mul_left _ (by omega)⟩
  rw [show a + k - n0 = (a - n0) + k by omega, Nat.mul_add]
  exact Nat.add_le_add_left hN _
theorem zar_i : zin (.arrayClass .int) = true := by decide +kernel
theorem zar_b : zin (.arrayClass .byte) = true := by decide +kernel
theorem zar_z : zin (.arrayClass .boolean) = true := by decide +kernel
theorem zar_l : zin (.arrayClass .long) = true := by decide +kernel
theorem zva_S {A : Nat → Prop} {H0 H H1 : Heap} {locs : List Loc} (h : va_S A H0 H locs) (z : H.size ≤ H1.size) (o : ∀ q, q < H.size → H1[q]? = H[q]?) : va_S A H0 H1 locs := ⟨Nat.le_trans h.1 z, fun q h1 h2 => (o q (Nat.lt_of_lt_of_le h1 h.1)).trans (h.2.1 q h1 h2), h.2.2⟩
theorem A_use {A : Array Value} {U : State} (h : zAOA U) : (Cond.arrayOver (.array .int)).before A U = true := h
theorem zr_outer (c : ClassId) (N h0 : Nat) : ∀ i : Nat, Jvm.Free.Multi.outerC c N h0 i = arrV c N (fun j => va_rf (if j < i then some (h0 + 1 + j) else none))
  | 0 => by
    show ({ cls := c, slots := Array.replicate N .null, vm := .none } : Cell) = _
    rw [arrV_new]
    refine congrArg (arrV c N) (funext fun j => ?_)
    simp [va_rf]
  | i + 1 => by
    show (Jvm.Free.Multi.outerC c N h0 i).setSlot i (.ref (h0 + 1 + i)) = _
    rw [zr_outer c N h0 i, arrV_store]
    refine congrArg (arrV c N) (funext fun j => ?_)
    by_cases e : j = i
    · subst e
      simp [updV, va_rf]
    · by_cases h : j < i
      · simp [updV, e, h, Nat.lt_succ_of_lt h]
      · simp [updV, e, h, show ¬ j < i + 1 by omega]
section ZMAK
variable {p : Program} {l : Launch} {e : Env} {R : Room} {s : State} {m : MethodId} {args : Array Value} {below : List Frame} {meth : Method} {c : Code} {Q : State → Prop} {w : zWd} {ev : zEv} {d : Nat} {y : MethodName} {cc : ByteArray} {nL : Nat} {rt : Option FieldType} {n0 nF : Nat} {fr fr' : zFr} {hp hp' : zHp}
theorem za_new (C : zCx w ev d y cc nL rt n0 nF p R s m args meth c) {i a : Nat} (hd : decode cc fr.1 = .ok (.new i, 3)) (hI : zok_n y i a = true) (h0 : n0 ≤ hp.1) (hF : hp'.1 ≤ nF) (h : zNew a (zbirth a) fr hp = some (.inl (fr', hp'))) (K : zG w nL n0 p l e R s m args below meth c Q fr' hp') : zG w nL n0 p l e R s m args below meth c Q fr hp := by
  obtain ⟨hx, hb, hml, hrt, hown, hts, hlk, hini, hbs, hsp, hfr, hlo, hrc, hrs⟩ := C
  unfold zNew zn at h
  split at h
  · next hsc =>
    cases h
    intro H locs ls hH hS hl
    unfold zok_n at hI
    cases hcq : zcls[a]? with
    | none => rw [hcq] at hI; cases hI
    | some cq =>
      rw [hcq] at hI
      simp only [Bool.and_eq_true] at hI
      obtain ⟨hin, hty, hnm, hdf, hbi, hN⟩ := zk_all hcq
      have hKn := hsp.1.1 a _ hcq
      obtain ⟨r1, r2, r3, r4⟩ := zroom (N := cq.2.2) (k := 1) h0 hF (Nat.le_trans hN (by decide))
      refine W.newcK hx hb hown (hts _ (zin_mem hI.1.1)) (hts _ (zin_mem hI.1.2)) (hts _ (zin_mem hI.2)) rfl hd (by omega) (by omega) hKn.2.1 rfl fun H1 kC hkC e1 z1 o1 => ?_
      refine W.widen (k := hp.1 + 1 - n0) (n := zSL * (hp.1 + 1 - n0)) (by omega) r2 ?_
      have k := K H1 locs ls (zHd_push hH z1 o1 (c := .inr (a, zbirth a)) ?_) (zva_S hS (by omega) o1) hl
      · have e2 : zta w hp.1 = H.size := by rw [zta_lo hsc, hH.1]
        show W p l e R s m args below meth c H1 locs _ _ Q (F0 m (fr.1 + 3) ls (.ref H.size :: fr.2.2.map (ztv w)))
        rw [← e2]
        exact k
      · show ∃ r : vw_C, zcls[a]? = some r ∧ t_OB H.size (w.2.2.2.1.1 a) r.2.2 (w.2.2.2.1.2 a) H1 (vp_V ((zbirth a).map (ztv w)))
        rw [hbi w]
        exact ⟨_, hcq, (u_born (ztyp a) hts hin hKn hkC e1 hty).to hdf⟩
  · cases h
theorem za_newa (C : zCx w ev d y cc nL rt n0 nF p R s m args meth c) {ty : ArrayType} (hd : decode cc fr.1 = .ok (.newarray ty, 2)) (h0 : n0 ≤ hp.1) (hF : hp'.1 ≤ nF) (h : zNewa ty fr hp = some (.inl (fr', hp'))) (K : zG w nL n0 p l e R s m args below meth c Q fr' hp') : zG w nL n0 p l e R s m args below meth c Q fr hp := by
  obtain ⟨hx, hb, hml, hrt, hown, hts, hlk, hini, hbs, hsp, hfr, hlo, hrc, hrs⟩ := C
  unfold zNewa zn at h
  have go : ∀ (t : Nat) (n : Int32) (r : List Value) (z : vp_A), zin (.arrayClass (newarray.typeOf ty)) = true → (ztys w)[t]? = some (w.2.2.1 t, newarray.typeOf ty) → (∀ cA : ClassId, va_RA s cA (newarray.typeOf ty) = (s.vm.findClass ("[" ++ (newarray.typeOf ty).toString) = some cA)) → componentBytes (newarray.typeOf ty) ≤ 8 → (∀ cA : ClassId, vp_cell cA z = arrV cA n.toNatClampNeg (fun _ => defaultValue (newarray.typeOf ty))) → ztc w (.inl (t, z)) = .inl (w.2.2.1 t, z) → fr.2.2 = .int n :: r → (¬ n < 0 ∧ n.toNatClampNeg ≤ zSL ∧ hp.1 < zSC) → hp.1 + 1 ≤ nF → zG w nL n0 p l e R s m args below meth c Q (fr.1 + 2, fr.2.1, .ref hp.1 :: r) (hp.1 + 1, zup hp.2 hp.1 (.inl (t, z))) → zG w nL n0 p l e R s m args below meth c Q fr hp := by
    intro t n r z hz hty hra hcb hcell htc hst hc hF K H locs ls hH hS hl
    obtain ⟨r1, r2, r3, r4⟩ := zroom (N := n.toNatClampNeg) (k := 1) h0 hF (by rw [Nat.mul_one]; exact hc.2.1)
    have hK := hsp.1.2 t _ hty
    rw [hst]
    show W p l e R s m args below meth c H locs _ _ Q (F0 m fr.1 ls (.int n :: r.map (ztv w)))
    refine va_newaK hx hb (hts _ (zin_mem hz)) rfl hd rfl hc.1 rfl (Nat.le_trans (Nat.mul_le_mul hc.2.1 hcb) (by decide)) (by omega) (by omega) rfl fun H1 cA e1 z1 o1 hAr hNm => ?_
    refine W.widen (k := hp.1 + 1 - n0) (n := zSL * (hp.1 + 1 - n0)) (by omega) r2 ?_
    have ecA : cA = w.2.2.1 t := by
      have h2 := hK.2
      rw [hra] at h2
      exact Option.some.inj (hNm.symm.trans h2)
    have k := K H1 locs ls (zHd_push hH z1 o1 (c := .inl (t, z)) ?_) (zva_S hS (by omega) o1) hl
    · have e2 : zta w hp.1 = H.size := by rw [zta_lo hc.2.2, hH.1]
      show W p l e R s m args below meth c H1 locs _ _ Q (F0 m (fr.1 + 2) ls (.ref H.size :: r.map (ztv w)))
      rw [← e2]
      exact k
    · rw [htc]
      show H1[H.size]? = some (vp_cell (w.2.2.1 t) z)
      rw [hcell, ← ecA]
      exact e1
  split at h
  · next n r hst =>
    split at h
    · next hc =>
      cases ty with
      | int => cases h; exact go 0 n r _ zar_i rfl (fun _ => rfl) (by decide) (fun _ => rfl) rfl hst hc hF K
      | byte => cases h; exact go 1 n r _ zar_b rfl (fun _ => rfl) (by decide) (fun _ => rfl) rfl hst hc hF K
      | boolean => cases h; exact go 2 n r _ zar_z rfl (fun _ => rfl) (by decide) (fun _ => rfl) rfl hst hc hF K
      | long => cases h; exact go 3 n r _ zar_l rfl (fun _ => rfl) (by decide) (fun _ => rfl) rfl hst hc hF K
      | _ => cases h
    · cases h
  · cases h
theorem za_anew (C : zCx w ev d y cc nL rt n0 nF p R s m args meth c) {i : Nat} (hd : decode cc fr.1 = .ok (.anewarray i, 3)) (hI : zin (.classLink y.cls i "LentTools$Rule") = true) (h0 : n0 ≤ hp.1) (hF : hp'.1 ≤ nF) (h : zAnew fr hp = some (.inl (fr', hp'))) (K : zG w nL n0 p l e R s m args below meth c Q fr' hp') : zG w nL n0 p l e R s m args below meth c Q fr hp := by
  obtain ⟨hx, hb, hml, hrt, hown, hts, hlk, hini, hbs, hsp, hfr, hlo, hrc, hrs⟩ := C
  unfold zAnew zn at h
  split at h
  · next n r hst =>
    split at h
    · next hc =>
      cases h
      intro H locs ls hH hS hl
      obtain ⟨r1, r2, r3, r4⟩ := zroom (N := n.toNatClampNeg) (k := 1) h0 hF (by rw [Nat.mul_one]; exact hc.2.1)
      rw [hst]
      show W p l e R s m args below meth c H locs _ _ Q (F0 m fr.1 ls (.int n :: r.map (ztv w)))
      have hb4 : n.toNatClampNeg * 4 ≤ 536870912 := by
        have h9 : n.toNatClampNeg ≤ 3000 := hc.2.1
        omega
      refine W.anew hx hb hown (hts _ (zin_mem hI)) (va_AO.use hsp.2.2.2.2.2.2.1) rfl hd rfl hc.1 hb4 (by omega) (by omega) fun cA kA comp f1 f2 f3 f4 => ?_
      generalize hH1 : H.push ({ cls := cA, slots := Array.replicate n.toNatClampNeg .null, vm := .none } : Cell) = H1
      have z1 : H1.size = H.size + 1 := by rw [← hH1, Array.size_push]
      have e1 : H1[H.size]? = some (arrV cA n.toNatClampNeg (fun _ => .null)) := by rw [← hH1, Array.getElem?_push_size, ← arrV_new]
      have o1 : ∀ q : Nat, q < H.size → H1[q]? = H[q]? := fun q hq => by rw [← hH1, Array.getElem?_push, if_neg (Nat.ne_of_lt hq)]
      refine W.widen (k := hp.1 + 1 - n0) (n := zSL * (hp.1 + 1 - n0)) (by omega) r2 ?_
      have hK := hsp.1.2 4 (w.2.2.1 4, .object "LentTools$Rule") rfl
      obtain ⟨kA2, comp2, k1, k2, k3, k4⟩ := hK.2
      have ecA : cA = w.2.2.1 4 := Option.some.inj (f1.symm.trans k4)
      have k := K H1 locs ls (zHd_push hH z1 o1 (c := .inl (4, n.toNatClampNeg, .inr (.inr (.inr (.inr (fun _ => none)))))) ?_) (zva_S hS (by omega) o1) hl
      · have e2 : zta w hp.1 = H.size := by rw [zta_lo hc.2.2, hH.1]
        show W p l e R s m args below meth c H1 locs _ _ Q (F0 m (fr.1 + 3) ls (.ref H.size :: r.map (ztv w)))
        rw [← e2]
        exact k
      · show H1[H.size]? = some (vp_cell (w.2.2.1 4) (n.toNatClampNeg, .inr (.inr (.inr (.inr (fun _ => none))))))
        rw [← ecA, vp_cell_q]
        exact e1
    · cases h
  · cases h
theorem za_mna (C : zCx w ev d y cc nL rt n0 nF p R s m args meth c) {i n2 : Nat} (hd : decode cc fr.1 = .ok (.multianewarray i n2, 4)) (hI : (zin (.classLink y.cls i "[[I") && decide (n2 = 2)) = true) (h0 : n0 ≤ hp.1) (hF : hp'.1 ≤ nF) (h : zMna fr hp = some (.inl (fr', hp'))) (K : zG w nL n0 p l e R s m args below meth c Q fr' hp') : zG w nL n0 p l e R s m args below meth c Q fr hp := by
  obtain ⟨hx, hb, hml, hrt, hown, hts, hlk, hini, hbs, hsp, hfr, hlo, hrc, hrs⟩ := C
  simp only [Bool.and_eq_true, decide_eq_true_eq] at hI
  obtain ⟨hI, rfl⟩ := hI
  unfold zMna zn at h
  split at h
  · next k n r hst =>
    split at h
    · next hc =>
      cases h
      intro H locs ls hH hS hl
      have hF2 : hp.1 + (1 + n.toNatClampNeg) ≤ nF := by
        have h9 : hp.1 + 1 + n.toNatClampNeg ≤ nF := hF
        omega
      have hN3 : n.toNatClampNeg ≤ 3000 := hc.2.2.1
      have hK3 : k.toNatClampNeg ≤ 3000 := hc.2.2.2.1
      obtain ⟨r1, r2, r3, r4⟩ := zroom (N := n.toNatClampNeg + n.toNatClampNeg * k.toNatClampNeg) (k := 1 + n.toNatClampNeg) h0 hF2 (by
        have h9 : n.toNatClampNeg * k.toNatClampNeg ≤ n.toNatClampNeg * 3000 := Nat.mul_le_mul_left _ hK3
        show _ ≤ 3000 * (1 + n.toNatClampNeg)
        omega)
      rw [hst]
      show W p l e R s m args below meth c H locs _ _ Q (F0 m fr.1 ls (.int k :: .int n :: r.map (ztv w)))
      intro T hT Xs
      have hb1 : n.toNatClampNeg * 4 ≤ 536870912 := by omega
      have hb2 : k.toNatClampNeg * componentBytes FieldType.int ≤ 536870912 := by
        have h9 : componentBytes FieldType.int = 4 := rfl
        rw [h9]; omega
      obtain ⟨vm₁, cA, comp, -, fA, fC, hO, -, X', step⟩ := Xs.multianewarray2F (ty := .int) hx hown (hts _ (zin_mem hI)) (A_use hsp.2.2.2.2.2.2.2.1) (hts _ (zin_mem zar_i)) (g := F0 m fr.1 ls (.int k :: .int n :: r.map (ztv w))) rfl (by rw [hb]; exact hd) rfl hc.1 hc.2.1 hb1 hb2 (by omega) rfl rfl (by omega) (by omega)
      have hcy : comp = w.2.2.1 0 := by
        have h2 : s.vm.findClass ("[" ++ FieldType.int.toString) = some (w.2.2.1 0) := (hsp.1.2 0 (w.2.2.1 0, .int) rfl).2
        have fC2 : s.vm.findClass ("[" ++ FieldType.int.toString) = some comp := fC
        exact Option.some.inj (fC2.symm.trans h2)
      have hcA : cA = w.2.2.1 5 := by
        have h2 : s.vm.findClass ("[" ++ (FieldType.array .int).toString) = some (w.2.2.1 5) := (hsp.1.2 5 (w.2.2.1 5, .array .int) rfl).2
        exact Option.some.inj (fA.symm.trans h2)
      subst hcy
      subst hcA
      generalize hFe : Jvm.Free.Multi.fill (T.setVm vm₁) (w.2.2.1 5) (w.2.2.1 0) n.toNatClampNeg k.toNatClampNeg (defaultValue .int) n.toNatClampNeg = F at X' step
      have hTh : (T.setVm vm₁).heap = H := hT
      obtain ⟨f1, f2, -, -⟩ := Jvm.Free.Multi.fill_facts (T.setVm vm₁) (w.2.2.1 5) (w.2.2.1 0) n.toNatClampNeg k.toNatClampNeg (defaultValue .int) n.toNatClampNeg
      rw [hFe, hTh] at f1 f2
      have hold : ∀ x : Nat, x < H.size → F.heap[x]? = H[x]? := fun x hx9 => by
        have := Jvm.Free.Multi.fill_old (T.setVm vm₁) (w.2.2.1 5) (w.2.2.1 0) n.toNatClampNeg k.toNatClampNeg (defaultValue .int) (a := x) (by rw [hTh]; exact hx9) n.toNatClampNeg
        rw [hFe, hTh] at this
        exact this
      have hrow : ∀ j : Nat, j < n.toNatClampNeg → F.heap[H.size + 1 + j]? = some (vp_cell (w.2.2.1 0) (k.toNatClampNeg, .inl (fun _ => 0))) := fun j hj => by
        have := Jvm.Free.Multi.fill_inner (T.setVm vm₁) (w.2.2.1 5) (w.2.2.1 0) n.toNatClampNeg k.toNatClampNeg (defaultValue .int) n.toNatClampNeg j hj
        rw [hFe, hTh] at this
        rw [this, vp_cell_i, ← arrV_new]
        rfl
      have hout : Jvm.Free.Multi.outerC (w.2.2.1 5) n.toNatClampNeg H.size n.toNatClampNeg = vp_cell (w.2.2.1 5) (n.toNatClampNeg, .inr (.inr (.inr (.inr (fun i => if i < n.toNatClampNeg then some (H.size + 1 + i) else none))))) := by
        rw [vp_cell_q]
        exact zr_outer (w.2.2.1 5) n.toNatClampNeg H.size n.toNatClampNeg
      rw [hout] at f2
      have hsc : hp.1 + 1 + n.toNatClampNeg ≤ 1000 := hc.2.2.2.2
      have hsz := hH.1
      have hH1 : zHd w (hp.1 + 1 + n.toNatClampNeg, fun j => if j < hp.1 then hp.2 j else if j = hp.1 then .inl (5, n.toNatClampNeg, .inr (.inr (.inr (.inr (fun i => if i < n.toNatClampNeg then some (hp.1 + 1 + i) else none))))) else .inl (0, k.toNatClampNeg, .inl (fun _ => 0))) F.heap := by
        refine ⟨by rw [f1, hsz]; show w.1 + hp.1 + 1 + n.toNatClampNeg = w.1 + (hp.1 + 1 + n.toNatClampNeg); omega, fun j q hq => ?_⟩
        obtain ⟨hj, rfl⟩ := zwl_at hq
        have hj : j < hp.1 + 1 + n.toNatClampNeg := hj
        by_cases j1 : j < hp.1
        · have hc9 := zHd_cell hH j1
          have e9 : ((fun j => if j < hp.1 then hp.2 j else if j = hp.1 then .inl (5, n.toNatClampNeg, .inr (.inr (.inr (.inr (fun i => if i < n.toNatClampNeg then some (hp.1 + 1 + i) else none))))) else .inl (0, k.toNatClampNeg, .inl (fun _ => 0))) : Nat → zCl) j = hp.2 j := if_pos j1
          show va_at _ _ (w.1 + j, ztc w (((fun j => if j < hp.1 then hp.2 j else if j = hp.1 then .inl (5, n.toNatClampNeg, .inr (.inr (.inr (.inr (fun i => if i < n.toNatClampNeg then some (hp.1 + 1 + i) else none))))) else .inl (0, k.toNatClampNeg, .inl (fun _ => 0))) : Nat → zCl) j)) F.heap
          rw [e9]
          exact hc9.kept (hold _ (by show w.1 + j < H.size; omega))
        · by_cases j2 : j = hp.1
          · subst j2
            show va_at _ _ (w.1 + hp.1, ztc w (if hp.1 < hp.1 then hp.2 hp.1 else if hp.1 = hp.1 then .inl (5, n.toNatClampNeg, .inr (.inr (.inr (.inr (fun i => if i < n.toNatClampNeg then some (hp.1 + 1 + i) else none))))) else .inl (0, k.toNatClampNeg, .inl (fun _ => 0)))) F.heap
            rw [if_neg (Nat.lt_irrefl _), if_pos rfl]
            show F.heap[w.1 + hp.1]? = some (vp_cell (w.2.2.1 5) (n.toNatClampNeg, .inr (.inr (.inr (.inr (fun i => (if i < n.toNatClampNeg then some (hp.1 + 1 + i) else none).map (zta w)))))))
            rw [← hsz, f2]
            have e8 : (fun i => if i < n.toNatClampNeg then some (H.size + 1 + i) else none) = (fun i => (if i < n.toNatClampNeg then some (hp.1 + 1 + i) else none).map (zta w)) := by
              funext i
              by_cases hi : i < n.toNatClampNeg
              · rw [if_pos hi, if_pos hi]
                show some (H.size + 1 + i) = some (zta w (hp.1 + 1 + i))
                rw [zta_lo (show hp.1 + 1 + i < 1000 by omega)]
                congr 1
                omega
              · rw [if_neg hi, if_neg hi]
                rfl
            rw [e8]
          · show va_at _ _ (w.1 + j, ztc w (if j < hp.1 then hp.2 j else if j = hp.1 then .inl (5, n.toNatClampNeg, .inr (.inr (.inr (.inr (fun i => if i < n.toNatClampNeg then some (hp.1 + 1 + i) else none))))) else .inl (0, k.toNatClampNeg, .inl (fun _ => 0)))) F.heap
            rw [if_neg j1, if_neg j2]
            show F.heap[w.1 + j]? = some (vp_cell (w.2.2.1 0) (k.toNatClampNeg, .inl (fun _ => 0)))
            have := hrow (j - hp.1 - 1) (by omega)
            rw [show H.size + 1 + (j - hp.1 - 1) = w.1 + j by omega] at this
            exact this
      have kk := K F.heap locs ls hH1 (zva_S hS (by omega) hold) hl
      have kk2 : W p l e R s m args below meth c F.heap locs (hp.1 - n0 + 1 + n.toNatClampNeg) (zSL * (hp.1 - n0) + n.toNatClampNeg + n.toNatClampNeg * k.toNatClampNeg) Q (F0 m (fr.1 + 4) ls (.ref H.size :: r.map (ztv w))) := by
        refine W.widen (k := hp.1 + 1 + n.toNatClampNeg - n0) (n := zSL * (hp.1 + 1 + n.toNatClampNeg - n0)) (by omega) (by rw [show hp.1 + 1 + n.toNatClampNeg - n0 = hp.1 + (1 + n.toNatClampNeg) - n0 by omega]; omega) ?_
        have e2 : zta w hp.1 = H.size := by rw [zta_lo (show hp.1 < 1000 by omega), hH.1]
        rw [← e2]
        exact kk
      obtain ⟨t, a1, b1⟩ := kk2 F rfl X'
      refine ⟨t, step t ?_, b1⟩
      have e9 : T.heap.size = H.size := by rw [hT]
      rw [e9]
      exact a1
    · cases h
  · cases h
end ZMAK
