/-! Calls, and the methods that the kit has rows for. -/
theorem zcp_1 : zin (.native arraycopyName) = true := by decide +kernel
theorem zcp_2 : zin (.static arraycopyName) = true := by decide +kernel
theorem zcp_3 : zin (.initialized "java/lang/System") = true := by decide +kernel
theorem zmm_1 : zin (.static Lib.Math.max.name) = true := by decide +kernel
theorem zmm_2 : zin (.static Lib.Math.min.name) = true := by decide +kernel
theorem zmm_3 : zin (.initialized "java/lang/Math") = true := by decide +kernel
theorem zob_1 : zin (.instanceMethod objectInit) = true := by decide +kernel
set_option maxRecDepth 20000 in
theorem zmm_4 : Cond.code Lib.Math.max.name Lib.Math.max.code 2 (some .int) ∈ zTw := List.mem_filter.mpr ⟨List.mem_of_getElem? (i := 758) rfl, rfl⟩
set_option maxRecDepth 20000 in
theorem zmm_5 : Cond.code Lib.Math.min.name Lib.Math.min.code 2 (some .int) ∈ zTw := List.mem_filter.mpr ⟨List.mem_of_getElem? (i := 435) rfl, rfl⟩
set_option maxRecDepth 20000 in
theorem zob_2 : Cond.code objectInit ⟨#[0xb1]⟩ 1 none ∈ zTw := List.mem_filter.mpr ⟨List.mem_of_getElem? (i := 149) rfl, rfl⟩
theorem zgood {ws : List Cond} (h : ∀ q ∈ ws, q ∈ zTw) : GoodIn zTw ws := fun q hq => ⟨h q hq, good_of_word (List.mem_filter.mp (h q hq)).2⟩
def zwk (mi : zMi) : List Cond := .code mi.1 mi.2.1 mi.2.2.1 mi.2.2.2.1 :: zTw
def zPc (w : zWd) (as : List Value) (hp : zHp) : Array Value → State → Prop := va_Pc (as.map (ztv w)) (fun U => zHd w hp U.heap ∧ zSp w none U U.heap)
def zQc (w : zWd) (r : Option Value) (hp' : zHp) : Array Value → State → Outcome → State → Prop := fun _ st oc t => oc = .returned (r.map (ztv w)) ∧ zHd w hp' t.heap ∧ va_F (zA w) st t
def zMet (w : zWd) (d : Nat) (mi : zMi) (as : List Value) (hp : zHp) (r : Option Value) (hp' : zHp) : Prop := ∀ l : Launch, Met l mi.1 (zwk mi) ({ frames := d, cells := hp'.1 - hp.1, slots := zSL * (hp'.1 - hp.1), locals := 60 * d }) (zPc w as hp) (zQc w r hp') (hp'.1 - hp.1) (zSL * (hp'.1 - hp.1)) (zA w)
def zOK (w : zWd) (d : Nat) (call : zCa) : Prop := ∀ (k : Nat) (as : List Value) (hp : zHp) (r : Option Value) (hp' : zHp), call k as hp = some (r, hp') → hp.1 ≤ hp'.1 ∧ ∃ mi : zMi, zg zml k = some mi ∧ zMet w d mi as hp r hp'
theorem zPc_blind (w : zWd) (as : List Value) (hp : zHp) : FrameBlind (zPc w as hp) := fun a U g mk q => ⟨q.1, q.2.1, zSp.same (U := U) (V := U.calling g mk a) rfl rfl q.2.2⟩
section ZCAL
variable {p : Program} {l : Launch} {e : Env} {R : Room} {s : State} {m : MethodId} {args : Array Value} {below : List Frame} {meth : Method} {c : Code} {Q : State → Prop} {w : zWd} {ev : zEv} {d : Nat} {y : MethodName} {cc : ByteArray} {nL : Nat} {rt : Option FieldType} {n0 nF : Nat} {fr fr' : zFr} {hp hp' : zHp}
theorem za_aast (C : zCx w ev d y cc nL rt n0 nF p R s m args meth c) (hd : decode cc fr.1 = .ok (.aastore, 1)) (h : zAast fr hp = some (.inl (fr', hp'))) (K : zG w nL n0 p l e R s m args below meth c Q fr' hp') : zG w nL n0 p l e R s m args below meth c Q fr hp := by
  obtain ⟨hx, hb, hml, hrt, hown, hts, hlk, hini, hbs, hsp, hfr, hlo, hrc, hrs⟩ := C
  unfold zAast zn at h
  split at h
  · next v j ix r hst =>
    split at h
    · next hlt =>
      split at h
      · next n f fs hc hv =>
        split at h
        · next hin =>
          cases h
          intro H locs ls hH hS hl
          have hK := hsp.1
          have hcel : H[w.1 + ix]? = some (vp_cell (w.2.2.1 4) (n, .inr (.inr (.inr (.inr (fun i => (f i).map (zta w))))))) := by
            have := zHd_cell hH hlt.1
            rw [hc] at this
            exact this
          have hcv := zHd_cell hH hlt.2.2.1
          rw [hv] at hcv
          obtain ⟨r', hr', cellV, g1, g2, g3, -⟩ := hcv
          have hcls := (hK.1 4 (zR4, zT4, 2) rfl).2
          obtain ⟨kA, comp, k1, k2, k3, -⟩ := (hK.2 4 (w.2.2.1 4, .object "LentTools$Rule") rfl).2
          have hcomp : comp = w.2.2.2.1.1 4 := Option.some.inj (k3.symm.trans hcls.1)
          subst hcomp
          obtain ⟨kC, hkC, -⟩ := hcls.2
          have hj : j.toNatClampNeg < n := Nat.not_le.mp fun q => hin (Or.inr q)
          rw [hst]
          show W p l e R s m args below meth c H locs _ _ Q (F0 m fr.1 ls (.ref (zta w v) :: .int j :: .ref (zta w ix) :: r.map (ztv w)))
          rw [zta_lo hlt.2.1, zta_lo hlt.2.2.2]
          refine W.aast hx hb hcel (fun q h => by cases h) (fun h => by cases h) k1 k2 rfl hkC ⟨fun q => hin (Or.inl q), by show _ < (arrV _ _ _).slots.size; rw [arrV_size]; exact hj⟩ g1 (fun q h => by rw [g3] at h; cases h) (by rw [g2]; exact hkC) (by rw [g2]; exact va_assign hcls) rfl rfl hd fun H1 e1 z oq => ?_
          refine K H1 _ ls (zHd_set hH hlt.1 z oq ?_) (hS.put z oq (zA_in w ix)) hl
          show H1[w.1 + ix]? = some (vp_cell (w.2.2.1 4) (n, .inr (.inr (.inr (.inr (fun i => (va_up f j.toNatClampNeg (some v) i).map (zta w)))))))
          rw [e1, vp_cell_q, vp_cell_q, arrV_store]
          congr 2
          funext q
          by_cases hq : q = j.toNatClampNeg
          · subst hq
            simp [updV, va_up, va_rf, zta_lo hlt.2.2.2]
          · simp [updV, va_up, hq]
        · cases h
      · cases h
    · cases h
  · cases h
theorem zcl_1 : zin (.sameMethod "[I" "java/lang/Object" "clone" "()Ljava/lang/Object;") = true := by decide +kernel
theorem zcl_2 : zin (.native ⟨"java/lang/Object", "clone", "()Ljava/lang/Object;"⟩) = true := by decide +kernel
theorem zcl_3 : zin (.instanceMethod ⟨"java/lang/Object", "clone", "()Ljava/lang/Object;"⟩) = true := by decide +kernel
theorem zcl_4 : zin (.selects "[I" ⟨"[I", "clone", "()Ljava/lang/Object;"⟩ ⟨"java/lang/Object", "clone", "()Ljava/lang/Object;"⟩) = true := by decide +kernel
theorem za_cln (C : zCx w ev d y cc nL rt n0 nF p R s m args meth c) {i : Nat} (hd : decode cc fr.1 = .ok (.invokevirtual i, 3)) (hI : zin (.methodLink y.cls i ⟨"[I", "clone", "()Ljava/lang/Object;"⟩) = true) (h0 : n0 ≤ hp.1) (hF : hp'.1 ≤ nF) (h : zCln fr hp = some (.inl (fr', hp'))) (K : zG w nL n0 p l e R s m args below meth c Q fr' hp') : zG w nL n0 p l e R s m args below meth c Q fr hp := by
  obtain ⟨hx, hb, hml, hrt, hown, hts, hlk, hini, hbs, hsp, hfr, hlo, hrc, hrs⟩ := C
  unfold zCln zn at h
  split at h
  · next ix r hst =>
    split at h
    · next hc =>
      split at h
      · next n f hcl =>
        split at h
        · next hn =>
          cases h
          intro H locs ls hH hS hl
          obtain ⟨r1, r2, r3, r4⟩ := zroom (N := n) (k := 1) h0 hF (by rw [Nat.mul_one]; exact hn)
          have hcel : H[w.1 + ix]? = some (vp_cell (w.2.2.1 0) (n, .inl f)) := by
            have := zHd_cell hH hc.1
            rw [hcl] at this
            exact this
          have hK := hsp.1.2 0 (w.2.2.1 0, .int) rfl
          have hnm : s.vm.findClass "[I" = some (w.2.2.1 0) := va_nm_int hK.2
          obtain ⟨c0, t0, f1, f2, f3⟩ := Cond.castable_spec (va_Nw.use (A := args) rfl hsp.2.2.2.2.2.2.2.2)
          cases hnm.symm.trans f1
          rw [hst]
          show W p l e R s m args below meth c H locs _ _ Q (F0 m fr.1 ls (.ref (zta w ix) :: r.map (ztv w)))
          rw [zta_lo hc.2.1]
          intro T hT X
          obtain ⟨-, kA, hkA, comp, hkind⟩ := State.isArrayOf_alike X.warmed.alike (hK.1 0 (fun _ => .null))
          obtain ⟨-, kS, hkS, compS, hkindS⟩ := hK.1 0 (fun _ => .null)
          have hsz : (vp_cell (w.2.2.1 0) (n, .inl f)).slots.size = n := arrV_size _ _ _
          have hcellE : ({ cls := (vp_cell (w.2.2.1 0) (n, .inl f)).cls, slots := (vp_cell (w.2.2.1 0) (n, .inl f)).slots } : Cell) = vp_cell (w.2.2.1 0) (n, .inl f) := rfl
          have hsum : ((r.map (ztv w)).map fun v => v.category).sum ≤ 8 := by rw [zmap_cat]; exact hc.2.2.2
          obtain ⟨vm', X', st⟩ := X.cloneArray hx hown (hts _ (zin_mem hI)) (hts _ (zin_mem zcl_1)) (hts _ (zin_mem zcl_2)) (hts _ (zin_mem zcl_3)) (hts _ (zin_mem zcl_4)) (a := w.1 + ix) (cell := vp_cell (w.2.2.1 0) (n, .inl f)) (by rw [hT]; exact hcel) (fun k h => by cases h) (fun h => by cases h) hnm f2 f3
            (fun i v hv => by
              have hk' : T.vm.classes[w.2.2.1 0]? = some kA := hkA
              have hfit : fits .int v = true := va_fit (cA := w.2.2.1 0) (n := n) (F := fun j => .int (f j)) (ty := .int) (fun i _ => rfl) i v hv
              have hcl0 : (vp_cell (w.2.2.1 0) (n, .inl f)).cls = w.2.2.1 0 := rfl
              rw [hcl0]
              simpa [State.fitsSlot, State.slotType?, hk', hkind] using hfit)
            (g := F0 m fr.1 ls (.ref (w.1 + ix) :: r.map (ztv w))) rfl (by rw [hml]; exact hl.1) rfl (by rw [hb]; exact hd) (by omega) (by show 2 * 0 + _ + 14 ≤ _; omega) (by omega) (by rw [hsz]; omega) (hloader := Vm.clonesLoader_of_array hkS hkindS)
          rw [hcellE, hsz] at X'
          generalize hH1 : H.push (vp_cell (w.2.2.1 0) (n, .inl f)) = H1
          have z1 : H1.size = H.size + 1 := by rw [← hH1, Array.size_push]
          have e1 : H1[H.size]? = some (vp_cell (w.2.2.1 0) (n, .inl f)) := by rw [← hH1, Array.getElem?_push_size]
          have o1 : ∀ q : Nat, q < H.size → H1[q]? = H[q]? := fun q hq => by rw [← hH1, Array.getElem?_push, if_neg (Nat.ne_of_lt hq)]
          have k := K H1 locs ls (zHd_push hH z1 o1 (c := .inl (0, n, .inl f)) e1) (zva_S hS (by omega) o1) hl
          have e2 : zta w hp.1 = H.size := by rw [zta_lo hc.2.2.1, hH.1]
          have k : W p l e R s m args below meth c H1 locs (hp.1 + 1 - n0) (zSL * (hp.1 + 1 - n0)) Q (F0 m (fr.1 + 3) ls (.ref (zta w hp.1) :: r.map (ztv w))) := k
          rw [e2] at k
          have k := W.widen (k := hp.1 + 1 - n0) (n := zSL * (hp.1 + 1 - n0)) (show hp.1 - n0 + 1 ≤ hp.1 + 1 - n0 by omega) r2 k
          obtain ⟨t, b1, b2⟩ := k ((T.setVm vm').pushCell (vp_cell (w.2.2.1 0) (n, .inl f))) (by rw [← hH1, ← hT]; rfl) X'
          refine ⟨t, st t ?_, b2⟩
          rw [hcellE, hT]
          exact b1
        · cases h
      · cases h
    · cases h
  · cases h
theorem za_cst (C : zCx w ev d y cc nL rt n0 nF p R s m args meth c) {i : Nat} (hd : decode cc fr.1 = .ok (.checkcast i, 3)) (hI : zin (.classLink y.cls i "[I") = true) (h : zCst fr hp = some (.inl (fr', hp'))) (K : zG w nL n0 p l e R s m args below meth c Q fr' hp') : zG w nL n0 p l e R s m args below meth c Q fr hp := by
  obtain ⟨hx, hb, hml, hrt, hown, hts, hlk, hini, hbs, hsp, hfr, hlo, hrc, hrs⟩ := C
  unfold zCst zn at h
  split at h
  · next ix r hst =>
    split at h
    · next hc =>
      split at h
      · next n f hcl =>
        cases h
        intro H locs ls hH hS hl
        have hK := hsp.1.2 0 (w.2.2.1 0, .int) rfl
        have hnm : s.vm.findClass "[I" = some (w.2.2.1 0) := va_nm_int hK.2
        have ha : (zwl w hp)[ix]? = some (w.1 + ix, .inl (w.2.2.1 0, n, .inl f)) := by
          rw [zwl_get hc.1, hcl]
          rfl
        have k := K H locs ls hH hS hl
        rw [hst]
        have k : W p l e R s m args below meth c H locs (hp.1 - n0) (zSL * (hp.1 - n0)) Q (F0 m (fr.1 + 3) ls (.ref (zta w ix) :: r.map (ztv w))) := k
        show W p l e R s m args below meth c H locs (hp.1 - n0) (zSL * (hp.1 - n0)) Q (F0 m fr.1 ls (.ref (zta w ix) :: r.map (ztv w)))
        rw [zta_lo hc.2] at k ⊢
        exact va_castA hx hb hown (hts _ (zin_mem hI)) hH.2 ix ha hnm hd k
      · cases h
    · cases h
  · cases h
theorem za_cpy (C : zCx w ev d y cc nL rt n0 nF p R s m args meth c) {i : Nat} (hd : decode cc fr.1 = .ok (.invokestatic i, 3)) (hI : zin (.methodLink y.cls i arraycopyName) = true) (h : zCpy fr hp = some (.inl (fr', hp'))) (K : zG w nL n0 p l e R s m args below meth c Q fr' hp') : zG w nL n0 p l e R s m args below meth c Q fr hp := by
  obtain ⟨hx, hb, hml, hrt, hown, hts, hlk, hini, hbs, hsp, hfr, hlo, hrc, hrs⟩ := C
  unfold zCpy zn at h
  split at h
  · next n dp ds sp sr r hst =>
    split at h
    · next hlt =>
      split at h
      · next m0 f m1 g hc0 hc1 =>
        split at h
        · next hin =>
          obtain ⟨l1, l2, l3, l4, l5, h1, h2, h3⟩ := hlt
          obtain ⟨h4, h5, h6⟩ := hin
          cases h
          intro H locs ls hH hS hl
          have hcel0 : H[w.1 + sr]? = some (vp_cell (w.2.2.1 0) (m0, .inl f)) := by
            have := zHd_cell hH l1
            rw [hc0] at this
            exact this
          have hcel1 : H[w.1 + ds]? = some (vp_cell (w.2.2.1 0) (m1, .inl g)) := by
            have := zHd_cell hH l3
            rw [hc1] at this
            exact this
          have nn : ∀ z : Int32, ¬ z < 0 → z.toInt = (z.toNatClampNeg : Int) := by
            intro z hz
            have hz0 : (0 : Int) ≤ z.toInt := by
              have := Int32.not_lt.mp hz
              simpa using Int32.le_iff_toInt_le.mp this
            show z.toInt = ((z.toInt.toNat : Nat) : Int)
            omega
          rw [hst]
          show W p l e R s m args below meth c H locs _ _ Q (F0 m fr.1 ls (.int n :: .int dp :: .ref (zta w ds) :: .int sp :: .ref (zta w sr) :: r.map (ztv w)))
          rw [zta_lo l2, zta_lo l4]
          intro T hT X
          obtain ⟨-, k0, hk0, cm0, hkk0⟩ := (hsp.1.2 0 (w.2.2.1 0, .int) rfl).1 m0 (fun j => .int (f j))
          obtain ⟨-, k1, hk1, cm1, hkk1⟩ := (hsp.1.2 0 (w.2.2.1 0, .int) rfl).1 m1 (fun j => .int (g j))
          have hsum : ((r.map (ztv w)).map fun v => v.category).sum ≤ 8 := by rw [zmap_cat]; exact h6
          have hnw : nativeFrameWords "java/lang/System" "arraycopy" 5 + 11 ≤ 40 := by decide
          obtain ⟨vm', X', step⟩ := X.arraycopy hx hown (hts _ (zin_mem hI)) (hts _ (zin_mem zcp_1)) (hts _ (zin_mem zcp_2)) (hts _ (zin_mem zcp_3)) (src := w.1 + sr) (dst := w.1 + ds) (cs := vp_cell (w.2.2.1 0) (m0, .inl f)) (cd := vp_cell (w.2.2.1 0) (m1, .inl g)) (srcPos := sp) (destPos := dp) (n := n) (by rw [hT]; exact hcel0) (by rw [hT]; exact hcel1)
            (fun _ h => by cases h) (fun _ h => by cases h) (fun h => by cases h) (fun h => by cases h) hk0 hk1 hkk0 hkk1 (by simp [refKind]) h1 h2 h3
            (by rw [nn sp h1, nn n h3]; show ¬ _ > ((arrV (w.2.2.1 0) m0 (fun j => .int (f j))).slots.size : Int); rw [arrV_size]; omega)
            (by rw [nn dp h2, nn n h3]; show ¬ _ > ((arrV (w.2.2.1 0) m1 (fun j => .int (g j))).slots.size : Int); rw [arrV_size]; omega)
            (fun vm₁ _ i hi => by
              have e : (vp_cell (w.2.2.1 0) (m0, .inl f)).slots.getD (sp.toNatClampNeg + i) .null = .int (f (sp.toNatClampNeg + i)) := by
                show (arrV (w.2.2.1 0) m0 (fun j => .int (f j))).slots.getD _ _ = _
                rw [Array.getD_eq_getD_getElem?, arrV_read _ _ (by omega)]
                rfl
              refine ⟨?_, ?_⟩
              · rw [e]
                rfl
              · rw [e]
                exact trivial)
            (g := F0 m fr.1 ls (.int n :: .int dp :: .ref (w.1 + ds) :: .int sp :: .ref (w.1 + sr) :: r.map (ztv w))) rfl (by rw [hml]; exact hl.1) (rest := r.map (ztv w)) rfl (by rw [hb]; exact hd) (by omega) (by show 2 * 0 + _ + _ ≤ _; omega)
          have e1 : copied (vp_cell (w.2.2.1 0) (m0, .inl f)) (vp_cell (w.2.2.1 0) (m1, .inl g)) sp dp n = vp_cell (w.2.2.1 0) (m1, .inl (va_cpy f g sp.toNatClampNeg dp.toNatClampNeg n.toNatClampNeg)) := va_copied (fun z => .int z) (w.2.2.1 0) (w.2.2.1 0) f g h4
          rw [e1] at X' step
          have hl9 : w.1 + ds < H.size := (Array.getElem?_eq_some_iff.mp hcel1).1
          have hheap : ((T.setVm vm').setCell (w.1 + ds) (vp_cell (w.2.2.1 0) (m1, .inl (va_cpy f g sp.toNatClampNeg dp.toNatClampNeg n.toNatClampNeg)))).heap = H.setIfInBounds (w.1 + ds) (vp_cell (w.2.2.1 0) (m1, .inl (va_cpy f g sp.toNatClampNeg dp.toNatClampNeg n.toNatClampNeg))) := by rw [← hT]; rfl
          have oq : ∀ q : Nat, q ≠ w.1 + ds → (H.setIfInBounds (w.1 + ds) (vp_cell (w.2.2.1 0) (m1, .inl (va_cpy f g sp.toNatClampNeg dp.toNatClampNeg n.toNatClampNeg))))[q]? = H[q]? := fun q hq => by simp [Array.getElem?_setIfInBounds, Ne.symm hq]
          have hz9 : (H.setIfInBounds (w.1 + ds) (vp_cell (w.2.2.1 0) (m1, .inl (va_cpy f g sp.toNatClampNeg dp.toNatClampNeg n.toNatClampNeg)))).size = H.size := by simp
          obtain ⟨t, a1, b1⟩ := K _ _ ls (zHd_set (c := .inl (0, m1, .inl (va_cpy f g sp.toNatClampNeg dp.toNatClampNeg n.toNatClampNeg))) hH l3 hz9 oq (show (H.setIfInBounds (w.1 + ds) _)[w.1 + ds]? = some _ by simp [Array.getElem?_setIfInBounds, hl9])) ⟨by rw [hz9]; exact hS.1, fun q g1 g2 => by
              rw [oq q (fun e => g2 (by rw [e]; exact zA_in w ds))]
              exact hS.2.1 q g1 g2, fun q hq => by
              rcases List.mem_append.mp hq with h | h
              · exact hS.2.2 q h
              · obtain ⟨z, -, hz⟩ := List.mem_map.mp h
                rw [← hz]
                exact zA_in w ds⟩ hl _ hheap X'
          exact ⟨t, step t a1, b1⟩
        · cases h
      · cases h
    · cases h
  · cases h
theorem za_max (C : zCx w ev d y cc nL rt n0 nF p R s m args meth c) {i : Nat} (hd : decode cc fr.1 = .ok (.invokestatic i, 3)) (hI : zin (.methodLink y.cls i Lib.Math.max.name) = true) (h0 : n0 ≤ hp.1) (hF : hp.1 ≤ nF) (h : zMax fr hp = some (.inl (fr', hp'))) (K : zG w nL n0 p l e R s m args below meth c Q fr' hp') : zG w nL n0 p l e R s m args below meth c Q fr hp := by
  obtain ⟨hx, hb, hml, hrt, hown, hts, hlk, hini, hbs, hsp, hfr, hlo, hrc, hrs⟩ := C
  unfold zMax zn at h
  split at h
  · next y2 x r hst =>
    split at h
    · next h6 =>
      cases h
      intro H locs ls hH hS hl
      have hsum : ((r.map (ztv w)).map fun v => v.category).sum ≤ 8 := by rw [zmap_cat]; exact h6
      have r4 : zSL * (hp.1 - n0) ≤ zSL * (nF - n0) := Nat.mul_le_mul_left _ (by omega)
      rw [hst]
      exact va_mmax hx hb (by rw [hml]; exact hl.1.symm) hown (hts _ (zin_mem hI)) (hts _ (zin_mem zmm_1)) (hts _ (zin_mem zmm_3)) (hts _ zmm_4) (by omega) (by omega) (by omega) (by omega) hd (K H locs ls hH hS hl)
    · cases h
  · cases h
theorem za_min (C : zCx w ev d y cc nL rt n0 nF p R s m args meth c) {i : Nat} (hd : decode cc fr.1 = .ok (.invokestatic i, 3)) (hI : zin (.methodLink y.cls i Lib.Math.min.name) = true) (h0 : n0 ≤ hp.1) (hF : hp.1 ≤ nF) (h : zMin fr hp = some (.inl (fr', hp'))) (K : zG w nL n0 p l e R s m args below meth c Q fr' hp') : zG w nL n0 p l e R s m args below meth c Q fr hp := by
  obtain ⟨hx, hb, hml, hrt, hown, hts, hlk, hini, hbs, hsp, hfr, hlo, hrc, hrs⟩ := C
  unfold zMin zn at h
  split at h
  · next y2 x r hst =>
    split at h
    · next h6 =>
      cases h
      intro H locs ls hH hS hl
      have hsum : ((r.map (ztv w)).map fun v => v.category).sum ≤ 8 := by rw [zmap_cat]; exact h6
      have r4 : zSL * (hp.1 - n0) ≤ zSL * (nF - n0) := Nat.mul_le_mul_left _ (by omega)
      rw [hst]
      exact va_mmin hx hb (by rw [hml]; exact hl.1.symm) hown (hts _ (zin_mem hI)) (hts _ (zin_mem zmm_2)) (hts _ (zin_mem zmm_3)) (hts _ zmm_5) (by omega) (by omega) (by omega) (by omega) hd (K H locs ls hH hS hl)
    · cases h
  · cases h
theorem za_obj (C : zCx w ev d y cc nL rt n0 nF p R s m args meth c) {i : Nat} (hd : decode cc fr.1 = .ok (.invokespecial i, 3)) (hI : zin (.methodLink y.cls i objectInit) = true) (h : zObj fr hp = some (.inl (fr', hp'))) (K : zG w nL n0 p l e R s m args below meth c Q fr' hp') : zG w nL n0 p l e R s m args below meth c Q fr hp := by
  obtain ⟨hx, hb, hml, hrt, hown, hts, hlk, hini, hbs, hsp, hfr, hlo, hrc, hrs⟩ := C
  unfold zObj zn at h
  split at h
  · next ix r hst =>
    split at h
    · next h6 =>
      cases h
      intro H locs ls hH hS hl
      have hsum : ((r.map (ztv w)).map fun v => v.category).sum ≤ 8 := by rw [zmap_cat]; exact h6
      rw [hst]
      exact W.objInit hx hb hown (hts _ (zin_mem hI)) (hts _ (zin_mem zob_1)) (hts _ zob_2) rfl (by rw [hml]; exact hl.1) rfl hd (by omega) (by show 2 * 0 + _ + _ ≤ _; omega) (K H locs ls hH hS hl)
    · cases h
  · cases h
/-- behind a call -/
theorem zs_back {H : Heap} {locs : List Loc} {cells slots mc ms pc : Nat} {ls : Array Slot} {rest st0 : List Value} {r : Option Value} {a : Array Value} (hr : va_Run p l e R s m args below meth c H locs cells slots mc ms (F0 m pc ls st0) rest (zQc w r hp' a) (zA w)) (hS : va_S (zA w) s.heap H locs)
    (kk : ∀ (H1 : Heap) (locs1 : List Loc), zHd w hp' H1 → va_S (zA w) s.heap H1 locs1 → W p l e R s m args below meth c H1 locs1 (cells + mc) (slots + ms) Q (F0 m (pc + 3) ls ((r.map (ztv w)).toList ++ rest))) : W p l e R s m args below meth c H locs cells slots Q (F0 m pc ls st0) := by
  intro T hT X
  obtain ⟨v, st₀, t, T', L, h0, X', hL, e1, e2, ⟨hv, hh, hz, hk⟩, st⟩ := hr T hT X
  cases hv
  rw [h0] at hz hk
  obtain ⟨t2, a1, b1⟩ := kk T'.heap (locs ++ L) (by rw [e1]; exact hh)
    ⟨Nat.le_trans hS.1 (by rw [e1]; exact hz), fun q h1 h2 => by rw [e1, hk q (Nat.lt_of_lt_of_le h1 hS.1) h2]; exact hS.2.1 q h1 h2, fun q hq => by
      rcases List.mem_append.mp hq with h | h
      · exact hS.2.2 q h
      · exact hL q h⟩ T' rfl X'
  exact ⟨t2, st t2 a1, b1⟩
theorem zu_bk {x : Option zRe} {pc : Nat} {lv : List (Nat × Value)} {rest : List Value} {z : (zFr × zHp) ⊕ zRe} (h : zBk x pc lv rest = some z) : ∃ r h2, x = some (r, h2) ∧ z = .inl ((pc + 3, lv, r.toList ++ rest), h2) := by
  unfold zBk zn at h
  split at h
  · next r h2 => exact ⟨r, h2, rfl, (Option.some.inj h).symm⟩
  · cases h
theorem zret_map (w : zWd) (r : Option Value) (rest : List Value) : (r.toList ++ rest).map (ztv w) = (r.map (ztv w)).toList ++ rest.map (ztv w) := by
  cases r <;> simp
theorem zyk {mi : zMi} (h : zokY mi = true) : zin (.initialized mi.1.cls) = true ∧ (mi.1.cls ≠ "java/lang/invoke/MethodHandle" ∧ mi.1.cls ≠ "java/lang/invoke/VarHandle" ∧ (parseMethodDescriptor mi.1.desc).map (fun d => d.parameters.length) = some mi.2.2.2.2.1) ∧ plainName mi.1.cls = true ∧ mi.2.2.1 ≤ 41 ∧
    (mi.2.2.2.2.2 = 200 → zin (.static mi.1) = true) ∧ (¬ mi.2.2.2.2.2 = 200 → zin (.instanceMethod mi.1) = true ∧ ((mi.1.name = "<init>" ∧ mi.2.2.2.1 = none) ∨ (¬ mi.1.name = "<init>" ∧ zin (.selects mi.1.cls mi.1 mi.1) = true)) ∧ (mi.2.2.2.2.2 = 100 → mi.1.cls = "java/lang/String") ∧ (¬ mi.2.2.2.2.2 = 100 → (zcls[mi.2.2.2.2.2]?).map (fun c => c.1) = some mi.1.cls)) := by
  unfold zokY at h
  simp only [Bool.and_eq_true, decide_eq_true_eq] at h
  obtain ⟨⟨⟨⟨⟨h1, h2⟩, h3⟩, h4⟩, h5⟩, h6⟩ := h
  refine ⟨h1, ⟨h2.1, h2.2, h3⟩, h4, h5, fun q => ?_, fun q => ?_⟩
  · rw [if_pos q] at h6
    exact h6
  · rw [if_neg q] at h6
    simp only [Bool.and_eq_true, Bool.or_eq_true, decide_eq_true_eq, Bool.not_eq_true', decide_eq_false_iff_not] at h6
    refine ⟨h6.1.1, h6.1.2, fun z => ?_, fun z => ?_⟩
    · have h7 := h6.2
      rw [if_pos z] at h7
      exact of_decide_eq_true h7
    · have h7 := h6.2
      rw [if_neg z] at h7
      exact of_decide_eq_true h7
theorem zroom2 (h0 : n0 ≤ hp.1) (h1 : hp.1 ≤ hp'.1) : hp.1 - n0 + (hp'.1 - hp.1) = hp'.1 - n0 ∧ zSL * (hp.1 - n0) + zSL * (hp'.1 - hp.1) = zSL * (hp'.1 - n0) := by
  refine ⟨by omega, ?_⟩
  rw [← Nat.mul_add]
  congr 1
  omega
theorem zar_of {k : Nat} {mi : zMi} (h : zg zml k = some mi) : zar k = (mi.2.2.2.2.1, mi.2.2.2.2.2) := by
  unfold zar
  rw [h]
theorem ztd (st : List Value) (n : Nat) {rest : List Value} {q : Value} (h : st.drop n = q :: rest) : st = (st.take n).reverse.reverse ++ q :: rest := by
  rw [List.reverse_reverse, ← h, List.take_append_drop]
theorem za_call (C : zCx w ev d y cc nL rt n0 nF p R s m args meth c) {call : zCa} (ok : zOK w d call) {i k : Nat} (hd : decode cc fr.1 = .ok (.invokevirtual i, 3)) (hI : zok_v y i k = true) (h0 : n0 ≤ hp.1) (hF : hp'.1 ≤ nF) (h : zCall call k (zar k).1 (zar k).2 fr hp = some (.inl (fr', hp'))) (K : zG w nL n0 p l e R s m args below meth c Q fr' hp') : zG w nL n0 p l e R s m args below meth c Q fr hp := by
  obtain ⟨hx, hb, hml, hrt, hown, hts, hlk, hini, hbs, hsp, hfr, hlo, hrc, hrs⟩ := C
  unfold zCall at h
  split at h
  · next ix rest hst =>
    split at h
    · next hc =>
      obtain ⟨r, h2, hcall, hz⟩ := zu_bk h
      cases hz
      obtain ⟨hmono, mi, hmi, hM⟩ := ok _ _ _ _ _ hcall
      obtain ⟨hy, hcode⟩ := zy_all k mi hmi
      obtain ⟨y1, y2, y3, y4, y5, y6⟩ := zyk hy
      unfold zok_v at hI
      rw [hmi] at hI
      simp only [Bool.and_eq_true, decide_eq_true_eq, Bool.not_eq_true', decide_eq_false_iff_not] at hI
      have hk200 : ¬ mi.2.2.2.2.2 = 200 := by omega
      obtain ⟨z1, z2, z3, z4⟩ := y6 hk200
      have hsel : zin (.selects mi.1.cls mi.1 mi.1) = true := by
        rcases z2 with q | q
        · exact absurd q.1 hI.2
        · exact q.2
      rw [zar_of hmi] at hc hst hcall hM
      intro H locs ls hH hS hl
      have hsum : ((rest.map (ztv w)).map fun v => v.category).sum ≤ 8 := by rw [zmap_cat]; exact hc.2.2
      obtain ⟨e1, e2⟩ := zroom2 h0 hmono
      have r4 : zSL * (hp'.1 - n0) ≤ zSL * (nF - n0) := Nat.mul_le_mul_left _ (by omega)
      have hcw : GoodIn zTw (wsV y.cls i mi.1.cls mi.1 (zwk mi)) := zgood (fun q hq => by
        unfold wsV zwk at hq
        simp only [List.cons_append, List.nil_append, List.mem_cons] at hq
        rcases hq with rfl | rfl | rfl | rfl | rfl | hq
        · exact zin_mem hI.1.1
        · exact zin_mem z1
        · exact zin_mem hsel
        · exact zin_mem y1
        · exact hcode
        · exact hq)
      have hrecv : ∃ cellB : Cell, H[zta w ix]? = some cellB ∧ cellB.vm.isStatics = false ∧ s.vm.findClass mi.1.cls = some cellB.cls := by
        have hkd := hc.2.1
        unfold zKd at hkd
        split at hkd
        · next q1 =>
          split at hkd
          · next q2 =>
            split at hkd
            · next ci fs hcell =>
              have hci := Option.some.inj hkd
              rw [zta_lo q1]
              have hcv := zHd_cell hH q2
              rw [hcell] at hcv
              obtain ⟨r', hr', cellV, g1, g2, g3, -⟩ := hcv
              have hr2 : zcls[ci]? = some r' := hr'
              refine ⟨cellV, g1, by rw [g3]; rfl, ?_⟩
              rw [g2]
              have h9 := (hsp.1.1 ci r' hr2).2.1
              have h100 : ¬ mi.2.2.2.2.2 = 100 := by
                intro q
                have q9 : ci = 100 := by rw [hci]; exact q
                rw [q9] at hr2
                cases hr2
              have h8 := z4 h100
              have hci2 : ci = mi.2.2.2.2.2 := hci
              rw [← hci2, hr2] at h8
              rw [← Option.some.inj h8]
              exact h9
            · cases hkd
          · cases hkd
        · next q1 =>
          split at hkd
          · next q2 =>
            have hci : 100 = mi.2.2.2.2.2 := Option.some.inj hkd
            obtain ⟨j, hj, rfl⟩ := zs_id q2
            rw [zs_e1]
            obtain ⟨cell, g1, g2, g3, -⟩ := (hsp.2.2.1 j hj).1.kept hS.2.1
            rw [z3 hci.symm]
            exact ⟨cell, g1, g2, g3⟩
          · cases hkd
      have hst2 := ztd fr.2.2 mi.2.2.2.2.1 hst
      have k := fun H1 locs1 a1 a2 => K H1 locs1 ls a1 a2 hl
      have run := va_runV (R := R) (p := p) (e := e) (below := below) (meth := meth) (H := H) (locs := locs) (cells := hp.1 - n0) (slots := zSL * (hp.1 - n0)) (As := ((fr.2.2.take mi.2.2.2.2.1).reverse.map (ztv w))) (rest := rest.map (ztv w)) (b := zta w ix) (g := F0 m fr.1 ls (fr.2.2.map (ztv w))) ⟨hx, hb, hml, hown, hts⟩ (hM l) (cwV mi.2.2.2.2.1 hts hcw rfl rfl rfl ⟨rfl, y2⟩ ⟨by show d + 1 ≤ _; exact hfr, by show 8 + (mi.2.2.1 + 11) + 60 * d ≤ _; omega⟩)
        ⟨zPc_blind w _ hp, hrecv, fun U hU hW => ⟨rfl, by rw [hU]; exact hH, zSp.go hsp hW (fun a h1 h2 => by rw [hU]; exact hS.2.1 a h1 h2)⟩⟩ rfl (by rw [List.length_map, List.length_reverse]; exact hc.1) hl.1
        (by
          show fr.2.2.map (ztv w) = _
          rw [← List.map_reverse]
          conv => lhs; rw [hst2]
          rw [List.map_append]
          rfl) (lv_room hsum) hd ⟨by rw [e1]; omega, by rw [e2]; omega⟩
      refine zs_back run hS (fun H1 locs1 a1 a2 => ?_)
      rw [e1, e2]
      have k2 := k H1 locs1 a1 a2
      rw [zret_map] at k2
      exact k2
    · cases h
  · cases h
theorem za_calS (C : zCx w ev d y cc nL rt n0 nF p R s m args meth c) {call : zCa} (ok : zOK w d call) {i k : Nat} (hd : decode cc fr.1 = .ok (.invokestatic i, 3)) (hI : zok_s y i k = true) (h0 : n0 ≤ hp.1) (hF : hp'.1 ≤ nF) (h : zCalS call k (zar k).1 fr hp = some (.inl (fr', hp'))) (K : zG w nL n0 p l e R s m args below meth c Q fr' hp') : zG w nL n0 p l e R s m args below meth c Q fr hp := by
  obtain ⟨hx, hb, hml, hrt, hown, hts, hlk, hini, hbs, hsp, hfr, hlo, hrc, hrs⟩ := C
  unfold zCalS at h
  split at h
  · next hc =>
    obtain ⟨r, h2, hcall, hz⟩ := zu_bk h
    cases hz
    obtain ⟨hmono, mi, hmi, hM⟩ := ok _ _ _ _ _ hcall
    obtain ⟨hy, hcode⟩ := zy_all k mi hmi
    obtain ⟨y1, y2, y3, y4, y5, y6⟩ := zyk hy
    unfold zok_s at hI
    rw [hmi] at hI
    simp only [Bool.and_eq_true, decide_eq_true_eq] at hI
    have hsta := y5 hI.2
    rw [zar_of hmi] at hc hcall hM K
    intro H locs ls hH hS hl
    have hsum : (((fr.2.2.drop mi.2.2.2.2.1).map (ztv w)).map fun v => v.category).sum ≤ 8 := by rw [zmap_cat]; exact hc.2
    obtain ⟨e1, e2⟩ := zroom2 h0 hmono
    have r4 : zSL * (hp'.1 - n0) ≤ zSL * (nF - n0) := Nat.mul_le_mul_left _ (by omega)
    have hcw : GoodIn zTw (va_wsS y.cls i mi.1 (zwk mi)) := zgood (fun q hq => by
      unfold va_wsS zwk at hq
      simp only [List.cons_append, List.nil_append, List.mem_cons] at hq
      rcases hq with rfl | rfl | rfl | rfl | hq
      · exact zin_mem hI.1
      · exact zin_mem hsta
      · exact zin_mem y1
      · exact hcode
      · exact hq)
    have run := va_runS (R := R) (p := p) (e := e) (below := below) (meth := meth) (H := H) (locs := locs) (cells := hp.1 - n0) (slots := zSL * (hp.1 - n0)) (As := ((fr.2.2.take mi.2.2.2.2.1).reverse.map (ztv w))) (rest := (fr.2.2.drop mi.2.2.2.2.1).map (ztv w)) (g := F0 m fr.1 ls (fr.2.2.map (ztv w))) ⟨hx, hb, hml, hown, hts⟩ (hM l) (va_cwS mi.2.2.2.2.1 hts hcw rfl rfl rfl y2 ⟨by show d + 1 ≤ _; exact hfr, by show 8 + (mi.2.2.1 + 11) + 60 * d ≤ _; omega⟩)
      ⟨zPc_blind w _ hp, fun U hU hW => ⟨rfl, by rw [hU]; exact hH, zSp.go hsp hW (fun a h1 h2 => by rw [hU]; exact hS.2.1 a h1 h2)⟩⟩ rfl (by rw [List.length_map, List.length_reverse]; exact hc.1) hl.1
      (by
        show fr.2.2.map (ztv w) = _
        rw [← List.map_reverse, List.reverse_reverse, ← List.map_append, List.take_append_drop]) (lv_room hsum) hd ⟨by rw [e1]; omega, by rw [e2]; omega⟩
    refine zs_back run hS (fun H1 locs1 a1 a2 => ?_)
    rw [e1, e2]
    have k2 := K H1 locs1 ls a1 a2 hl
    rw [zret_map] at k2
    exact k2
  · cases h
theorem za_calI (C : zCx w ev d y cc nL rt n0 nF p R s m args meth c) {call : zCa} (ok : zOK w d call) {i k b : Nat} (hd : decode cc fr.1 = .ok (.invokespecial i, 3)) (hI : zok_i y i k b = true) (h0 : n0 ≤ hp.1) (hF : hp'.1 ≤ nF) (h : zCalI call k (zar k).1 fr hp = some (.inl (fr', hp'))) (K : zG w nL n0 p l e R s m args below meth c Q fr' hp') : zG w nL n0 p l e R s m args below meth c Q fr hp := by
  obtain ⟨hx, hb, hml, hrt, hown, hts, hlk, hini, hbs, hsp, hfr, hlo, hrc, hrs⟩ := C
  unfold zCalI at h
  split at h
  · next ix rest hst =>
    split at h
    · next hc =>
      obtain ⟨r, h2, hcall, hz⟩ := zu_bk h
      cases hz
      obtain ⟨hmono, mi, hmi, hM⟩ := ok _ _ _ _ _ hcall
      obtain ⟨hy, hcode⟩ := zy_all k mi hmi
      obtain ⟨y1, y2, y3, y4, y5, y6⟩ := zyk hy
      unfold zok_i at hI
      rw [hmi] at hI
      simp only [Bool.and_eq_true, decide_eq_true_eq] at hI
      obtain ⟨⟨hI1, hI2⟩, hI3⟩ := hI
      have hk200 : ¬ mi.2.2.2.2.2 = 200 := by omega
      obtain ⟨z1, z2, z3, z4⟩ := y6 hk200
      have hret : mi.2.2.2.1 = none := by
        rcases z2 with q | q
        · exact q.2
        · exact absurd hI3 q.1
      rw [zar_of hmi] at hc hst hcall hM
      intro H locs ls hH hS hl
      have hsum : ((rest.map (ztv w)).map fun v => v.category).sum ≤ 8 := by rw [zmap_cat]; exact hc.2.2
      obtain ⟨e1, e2⟩ := zroom2 h0 hmono
      have r4 : zSL * (hp'.1 - n0) ≤ zSL * (nF - n0) := Nat.mul_le_mul_left _ (by omega)
      have hgd : GoodIn zTw (zwk mi) := zgood (fun q hq => by
        unfold zwk at hq
        rcases List.mem_cons.mp hq with rfl | hq
        · exact hcode
        · exact hq)
      have hwk : zwk mi = Cond.code mi.1 mi.2.1 mi.2.2.1 none :: zTw := by unfold zwk; rw [hret]
      have hst2 := ztd fr.2.2 mi.2.2.2.2.1 hst
      have hPre : PreS s H (zPc w (.ref ix :: (fr.2.2.take mi.2.2.2.2.1).reverse) hp) (.ref (zta w ix) :: ((fr.2.2.take mi.2.2.2.2.1).reverse.map (ztv w))) := ⟨zPc_blind w _ hp, fun U hU hW => ⟨rfl, by rw [hU]; exact hH, zSp.go hsp hW (fun a h1 h2 => by rw [hU]; exact hS.2.1 a h1 h2)⟩⟩
      have hstk : (F0 m fr.1 ls (fr.2.2.map (ztv w))).stack = ((fr.2.2.take mi.2.2.2.2.1).reverse.map (ztv w)).reverse ++ .ref (zta w ix) :: rest.map (ztv w) := by
        show fr.2.2.map (ztv w) = _
        rw [← List.map_reverse]
        conv => lhs; rw [hst2]
        rw [List.map_append]
        rfl
      have hroom : ({ frames := d, cells := hp'.1 - hp.1, slots := zSL * (hp'.1 - hp.1), locals := 60 * d } : Room).frames + 1 ≤ R.frames ∧ 8 + (mi.2.2.1 + 11) + ({ frames := d, cells := hp'.1 - hp.1, slots := zSL * (hp'.1 - hp.1), locals := 60 * d } : Room).locals ≤ R.locals := ⟨hfr, by show 8 + (mi.2.2.1 + 11) + 60 * d ≤ _; omega⟩
      have run : va_Run p l e R s m args below meth c H locs (hp.1 - n0) (zSL * (hp.1 - n0)) (hp'.1 - hp.1) (zSL * (hp'.1 - hp.1)) (F0 m fr.1 ls (fr.2.2.map (ztv w))) (rest.map (ztv w)) (zQc w r hp' (Value.ref (zta w ix) :: ((fr.2.2.take mi.2.2.2.2.1).reverse.map (ztv w))).toArray) (zA w) := by
        by_cases hb1 : b = 1
        · rw [if_pos hb1] at hI1
          exact va_runI ⟨hx, hb, hml, hown, hts⟩ (hM l) (cwI mi.2.2.2.2.1 hts hgd hwk rfl rfl (hts _ (zin_mem y1)) (hts _ (zin_mem hI1)) (hts _ (zin_mem z1)) hI3 y2 hroom) hPre rfl (by rw [List.length_map, List.length_reverse]; exact hc.1) hl.1 hstk (lv_room hsum) hd ⟨by rw [e1]; omega, by rw [e2]; omega⟩
        · rw [if_neg hb1] at hI1
          have hN := hsp.2.2.2.2.1 _ (of_decide_eq_true hI1)
          exact va_runIN ⟨hx, hb, hml, hown, hts⟩ (hM l) ⟨va_cnB mi.2.2.2.2.1 hts hgd hwk rfl rfl hN (hts _ (zin_mem y1)) y2 hroom, hI3, hts _ (zin_mem z1)⟩ hPre rfl (by rw [List.length_map, List.length_reverse]; exact hc.1) hl.1 hstk (lv_room hsum) hd ⟨by rw [e1]; omega, by rw [e2]; omega⟩
      refine zs_back run hS (fun H1 locs1 a1 a2 => ?_)
      rw [e1, e2]
      have k2 := K H1 locs1 ls a1 a2 hl
      rw [zret_map] at k2
      exact k2
    · cases h
  · cases h
end ZCAL
