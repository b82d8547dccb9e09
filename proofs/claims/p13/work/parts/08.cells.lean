/-! what the tables say of the kinds of objects -/
theorem zki0 : (u_ws zR0 zT0 11).all zin = true := all_q (fun _ => zinq_in) (by decide +kernel)
theorem zkt0 : ∀ j, j < 11 → parseFieldDescriptor (zT0 j).2.2.1 = some (zty0 j) := by decide +kernel
theorem zkn0 : ∀ a, a < 11 → ∀ b, b < 11 → a ≠ b → (zT0 a).2.1 ≠ (zT0 b).2.1 := by decide +kernel
theorem zkd0 : ∀ j, j < 11 → defaultValue (zty0 j) = vp_V zdf0 j := by decide +kernel
theorem zki1 : (u_ws zR1 zT1 1).all zin = true := all_q (fun _ => zinq_in) (by decide +kernel)
theorem zkt1 : ∀ j, j < 1 → parseFieldDescriptor (zT1 j).2.2.1 = some (zty1 j) := by decide +kernel
theorem zkn1 : ∀ a, a < 1 → ∀ b, b < 1 → a ≠ b → (zT1 a).2.1 ≠ (zT1 b).2.1 := by decide +kernel
theorem zkd1 : ∀ j, j < 1 → defaultValue (zty1 j) = vp_V zdf1 j := by decide +kernel
theorem zki2 : (u_ws zR2 zT2 3).all zin = true := all_q (fun _ => zinq_in) (by decide +kernel)
theorem zkt2 : ∀ j, j < 3 → parseFieldDescriptor (zT2 j).2.2.1 = some (zty2 j) := by decide +kernel
theorem zkn2 : ∀ a, a < 3 → ∀ b, b < 3 → a ≠ b → (zT2 a).2.1 ≠ (zT2 b).2.1 := by decide +kernel
theorem zkd2 : ∀ j, j < 3 → defaultValue (zty2 j) = vp_V zdf2 j := by decide +kernel
theorem zki3 : (u_ws zR3 zT3 5).all zin = true := all_q (fun _ => zinq_in) (by decide +kernel)
theorem zkt3 : ∀ j, j < 5 → parseFieldDescriptor (zT3 j).2.2.1 = some (zty3 j) := by decide +kernel
theorem zkn3 : ∀ a, a < 5 → ∀ b, b < 5 → a ≠ b → (zT3 a).2.1 ≠ (zT3 b).2.1 := by decide +kernel
theorem zkd3 : ∀ j, j < 5 → defaultValue (zty3 j) = vp_V zdf3 j := by decide +kernel
theorem zki4 : (u_ws zR4 zT4 2).all zin = true := all_q (fun _ => zinq_in) (by decide +kernel)
theorem zkt4 : ∀ j, j < 2 → parseFieldDescriptor (zT4 j).2.2.1 = some (zty4 j) := by decide +kernel
theorem zkn4 : ∀ a, a < 2 → ∀ b, b < 2 → a ≠ b → (zT4 a).2.1 ≠ (zT4 b).2.1 := by decide +kernel
theorem zkd4 : ∀ j, j < 2 → defaultValue (zty4 j) = vp_V zdf4 j := by decide +kernel
theorem zki5 : (u_ws zR5 zT5 10).all zin = true := all_q (fun _ => zinq_in) (by decide +kernel)
theorem zkt5 : ∀ j, j < 10 → parseFieldDescriptor (zT5 j).2.2.1 = some (zty5 j) := by decide +kernel
theorem zkn5 : ∀ a, a < 10 → ∀ b, b < 10 → a ≠ b → (zT5 a).2.1 ≠ (zT5 b).2.1 := by decide +kernel
theorem zkd5 : ∀ j, j < 10 → defaultValue (zty5 j) = vp_V zdf5 j := by decide +kernel
theorem zki6 : (u_ws zR6 zT6 5).all zin = true := all_q (fun _ => zinq_in) (by decide +kernel)
theorem zkt6 : ∀ j, j < 5 → parseFieldDescriptor (zT6 j).2.2.1 = some (zty6 j) := by decide +kernel
theorem zkn6 : ∀ a, a < 5 → ∀ b, b < 5 → a ≠ b → (zT6 a).2.1 ≠ (zT6 b).2.1 := by decide +kernel
theorem zkd6 : ∀ j, j < 5 → defaultValue (zty6 j) = vp_V zdf6 j := by decide +kernel
theorem zki7 : (u_ws zR7 zT7 3).all zin = true := all_q (fun _ => zinq_in) (by decide +kernel)
theorem zkt7 : ∀ j, j < 3 → parseFieldDescriptor (zT7 j).2.2.1 = some (zty7 j) := by decide +kernel
theorem zkn7 : ∀ a, a < 3 → ∀ b, b < 3 → a ≠ b → (zT7 a).2.1 ≠ (zT7 b).2.1 := by decide +kernel
theorem zkd7 : ∀ j, j < 3 → defaultValue (zty7 j) = vp_V zdf7 j := by decide +kernel
theorem zki8 : (u_ws zR8 zT8 1).all zin = true := all_q (fun _ => zinq_in) (by decide +kernel)
theorem zkt8 : ∀ j, j < 1 → parseFieldDescriptor (zT8 j).2.2.1 = some (zty8 j) := by decide +kernel
theorem zkn8 : ∀ a, a < 1 → ∀ b, b < 1 → a ≠ b → (zT8 a).2.1 ≠ (zT8 b).2.1 := by decide +kernel
theorem zkd8 : ∀ j, j < 1 → defaultValue (zty8 j) = vp_V zdf8 j := by decide +kernel
theorem zki9 : (u_ws zR9 zT9 1).all zin = true := all_q (fun _ => zinq_in) (by decide +kernel)
theorem zkt9 : ∀ j, j < 1 → parseFieldDescriptor (zT9 j).2.2.1 = some (zty9 j) := by decide +kernel
theorem zkn9 : ∀ a, a < 1 → ∀ b, b < 1 → a ≠ b → (zT9 a).2.1 ≠ (zT9 b).2.1 := by decide +kernel
theorem zkd9 : ∀ j, j < 1 → defaultValue (zty9 j) = vp_V zdf9 j := by decide +kernel
theorem zki10 : (u_ws zR10 zT10 17).all zin = true := all_q (fun _ => zinq_in) (by decide +kernel)
theorem zkt10 : ∀ j, j < 17 → parseFieldDescriptor (zT10 j).2.2.1 = some (zty10 j) := by decide +kernel
theorem zkn10 : ∀ a, a < 17 → ∀ b, b < 17 → a ≠ b → (zT10 a).2.1 ≠ (zT10 b).2.1 := by decide +kernel
theorem zkd10 : ∀ j, j < 17 → defaultValue (zty10 j) = vp_V zdf10 j := by decide +kernel
theorem zki11 : (u_ws zR11 zT11 39).all zin = true := all_q (fun _ => zinq_in) (by decide +kernel)
theorem zkt11 : ∀ j, j < 39 → parseFieldDescriptor (zT11 j).2.2.1 = some (zty11 j) := by decide +kernel
theorem zkn11 : ∀ a, a < 39 → ∀ b, b < 39 → a ≠ b → (zT11 a).2.1 ≠ (zT11 b).2.1 := by decide +kernel
theorem zkd11 : ∀ j, j < 39 → defaultValue (zty11 j) = vp_V zdf11 j := by decide +kernel
theorem zk_in {ws : List Cond} (h : ws.all zin = true) : ∀ q ∈ ws, q ∈ zTw := fun q hq => zin_mem (List.all_eq_true.mp h q hq)
def zkAll (a : Nat) (q : vw_C) : Prop := (∀ x ∈ u_ws q.1 q.2.1 q.2.2, x ∈ zTw) ∧ (∀ j, j < q.2.2 → parseFieldDescriptor (q.2.1 j).2.2.1 = some (ztyp a j)) ∧ (∀ i, i < q.2.2 → ∀ j, j < q.2.2 → i ≠ j → (q.2.1 i).2.1 ≠ (q.2.1 j).2.1) ∧ (∀ j, j < q.2.2 → defaultValue (ztyp a j) = vp_V (zbirth a) j) ∧ (∀ w : zWd, (zbirth a).map (ztv w) = zbirth a) ∧ q.2.2 ≤ 39
theorem zk_all : ∀ {a : Nat} {q : vw_C}, zcls[a]? = some q → zkAll a q
  | 0, _, h => by cases h; exact ⟨zk_in zki0, zkt0, zkn0, zkd0, fun _ => rfl, by decide⟩
  | 1, _, h => by cases h; exact ⟨zk_in zki1, zkt1, zkn1, zkd1, fun _ => rfl, by decide⟩
  | 2, _, h => by cases h; exact ⟨zk_in zki2, zkt2, zkn2, zkd2, fun _ => rfl, by decide⟩
  | 3, _, h => by cases h; exact ⟨zk_in zki3, zkt3, zkn3, zkd3, fun _ => rfl, by decide⟩
  | 4, _, h => by cases h; exact ⟨zk_in zki4, zkt4, zkn4, zkd4, fun _ => rfl, by decide⟩
  | 5, _, h => by cases h; exact ⟨zk_in zki5, zkt5, zkn5, zkd5, fun _ => rfl, by decide⟩
  | 6, _, h => by cases h; exact ⟨zk_in zki6, zkt6, zkn6, zkd6, fun _ => rfl, by decide⟩
  | 7, _, h => by cases h; exact ⟨zk_in zki7, zkt7, zkn7, zkd7, fun _ => rfl, by decide⟩
  | 8, _, h => by cases h; exact ⟨zk_in zki8, zkt8, zkn8, zkd8, fun _ => rfl, by decide⟩
  | 9, _, h => by cases h; exact ⟨zk_in zki9, zkt9, zkn9, zkd9, fun _ => rfl, by decide⟩
  | 10, _, h => by cases h; exact ⟨zk_in zki10, zkt10, zkn10, zkd10, fun _ => rfl, by decide⟩
  | 11, _, h => by cases h; exact ⟨zk_in zki11, zkt11, zkn11, zkd11, fun _ => rfl, by decide⟩
  | n + 12, _, h => by cases h
theorem zHd_set {w : zWd} {hp : zHp} {H H1 : Heap} {i : Nat} {c : zCl} (h : zHd w hp H) (hi : i < hp.1) (z : H1.size = H.size) (o : ∀ q, q ≠ w.1 + i → H1[q]? = H[q]?) (hc : va_at w.2.2.2.1 zcls (w.1 + i, ztc w c) H1) : zHd w (hp.1, zup hp.2 i c) H1 :=
  ⟨z.trans h.1, by rw [← zwl_set c hi]; exact h.2.set (zwl_D w hp) (zwl_get hi) hc o⟩
theorem zs_id {ix : Nat} (h : zSC + 1 ≤ ix ∧ ix < zSC + 7) : ∃ j : Nat, j < 6 ∧ ix = zSC + (1 + j) := ⟨ix - 1001, by have h1 : 1001 ≤ ix := h.1; have h2 : ix < 1007 := h.2; omega, by have h1 : 1001 ≤ ix := h.1; show ix = 1000 + (1 + (ix - 1001)); omega⟩
theorem zs_e1 (w : zWd) (j : Nat) : zta w (zSC + (1 + j)) = w.2.1 (1 + j) := by
  rw [zta_hi w (show ¬ (1000 + (1 + j) : Nat) < 1000 by omega), Nat.add_sub_cancel_left]
theorem zs_e2 (w : zWd) (j : Nat) : zta w (zSC + (1 + j) + 19) = w.2.1 (20 + j) := by
  rw [zta_hi w (show ¬ (1000 + (1 + j) + 19 : Nat) < 1000 by omega), show zSC + (1 + j) + 19 - zSC = 20 + j by show (1000 + (1 + j) + 19 - 1000 : Nat) = 20 + j; omega]
theorem zA_in (w : zWd) (i : Nat) : zA w (w.1 + i) := Nat.le_add_right _ _
theorem ztv_rf (w : zWd) (r : Option Nat) : ztv w (va_rf r) = va_rf (r.map (zta w)) := by cases r <;> rfl
theorem zfit_ok {w : zWd} {ty : FieldType} {v : Value} (h : zfit ty v = true) : narrow ty (ztv w v) = ztv w v ∧ fits ty (ztv w v) = true := by
  cases ty <;> cases v <;> first | (cases h; done) | exact ⟨rfl, rfl⟩
section ZCEL
variable {p : Program} {l : Launch} {e : Env} {R : Room} {s : State} {m : MethodId} {args : Array Value} {below : List Frame} {meth : Method} {c : Code} {Q : State → Prop} {w : zWd} {ev : zEv} {d : Nat} {y : MethodName} {cc : ByteArray} {nL : Nat} {rt : Option FieldType} {n0 nF : Nat} {fr fr' : zFr} {hp hp' : zHp}
theorem za_getf (C : zCx w ev d y cc nL rt n0 nF p R s m args meth c) {i a b : Nat} (hd : decode cc fr.1 = .ok (.getfield i, 3)) (hI : (if a = 100 then (if b = 0 then zin (.fieldLink y.cls i "java/lang/String" "value" "[B") else zin (.fieldLink y.cls i "java/lang/String" "coder" "B")) else zok_f y i a b) = true) (h : zGetf a b fr hp = some (.inl (fr', hp'))) (K : zG w nL n0 p l e R s m args below meth c Q fr' hp') : zG w nL n0 p l e R s m args below meth c Q fr hp := by
  obtain ⟨hx, hb, hml, hrt, hown, hts, hlk, hini, hbs, hsp, hfr, hlo, hrc, hrs⟩ := C
  unfold zGetf zn at h
  split at h
  · next ix r hst =>
    split at h
    · next ha =>
      rw [if_pos ha] at hI
      split at h
      · next hr =>
        obtain ⟨j, hj, rfl⟩ := zs_id hr
        obtain ⟨-, hco, hva⟩ := hsp.2.2.1 j hj
        have e1 := zs_e1 w j
        split at h
        · next hb0 =>
          rw [if_pos hb0] at hI
          cases h
          intro H locs ls hH hS hl
          have k := K H locs ls hH hS hl
          have e2 := zs_e2 w j
          rw [hst]
          show W p l e R s m args below meth c H locs _ _ Q (F0 m fr.1 ls (.ref (zta w (zSC + (1 + j))) :: r.map (ztv w)))
          rw [e1]
          refine vk_getf hx hb hva hS hown (hts _ (zin_mem hI)) (fun _ q => q) hd ?_
          rw [← e2]
          exact k
        · next hb0 =>
          rw [if_neg hb0] at hI
          cases h
          intro H locs ls hH hS hl
          have k := K H locs ls hH hS hl
          rw [hst]
          show W p l e R s m args below meth c H locs _ _ Q (F0 m fr.1 ls (.ref (zta w (zSC + (1 + j))) :: r.map (ztv w)))
          rw [e1]
          exact vk_getf hx hb hco hS hown (hts _ (zin_mem hI)) (fun _ q => q) hd k
      · cases h
    · next ha =>
      rw [if_neg ha] at hI
      split at h
      · next hr =>
        split at h
        · next ci fs hc =>
          split at h
          · next hci =>
            subst hci
            split at h
            · next v hv =>
              cases h
              intro H locs ls hH hS hl
              have k := K H locs ls hH hS hl
              unfold zok_f at hI
              split at hI
              · next cq hcq =>
                simp only [Bool.and_eq_true, decide_eq_true_eq] at hI
                have hcell : (zwl w hp)[ix]? = some (w.1 + ix, .inr (ci, fs.map (ztv w))) := by rw [zwl_get hr.1, hc]; rfl
                rw [hst]
                show W p l e R s m args below meth c H locs _ _ Q (F0 m fr.1 ls (.ref (zta w ix) :: r.map (ztv w)))
                rw [zta_lo hr.2]
                exact va_get (D := w.2.2.2.1) (ci := ci) (C := cq.1) (T := cq.2.1) (N := cq.2.2) hx hb hts (zk_all hcq).1 hown hsp.1 hH.2 ix hcell hcq b hI.1 (hts _ (zin_mem hI.2)) (fun _ q => q) (v := ztv w v) (by rw [List.getElem?_map, hv]; rfl) hd k
              · cases hI
            · cases h
          · cases h
        · cases h
      · cases h
  · cases h
theorem za_putf (C : zCx w ev d y cc nL rt n0 nF p R s m args meth c) {i a b : Nat} (hd : decode cc fr.1 = .ok (.putfield i, 3)) (hI : (zok_f y i a b && zok_p y a b) = true) (h : zPutf (ztyp a b) a b fr hp = some (.inl (fr', hp'))) (K : zG w nL n0 p l e R s m args below meth c Q fr' hp') : zG w nL n0 p l e R s m args below meth c Q fr hp := by
  obtain ⟨hx, hb, hml, hrt, hown, hts, hlk, hini, hbs, hsp, hfr, hlo, hrc, hrs⟩ := C
  unfold zPutf zn at h
  split at h
  · next v ix r hst =>
    split at h
    · next hr =>
      split at h
      · next ci fs hc =>
        split at h
        · next hci =>
          obtain ⟨rfl, hlen⟩ := hci
          cases h
          intro H locs ls hH hS hl
          simp only [Bool.and_eq_true] at hI
          obtain ⟨hI1, hI2⟩ := hI
          unfold zok_f at hI1
          unfold zok_p at hI2
          cases hcq : zcls[ci]? with
          | none => rw [hcq] at hI1; cases hI1
          | some cq =>
            rw [hcq] at hI1 hI2
            simp only [Bool.and_eq_true, decide_eq_true_eq, Bool.or_eq_true, Bool.not_eq_true'] at hI1 hI2
            obtain ⟨hbN, hlk2⟩ := hI1
            obtain ⟨hin, hty, hnm, -⟩ := zk_all hcq
            have hn := (zfit_ok (w := w) hr.2.2).1
            have hfit := (zfit_ok (w := w) hr.2.2).2
            have hK := hsp.1
            have hap := va_apart (own := y.cls) (D := w.2.2.2.1) (ci := ci) (C := cq.1) (T := cq.2.1) (N := cq.2.2) hts hin (ztyp ci) hty hnm hK hcq
            have hcel := zHd_cell hH hr.1
            rw [hc] at hcel
            obtain ⟨r', h1, cell, q1, q2, q3, q4⟩ := hcel
            have hr' : r' = cq := Option.some.inj (h1.symm.trans hcq)
            subst hr'
            obtain ⟨hSl, hfc, kC, hkC, hkind⟩ := hK.1 ci _ hcq
            obtain ⟨cf, kf, fi, f, hi, hsl⟩ := hSl b hbN
            have hlay := hts _ (hin _ (u_in_lay hbN))
            have hst2 := (u_facts hfc hkC (u_lays hts hin hbN) hi).1
            rw [hst]
            show W p l e R s m args below meth c H locs _ _ Q (F0 m fr.1 ls (ztv w v :: .ref (zta w ix) :: r.map (ztv w)))
            rw [zta_lo hr.2.1]
            have key : ∀ H' : Heap, H'[w.1 + ix]? = some (cell.setSlot f.slot (ztv w v)) → H'.size = H.size → (∀ q, q ≠ w.1 + ix → H'[q]? = H[q]?) → W p l e R s m args below meth c H' (locs ++ [⟨w.1 + ix, f.slot⟩]) (hp.1 - n0) (zSL * (hp.1 - n0)) Q (F0 m (fr.1 + 3) ls (r.map (ztv w))) := by
              intro H' e1 e2 e3
              rw [hsl] at e1 ⊢
              refine K H' _ ls (zHd_set hH hr.1 e2 e3 ?_) (hS.put e2 e3 (zA_in w ix)) hl
              show ∃ r : vw_C, zcls[ci]? = some r ∧ t_OB (w.1 + ix) (w.2.2.2.1.1 ci) r.2.2 (w.2.2.2.1.2 ci) H' (vp_V ((fs.set b v).map (ztv w)))
              rw [List.map_set]
              exact ⟨_, hcq, t_OB.to (V := updV (vp_V (fs.map (ztv w))) b (ztv w v)) ⟨_, e1, q2, q3, t_set q4 hap hbN (ztv w v)⟩ (fun j _ => vp_updV_set (by rw [List.length_map]; exact hlen) (ztv w v) j)⟩
            unfold u_lay at hlay
            by_cases hfin : (r'.2.1 b).2.2.2 = true
            · rw [if_pos hfin] at hlay
              have hI3 : (r'.2.1 b).1 = y.cls ∧ y.name = "<init>" := by
                rcases hI2 with q | q
                · rw [hfin] at q; cases q
                · exact q
              have hcf : m.cls = cf := by
                obtain ⟨_, _, c', _, _, _, -, -, hf', -, -, -, hown2, -⟩ := Cond.laysFinal_spec hlay
                have e1 : c' = cf := by have := hi.symm.trans hf'; simp at this; exact this.1.symm
                rw [hI3.1] at hown2
                rw [← e1]; exact Option.some.inj (hown.symm.trans hown2)
              have h6 := u_fits hfc hkC hkind (Or.inr hlay) hi (hty b hbN) hn hfit
              exact W.putFinK hx hb hown (hts _ (zin_mem hlk2)) hi hst2 hcf (hini hI3.2) (by rw [q2]; exact h6) q1 q3 (by rw [hsl]; exact k2_hasslot (q4 b hbN)) rfl rfl hd key
            · rw [if_neg hfin] at hlay
              have h6 := u_store hfc hkC hkind hlay hi (hty b hbN) hn hfit
              exact W.putK hx hb (f := f) ⟨hown, hts _ (zin_mem hlk2), ⟨_, _, _, hi⟩, hst2⟩ (by rw [q2]; exact h6) q1 q3 (by rw [hsl]; exact k2_hasslot (q4 b hbN)) rfl rfl hd key
        · cases h
      · cases h
    · cases h
  · cases h
theorem za_alen (C : zCx w ev d y cc nL rt n0 nF p R s m args meth c) (hd : decode cc fr.1 = .ok (.arraylength, 1)) (h : zAlen ztb ev fr hp = some (.inl (fr', hp'))) (K : zG w nL n0 p l e R s m args below meth c Q fr' hp') : zG w nL n0 p l e R s m args below meth c Q fr hp := by
  obtain ⟨hx, hb, hml, hrt, hown, hts, hlk, hini, hbs, hsp, hfr, hlo, hrc, hrs⟩ := C
  unfold zAlen zn at h
  split at h
  · next ix r hst =>
    split at h
    · next hlt =>
      split at h
      · next hn =>
        split at h
        · next t x hc =>
          split at h
          · next ht =>
            cases h
            intro H locs ls hH hS hl
            have k := K H locs ls hH hS hl
            obtain ⟨x2, ex, el⟩ := ztc_len w t x
            have hcell : (zwl w hp)[ix]? = some (w.1 + ix, .inl (w.2.2.1 t, x2)) := by rw [zwl_get hn, hc, ex]
            obtain ⟨ty, hty⟩ : ∃ ty, (ztys w)[t]? = some (w.2.2.1 t, ty) := by
              rcases (show t = 0 ∨ t = 1 ∨ t = 2 ∨ t = 3 ∨ t = 4 ∨ t = 5 by omega) with rfl | rfl | rfl | rfl | rfl | rfl <;> exact ⟨_, rfl⟩
            rw [hst]
            show W p l e R s m args below meth c H locs _ _ Q (F0 m fr.1 ls (.ref (zta w ix) :: r.map (ztv w)))
            rw [zta_lo hlt]
            exact va_alen hx hb hsp.1 hH.2 ix t hcell hty (by rw [el]) hd k
          · cases h
        · cases h
      · cases h
    · next hlt =>
      split at h
      · next t n f hc =>
        cases h
        intro H locs ls hH hS hl
        have k := K H locs ls hH hS hl
        rw [hst]
        show W p l e R s m args below meth c H locs _ _ Q (F0 m fr.1 ls (.ref (zta w ix) :: r.map (ztv w)))
        rw [zta_hi w hlt]
        exact va_tlen hx hb (hsp.2.1 _ _ _ _ hc) hS rfl hd k
      · cases h
  · cases h
theorem za_iald (C : zCx w ev d y cc nL rt n0 nF p R s m args meth c) (hd : decode cc fr.1 = .ok (.iaload, 1)) (h : zIald ztb ev fr hp = some (.inl (fr', hp'))) (K : zG w nL n0 p l e R s m args below meth c Q fr' hp') : zG w nL n0 p l e R s m args below meth c Q fr hp := by
  obtain ⟨hx, hb, hml, hrt, hown, hts, hlk, hini, hbs, hsp, hfr, hlo, hrc, hrs⟩ := C
  unfold zIald zn at h
  split at h
  · next j ix r hst =>
    split at h
    · next hlt =>
      split at h
      · next hn =>
        split at h
        · next n f hc =>
          split at h
          · next hin =>
            cases h
            intro H locs ls hH hS hl
            have k := K H locs ls hH hS hl
            have hcell : (zwl w hp)[ix]? = some (w.1 + ix, .inl (w.2.2.1 0, n, .inl f)) := by rw [zwl_get hn, hc]; rfl
            rw [hst]
            show W p l e R s m args below meth c H locs _ _ Q (F0 m fr.1 ls (.int j :: .ref (zta w ix) :: r.map (ztv w)))
            rw [zta_lo hlt]
            exact va_iald hx hb hsp.1 hH.2 ix 0 hcell rfl hin hd k
          · cases h
        · cases h
      · cases h
    · next hlt =>
      split at h
      · next n f hc =>
        split at h
        · next hin =>
          cases h
          intro H locs ls hH hS hl
          have k := K H locs ls hH hS hl
          rw [hst]
          show W p l e R s m args below meth c H locs _ _ Q (F0 m fr.1 ls (.int j :: .ref (zta w ix) :: r.map (ztv w)))
          rw [zta_hi w hlt]
          have hT := hsp.2.1 _ _ _ _ hc
          exact va_ti hx hb hT hS hin rfl hd k
        · cases h
      · cases h
  · cases h
theorem za_bald (C : zCx w ev d y cc nL rt n0 nF p R s m args meth c) (hd : decode cc fr.1 = .ok (.baload, 1)) (h : zBald ztb ev fr hp = some (.inl (fr', hp'))) (K : zG w nL n0 p l e R s m args below meth c Q fr' hp') : zG w nL n0 p l e R s m args below meth c Q fr hp := by
  obtain ⟨hx, hb, hml, hrt, hown, hts, hlk, hini, hbs, hsp, hfr, hlo, hrc, hrs⟩ := C
  unfold zBald zn at h
  split at h
  · next j ix r hst =>
    split at h
    · next hlt =>
      split at h
      · next hn =>
        split at h
        · next n f hc =>
          split at h
          · next hin =>
            cases h
            intro H locs ls hH hS hl
            have k := K H locs ls hH hS hl
            have hcell : (zwl w hp)[ix]? = some (w.1 + ix, .inl (w.2.2.1 1, n, .inl f)) := by rw [zwl_get hn, hc]; rfl
            rw [hst]
            show W p l e R s m args below meth c H locs _ _ Q (F0 m fr.1 ls (.int j :: .ref (zta w ix) :: r.map (ztv w)))
            rw [zta_lo hlt]
            exact va_bald hx hb hsp.1 hH.2 ix 1 hcell rfl hin hd k
          · cases h
        · next n f hc =>
          split at h
          · next hin =>
            cases h
            intro H locs ls hH hS hl
            have k := K H locs ls hH hS hl
            have hcell : (zwl w hp)[ix]? = some (w.1 + ix, .inl (w.2.2.1 2, n, .inl f)) := by rw [zwl_get hn, hc]; rfl
            rw [hst]
            show W p l e R s m args below meth c H locs _ _ Q (F0 m fr.1 ls (.int j :: .ref (zta w ix) :: r.map (ztv w)))
            rw [zta_lo hlt]
            exact va_zald hx hb hsp.1 hH.2 ix 2 hcell rfl hin hd k
          · cases h
        · cases h
      · cases h
    · next hlt =>
      split at h
      · next n f hc =>
        split at h
        · next hin =>
          cases h
          intro H locs ls hH hS hl
          have k := K H locs ls hH hS hl
          rw [hst]
          show W p l e R s m args below meth c H locs _ _ Q (F0 m fr.1 ls (.int j :: .ref (zta w ix) :: r.map (ztv w)))
          rw [zta_hi w hlt]
          have hT := hsp.2.1 _ _ _ _ hc
          exact va_tb hx hb hT hS hin rfl hd k
        · cases h
      · cases h
  · cases h
theorem za_lald (C : zCx w ev d y cc nL rt n0 nF p R s m args meth c) (hd : decode cc fr.1 = .ok (.laload, 1)) (h : zLald fr hp = some (.inl (fr', hp'))) (K : zG w nL n0 p l e R s m args below meth c Q fr' hp') : zG w nL n0 p l e R s m args below meth c Q fr hp := by
  obtain ⟨hx, hb, hml, hrt, hown, hts, hlk, hini, hbs, hsp, hfr, hlo, hrc, hrs⟩ := C
  unfold zLald zn at h
  split at h
  · next j ix r hst =>
    split at h
    · next hlt =>
      split at h
      · next n f hc =>
        split at h
        · next hin =>
          cases h
          intro H locs ls hH hS hl
          have k := K H locs ls hH hS hl
          have hcell : (zwl w hp)[ix]? = some (w.1 + ix, .inl (w.2.2.1 3, n, .inr (.inl f))) := by rw [zwl_get hlt.1, hc]; rfl
          rw [hst]
          show W p l e R s m args below meth c H locs _ _ Q (F0 m fr.1 ls (.int j :: .ref (zta w ix) :: r.map (ztv w)))
          rw [zta_lo hlt.2]
          exact va_lald hx hb hsp.1 hH.2 ix 3 hcell rfl hin hd k
        · cases h
      · cases h
    · cases h
  · cases h
theorem za_aald (C : zCx w ev d y cc nL rt n0 nF p R s m args meth c) (hd : decode cc fr.1 = .ok (.aaload, 1)) (h : zAald fr hp = some (.inl (fr', hp'))) (K : zG w nL n0 p l e R s m args below meth c Q fr' hp') : zG w nL n0 p l e R s m args below meth c Q fr hp := by
  obtain ⟨hx, hb, hml, hrt, hown, hts, hlk, hini, hbs, hsp, hfr, hlo, hrc, hrs⟩ := C
  unfold zAald zn at h
  have go : ∀ (t : Nat) (ty : FieldType) (j : Int32) (ix n : Nat) (r : List Value) (f : Nat → Option Nat), (ztys w)[t]? = some (w.2.2.1 t, ty) → ty.isReference = true → fr.2.2 = .int j :: .ref ix :: r → (ix < hp.1 ∧ ix < zSC) → hp.2 ix = .inl (t, n, .inr (.inr (.inr (.inr f)))) → ¬ (j < 0 ∨ n ≤ j.toNatClampNeg) → zG w nL n0 p l e R s m args below meth c Q (fr.1 + 1, fr.2.1, va_rf (f j.toNatClampNeg) :: r) hp → zG w nL n0 p l e R s m args below meth c Q fr hp := by
    intro t ty j ix n r f hty hre hst hlt hc hin K H locs ls hH hS hl
    have k := K H locs ls hH hS hl
    have hcel : H[w.1 + ix]? = some (vp_cell (w.2.2.1 t) (n, .inr (.inr (.inr (.inr (fun i => (f i).map (zta w))))))) := by
      have := zHd_cell hH hlt.1
      rw [hc] at this
      exact this
    rw [vp_cell_q] at hcel
    have hj : j.toNatClampNeg < n := Nat.not_le.mp fun q => hin (Or.inr q)
    rw [hst]
    show W p l e R s m args below meth c H locs _ _ Q (F0 m fr.1 ls (.int j :: .ref (zta w ix) :: r.map (ztv w)))
    rw [zta_lo hlt.2]
    refine W.aald (ty := ty) (v := ztv w (va_rf (f j.toNatClampNeg))) hx hb hcel ((hsp.1.2 t _ hty).1 n _) hre (fun q => by cases q) (by rw [arrV_size]; exact hin) ?_ rfl rfl hd k
    rw [arrV_read _ _ hj, ztv_rf]
  split at h
  · next j ix r hst =>
    split at h
    · next hlt =>
      split at h
      · next n f hc =>
        split at h
        · next hin =>
          cases h
          exact go 4 _ j ix n r f rfl rfl hst hlt hc hin K
        · cases h
      · next n f hc =>
        split at h
        · next hin =>
          cases h
          exact go 5 _ j ix n r f rfl rfl hst hlt hc hin K
        · cases h
      · cases h
    · cases h
  · cases h
theorem za_iast (C : zCx w ev d y cc nL rt n0 nF p R s m args meth c) (hd : decode cc fr.1 = .ok (.iastore, 1)) (h : zIast fr hp = some (.inl (fr', hp'))) (K : zG w nL n0 p l e R s m args below meth c Q fr' hp') : zG w nL n0 p l e R s m args below meth c Q fr hp := by
  obtain ⟨hx, hb, hml, hrt, hown, hts, hlk, hini, hbs, hsp, hfr, hlo, hrc, hrs⟩ := C
  unfold zIast zn at h
  split at h
  · next x j ix r hst =>
    split at h
    · next hlt =>
      split at h
      · next n f hc =>
        split at h
        · next hin =>
          cases h
          intro H locs ls hH hS hl
          have hcel : H[w.1 + ix]? = some (vp_cell (w.2.2.1 0) (n, .inl f)) := by
            have := zHd_cell hH hlt.1
            rw [hc] at this
            exact this
          rw [hst]
          show W p l e R s m args below meth c H locs _ _ Q (F0 m fr.1 ls (.int x :: .int j :: .ref (zta w ix) :: r.map (ztv w)))
          rw [zta_lo hlt.2]
          refine W.iast hx hb hcel ((hsp.1.2 0 _ rfl).1 n (fun j => .int (f j))) (fun q => by cases q) (by show ¬ (j < 0 ∨ (arrV _ _ _).slots.size ≤ _); rw [arrV_size]; exact hin) rfl rfl hd fun H1 e1 z oq => ?_
          refine K H1 _ ls (zHd_set hH hlt.1 z oq ?_) (hS.put z oq (zA_in w ix)) hl
          show H1[w.1 + ix]? = some (vp_cell _ (n, .inl (upd f j.toNatClampNeg x)))
          rw [e1, vp_cell_i, vp_cell_i, arrV_store]
          congr 2
          funext q
          by_cases hq : q = j.toNatClampNeg
          · subst hq
            simp [updV, upd]
          · simp [updV, upd, hq]
        · cases h
      · cases h
    · cases h
  · cases h
theorem za_bast (C : zCx w ev d y cc nL rt n0 nF p R s m args meth c) (hd : decode cc fr.1 = .ok (.bastore, 1)) (h : zBast fr hp = some (.inl (fr', hp'))) (K : zG w nL n0 p l e R s m args below meth c Q fr' hp') : zG w nL n0 p l e R s m args below meth c Q fr hp := by
  obtain ⟨hx, hb, hml, hrt, hown, hts, hlk, hini, hbs, hsp, hfr, hlo, hrc, hrs⟩ := C
  unfold zBast zn at h
  split at h
  · next x j ix r hst =>
    split at h
    · next hlt =>
      split at h
      · next n f hc =>
        split at h
        · next hin =>
          cases h
          intro H locs ls hH hS hl
          have hcel : H[w.1 + ix]? = some (vp_cell (w.2.2.1 1) (n, .inl f)) := by
            have := zHd_cell hH hlt.1
            rw [hc] at this
            exact this
          rw [hst]
          show W p l e R s m args below meth c H locs _ _ Q (F0 m fr.1 ls (.int x :: .int j :: .ref (zta w ix) :: r.map (ztv w)))
          rw [zta_lo hlt.2]
          refine W.bast hx hb hcel ((hsp.1.2 1 _ rfl).1 n (fun j => .int (f j))) (fun q => by cases q) (by show ¬ (j < 0 ∨ (arrV _ _ _).slots.size ≤ _); rw [arrV_size]; exact hin) rfl rfl hd fun H1 e1 z oq => ?_
          refine K H1 _ ls (zHd_set hH hlt.1 z oq ?_) (hS.put z oq (zA_in w ix)) hl
          show H1[w.1 + ix]? = some (vp_cell _ (n, .inl (upd f j.toNatClampNeg (vp_nar .byte x))))
          rw [e1, vp_cell_i, vp_cell_i, arrV_store]
          congr 2
          funext q
          by_cases hq : q = j.toNatClampNeg
          · subst hq
            simp [updV, upd, vp_nar]
            try rfl
          · simp [updV, upd, hq]
        · cases h
      · next n f hc =>
        split at h
        · next hin =>
          cases h
          intro H locs ls hH hS hl
          have hcel : H[w.1 + ix]? = some (vp_cell (w.2.2.1 2) (n, .inl f)) := by
            have := zHd_cell hH hlt.1
            rw [hc] at this
            exact this
          rw [hst]
          show W p l e R s m args below meth c H locs _ _ Q (F0 m fr.1 ls (.int x :: .int j :: .ref (zta w ix) :: r.map (ztv w)))
          rw [zta_lo hlt.2]
          refine W.zast hx hb hcel ((hsp.1.2 2 _ rfl).1 n (fun j => .int (f j))) (fun q => by cases q) (by show ¬ (j < 0 ∨ (arrV _ _ _).slots.size ≤ _); rw [arrV_size]; exact hin) rfl rfl hd fun H1 e1 z oq => ?_
          refine K H1 _ ls (zHd_set hH hlt.1 z oq ?_) (hS.put z oq (zA_in w ix)) hl
          show H1[w.1 + ix]? = some (vp_cell _ (n, .inl (upd f j.toNatClampNeg (vp_nar .boolean x))))
          rw [e1, vp_cell_i, vp_cell_i, arrV_store]
          congr 2
          funext q
          by_cases hq : q = j.toNatClampNeg
          · subst hq
            simp [updV, upd, vp_nar]
            try rfl
          · simp [updV, upd, hq]
        · cases h
      · cases h
    · cases h
  · cases h
theorem za_last (C : zCx w ev d y cc nL rt n0 nF p R s m args meth c) (hd : decode cc fr.1 = .ok (.lastore, 1)) (h : zLast fr hp = some (.inl (fr', hp'))) (K : zG w nL n0 p l e R s m args below meth c Q fr' hp') : zG w nL n0 p l e R s m args below meth c Q fr hp := by
  obtain ⟨hx, hb, hml, hrt, hown, hts, hlk, hini, hbs, hsp, hfr, hlo, hrc, hrs⟩ := C
  unfold zLast zn at h
  split at h
  · next x j ix r hst =>
    split at h
    · next hlt =>
      split at h
      · next n f hc =>
        split at h
        · next hin =>
          cases h
          intro H locs ls hH hS hl
          have hcel : H[w.1 + ix]? = some (vp_cell (w.2.2.1 3) (n, .inr (.inl f))) := by
            have := zHd_cell hH hlt.1
            rw [hc] at this
            exact this
          rw [hst]
          show W p l e R s m args below meth c H locs _ _ Q (F0 m fr.1 ls (.long x :: .int j :: .ref (zta w ix) :: r.map (ztv w)))
          rw [zta_lo hlt.2]
          refine W.last hx hb hcel ((hsp.1.2 3 _ rfl).1 n (fun j => .long (f j))) (fun q => by cases q) (by show ¬ (j < 0 ∨ (arrV _ _ _).slots.size ≤ _); rw [arrV_size]; exact hin) rfl rfl hd fun H1 e1 z oq => ?_
          refine K H1 _ ls (zHd_set hH hlt.1 z oq ?_) (hS.put z oq (zA_in w ix)) hl
          show H1[w.1 + ix]? = some (vp_cell _ (n, .inr (.inl (vp_updL f j.toNatClampNeg x))))
          rw [e1, vp_cell_l, vp_cell_l, arrV_store]
          congr 2
          funext q
          by_cases hq : q = j.toNatClampNeg
          · subst hq
            simp [updV, vp_updL]
          · simp [updV, vp_updL, hq]
        · cases h
      · cases h
    · cases h
  · cases h
end ZCEL
