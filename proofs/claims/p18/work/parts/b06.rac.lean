/-! Acts of the reference. -/
def plc (s : Nat → Int32) : Nat → Nat → Int32 → Int32
  | _, 0, v => v
  | t, n + 1, v => plc s (t + 1) n (if plt s t = true then v + 1 else v)
section RA
variable {m : xS} {F : Nat} {s : Nat → Int32}
theorem r223_36 {t : Nat} {v1 v2 v3 : Int32} (h1 : v1 = Int32.ofNat t) (ht : t < 6) : D223_36 F v1 v2 v3 m = some ((), xr m 80 (cup (cup (m.1 80) (10 + 6 * t + 3) v2) (10 + 6 * t + 4) (m.1 80 (10 + 6 * t + 4) + 1))) := by
  subst h1
  have i3 : ((10 : Int32) + 6 * Int32.ofNat t + 3).toInt = ((10 + 6 * t + 3 : Nat) : Int) := ix6 (A := 10) (B := 10) (a := t) (d := 3) rfl (by decide) (by omega) (by omega)
  have i4 : ((10 : Int32) + 6 * Int32.ofNat t + 4).toInt = ((10 + 6 * t + 4 : Nat) : Int) := ix6 (A := 10) (B := 10) (a := t) (d := 4) rfl (by decide) (by omega) (by omega)
  have e : cup (m.1 80) (10 + 6 * t + 3) v2 (10 + 6 * t + 4) = m.1 80 (10 + 6 * t + 4) := cup_o (by omega)
  unfold D223_36
  rw [gxn i3, gxn i4, if_pos (gxb i3 (by omega)), if_pos (gxb i4 (by omega)), if_pos (gxb i4 (by omega))]
  simp only [xu_xr, xr_s, xr_xr, e]
theorem r223 (I : vI (m.1 80)) {t h : Nat} {v1 v2 : Int32} (h1 : v1 = Int32.ofNat t) (h2 : v2 = Int32.ofNat h) (ht : (t : Int) < (m.1 80 2).toInt) (hh : h < 6) : D223 F v1 v2 m = some ((), xr m 80 (pld (m.1 80) t h)) := by
  have t6 : t < 6 := by have := I_nt I; omega
  have it := I.2.1 t ht
  have n6 := I_n6 I
  obtain ⟨hol, eh⟩ : ∃ n : Nat, n = (m.1 80 (10 + 6 * t + 3)).toInt.toNat := ⟨_, rfl⟩
  have eh2 : m.1 80 (10 + 6 * t + 3) = Int32.ofNat hol := by rw [eh]; exact i32n (by omega)
  have i := ix6 (A := 82) (B := 82) (a := h) (d := hol) rfl (by decide) (by omega) (by omega)
  have ep : pld (m.1 80) t h = cup (cup (pth (m.1 80) (82 + 6 * h + hol)) (10 + 6 * t + 3) (Int32.ofNat h)) (10 + 6 * t + 4) (m.1 80 (10 + 6 * t + 4) + 1) := by
    unfold pld
    rw [← eh]
    exact cup_sw (by omega)
  subst h2
  unfold D223
  refine ob (r208 h1 (w := 3) rfl t6 (by decide)) ?_
  dsimp only
  rw [ep, eh2, gxn i, if_pos (gxb i (by omega))]
  refine oi (p := decide (99 ≤ (m.1 80 (82 + 6 * h + hol)).toInt)) zc (fun l => ?_) (fun l => ?_)
  · have l := of_decide_eq_true l
    have e : pth (m.1 80) (82 + 6 * h + hol) = m.1 80 := if_neg (by omega)
    rw [e]
    exact r223_36 h1 t6
  · have l := of_decide_eq_false l
    have e : pth (m.1 80) (82 + 6 * h + hol) = cup (m.1 80) (82 + 6 * h + hol) (m.1 80 (82 + 6 * h + hol) + 1) := if_pos (by omega)
    have e4 : cup (m.1 80) (82 + 6 * h + hol) (m.1 80 (82 + 6 * h + hol) + 1) (10 + 6 * t + 4) = m.1 80 (10 + 6 * t + 4) := cup_o (by omega)
    rw [if_pos (gxb i (by omega)), if_pos (gxb i (by omega)), e, r223_36 h1 t6]
    simp only [xu_xr, xr_s, xr_xr, e4]
theorem r224 {t : Nat} {v1 : Int32} (h1 : v1 = Int32.ofNat t) (ht : t < 6) : D224 F v1 m = some ((), xr m 80 (pgv (m.1 80) t (m.1 80 (10 + 6 * t)))) := by
  subst h1
  have i3 : ((10 : Int32) + 6 * Int32.ofNat t + 3).toInt = ((10 + 6 * t + 3 : Nat) : Int) := ix6 (A := 10) (B := 10) (a := t) (d := 3) rfl (by decide) (by omega) (by omega)
  have i4 : ((10 : Int32) + 6 * Int32.ofNat t + 4).toInt = ((10 + 6 * t + 4 : Nat) : Int) := ix6 (A := 10) (B := 10) (a := t) (d := 4) rfl (by decide) (by omega) (by omega)
  have i5 : ((10 : Int32) + 6 * Int32.ofNat t + 5).toInt = ((10 + 6 * t + 5 : Nat) : Int) := ix6 (A := 10) (B := 10) (a := t) (d := 5) rfl (by decide) (by omega) (by omega)
  unfold D224 pgv
  refine ob (r208 rfl (w := 0) rfl ht (by decide)) ?_
  dsimp only
  rw [cup_id _ _ rfl, gxn i3, gxn i4, gxn i5, if_pos (gxb i3 (by omega)), if_pos (gxb i4 (by omega)), if_pos (gxb i5 (by omega))]
  simp only [xu_xr, xr_s, xr_xr]
  rfl
theorem r231 {t : Nat} {v1 v2 : Int32} (h1 : v1 = Int32.ofNat t) (ht : t < 6) : D231 F v1 v2 m = some ((), xr m 80 (pgv (m.1 80) t v2)) := by
  have i0 : ((10 : Int32) + 6 * Int32.ofNat t).toInt = ((10 + 6 * t : Nat) : Int) := ixT (nJ (n := t) (by omega)) (by omega)
  unfold D231
  rw [h1, gxn i0, if_pos (gxb i0 (by omega))]
  refine ob (r224 rfl ht) ?_
  unfold pgv
  simp only [xu_xr, xr_s, xr_xr, cup_s]
  rw [cup_id (cup (m.1 80) (10 + 6 * t) v2) _ (cup_s _ _ _)]
theorem r225 {w : Nat} {v1 : Int32} (h1 : v1 = Int32.ofNat w) (hw : w < 6) : D225 F v1 m = some (m.1 80 (124 + 4 * w + 3), xr m 80 (pwk (m.1 80) w)) := by
  have i := ix1 (A := 118) (B := 118) (d := w) rfl (by decide) (by omega)
  have e5 : cup (m.1 80) (118 + w) (m.1 80 4) 5 = m.1 80 5 := cup_o (by omega)
  have e3 : cup (m.1 80) (118 + w) (m.1 80 4) (124 + 4 * w + 3) = m.1 80 (124 + 4 * w + 3) := cup_o (by omega)
  unfold D225 pwk
  rw [h1, gxn i, if_pos (gxb i (by omega))]
  simp only [xu_xr, xr_s]
  refine ob (r209 rfl (k := 3) rfl hw (by decide)) (ob (r209 rfl (k := 3) rfl hw (by decide)) ?_)
  simp only [xr_s, xr_xr, e5, e3]
  rw [cup_o (by omega), e3]
theorem r229 {a d : Nat} {v1 v2 : Int32} (h1 : v1 = Int32.ofNat a) (h2 : v2 = Int32.ofNat d) (ha : a < 6) (hd : d < 6) : D229 F v1 v2 m = some ((), xr m 80 (pqu (m.1 80) a d)) := by
  have i1 := ix6 (A := 46) (B := 46) (a := a) (d := d) rfl (by decide) (by omega) (by omega)
  have i2 := ix6 (A := 46) (B := 46) (a := d) (d := a) rfl (by decide) (by omega) (by omega)
  unfold D229 pqu
  rw [h1, h2, gxn i1, gxn i2, if_pos (gxb i1 (by omega)), if_pos (gxb i2 (by omega))]
  simp only [xu_xr, xr_s, xr_xr]
theorem plt_home (I : vI s) {t : Nat} (h : phm s t = true) : plt s t = false := by
  unfold plt prs
  rw [if_pos (Or.inl h)]
  rfl
theorem phm_pous : ∀ (n : Nat) {s : Nat → Int32} {t u : Nat}, phm (pous s t n) u = phm s u := fun n {s t u} => by
  unfold phm
  rw [pous_o n (fun i _ _ => by omega), pous_o n (fun i _ _ => by omega)]
/-- whether it is late then -/
theorem plt_dy (I : vI s) {t : Nat} (ht : (t : Int) < (s 2).toInt) (h : phm s t = false) : plt (pdy s) t = decide ((s 1).toInt < (s (10 + 6 * t + 5) + 1).toInt) := by
  have l1 := I_late I
  have dy := I_day I
  obtain ⟨-, -, -, i5⟩ := I.2.1 t ht
  have k : (s (10 + 6 * t + 5) + 1).toInt = (s (10 + 6 * t + 5)).toInt + 1 := xa1 (by show _ ≤ _ + (1 : Int); omega) (by show _ + (1 : Int) ≤ _; omega)
  have hm : phm (pdy s) t = false := by
    unfold phm
    rw [pdy_o I (fun i _ => by omega) (by omega), pdy_o I (fun i _ => by omega) (by omega)]
    exact h
  have k2 : (s (10 + 6 * t + 5) + 1 - s 1).toInt = (s (10 + 6 * t + 5) + 1).toInt - (s 1).toInt := xs1 (by have := y32 (s 1); omega) (by omega)
  unfold plt prs
  rw [pdy_5 I ht, pdy_o I (j := 1) (fun i _ => by omega) (by decide), h, if_neg (show ¬ (false = true) by decide)]
  by_cases l : (s (10 + 6 * t + 5) + 1 - s 1).toInt < 0
  · rw [if_pos (Or.inr l)]
    exact decide_eq_decide.mpr ⟨fun z => absurd z (by decide), fun z => by omega⟩
  · rw [if_neg (fun z => Or.elim z (fun q => by rw [hm] at q; cases q) l)]
    exact decide_eq_decide.mpr ⟨fun z => by omega, fun z => by omega⟩
/-- the part of a day that is told of the tools ahead -/
theorem r233_4 (I : vI s) : ∀ (f : Nat) {t : Nat} {v : Int32} {m : xS}, m.1 80 = pous s 0 t → (t : Int) ≤ (s 2).toInt → 6 - t < f → D233_4 F f v (Int32.ofNat t) m = some (plc (pdy s) t ((s 2).toInt.toNat - t) v, xr m 80 (pdy s)) := by
  have n6 := I_nt I
  intro f
  induction f with
  | zero => intro t v m _ _ l; omega
  | succ f ih =>
    intro t v m e ht l
    have et := nJ (n := t) (by omega)
    have e1 : m.1 80 1 = s 1 := by rw [e, pous_o t (fun i _ _ => by omega)]
    have e2 : m.1 80 2 = s 2 := by rw [e, pous_o t (fun i _ _ => by omega)]
    have e4 : m.1 80 4 = s 4 := by rw [e, pous_o t (fun i _ _ => by omega)]
    unfold D233_4
    rw [e2]
    refine oi (p := decide ((s 2).toInt ≤ (Int32.ofNat t).toInt)) zc (fun h => ?_) (fun h => ?_)
    · have h := of_decide_eq_true h
      have et2 : t = (s 2).toInt.toNat := by omega
      rw [show (s 2).toInt.toNat - t = 0 by omega, e4, xu_xr, e, et2]
      rfl
    · have h := of_decide_eq_false h
      have t2 : (t : Int) < (s 2).toInt := by omega
      have hp : pous s 0 (t + 1) = pou (pous s 0 t) t := by rw [pous_r t, Nat.zero_add]
      have em : phm (m.1 80) t = phm s t := by rw [e, phm_pous]
      rw [show (s 2).toInt.toNat - t = ((s 2).toInt.toNat - (t + 1)) + 1 by omega]
      show _ = some (plc (pdy s) (t + 1) ((s 2).toInt.toNat - (t + 1)) (if plt (pdy s) t = true then v + 1 else v), _)
      have next : ∀ {m' : xS} {v' : Int32}, m'.1 80 = pous s 0 (t + 1) → D233_66 F (D233_4 F f) v' (Int32.ofNat t) m' = some (plc (pdy s) (t + 1) ((s 2).toInt.toNat - (t + 1)) v', xr m' 80 (pdy s)) := fun {m' v'} q => by
        unfold D233_66
        rw [show Int32.ofNat t + Int32.ofInt 1 = Int32.ofNat (t + 1) from xadd (a := t) (b := 1) (by omega)]
        exact ih q (by omega) (by omega)
      refine ob (r212 rfl (by omega)) (oi (p := !phm s t) (by rw [em]; exact pB1) (fun a => ?_) (fun a => ?_))
      · have a : phm s t = false := by simpa using a
        have i5 : ((10 : Int32) + 6 * Int32.ofNat t + 5).toInt = ((10 + 6 * t + 5 : Nat) : Int) := ix6 (A := 10) (B := 10) (a := t) (d := 5) rfl (by decide) (by omega) (by omega)
        have eo : m.1 80 (10 + 6 * t + 5) = s (10 + 6 * t + 5) := by rw [e, pous_o t (fun i _ _ => by omega)]
        rw [plt_dy I t2 a, gxn i5, if_pos (gxb i5 (by omega)), if_pos (gxb i5 (by omega))]
        have hq : cup (m.1 80) (10 + 6 * t + 5) (m.1 80 (10 + 6 * t + 5) + 1) = pous s 0 (t + 1) := by
          rw [hp, ← e]
          unfold pou
          rw [if_neg (by rw [em, a]; decide)]
        dsimp only
        simp only [xu_xr, hq]
        have z5 : pous s 0 (t + 1) (10 + 6 * t + 5) = s (10 + 6 * t + 5) + 1 := by rw [← hq, cup_s, eo]
        have z1 : pous s 0 (t + 1) 1 = s 1 := pous_o _ (fun i _ _ => by omega)
        refine ob (r208 rfl (w := 5) rfl (by omega) (by decide)) ?_
        simp only [xr_s]
        rw [z5, z1]
        refine oi (p := decide ((s (10 + 6 * t + 5) + 1).toInt ≤ (s 1).toInt)) zcle (fun b => ?_) (fun b => ?_)
        · have b := of_decide_eq_true b
          unfold D233_64
          rw [next (xr_s _ _ _), xr_xr, decide_eq_false (by omega), if_neg (by decide)]
          exact congrArg (fun z => some (plc _ _ _ z, _)) (Int32.add_zero v)
        · have b := of_decide_eq_false b
          unfold D233_64
          rw [next (xr_s _ _ _), xr_xr, decide_eq_true (by omega), if_pos rfl]
      · have a : phm s t = true := by simpa using a
        have hm : phm (pdy s) t = true := by
          unfold phm
          rw [pdy_o I (fun i _ => by omega) (by omega), pdy_o I (fun i _ => by omega) (by omega)]
          exact a
        have z : plt (pdy s) t = false := by
          unfold plt prs
          rw [if_pos (Or.inl hm)]
          rfl
        rw [z, if_neg (by decide)]
        refine next ?_
        show m.1 80 = _
        rw [hp, ← e]
        unfold pou
        rw [if_pos (by rw [em]; exact a)]
theorem r233 (hF : 500 ≤ F) (I : vI (m.1 80)) : D233 F m = some (plc (pdy (m.1 80)) 0 (m.1 80 2).toInt.toNat 0, xr m 80 (pdy (m.1 80))) := by
  have n6 := I_nt I
  unfold D233
  have z := r233_4 (F := F) I F (t := 0) (v := 0) (m := m) rfl (by omega) (by omega)
  rw [Nat.sub_zero] at z
  exact z
end RA
