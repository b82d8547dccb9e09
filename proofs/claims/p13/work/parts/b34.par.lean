/-! A rule that was read: the reference's clauses are the machine's. -/
/-- codes in a row -/
def cds (f : Nat → Int32) (a : Nat) : Nat → List Int32
  | 0 => []
  | n + 1 => cds f a n ++ [f (a + n)]
theorem cds_len {f : Nat → Int32} {a : Nat} : ∀ n, (cds f a n).length = n
  | 0 => rfl
  | n + 1 => by
    show (cds f a n ++ [f (a + n)]).length = n + 1
    rw [List.length_append, cds_len n]
    rfl
theorem cds_at {f : Nat → Int32} {a : Nat} : ∀ {n j : Nat} {c : Int32}, (cds f a n)[j]? = some c → f (a + j) = c
  | 0, j, c, h => by cases h
  | n + 1, j, c, h => by
    have h : (cds f a n ++ [f (a + n)])[j]? = some c := h
    by_cases z : j < n
    · rw [List.getElem?_append_left (by rw [cds_len]; exact z)] at h
      exact cds_at h
    · rw [List.getElem?_append_right (by rw [cds_len]; omega), cds_len] at h
      by_cases z2 : j = n
      · subst z2
        rw [Nat.sub_self] at h
        exact Option.some.inj h
      · rw [List.getElem?_eq_none (by show 1 ≤ j - n; omega)] at h
        cases h
theorem tk_cut {f : Nat → Int32} {l : Nat} : ∀ n, tk f (l + n) = tk (fun j => f (l + j)) n ++ tk f l
  | 0 => rfl
  | n + 1 => by
    show (f (l + n)).toInt :: tk f (l + n) = (f (l + n)).toInt :: (tk (fun j => f (l + j)) n ++ tk f l)
    rw [tk_cut n]
theorem tk_cds {f : Nat → Int32} {a : Nat} : ∀ n, tk (fun j => f (a + j)) n = ((cds f a n).map Int32.toInt).reverse
  | 0 => rfl
  | n + 1 => by
    show (f (a + n)).toInt :: tk (fun j => f (a + j)) n = ((cds f a n ++ [f (a + n)]).map Int32.toInt).reverse
    rw [tk_cds n, List.map_append, List.reverse_append]
    rfl
theorem zst_sdp {c : Int32} {k d : Nat} (h : zst c k = some d) : cok c ∧ sdp (tenc c.toInt) k = some d := by
  unfold zst at h
  split at h
  · next z =>
    obtain ⟨z0, z15⟩ := z
    have l0 : 0 ≤ c.toInt % 16 := by omega
    have l1 : c.toInt % 16 < 16 := by omega
    unfold zs0 at h
    by_cases k0 : c.toInt % 16 = 0
    · rw [if_pos k0] at h
      have e : tenc c.toInt = 40 + c.toInt / 16 := if_pos k0
      split at h
      · cases h
        refine ⟨⟨z0, z15, fun y => by omega⟩, ?_⟩
        unfold sdp
        rw [e, if_pos (by omega)]
      · cases h
    rw [if_neg k0] at h
    by_cases k1 : c.toInt % 16 = 1
    · rw [if_pos k1] at h
      have e : tenc c.toInt = 20 + c.toInt / 16 := (if_neg k0).trans (if_pos k1)
      split at h
      · next y =>
        cases h
        refine ⟨⟨z0, z15, fun _ => y.2.1⟩, ?_⟩
        unfold sdp
        rw [e, if_pos (by omega)]
      · cases h
    rw [if_neg k1] at h
    refine ⟨⟨z0, z15, fun y => absurd y k1⟩, ?_⟩
    by_cases k11 : c.toInt % 16 = 11
    · have e : tenc c.toInt = 3 := by
        unfold tenc
        rw [if_neg k0, if_neg k1, if_neg (by omega), if_neg (by omega), if_pos k11]
      rw [if_pos k11] at h
      unfold sdp
      rw [e, if_neg (by decide), if_pos rfl]
      exact h
    · rw [if_neg k11] at h
      have lt : tenc c.toInt < 20 ∧ tenc c.toInt ≠ 3 := by
        unfold tenc
        rw [if_neg k0, if_neg k1]
        split
        · omega
        · split
          · omega
          · split
            · omega
            · split
              · omega
              · omega
      unfold sdp
      rw [if_neg (by omega), if_neg lt.2]
      exact h
  · cases h
theorem tenc_no {c : Int32} (h : cok c) : tenc c.toInt ≠ 14 ∧ tenc c.toInt ≠ 15 := by
  obtain ⟨h0, h15, -⟩ := h
  have l0 : 0 ≤ c.toInt % 16 := by omega
  have l1 : c.toInt % 16 < 16 := by omega
  unfold tenc
  split
  · omega
  · split
    · omega
    · split
      · omega
      · split
        · omega
        · split
          · omega
          · split
            · omega
            · split
              · omega
              · omega
theorem zdp_sdr {f : Nat → Int32} {a : Nat} : ∀ {n D : Nat}, zdp f a n = some D → (∀ c ∈ cds f a n, cok c) ∧ sdr ((cds f a n).map (fun c => tenc c.toInt)) 0 = some D
  | 0, D, h => ⟨fun c hc => (by cases hc), h⟩
  | n + 1, D, h => by
    have h : (zdp f a n).bind (zst (f (a + n))) = some D := h
    obtain ⟨k, h1, h2⟩ := Option.bind_eq_some_iff.mp h
    obtain ⟨g1, g2⟩ := zdp_sdr h1
    obtain ⟨z1, z2⟩ := zst_sdp h2
    constructor
    · intro c hc
      have hc : c ∈ cds f a n ++ [f (a + n)] := hc
      rcases List.mem_append.mp hc with z | z
      · exact g1 c z
      · rw [List.mem_singleton.mp z]
        exact z1
    · show sdr ((cds f a n ++ [f (a + n)]).map (fun c => tenc c.toInt)) 0 = some D
      rw [List.map_append, sdr_app, g2]
      show (sdp (tenc (f (a + n)).toInt) k).bind (fun x => some x) = some D
      rw [z2]
      rfl
/-- what begins with an end of a clause -/
def hd15 (r : List Int) : Prop := ∀ x y, r = x :: y → x = 14 ∨ x = 15
theorem cut_h {p r p' r' : List Int} (h1 : ∀ s ∈ p, s ≠ 14 ∧ s ≠ 15) (h2 : ∀ s ∈ p', s ≠ 14 ∧ s ≠ 15) (h3 : hd15 r) (h4 : hd15 r') (e : p ++ r = p' ++ r') : p = p' ∧ r = r' := by
  rcases List.append_eq_append_iff.mp e with ⟨x, rfl, rfl⟩ | ⟨x, rfl, rfl⟩
  · cases x with
    | nil => exact ⟨(List.append_nil p).symm, rfl⟩
    | cons y x =>
      have a := h2 y (List.mem_append_right _ (List.mem_cons_self ..))
      have b := h3 y _ rfl
      omega
  · cases x with
    | nil => exact ⟨List.append_nil p', rfl⟩
    | cons y x =>
      have a := h1 y (List.mem_append_right _ (List.mem_cons_self ..))
      have b := h4 y _ rfl
      omega
theorem hd_out : ∀ Q : List (List Int × Option (List Int)), hd15 (outOf Q)
  | [], x, y, h => by cases h
  | (cs, none) :: Q, x, y, h => by
    cases h
    exact Or.inl rfl
  | (cs, some ct) :: Q, x, y, h => by
    cases h
    exact Or.inr rfl
theorem hd_ou : ∀ {L : cL}, cOk L → hd15 (cOu L)
  | [], _, x, y, h => by cases h
  | (a, t, s) :: L, k, x, y, h => by
    cases h
    rcases k _ (List.mem_cons_self ..) with z | z
    · exact Or.inl z.1
    · exact Or.inr z
theorem qAll_sn : ∀ {A : cLs} {B : List (List Int × Option (List Int))} {c : List Int32 × Option (List Int32)} {q : List Int × Option (List Int)}, qAll A B → qSt c q → qAll (A ++ [c]) (B ++ [q])
  | [], [], c, q, _, h => ⟨h, trivial⟩
  | a :: A, b :: B, c, q, h, k => ⟨h.1, qAll_sn h.2 k⟩
  | [], _ :: _, _, _, h, _ => h.elim
  | _ :: _, [], _, _, h, _ => h.elim
theorem map_rev (S : List Int32) : ((S.map Int32.toInt).reverse).map tenc = (S.map (fun c => tenc c.toInt)).reverse := by
  rw [List.map_reverse, List.map_map]
  rfl
theorem ou_no {S : List Int32} (h : ∀ c ∈ S, cok c) : ∀ s ∈ (S.map (fun c => tenc c.toInt)).reverse, s ≠ 14 ∧ s ≠ 15 := fun s hs => by
  obtain ⟨c, hc, rfl⟩ := List.mem_map.mp (List.mem_reverse.mp hs)
  exact tenc_no (h c hc)
theorem ofn_i {x : Int32} {n : Nat} (h : x.toInt = (n : Int)) (l : n < 2147483648) : x = Int32.ofNat n := Int32.toInt_inj.mp (h.trans (xI l).symm)
section PPAR
variable {m : xS} {t : Nat}
theorem cAt_cds {a n : Nat} (l : a + n ≤ 400) : cAt m t a (cds (m.1 72) (400 * t + a) n) := ⟨by rw [cds_len]; exact l, fun j c hj => by
  rw [← Nat.add_assoc]
  exact cds_at hj⟩
theorem ru_cl (ht : t < 6) (A : xA m) : ∀ {L : cL} {Q : List (List Int × Option (List Int))}, cOk L → cOu L = outOf Q → (∀ q ∈ Q, tyC q) → cnt (outOf Q) ≤ 60 → (cRp L).length ≤ 400 → tk (fun j => m.1 72 (400 * t + j)) (cRp L).length = cRp L → tq (m.1 74) (48 * t) L.length = cCs L → (L.length : Int) ≤ (m.1 75 t).toInt → L.length ≤ 12 → ∃ CL : cLs, CL.length = L.length ∧ (∀ i q, CL[i]? = some q → kAt m t i q) ∧ qAll CL Q.reverse
  | [], [], _, _, _, _, _, _, _, _, _ => ⟨[], rfl, fun i q h => (by cases h), trivial⟩
  | [], (cs, none) :: Q, _, e, _, _, _, _, _, _, _ => by cases e
  | [], (cs, some ct) :: Q, _, e, _, _, _, _, _, _, _ => by cases e
  | (a, tt, s) :: L, [], _, e, _, _, _, _, _, _, _ => by cases e
  | (a, tt, s) :: L, (cs, o) :: Q, hL, e, hQ, hc, l4, hk, hq, h75, l12 => by
    have hL' : cOk L := fun q z => hL q (List.mem_cons_of_mem _ z)
    have hQ' : ∀ q ∈ Q, tyC q := fun q z => hQ q (List.mem_cons_of_mem _ z)
    have hqs := hQ _ (List.mem_cons_self ..)
    -- the row of codes, cut
    have el : (cRp ((a, tt, s) :: L)).length = (cRp L).length + s.length + tt.length := by
      show (tt ++ (s ++ cRp L)).length = _
      rw [List.length_append, List.length_append]
      omega
    rw [el] at l4
    rw [el, tk_cut, tk_cut] at hk
    have hk : tk (fun j => m.1 72 (400 * t + ((cRp L).length + s.length + j))) tt.length ++ (tk (fun j => m.1 72 (400 * t + ((cRp L).length + j))) s.length ++ tk (fun j => m.1 72 (400 * t + j)) (cRp L).length) = tt ++ (s ++ cRp L) := hk
    obtain ⟨k1, hk⟩ := List.append_inj hk (tk_len _ _)
    obtain ⟨k2, k3⟩ := List.append_inj hk (tk_len _ _)
    rw [show (fun j => m.1 72 (400 * t + ((cRp L).length + s.length + j))) = (fun j => m.1 72 (400 * t + ((cRp L).length + s.length) + j)) from funext fun j => by rw [Nat.add_assoc (400 * t)], tk_cds (f := m.1 72)] at k1
    rw [show (fun j => m.1 72 (400 * t + ((cRp L).length + j))) = (fun j => m.1 72 (400 * t + (cRp L).length + j)) from funext fun j => by rw [Nat.add_assoc (400 * t)], tk_cds (f := m.1 72)] at k2
    generalize hS : cds (m.1 72) (400 * t + (cRp L).length) s.length = S at k2
    generalize hT : cds (m.1 72) (400 * t + ((cRp L).length + s.length)) tt.length = T at k1
    have lS : S.length = s.length := by rw [← hS, cds_len]
    have lT : T.length = tt.length := by rw [← hT, cds_len]
    have es : s.map tenc = (S.map (fun c => tenc c.toInt)).reverse := by rw [← k2, map_rev]
    have ett : tt.map tenc = (T.map (fun c => tenc c.toInt)).reverse := by rw [← k1, map_rev]
    -- the places
    have hq : ((m.1 74 (48 * t + 4 * L.length)).toInt, (m.1 74 (48 * t + 4 * L.length + 1)).toInt, (m.1 74 (48 * t + 4 * L.length + 2)).toInt, (m.1 74 (48 * t + 4 * L.length + 3)).toInt) :: tq (m.1 74) (48 * t) L.length = cTu (cRp L).length a tt s :: cCs L := hq
    obtain ⟨hq1, hq2⟩ := List.cons.inj hq
    unfold cTu at hq1
    obtain ⟨p0, p1, p2, p3⟩ : (m.1 74 (48 * t + 4 * L.length)).toInt = ((cRp L).length : Int) ∧ (m.1 74 (48 * t + 4 * L.length + 1)).toInt = (((cRp L).length + s.length : Nat) : Int) ∧ (m.1 74 (48 * t + 4 * L.length + 2)).toInt = (if a = 14 then -1 else (((cRp L).length + s.length : Nat) : Int)) ∧ (m.1 74 (48 * t + 4 * L.length + 3)).toInt = (((cRp L).length + s.length + tt.length : Nat) : Int) := ⟨congrArg (fun z => z.1) hq1, congrArg (fun z => z.2.1) hq1, congrArg (fun z => z.2.2.1) hq1, congrArg (fun z => z.2.2.2) hq1⟩
    have h75' : (L.length : Int) < (m.1 75 t).toInt := by
      rw [List.length_cons] at h75
      omega
    obtain ⟨⟨-, -, -, D1, d1, w1⟩, W2⟩ := A t L.length ht h75'
    rw [p0, p1, Int.toNat_natCast, Int.toNat_natCast, show (cRp L).length + s.length - (cRp L).length = s.length by omega] at w1
    obtain ⟨oS, dS⟩ := zdp_sdr w1
    rw [hS] at oS dS
    have c0 : cnt (outOf ((cs, o) :: Q)) = cnt (match o with
      | none => []
      | some ct => ct) + cnt cs + cnt (outOf Q) := by
      cases o with
      | none =>
        show cnt (14 :: (cs ++ outOf Q)) = cnt [] + cnt cs + cnt (outOf Q)
        rw [cnt_c (by decide), cnt_app]
        show _ = 0 + _ + _
        omega
      | some ct =>
        show cnt (15 :: (ct ++ (cs ++ outOf Q))) = _
        rw [cnt_c (by decide), cnt_app, cnt_app]
        dsimp only
        omega
    rw [c0] at hc
    have l12' : L.length ≤ 11 := by
      rw [List.length_cons] at l12
      omega
    -- the rest of it, and this clause
    have fin : ∀ c : List Int32 × Option (List Int32), cOu L = outOf Q → kAt m t L.length c → qSt c (cs, o) → ∃ CL : cLs, CL.length = ((a, tt, s) :: L).length ∧ (∀ i q, CL[i]? = some q → kAt m t i q) ∧ qAll CL ((cs, o) :: Q).reverse := fun c e1 g1 g2 => by
      obtain ⟨CL, r1, r2, r3⟩ := ru_cl ht A hL' e1 hQ' (by omega) (by omega) k3 hq2 (by omega) (by omega)
      refine ⟨CL ++ [c], by rw [List.length_append, r1]; rfl, fun i q hi => ?_, by rw [List.reverse_cons]; exact qAll_sn r3 g2⟩
      by_cases z : i < CL.length
      · rw [List.getElem?_append_left z] at hi
        exact r2 i q hi
      · rw [List.getElem?_append_right (by omega)] at hi
        by_cases z2 : i = CL.length
        · rw [z2, Nat.sub_self] at hi
          have hi : c = q := Option.some.inj hi
          rw [z2, r1, ← hi]
          exact g1
        · rw [List.getElem?_eq_none (by show 1 ≤ i - CL.length; omega)] at hi
          cases hi
    have e : a :: (tt.map tenc ++ (s.map tenc ++ cOu L)) = outOf ((cs, o) :: Q) := e
    have hLa := hL _ (List.mem_cons_self ..)
    have hLa : (a = 14 ∧ tt = []) ∨ a = 15 := hLa
    have aS : ∀ {x : Bool}, s.map tenc = cs → tyR cs [] = some [x] → cSt S cs ∧ ∃ a, m.1 74 (48 * t + 4 * L.length) = Int32.ofNat a ∧ m.1 74 (48 * t + 4 * L.length + 1) = Int32.ofNat (a + S.length) ∧ cAt m t a S ∧ cwf S := fun es' ty => by
      have q : cSt S cs := ⟨es.symm.trans es', oS⟩
      refine ⟨q, (cRp L).length, ofn_i p0 (by omega), ofn_i (by rw [lS]; exact p1) (by omega), ?_, cwf_ty q (by omega) ty⟩
      rw [← hS]
      exact cAt_cds (by omega)
    cases o with
    | none =>
      have e : a :: (tt.map tenc ++ (s.map tenc ++ cOu L)) = 14 :: (cs ++ outOf Q) := e
      obtain ⟨a14, e⟩ := List.cons.inj e
      have t0 : tt = [] := by
        rcases hLa with z | z
        · exact z.2
        · omega
      rw [t0] at e
      have e : s.map tenc ++ cOu L = cs ++ outOf Q := e
      obtain ⟨e1, e2⟩ := cut_h (by rw [es]; exact ou_no oS) (tyR_no hqs.1) (hd_ou hL') (hd_out Q) e
      obtain ⟨q, k⟩ := aS e1 hqs.1
      refine fin (S, none) e2 ⟨k, ?_⟩ ⟨q, trivial⟩
      show (m.1 74 (48 * t + 4 * L.length + 2)).toInt < 0
      rw [p2, if_pos a14]
      decide
    | some ct =>
      have e : a :: (tt.map tenc ++ (s.map tenc ++ cOu L)) = 15 :: (ct ++ (cs ++ outOf Q)) := e
      obtain ⟨a15, e⟩ := List.cons.inj e
      rw [if_neg (by omega)] at p2
      have wt : wfs m t (m.1 74 (48 * t + 4 * L.length + 2)) (m.1 74 (48 * t + 4 * L.length + 3)) := by
        rcases W2 with z | z
        · rw [p2] at z
          omega
        · exact z
      obtain ⟨-, -, -, D2, d2, w2⟩ := wt
      rw [p2, p3, Int.toNat_natCast, Int.toNat_natCast, show (cRp L).length + s.length + tt.length - ((cRp L).length + s.length) = tt.length by omega] at w2
      obtain ⟨oT, dT⟩ := zdp_sdr w2
      rw [hT] at oT dT
      rw [← List.append_assoc, ← List.append_assoc] at e
      have ty2 : tyR ct [] = some [true] := hqs.2
      obtain ⟨e1, e2⟩ := cut_h (fun x hx => by
        rcases List.mem_append.mp hx with z | z
        · rw [ett] at z
          exact ou_no oT x z
        · rw [es] at z
          exact ou_no oS x z) (fun x hx => by
        rcases List.mem_append.mp hx with z | z
        · exact tyR_no ty2 x z
        · exact tyR_no hqs.1 x z) (hd_ou hL') (hd_out Q) e
      have e1 := congrArg List.reverse e1
      rw [List.reverse_append, List.reverse_append, es, ett, List.reverse_reverse, List.reverse_reverse] at e1
      obtain ⟨u1, u2⟩ := cut_u e1 dS dT d1 d2 (ty_sdr hqs.1) (ty_sdr ty2)
      have u1 : s.map tenc = cs := by rw [es, u1, List.reverse_reverse]
      have u2 : (T.map (fun c => tenc c.toInt)).reverse = ct := by rw [u2, List.reverse_reverse]
      obtain ⟨q, k⟩ := aS u1 hqs.1
      have qT : cSt T ct := ⟨u2, oT⟩
      dsimp only at hc
      refine fin (S, some T) e2 ⟨k, (cRp L).length + s.length, ofn_i p2 (by omega), ofn_i (by rw [lT]; exact p3) (by omega), ?_, cwf_ty qT (by omega) ty2⟩ ⟨q, qT⟩
      rw [← hT]
      exact cAt_cds (by omega)
/-- a rule on both sides: the reference's clauses, and the machine's steps -/
def ruR (m : xS) (t : Nat) (out : List Int) : Prop := ∃ (CL : cLs) (Q : List (List Int × Option (List Int))), cAll m t CL ∧ qAll CL Q.reverse ∧ (∀ q ∈ Q, tyC q) ∧ out = outOf Q ∧ cnt out ≤ 60
theorem ruR_of {b : Nat → Int} {n J : Nat} {s : tSt} {L : cL} (ht : t < 6) (A : xA m) (h : stn b n J tS0 = .inr s) (h4 : s.2.2.2.2.2.1 = 4) (hL : cOk L) (ho : s.2.2.1 = cOu L) (l : (cRp L).length ≤ 400 ∧ L.length ≤ 12) (k : rK m t L) : ruR m t s.2.2.1 := by
  obtain ⟨Q, q1, q2⟩ := tI_done h h4
  have c := tK_stn J tK_0 h
  obtain ⟨⟨-, k2⟩, k3, k4⟩ := k
  have c60 : cnt s.2.2.1 ≤ 60 := Nat.le_trans c.1 c.2.1
  obtain ⟨CL, r1, r2, r3⟩ := ru_cl ht A hL (ho.symm.trans q2) q1 (by rw [← q2]; exact c60) l.1 k2 k4 (by omega) l.2
  exact ⟨CL, Q, ⟨ofn_i (by rw [r1]; exact k3) (by omega), by omega, r2⟩, r3, q1, q2, c60⟩
end PPAR
