/-! Words: the class's passWord, expectWord. -/
def tnx (b : Nat → Int) (e : Nat) (c : Int) (a : Option Nat) : Option Nat := match a with
  | some x => if x < e ∧ b x = c then some (x + 1) else none
  | none => none
def tpw (b : Nat → Int) (e bg : Nat) : List Int → Option Nat → Nat → Option Nat
  | [], _, _ => none
  | c :: s, a, num => if c = 32 then (if a = some e then some num else tpw b e bg s (some bg) (num + 1)) else tpw b e bg s (tnx b e c a) num
def tfl : List (List Int) → List Int
  | [] => []
  | w :: ws => w ++ 32 :: tfl ws
section TPW
variable {b : Nat → Int} {e bg : Nat}
theorem tpw_none {s : List Int} {num : Nat} : ∀ w : List Int, (∀ c ∈ w, c ≠ 32) → tpw b e bg (w ++ 32 :: s) none num = tpw b e bg s (some bg) (num + 1) := by
  intro w
  induction w with
  | nil =>
    intro _
    show (if (32 : Int) = 32 then (if (none : Option Nat) = some e then some num else tpw b e bg s (some bg) (num + 1)) else _) = _
    rw [if_pos rfl, if_neg (fun z => by cases z)]
  | cons c w ih =>
    intro h
    show (if c = 32 then _ else tpw b e bg (w ++ 32 :: s) (tnx b e c none) num) = _
    rw [if_neg (h c List.mem_cons_self)]
    exact ih (fun c hc => h c (List.mem_cons_of_mem _ hc))
theorem tpw_w {s : List Int} {num : Nat} : ∀ (w : List Int) (a : Nat), a ≤ e → (∀ c ∈ w, c ≠ 32) → tpw b e bg (w ++ 32 :: s) (some a) num = if tw b a e = w then some num else tpw b e bg s (some bg) (num + 1) := by
  intro w
  induction w with
  | nil =>
    intro a ha _
    show (if (32 : Int) = 32 then (if (some a : Option Nat) = some e then some num else tpw b e bg s (some bg) (num + 1)) else _) = _
    rw [if_pos rfl]
    by_cases c : a = e
    · rw [if_pos (by rw [c]), c, if_pos (tw_nil e)]
    · rw [if_neg (fun z => c (Option.some.inj z)), if_neg (fun z => c (by
        have := tw_len (b := b) a e
        rw [z] at this
        have : 0 = e - a := this
        omega))]
  | cons c w ih =>
    intro a ha h
    show (if c = 32 then _ else tpw b e bg (w ++ 32 :: s) (tnx b e c (some a)) num) = _
    rw [if_neg (h c List.mem_cons_self)]
    have hw : ∀ c ∈ w, c ≠ 32 := fun c hc => h c (List.mem_cons_of_mem _ hc)
    unfold tnx
    dsimp only
    by_cases q : a < e ∧ b a = c
    · rw [if_pos q, ih (a + 1) (by omega) hw, tw_cons q.1, q.2]
      by_cases z : tw b (a + 1) e = w
      · rw [if_pos z, if_pos (by rw [z])]
      · rw [if_neg z, if_neg (fun y => z (List.cons.inj y).2)]
    · rw [if_neg q, tpw_none w hw, if_neg]
      intro z
      by_cases l : a < e
      · rw [tw_cons l] at z
        exact q ⟨l, (List.cons.inj z).1⟩
      · have := tw_len (b := b) a e
        rw [z, List.length_cons] at this
        omega
theorem tpw_ws (hb : bg ≤ e) : ∀ (ws : List (List Int)) (num : Nat), (∀ w ∈ ws, ∀ c ∈ w, c ≠ 32) → tpw b e bg (tfl ws) (some bg) num = (tix (tw b bg e) ws).map (· + num) := by
  intro ws
  induction ws with
  | nil => intro num _; rfl
  | cons w ws ih =>
    intro num h
    show tpw b e bg (w ++ 32 :: tfl ws) (some bg) num = (if w = tw b bg e then some 0 else (tix (tw b bg e) ws).map (· + 1)).map (· + num)
    rw [tpw_w w bg hb (h w List.mem_cons_self)]
    by_cases c : tw b bg e = w
    · rw [if_pos c, if_pos c.symm]
      show some num = some (0 + num)
      rw [Nat.zero_add]
    · rw [if_neg c, if_neg (fun z => c z.symm), ih (num + 1) (fun v hv => h v (List.mem_cons_of_mem _ hv)), Option.map_map]
      congr 1
      funext x
      show x + (num + 1) = x + 1 + num
      omega
end TPW
def zsX (j i : Nat) : Int32 := (((zsv j i) &&& 255 : Int32).toUInt32 % 65536).toInt32
def tat (a : Option Nat) (v : Int) : Prop := match a with
  | some x => v = (x : Int)
  | none => v = -1
section KW
variable {m0 m : xS} {b : Nat → Int} {n p bg : Nat} {ft : Int} {out wait : List Int} {cl k dp br ex wh : Int} {F : Nat}
theorem P293 {v0 v1 : Int32} (h1 : 0 ≤ v0.toInt) (h2 : v0.toInt < v1.toInt) : xP (D293 F v0 v1 m) (fun _ m' => m' = m) := by
  unfold D293
  refine xP_i (fun c => ?_) (fun _ => xP_i (fun _ => xP_r rfl) (fun c => ?_))
  · have c : v0.toInt < 0 := zt c
    omega
  · have c : ¬ v0.toInt < v1.toInt := zf c
    omega
theorem P285 {v0 v1 : Int32} (h1 : 0 ≤ v0.toInt) (h2 : v0.toInt < v1.toInt) : xP (D285 F v0 v1 m) (fun _ m' => m' = m) := by
  unfold D285
  exact xP_b (P293 h1 h2) (fun _ m' q => xP_r q)
theorem xinc {v : Int32} {i : Nat} (h : v.toInt = (i : Int)) (l : i < 2000) : (v + Int32.ofInt 1).toInt = ((i + 1 : Nat) : Int) := by
  have e : (Int32.ofInt 1).toInt = 1 := rfl
  exact (xa1 (by rw [e]; omega) (by rw [e]; omega)).trans (by rw [e]; omega)
def tw1001 : List (List Int) := tCls
theorem tl1001 : (tfl tw1001).length = 31 := by decide
theorem tb1001 : ∀ w ∈ tw1001, ∀ c ∈ w, c ≠ (32 : Int) := by decide
theorem zsx1001 : (List.range 31).all (fun i => (vp_nar .char (zsX 20 i) == zsX 20 i) && (zsX 20 i).toInt == (tfl tw1001).getD i 0) = true := by decide +kernel
theorem P281_1001 : xP (D281_1001 F m) (fun v m' => m' = m ∧ v.toInt = 31) := by
  unfold D281_1001
  refine xP_b (R := fun v m' => m' = m ∧ v = 0) ?_ (fun v m' q => ?_)
  · unfold D283_1001
    exact xP_i (fun c => absurd c (by decide)) (fun _ => xP_r ⟨rfl, rfl⟩)
  · obtain ⟨rfl, rfl⟩ := q
    exact xP_r ⟨rfl, by show (Int32.ofNat 31 >>> ((0 : Int32) &&& 31)).toInt = 31; decide⟩
theorem P282_1001 {v : Int32} {i : Nat} (hv : v.toInt = (i : Int)) (l : i < 31) : xP (D282_1001 F v m) (fun r m' => m' = m ∧ r.toInt = (tfl tw1001).getD i 0) := by
  have z := List.all_eq_true.mp zsx1001 i (List.mem_range.mpr l)
  simp only [Bool.and_eq_true] at z
  have z2 := eq_of_beq z.2
  have ei : v.toNatClampNeg = i := by show v.toInt.toNat = i; omega
  unfold D282_1001
  refine xP_b (R := fun v m' => m' = m ∧ v = 1) ?_ (fun v1 m' q => ?_)
  · unfold D284_1001
    exact xP_i (fun c => absurd c (by decide)) (fun _ => xP_i (fun c => absurd c (by decide)) (fun _ => xP_r ⟨rfl, rfl⟩))
  · obtain ⟨rfl, rfl⟩ := q
    refine xP_i (fun c => absurd (show zcmp .eq (1 : Int32) 0 = true from c) (by decide)) (fun _ => ?_)
    refine xP_b (R := fun v2 m2 => m2 = m' ∧ v2 = zsX 20 i) ?_ (fun v2 m2 q => ?_)
    · unfold D286_1020
      refine xP_b (P285 (by omega) (by show _ < (31 : Int); omega)) (fun _ m3 q => ?_)
      subst q
      refine xP_g (xib_t (by omega) (by omega)) ?_
      dsimp only
      rw [ei]
      exact xP_g z.1 (xP_r ⟨rfl, rfl⟩)
    · obtain ⟨rfl, rfl⟩ := q
      exact xP_g z.1 (xP_r ⟨rfl, z2⟩)
theorem P59_55_1001 {e : Nat} (N : kN m0 b n) (he : e ≤ n) : ∀ (f : Nat) {i num : Nat} {a : Option Nat} {v2 v3 v4 v5 : Int32} {m : xS}, kC m0 n p bg ft out wait cl k dp br ex wh m → i ≤ 31 → 31 - i < f → v5.toInt = (i : Int) → v2.toInt = (e : Int) → v3.toInt = (num : Int) → num ≤ i → tat a v4.toInt → bg ≤ e → xP (D59_2_1001_55 F f v2 v3 v4 v5 m) (fun r m' => (∃ u, tpw b e bg ((tfl tw1001).drop i) a num = some u ∧ r.toInt = (u : Int) ∧ kC m0 n e bg ft out wait cl k dp br ex wh m') ∨ (tpw b e bg ((tfl tw1001).drop i) a num = none ∧ r.toInt = -1 ∧ kC m0 n p bg ft out wait cl k dp br ex wh m')) := by
  intro f
  induction f with
  | zero => intro i num a v2 v3 v4 v5 m _ _ l; omega
  | succ f ih =>
    intro i num a v2 v3 v4 v5 m h l1 l2 h5 h2 h3 l3 ha hb
    obtain ⟨k1, k2⟩ := kC_n N h
    have n4 := N.2.1
    have h4 := h.2.2.2.1
    unfold D59_2_1001_55
    refine xP_b P281_1001 (fun w0 mx q => ?_)
    obtain ⟨rfl, q⟩ := q
    dsimp only
    refine xP_i (fun c => ?_) (fun c => ?_)
    · have c : w0.toInt ≤ v5.toInt := zt c
      refine xP_r (Or.inr ⟨?_, by decide, h⟩)
      rw [List.drop_eq_nil_of_le (by rw [tl1001]; omega)]
      rfl
    · have c : ¬ w0.toInt ≤ v5.toInt := zf c
      have li : i < 31 := by omega
      have hd : (tfl tw1001).drop i = (tfl tw1001).getD i 0 :: (tfl tw1001).drop (i + 1) := by
        have l4 : i < (tfl tw1001).length := by rw [tl1001]; exact li
        rw [List.drop_eq_getElem_cons l4, List.getD_eq_getElem?_getD, List.getElem?_eq_getElem l4]
        rfl
      have i5 : (v5 + Int32.ofInt 1).toInt = ((i + 1 : Nat) : Int) := xinc h5 (by omega)
      refine xP_b (P282_1001 h5 li) (fun r1 mx q1 => ?_)
      obtain ⟨rfl, q1⟩ := q1
      dsimp only
      rw [hd]
      generalize hc0 : (tfl tw1001).getD i 0 = c0 at q1 ⊢
      have nx : ∀ {a' : Option Nat} {num' : Nat} {v3' v4' : Int32}, v3'.toInt = (num' : Int) → num' ≤ i + 1 → tat a' v4'.toInt → tpw b e bg (c0 :: (tfl tw1001).drop (i + 1)) a num = tpw b e bg ((tfl tw1001).drop (i + 1)) a' num' → xP (D59_2_1001_55 F f v2 v3' v4' (v5 + Int32.ofInt 1) mx) (fun r m' => (∃ u, tpw b e bg (c0 :: (tfl tw1001).drop (i + 1)) a num = some u ∧ r.toInt = (u : Int) ∧ kC m0 n e bg ft out wait cl k dp br ex wh m') ∨ (tpw b e bg (c0 :: (tfl tw1001).drop (i + 1)) a num = none ∧ r.toInt = -1 ∧ kC m0 n p bg ft out wait cl k dp br ex wh m')) := fun e3 l6 e4 eq => by
        rw [eq]
        exact ih h (by omega) (by omega) i5 h2 e3 l6 e4 hb
      refine xP_i (fun d => ?_) (fun d => ?_)
      · have d : r1.toInt = 32 := zt d
        have d0 : c0 = 32 := by omega
        refine xP_i (fun g => ?_) (fun g => ?_)
        · have g : v4.toInt ≠ v2.toInt := zt g
          unfold D59_2_1001_138
          refine nx (a' := some bg) (num' := num + 1) (xinc h3 (by omega)) (by omega) h4 ?_
          show (if c0 = 32 then (if a = some e then some num else _) else _) = _
          rw [if_pos d0, if_neg (fun z => by rw [z] at ha; have ha : v4.toInt = (e : Int) := ha; omega)]
        · have g : v4.toInt = v2.toInt := Decidable.not_not.mp (zf g)
          refine xP_r (Or.inl ⟨num, ?_, h3, kC_p h h2 N.2.1 he⟩)
          show (if c0 = 32 then (if a = some e then some num else _) else _) = _
          rw [if_pos d0, if_pos]
          cases a with
          | none =>
            have ha : v4.toInt = -1 := ha
            omega
          | some x =>
            have ha : v4.toInt = (x : Int) := ha
            rw [show x = e by omega]
      · have d : r1.toInt ≠ 32 := zf d
        have d0 : ¬ c0 = 32 := by omega
        have st : ∀ {a' : Option Nat}, tnx b e c0 a = a' → tpw b e bg (c0 :: (tfl tw1001).drop (i + 1)) a num = tpw b e bg ((tfl tw1001).drop (i + 1)) a' num := fun z => by
          show (if c0 = 32 then _ else tpw b e bg _ (tnx b e c0 a) num) = _
          rw [if_neg d0, z]
        have no : tnx b e c0 a = none → xP (D59_2_1001_110 F (D59_2_1001_55 F f) v2 v3 v4 v5 mx) (fun r m' => (∃ u, tpw b e bg (c0 :: (tfl tw1001).drop (i + 1)) a num = some u ∧ r.toInt = (u : Int) ∧ kC m0 n e bg ft out wait cl k dp br ex wh m') ∨ (tpw b e bg (c0 :: (tfl tw1001).drop (i + 1)) a num = none ∧ r.toInt = -1 ∧ kC m0 n p bg ft out wait cl k dp br ex wh m')) := fun z => by
          unfold D59_2_1001_110 D59_2_1001_111 D59_2_1001_138
          exact nx (a' := none) h3 (by omega) (by show (-1 : Int32).toInt = -1; decide) (st z)
        refine xP_i (fun g => ?_) (fun g => ?_)
        · have g : v4.toInt = -1 := zt g
          refine no ?_
          cases a with
          | none => rfl
          | some x =>
            have ha : v4.toInt = (x : Int) := ha
            omega
        · have g : v4.toInt ≠ -1 := zf g
          cases a with
          | none =>
            have ha : v4.toInt = -1 := ha
            omega
          | some x =>
            have ha : v4.toInt = (x : Int) := ha
            refine xP_i (fun g2 => ?_) (fun g2 => ?_)
            · have g2 : v2.toInt ≤ v4.toInt := zt g2
              exact no (if_neg (fun z => by omega))
            · have g2 : ¬ v2.toInt ≤ v4.toInt := zf g2
              refine xP_g (xib_t (by omega) (by omega)) ?_
              refine xP_b (P282_1001 h5 li) (fun r2 mx q2 => ?_)
              obtain ⟨rfl, q2⟩ := q2
              dsimp only
              have ex4 : v4.toNatClampNeg = x := by show v4.toInt.toNat = x; omega
              rw [ex4]
              have kx := k2 x (by omega)
              have q3 : r2.toInt = c0 := q2.trans hc0
              refine xP_i (fun g3 => ?_) (fun g3 => ?_)
              · have g3 : (mx.1 1 x).toInt ≠ r2.toInt := zt g3
                exact no (if_neg (fun z => by omega))
              · have g3 : (mx.1 1 x).toInt = r2.toInt := Decidable.not_not.mp (zf g3)
                unfold D59_2_1001_111 D59_2_1001_138
                exact nx (a' := some (x + 1)) h3 (by omega) ((xa1 (by show _ ≤ _ + (1 : Int); omega) (by show _ + (1 : Int) ≤ _; omega)).trans (by rw [ha]; rfl)) (st (if_pos ⟨by omega, by omega⟩))
theorem P59_18_1001 (hF : 500 ≤ F) (N : kN m0 b n) (hb : bg ≤ n) : ∀ (f : Nat) {j : Nat} {v2 : Int32} {m : xS}, kC m0 n p bg ft out wait cl k dp br ex wh m → v2.toInt = (j : Int) → bg ≤ j → j ≤ n → n - j < f → xP (D59_2_1001_18 F f v2 m) (fun r m' => (∃ u, tix (tw b bg (tS tlt b n j)) tw1001 = some u ∧ r.toInt = (u : Int) ∧ kC m0 n (tS tlt b n j) bg ft out wait cl k dp br ex wh m') ∨ (tix (tw b bg (tS tlt b n j)) tw1001 = none ∧ r.toInt = -1 ∧ kC m0 n p bg ft out wait cl k dp br ex wh m')) := by
  have fin : ∀ {j : Nat} {v2 : Int32} {m : xS}, kC m0 n p bg ft out wait cl k dp br ex wh m → v2.toInt = (j : Int) → bg ≤ j → j ≤ n → xP (D59_2_1001_44 F v2 m) (fun r m' => (∃ u, tix (tw b bg j) tw1001 = some u ∧ r.toInt = (u : Int) ∧ kC m0 n j bg ft out wait cl k dp br ex wh m') ∨ (tix (tw b bg j) tw1001 = none ∧ r.toInt = -1 ∧ kC m0 n p bg ft out wait cl k dp br ex wh m')) := by
    intro j v2 m h h2 l1 l2
    unfold D59_2_1001_44
    have z := P59_55_1001 (F := F) (b := b) (e := j) N l2 F (i := 0) (num := 0) (a := some bg) (v2 := v2) (v3 := 0) (v4 := m.1 2 3) (v5 := 0) h (by omega) (by omega) rfl h2 rfl (Nat.le_refl _) h.2.2.2.1 l1
    rw [List.drop_zero, tpw_ws l1 tw1001 0 tb1001, show (fun x : Nat => x + 0) = id from funext (fun _ => rfl), Option.map_id] at z
    exact z
  intro f
  induction f with
  | zero => intro j v2 m _ _ _ _ l; omega
  | succ f ih =>
    intro j v2 m h h2 l1 l2 l3
    obtain ⟨k1, k2⟩ := kC_n N h
    have n4 := N.2.1
    unfold D59_2_1001_18
    refine xP_i (fun c => ?_) (fun c => ?_)
    · have c : (m.1 2 1).toInt ≤ v2.toInt := zt c
      rw [tS_f (fun z => by omega)]
      exact fin h h2 l1 l2
    · have c : ¬ (m.1 2 1).toInt ≤ v2.toInt := zf c
      refine xP_g (xib_t (by omega) (by omega)) ?_
      refine xP_b P57 (fun r mx q => ?_)
      obtain ⟨rfl, q⟩ := q
      have ej : v2.toNatClampNeg = j := by show v2.toInt.toNat = j; omega
      rw [ej, k2 j (by omega)] at q
      dsimp only
      refine xP_i (fun d => ?_) (fun d => ?_)
      · have q : tlt (b j) = false := by
          rcases q with q | q
          · rw [q.1] at d
            cases d
          · exact q.2
        rw [tS_f (fun z => by rw [q] at z; cases z.2)]
        exact fin h h2 l1 l2
      · have q : tlt (b j) = true := by
          rcases q with q | q
          · exact q.2
          · rw [q.1] at d
            cases d
        rw [tS_t (P := tlt) (show j < n by omega) q]
        exact ih h (xinc h2 (by omega)) (by omega) (by omega) (by omega)
theorem P59_1001 (hF : 500 ≤ F) (N : kN m0 b n) (h : kC m0 n p bg ft out wait cl k dp br ex wh m) : xP (D59_2_1001 F m) (fun r m' => (∃ u, tix (tw b (tS tbl b n p) (tS tlt b n (tS tbl b n p))) tw1001 = some u ∧ r.toInt = (u : Int) ∧ kC m0 n (tS tlt b n (tS tbl b n p)) (tS tbl b n p) ft out wait cl k dp br ex wh m') ∨ (tix (tw b (tS tbl b n p) (tS tlt b n (tS tbl b n p))) tw1001 = none ∧ r.toInt = -1 ∧ kC m0 n (tS tbl b n p) (tS tbl b n p) ft out wait cl k dp br ex wh m')) := by
  have n4 := N.2.1
  unfold D59_2_1001
  refine xP_b (P53 hF N h) (fun v m1 q => ?_)
  obtain ⟨q, -⟩ := q
  have l1 : tS tbl b n p ≤ n := q.2.2.1.2
  dsimp only
  exact P59_18_1001 hF N l1 F (kC_bg q q.2.2.1.1 (by omega)) q.2.2.1.1 (Nat.le_refl _) l1 (by omega)
theorem P60_1001 (hF : 500 ≤ F) (N : kN m0 b n) (h : kC m0 n p bg ft out wait cl k dp br ex wh m) : xP (D60_2_1001 F m) (fun r m' => (∃ u, tix (tw b (tS tbl b n p) (tS tlt b n (tS tbl b n p))) tw1001 = some u ∧ r.toInt = (u : Int) ∧ kC m0 n (tS tlt b n (tS tbl b n p)) (tS tbl b n p) ft out wait cl k dp br ex wh m') ∨ (tix (tw b (tS tbl b n p) (tS tlt b n (tS tbl b n p))) tw1001 = none ∧ r.toInt = -1 ∧ kC m0 n (tS tbl b n p) (tS tbl b n p) (trf ft (1 + 8 * (tS tbl b n p : Int))) out wait cl k dp br ex wh m')) := by
  have n4 := N.2.1
  have l2 := h.2.2.1.2
  unfold D60_2_1001 D60_2_1001_20
  refine xP_b (P59_1001 hF N h) (fun v m1 q => ?_)
  dsimp only
  refine xP_i (fun c => ?_) (fun c => ?_)
  · have c : v.toInt ≠ -1 := zt c
    rcases q with q | q
    · exact xP_r (Or.inl q)
    · exact absurd q.2.1 c
  · have c : v.toInt = -1 := Decidable.not_not.mp (zf c)
    rcases q with ⟨u, -, q, -⟩ | ⟨q1, q2, q3⟩
    · omega
    · have b3 := q3.2.2.2.1
      have l1 : tS tbl b n p ≤ n := q3.2.2.1.2
      refine xP_b (P52 q3 (by omega) (by omega) (by decide) (by decide)) (fun _ m2 q4 => xP_r (Or.inr ⟨q1, q2, ?_⟩))
      rw [b3, show (1 + 8 * ((tS tbl b n p : Nat) : Int) + (0 : Int32).toInt) = 1 + 8 * ((tS tbl b n p : Nat) : Int) from Int.add_zero _] at q4
      exact q4
def tw1002 : List (List Int) := [tLend]
theorem tl1002 : (tfl tw1002).length = 5 := by decide
theorem tb1002 : ∀ w ∈ tw1002, ∀ c ∈ w, c ≠ (32 : Int) := by decide
theorem zsx1002 : (List.range 5).all (fun i => (vp_nar .char (zsX 21 i) == zsX 21 i) && (zsX 21 i).toInt == (tfl tw1002).getD i 0) = true := by decide +kernel
theorem P281_1002 : xP (D281_1002 F m) (fun v m' => m' = m ∧ v.toInt = 5) := by
  unfold D281_1002
  refine xP_b (R := fun v m' => m' = m ∧ v = 0) ?_ (fun v m' q => ?_)
  · unfold D283_1002
    exact xP_i (fun c => absurd c (by decide)) (fun _ => xP_r ⟨rfl, rfl⟩)
  · obtain ⟨rfl, rfl⟩ := q
    exact xP_r ⟨rfl, by show (Int32.ofNat 5 >>> ((0 : Int32) &&& 31)).toInt = 5; decide⟩
theorem P282_1002 {v : Int32} {i : Nat} (hv : v.toInt = (i : Int)) (l : i < 5) : xP (D282_1002 F v m) (fun r m' => m' = m ∧ r.toInt = (tfl tw1002).getD i 0) := by
  have z := List.all_eq_true.mp zsx1002 i (List.mem_range.mpr l)
  simp only [Bool.and_eq_true] at z
  have z2 := eq_of_beq z.2
  have ei : v.toNatClampNeg = i := by show v.toInt.toNat = i; omega
  unfold D282_1002
  refine xP_b (R := fun v m' => m' = m ∧ v = 1) ?_ (fun v1 m' q => ?_)
  · unfold D284_1002
    exact xP_i (fun c => absurd c (by decide)) (fun _ => xP_i (fun c => absurd c (by decide)) (fun _ => xP_r ⟨rfl, rfl⟩))
  · obtain ⟨rfl, rfl⟩ := q
    refine xP_i (fun c => absurd (show zcmp .eq (1 : Int32) 0 = true from c) (by decide)) (fun _ => ?_)
    refine xP_b (R := fun v2 m2 => m2 = m' ∧ v2 = zsX 21 i) ?_ (fun v2 m2 q => ?_)
    · unfold D286_1021
      refine xP_b (P285 (by omega) (by show _ < (5 : Int); omega)) (fun _ m3 q => ?_)
      subst q
      refine xP_g (xib_t (by omega) (by omega)) ?_
      dsimp only
      rw [ei]
      exact xP_g z.1 (xP_r ⟨rfl, rfl⟩)
    · obtain ⟨rfl, rfl⟩ := q
      exact xP_g z.1 (xP_r ⟨rfl, z2⟩)
theorem P59_55_1002 {e : Nat} (N : kN m0 b n) (he : e ≤ n) : ∀ (f : Nat) {i num : Nat} {a : Option Nat} {v2 v3 v4 v5 : Int32} {m : xS}, kC m0 n p bg ft out wait cl k dp br ex wh m → i ≤ 5 → 5 - i < f → v5.toInt = (i : Int) → v2.toInt = (e : Int) → v3.toInt = (num : Int) → num ≤ i → tat a v4.toInt → bg ≤ e → xP (D59_2_1002_55 F f v2 v3 v4 v5 m) (fun r m' => (∃ u, tpw b e bg ((tfl tw1002).drop i) a num = some u ∧ r.toInt = (u : Int) ∧ kC m0 n e bg ft out wait cl k dp br ex wh m') ∨ (tpw b e bg ((tfl tw1002).drop i) a num = none ∧ r.toInt = -1 ∧ kC m0 n p bg ft out wait cl k dp br ex wh m')) := by
  intro f
  induction f with
  | zero => intro i num a v2 v3 v4 v5 m _ _ l; omega
  | succ f ih =>
    intro i num a v2 v3 v4 v5 m h l1 l2 h5 h2 h3 l3 ha hb
    obtain ⟨k1, k2⟩ := kC_n N h
    have n4 := N.2.1
    have h4 := h.2.2.2.1
    unfold D59_2_1002_55
    refine xP_b P281_1002 (fun w0 mx q => ?_)
    obtain ⟨rfl, q⟩ := q
    dsimp only
    refine xP_i (fun c => ?_) (fun c => ?_)
    · have c : w0.toInt ≤ v5.toInt := zt c
      refine xP_r (Or.inr ⟨?_, by decide, h⟩)
      rw [List.drop_eq_nil_of_le (by rw [tl1002]; omega)]
      rfl
    · have c : ¬ w0.toInt ≤ v5.toInt := zf c
      have li : i < 5 := by omega
      have hd : (tfl tw1002).drop i = (tfl tw1002).getD i 0 :: (tfl tw1002).drop (i + 1) := by
        have l4 : i < (tfl tw1002).length := by rw [tl1002]; exact li
        rw [List.drop_eq_getElem_cons l4, List.getD_eq_getElem?_getD, List.getElem?_eq_getElem l4]
        rfl
      have i5 : (v5 + Int32.ofInt 1).toInt = ((i + 1 : Nat) : Int) := xinc h5 (by omega)
      refine xP_b (P282_1002 h5 li) (fun r1 mx q1 => ?_)
      obtain ⟨rfl, q1⟩ := q1
      dsimp only
      rw [hd]
      generalize hc0 : (tfl tw1002).getD i 0 = c0 at q1 ⊢
      have nx : ∀ {a' : Option Nat} {num' : Nat} {v3' v4' : Int32}, v3'.toInt = (num' : Int) → num' ≤ i + 1 → tat a' v4'.toInt → tpw b e bg (c0 :: (tfl tw1002).drop (i + 1)) a num = tpw b e bg ((tfl tw1002).drop (i + 1)) a' num' → xP (D59_2_1002_55 F f v2 v3' v4' (v5 + Int32.ofInt 1) mx) (fun r m' => (∃ u, tpw b e bg (c0 :: (tfl tw1002).drop (i + 1)) a num = some u ∧ r.toInt = (u : Int) ∧ kC m0 n e bg ft out wait cl k dp br ex wh m') ∨ (tpw b e bg (c0 :: (tfl tw1002).drop (i + 1)) a num = none ∧ r.toInt = -1 ∧ kC m0 n p bg ft out wait cl k dp br ex wh m')) := fun e3 l6 e4 eq => by
        rw [eq]
        exact ih h (by omega) (by omega) i5 h2 e3 l6 e4 hb
      refine xP_i (fun d => ?_) (fun d => ?_)
      · have d : r1.toInt = 32 := zt d
        have d0 : c0 = 32 := by omega
        refine xP_i (fun g => ?_) (fun g => ?_)
        · have g : v4.toInt ≠ v2.toInt := zt g
          unfold D59_2_1002_138
          refine nx (a' := some bg) (num' := num + 1) (xinc h3 (by omega)) (by omega) h4 ?_
          show (if c0 = 32 then (if a = some e then some num else _) else _) = _
          rw [if_pos d0, if_neg (fun z => by rw [z] at ha; have ha : v4.toInt = (e : Int) := ha; omega)]
        · have g : v4.toInt = v2.toInt := Decidable.not_not.mp (zf g)
          refine xP_r (Or.inl ⟨num, ?_, h3, kC_p h h2 N.2.1 he⟩)
          show (if c0 = 32 then (if a = some e then some num else _) else _) = _
          rw [if_pos d0, if_pos]
          cases a with
          | none =>
            have ha : v4.toInt = -1 := ha
            omega
          | some x =>
            have ha : v4.toInt = (x : Int) := ha
            rw [show x = e by omega]
      · have d : r1.toInt ≠ 32 := zf d
        have d0 : ¬ c0 = 32 := by omega
        have st : ∀ {a' : Option Nat}, tnx b e c0 a = a' → tpw b e bg (c0 :: (tfl tw1002).drop (i + 1)) a num = tpw b e bg ((tfl tw1002).drop (i + 1)) a' num := fun z => by
          show (if c0 = 32 then _ else tpw b e bg _ (tnx b e c0 a) num) = _
          rw [if_neg d0, z]
        have no : tnx b e c0 a = none → xP (D59_2_1002_110 F (D59_2_1002_55 F f) v2 v3 v4 v5 mx) (fun r m' => (∃ u, tpw b e bg (c0 :: (tfl tw1002).drop (i + 1)) a num = some u ∧ r.toInt = (u : Int) ∧ kC m0 n e bg ft out wait cl k dp br ex wh m') ∨ (tpw b e bg (c0 :: (tfl tw1002).drop (i + 1)) a num = none ∧ r.toInt = -1 ∧ kC m0 n p bg ft out wait cl k dp br ex wh m')) := fun z => by
          unfold D59_2_1002_110 D59_2_1002_111 D59_2_1002_138
          exact nx (a' := none) h3 (by omega) (by show (-1 : Int32).toInt = -1; decide) (st z)
        refine xP_i (fun g => ?_) (fun g => ?_)
        · have g : v4.toInt = -1 := zt g
          refine no ?_
          cases a with
          | none => rfl
          | some x =>
            have ha : v4.toInt = (x : Int) := ha
            omega
        · have g : v4.toInt ≠ -1 := zf g
          cases a with
          | none =>
            have ha : v4.toInt = -1 := ha
            omega
          | some x =>
            have ha : v4.toInt = (x : Int) := ha
            refine xP_i (fun g2 => ?_) (fun g2 => ?_)
            · have g2 : v2.toInt ≤ v4.toInt := zt g2
              exact no (if_neg (fun z => by omega))
            · have g2 : ¬ v2.toInt ≤ v4.toInt := zf g2
              refine xP_g (xib_t (by omega) (by omega)) ?_
              refine xP_b (P282_1002 h5 li) (fun r2 mx q2 => ?_)
              obtain ⟨rfl, q2⟩ := q2
              dsimp only
              have ex4 : v4.toNatClampNeg = x := by show v4.toInt.toNat = x; omega
              rw [ex4]
              have kx := k2 x (by omega)
              have q3 : r2.toInt = c0 := q2.trans hc0
              refine xP_i (fun g3 => ?_) (fun g3 => ?_)
              · have g3 : (mx.1 1 x).toInt ≠ r2.toInt := zt g3
                exact no (if_neg (fun z => by omega))
              · have g3 : (mx.1 1 x).toInt = r2.toInt := Decidable.not_not.mp (zf g3)
                unfold D59_2_1002_111 D59_2_1002_138
                exact nx (a' := some (x + 1)) h3 (by omega) ((xa1 (by show _ ≤ _ + (1 : Int); omega) (by show _ + (1 : Int) ≤ _; omega)).trans (by rw [ha]; rfl)) (st (if_pos ⟨by omega, by omega⟩))
theorem P59_18_1002 (hF : 500 ≤ F) (N : kN m0 b n) (hb : bg ≤ n) : ∀ (f : Nat) {j : Nat} {v2 : Int32} {m : xS}, kC m0 n p bg ft out wait cl k dp br ex wh m → v2.toInt = (j : Int) → bg ≤ j → j ≤ n → n - j < f → xP (D59_2_1002_18 F f v2 m) (fun r m' => (∃ u, tix (tw b bg (tS tlt b n j)) tw1002 = some u ∧ r.toInt = (u : Int) ∧ kC m0 n (tS tlt b n j) bg ft out wait cl k dp br ex wh m') ∨ (tix (tw b bg (tS tlt b n j)) tw1002 = none ∧ r.toInt = -1 ∧ kC m0 n p bg ft out wait cl k dp br ex wh m')) := by
  have fin : ∀ {j : Nat} {v2 : Int32} {m : xS}, kC m0 n p bg ft out wait cl k dp br ex wh m → v2.toInt = (j : Int) → bg ≤ j → j ≤ n → xP (D59_2_1002_44 F v2 m) (fun r m' => (∃ u, tix (tw b bg j) tw1002 = some u ∧ r.toInt = (u : Int) ∧ kC m0 n j bg ft out wait cl k dp br ex wh m') ∨ (tix (tw b bg j) tw1002 = none ∧ r.toInt = -1 ∧ kC m0 n p bg ft out wait cl k dp br ex wh m')) := by
    intro j v2 m h h2 l1 l2
    unfold D59_2_1002_44
    have z := P59_55_1002 (F := F) (b := b) (e := j) N l2 F (i := 0) (num := 0) (a := some bg) (v2 := v2) (v3 := 0) (v4 := m.1 2 3) (v5 := 0) h (by omega) (by omega) rfl h2 rfl (Nat.le_refl _) h.2.2.2.1 l1
    rw [List.drop_zero, tpw_ws l1 tw1002 0 tb1002, show (fun x : Nat => x + 0) = id from funext (fun _ => rfl), Option.map_id] at z
    exact z
  intro f
  induction f with
  | zero => intro j v2 m _ _ _ _ l; omega
  | succ f ih =>
    intro j v2 m h h2 l1 l2 l3
    obtain ⟨k1, k2⟩ := kC_n N h
    have n4 := N.2.1
    unfold D59_2_1002_18
    refine xP_i (fun c => ?_) (fun c => ?_)
    · have c : (m.1 2 1).toInt ≤ v2.toInt := zt c
      rw [tS_f (fun z => by omega)]
      exact fin h h2 l1 l2
    · have c : ¬ (m.1 2 1).toInt ≤ v2.toInt := zf c
      refine xP_g (xib_t (by omega) (by omega)) ?_
      refine xP_b P57 (fun r mx q => ?_)
      obtain ⟨rfl, q⟩ := q
      have ej : v2.toNatClampNeg = j := by show v2.toInt.toNat = j; omega
      rw [ej, k2 j (by omega)] at q
      dsimp only
      refine xP_i (fun d => ?_) (fun d => ?_)
      · have q : tlt (b j) = false := by
          rcases q with q | q
          · rw [q.1] at d
            cases d
          · exact q.2
        rw [tS_f (fun z => by rw [q] at z; cases z.2)]
        exact fin h h2 l1 l2
      · have q : tlt (b j) = true := by
          rcases q with q | q
          · exact q.2
          · rw [q.1] at d
            cases d
        rw [tS_t (P := tlt) (show j < n by omega) q]
        exact ih h (xinc h2 (by omega)) (by omega) (by omega) (by omega)
theorem P59_1002 (hF : 500 ≤ F) (N : kN m0 b n) (h : kC m0 n p bg ft out wait cl k dp br ex wh m) : xP (D59_2_1002 F m) (fun r m' => (∃ u, tix (tw b (tS tbl b n p) (tS tlt b n (tS tbl b n p))) tw1002 = some u ∧ r.toInt = (u : Int) ∧ kC m0 n (tS tlt b n (tS tbl b n p)) (tS tbl b n p) ft out wait cl k dp br ex wh m') ∨ (tix (tw b (tS tbl b n p) (tS tlt b n (tS tbl b n p))) tw1002 = none ∧ r.toInt = -1 ∧ kC m0 n (tS tbl b n p) (tS tbl b n p) ft out wait cl k dp br ex wh m')) := by
  have n4 := N.2.1
  unfold D59_2_1002
  refine xP_b (P53 hF N h) (fun v m1 q => ?_)
  obtain ⟨q, -⟩ := q
  have l1 : tS tbl b n p ≤ n := q.2.2.1.2
  dsimp only
  exact P59_18_1002 hF N l1 F (kC_bg q q.2.2.1.1 (by omega)) q.2.2.1.1 (Nat.le_refl _) l1 (by omega)
theorem P60_1002 (hF : 500 ≤ F) (N : kN m0 b n) (h : kC m0 n p bg ft out wait cl k dp br ex wh m) : xP (D60_2_1002 F m) (fun r m' => (∃ u, tix (tw b (tS tbl b n p) (tS tlt b n (tS tbl b n p))) tw1002 = some u ∧ r.toInt = (u : Int) ∧ kC m0 n (tS tlt b n (tS tbl b n p)) (tS tbl b n p) ft out wait cl k dp br ex wh m') ∨ (tix (tw b (tS tbl b n p) (tS tlt b n (tS tbl b n p))) tw1002 = none ∧ r.toInt = -1 ∧ kC m0 n (tS tbl b n p) (tS tbl b n p) (trf ft (1 + 8 * (tS tbl b n p : Int))) out wait cl k dp br ex wh m')) := by
  have n4 := N.2.1
  have l2 := h.2.2.1.2
  unfold D60_2_1002 D60_2_1002_20
  refine xP_b (P59_1002 hF N h) (fun v m1 q => ?_)
  dsimp only
  refine xP_i (fun c => ?_) (fun c => ?_)
  · have c : v.toInt ≠ -1 := zt c
    rcases q with q | q
    · exact xP_r (Or.inl q)
    · exact absurd q.2.1 c
  · have c : v.toInt = -1 := Decidable.not_not.mp (zf c)
    rcases q with ⟨u, -, q, -⟩ | ⟨q1, q2, q3⟩
    · omega
    · have b3 := q3.2.2.2.1
      have l1 : tS tbl b n p ≤ n := q3.2.2.1.2
      refine xP_b (P52 q3 (by omega) (by omega) (by decide) (by decide)) (fun _ m2 q4 => xP_r (Or.inr ⟨q1, q2, ?_⟩))
      rw [b3, show (1 + 8 * ((tS tbl b n p : Nat) : Int) + (0 : Int32).toInt) = 1 + 8 * ((tS tbl b n p : Nat) : Int) from Int.add_zero _] at q4
      exact q4
def tw1003 : List (List Int) := [tNot]
theorem tl1003 : (tfl tw1003).length = 4 := by decide
theorem tb1003 : ∀ w ∈ tw1003, ∀ c ∈ w, c ≠ (32 : Int) := by decide
theorem zsx1003 : (List.range 4).all (fun i => (vp_nar .char (zsX 22 i) == zsX 22 i) && (zsX 22 i).toInt == (tfl tw1003).getD i 0) = true := by decide +kernel
theorem P281_1003 : xP (D281_1003 F m) (fun v m' => m' = m ∧ v.toInt = 4) := by
  unfold D281_1003
  refine xP_b (R := fun v m' => m' = m ∧ v = 0) ?_ (fun v m' q => ?_)
  · unfold D283_1003
    exact xP_i (fun c => absurd c (by decide)) (fun _ => xP_r ⟨rfl, rfl⟩)
  · obtain ⟨rfl, rfl⟩ := q
    exact xP_r ⟨rfl, by show (Int32.ofNat 4 >>> ((0 : Int32) &&& 31)).toInt = 4; decide⟩
theorem P282_1003 {v : Int32} {i : Nat} (hv : v.toInt = (i : Int)) (l : i < 4) : xP (D282_1003 F v m) (fun r m' => m' = m ∧ r.toInt = (tfl tw1003).getD i 0) := by
  have z := List.all_eq_true.mp zsx1003 i (List.mem_range.mpr l)
  simp only [Bool.and_eq_true] at z
  have z2 := eq_of_beq z.2
  have ei : v.toNatClampNeg = i := by show v.toInt.toNat = i; omega
  unfold D282_1003
  refine xP_b (R := fun v m' => m' = m ∧ v = 1) ?_ (fun v1 m' q => ?_)
  · unfold D284_1003
    exact xP_i (fun c => absurd c (by decide)) (fun _ => xP_i (fun c => absurd c (by decide)) (fun _ => xP_r ⟨rfl, rfl⟩))
  · obtain ⟨rfl, rfl⟩ := q
    refine xP_i (fun c => absurd (show zcmp .eq (1 : Int32) 0 = true from c) (by decide)) (fun _ => ?_)
    refine xP_b (R := fun v2 m2 => m2 = m' ∧ v2 = zsX 22 i) ?_ (fun v2 m2 q => ?_)
    · unfold D286_1022
      refine xP_b (P285 (by omega) (by show _ < (4 : Int); omega)) (fun _ m3 q => ?_)
      subst q
      refine xP_g (xib_t (by omega) (by omega)) ?_
      dsimp only
      rw [ei]
      exact xP_g z.1 (xP_r ⟨rfl, rfl⟩)
    · obtain ⟨rfl, rfl⟩ := q
      exact xP_g z.1 (xP_r ⟨rfl, z2⟩)
theorem P59_55_1003 {e : Nat} (N : kN m0 b n) (he : e ≤ n) : ∀ (f : Nat) {i num : Nat} {a : Option Nat} {v2 v3 v4 v5 : Int32} {m : xS}, kC m0 n p bg ft out wait cl k dp br ex wh m → i ≤ 4 → 4 - i < f → v5.toInt = (i : Int) → v2.toInt = (e : Int) → v3.toInt = (num : Int) → num ≤ i → tat a v4.toInt → bg ≤ e → xP (D59_2_1003_55 F f v2 v3 v4 v5 m) (fun r m' => (∃ u, tpw b e bg ((tfl tw1003).drop i) a num = some u ∧ r.toInt = (u : Int) ∧ kC m0 n e bg ft out wait cl k dp br ex wh m') ∨ (tpw b e bg ((tfl tw1003).drop i) a num = none ∧ r.toInt = -1 ∧ kC m0 n p bg ft out wait cl k dp br ex wh m')) := by
  intro f
  induction f with
  | zero => intro i num a v2 v3 v4 v5 m _ _ l; omega
  | succ f ih =>
    intro i num a v2 v3 v4 v5 m h l1 l2 h5 h2 h3 l3 ha hb
    obtain ⟨k1, k2⟩ := kC_n N h
    have n4 := N.2.1
    have h4 := h.2.2.2.1
    unfold D59_2_1003_55
    refine xP_b P281_1003 (fun w0 mx q => ?_)
    obtain ⟨rfl, q⟩ := q
    dsimp only
    refine xP_i (fun c => ?_) (fun c => ?_)
    · have c : w0.toInt ≤ v5.toInt := zt c
      refine xP_r (Or.inr ⟨?_, by decide, h⟩)
      rw [List.drop_eq_nil_of_le (by rw [tl1003]; omega)]
      rfl
    · have c : ¬ w0.toInt ≤ v5.toInt := zf c
      have li : i < 4 := by omega
      have hd : (tfl tw1003).drop i = (tfl tw1003).getD i 0 :: (tfl tw1003).drop (i + 1) := by
        have l4 : i < (tfl tw1003).length := by rw [tl1003]; exact li
        rw [List.drop_eq_getElem_cons l4, List.getD_eq_getElem?_getD, List.getElem?_eq_getElem l4]
        rfl
      have i5 : (v5 + Int32.ofInt 1).toInt = ((i + 1 : Nat) : Int) := xinc h5 (by omega)
      refine xP_b (P282_1003 h5 li) (fun r1 mx q1 => ?_)
      obtain ⟨rfl, q1⟩ := q1
      dsimp only
      rw [hd]
      generalize hc0 : (tfl tw1003).getD i 0 = c0 at q1 ⊢
      have nx : ∀ {a' : Option Nat} {num' : Nat} {v3' v4' : Int32}, v3'.toInt = (num' : Int) → num' ≤ i + 1 → tat a' v4'.toInt → tpw b e bg (c0 :: (tfl tw1003).drop (i + 1)) a num = tpw b e bg ((tfl tw1003).drop (i + 1)) a' num' → xP (D59_2_1003_55 F f v2 v3' v4' (v5 + Int32.ofInt 1) mx) (fun r m' => (∃ u, tpw b e bg (c0 :: (tfl tw1003).drop (i + 1)) a num = some u ∧ r.toInt = (u : Int) ∧ kC m0 n e bg ft out wait cl k dp br ex wh m') ∨ (tpw b e bg (c0 :: (tfl tw1003).drop (i + 1)) a num = none ∧ r.toInt = -1 ∧ kC m0 n p bg ft out wait cl k dp br ex wh m')) := fun e3 l6 e4 eq => by
        rw [eq]
        exact ih h (by omega) (by omega) i5 h2 e3 l6 e4 hb
      refine xP_i (fun d => ?_) (fun d => ?_)
      · have d : r1.toInt = 32 := zt d
        have d0 : c0 = 32 := by omega
        refine xP_i (fun g => ?_) (fun g => ?_)
        · have g : v4.toInt ≠ v2.toInt := zt g
          unfold D59_2_1003_138
          refine nx (a' := some bg) (num' := num + 1) (xinc h3 (by omega)) (by omega) h4 ?_
          show (if c0 = 32 then (if a = some e then some num else _) else _) = _
          rw [if_pos d0, if_neg (fun z => by rw [z] at ha; have ha : v4.toInt = (e : Int) := ha; omega)]
        · have g : v4.toInt = v2.toInt := Decidable.not_not.mp (zf g)
          refine xP_r (Or.inl ⟨num, ?_, h3, kC_p h h2 N.2.1 he⟩)
          show (if c0 = 32 then (if a = some e then some num else _) else _) = _
          rw [if_pos d0, if_pos]
          cases a with
          | none =>
            have ha : v4.toInt = -1 := ha
            omega
          | some x =>
            have ha : v4.toInt = (x : Int) := ha
            rw [show x = e by omega]
      · have d : r1.toInt ≠ 32 := zf d
        have d0 : ¬ c0 = 32 := by omega
        have st : ∀ {a' : Option Nat}, tnx b e c0 a = a' → tpw b e bg (c0 :: (tfl tw1003).drop (i + 1)) a num = tpw b e bg ((tfl tw1003).drop (i + 1)) a' num := fun z => by
          show (if c0 = 32 then _ else tpw b e bg _ (tnx b e c0 a) num) = _
          rw [if_neg d0, z]
        have no : tnx b e c0 a = none → xP (D59_2_1003_110 F (D59_2_1003_55 F f) v2 v3 v4 v5 mx) (fun r m' => (∃ u, tpw b e bg (c0 :: (tfl tw1003).drop (i + 1)) a num = some u ∧ r.toInt = (u : Int) ∧ kC m0 n e bg ft out wait cl k dp br ex wh m') ∨ (tpw b e bg (c0 :: (tfl tw1003).drop (i + 1)) a num = none ∧ r.toInt = -1 ∧ kC m0 n p bg ft out wait cl k dp br ex wh m')) := fun z => by
          unfold D59_2_1003_110 D59_2_1003_111 D59_2_1003_138
          exact nx (a' := none) h3 (by omega) (by show (-1 : Int32).toInt = -1; decide) (st z)
        refine xP_i (fun g => ?_) (fun g => ?_)
        · have g : v4.toInt = -1 := zt g
          refine no ?_
          cases a with
          | none => rfl
          | some x =>
            have ha : v4.toInt = (x : Int) := ha
            omega
        · have g : v4.toInt ≠ -1 := zf g
          cases a with
          | none =>
            have ha : v4.toInt = -1 := ha
            omega
          | some x =>
            have ha : v4.toInt = (x : Int) := ha
            refine xP_i (fun g2 => ?_) (fun g2 => ?_)
            · have g2 : v2.toInt ≤ v4.toInt := zt g2
              exact no (if_neg (fun z => by omega))
            · have g2 : ¬ v2.toInt ≤ v4.toInt := zf g2
              refine xP_g (xib_t (by omega) (by omega)) ?_
              refine xP_b (P282_1003 h5 li) (fun r2 mx q2 => ?_)
              obtain ⟨rfl, q2⟩ := q2
              dsimp only
              have ex4 : v4.toNatClampNeg = x := by show v4.toInt.toNat = x; omega
              rw [ex4]
              have kx := k2 x (by omega)
              have q3 : r2.toInt = c0 := q2.trans hc0
              refine xP_i (fun g3 => ?_) (fun g3 => ?_)
              · have g3 : (mx.1 1 x).toInt ≠ r2.toInt := zt g3
                exact no (if_neg (fun z => by omega))
              · have g3 : (mx.1 1 x).toInt = r2.toInt := Decidable.not_not.mp (zf g3)
                unfold D59_2_1003_111 D59_2_1003_138
                exact nx (a' := some (x + 1)) h3 (by omega) ((xa1 (by show _ ≤ _ + (1 : Int); omega) (by show _ + (1 : Int) ≤ _; omega)).trans (by rw [ha]; rfl)) (st (if_pos ⟨by omega, by omega⟩))
theorem P59_18_1003 (hF : 500 ≤ F) (N : kN m0 b n) (hb : bg ≤ n) : ∀ (f : Nat) {j : Nat} {v2 : Int32} {m : xS}, kC m0 n p bg ft out wait cl k dp br ex wh m → v2.toInt = (j : Int) → bg ≤ j → j ≤ n → n - j < f → xP (D59_2_1003_18 F f v2 m) (fun r m' => (∃ u, tix (tw b bg (tS tlt b n j)) tw1003 = some u ∧ r.toInt = (u : Int) ∧ kC m0 n (tS tlt b n j) bg ft out wait cl k dp br ex wh m') ∨ (tix (tw b bg (tS tlt b n j)) tw1003 = none ∧ r.toInt = -1 ∧ kC m0 n p bg ft out wait cl k dp br ex wh m')) := by
  have fin : ∀ {j : Nat} {v2 : Int32} {m : xS}, kC m0 n p bg ft out wait cl k dp br ex wh m → v2.toInt = (j : Int) → bg ≤ j → j ≤ n → xP (D59_2_1003_44 F v2 m) (fun r m' => (∃ u, tix (tw b bg j) tw1003 = some u ∧ r.toInt = (u : Int) ∧ kC m0 n j bg ft out wait cl k dp br ex wh m') ∨ (tix (tw b bg j) tw1003 = none ∧ r.toInt = -1 ∧ kC m0 n p bg ft out wait cl k dp br ex wh m')) := by
    intro j v2 m h h2 l1 l2
    unfold D59_2_1003_44
    have z := P59_55_1003 (F := F) (b := b) (e := j) N l2 F (i := 0) (num := 0) (a := some bg) (v2 := v2) (v3 := 0) (v4 := m.1 2 3) (v5 := 0) h (by omega) (by omega) rfl h2 rfl (Nat.le_refl _) h.2.2.2.1 l1
    rw [List.drop_zero, tpw_ws l1 tw1003 0 tb1003, show (fun x : Nat => x + 0) = id from funext (fun _ => rfl), Option.map_id] at z
    exact z
  intro f
  induction f with
  | zero => intro j v2 m _ _ _ _ l; omega
  | succ f ih =>
    intro j v2 m h h2 l1 l2 l3
    obtain ⟨k1, k2⟩ := kC_n N h
    have n4 := N.2.1
    unfold D59_2_1003_18
    refine xP_i (fun c => ?_) (fun c => ?_)
    · have c : (m.1 2 1).toInt ≤ v2.toInt := zt c
      rw [tS_f (fun z => by omega)]
      exact fin h h2 l1 l2
    · have c : ¬ (m.1 2 1).toInt ≤ v2.toInt := zf c
      refine xP_g (xib_t (by omega) (by omega)) ?_
      refine xP_b P57 (fun r mx q => ?_)
      obtain ⟨rfl, q⟩ := q
      have ej : v2.toNatClampNeg = j := by show v2.toInt.toNat = j; omega
      rw [ej, k2 j (by omega)] at q
      dsimp only
      refine xP_i (fun d => ?_) (fun d => ?_)
      · have q : tlt (b j) = false := by
          rcases q with q | q
          · rw [q.1] at d
            cases d
          · exact q.2
        rw [tS_f (fun z => by rw [q] at z; cases z.2)]
        exact fin h h2 l1 l2
      · have q : tlt (b j) = true := by
          rcases q with q | q
          · exact q.2
          · rw [q.1] at d
            cases d
        rw [tS_t (P := tlt) (show j < n by omega) q]
        exact ih h (xinc h2 (by omega)) (by omega) (by omega) (by omega)
theorem P59_1003 (hF : 500 ≤ F) (N : kN m0 b n) (h : kC m0 n p bg ft out wait cl k dp br ex wh m) : xP (D59_2_1003 F m) (fun r m' => (∃ u, tix (tw b (tS tbl b n p) (tS tlt b n (tS tbl b n p))) tw1003 = some u ∧ r.toInt = (u : Int) ∧ kC m0 n (tS tlt b n (tS tbl b n p)) (tS tbl b n p) ft out wait cl k dp br ex wh m') ∨ (tix (tw b (tS tbl b n p) (tS tlt b n (tS tbl b n p))) tw1003 = none ∧ r.toInt = -1 ∧ kC m0 n (tS tbl b n p) (tS tbl b n p) ft out wait cl k dp br ex wh m')) := by
  have n4 := N.2.1
  unfold D59_2_1003
  refine xP_b (P53 hF N h) (fun v m1 q => ?_)
  obtain ⟨q, -⟩ := q
  have l1 : tS tbl b n p ≤ n := q.2.2.1.2
  dsimp only
  exact P59_18_1003 hF N l1 F (kC_bg q q.2.2.1.1 (by omega)) q.2.2.1.1 (Nat.le_refl _) l1 (by omega)
def tw1004 : List (List Int) := tWds
theorem tl1004 : (tfl tw1004).length = 66 := by decide
theorem tb1004 : ∀ w ∈ tw1004, ∀ c ∈ w, c ≠ (32 : Int) := by decide
theorem zsx1004 : (List.range 66).all (fun i => (vp_nar .char (zsX 23 i) == zsX 23 i) && (zsX 23 i).toInt == (tfl tw1004).getD i 0) = true := by decide +kernel
theorem P281_1004 : xP (D281_1004 F m) (fun v m' => m' = m ∧ v.toInt = 66) := by
  unfold D281_1004
  refine xP_b (R := fun v m' => m' = m ∧ v = 0) ?_ (fun v m' q => ?_)
  · unfold D283_1004
    exact xP_i (fun c => absurd c (by decide)) (fun _ => xP_r ⟨rfl, rfl⟩)
  · obtain ⟨rfl, rfl⟩ := q
    exact xP_r ⟨rfl, by show (Int32.ofNat 66 >>> ((0 : Int32) &&& 31)).toInt = 66; decide⟩
theorem P282_1004 {v : Int32} {i : Nat} (hv : v.toInt = (i : Int)) (l : i < 66) : xP (D282_1004 F v m) (fun r m' => m' = m ∧ r.toInt = (tfl tw1004).getD i 0) := by
  have z := List.all_eq_true.mp zsx1004 i (List.mem_range.mpr l)
  simp only [Bool.and_eq_true] at z
  have z2 := eq_of_beq z.2
  have ei : v.toNatClampNeg = i := by show v.toInt.toNat = i; omega
  unfold D282_1004
  refine xP_b (R := fun v m' => m' = m ∧ v = 1) ?_ (fun v1 m' q => ?_)
  · unfold D284_1004
    exact xP_i (fun c => absurd c (by decide)) (fun _ => xP_i (fun c => absurd c (by decide)) (fun _ => xP_r ⟨rfl, rfl⟩))
  · obtain ⟨rfl, rfl⟩ := q
    refine xP_i (fun c => absurd (show zcmp .eq (1 : Int32) 0 = true from c) (by decide)) (fun _ => ?_)
    refine xP_b (R := fun v2 m2 => m2 = m' ∧ v2 = zsX 23 i) ?_ (fun v2 m2 q => ?_)
    · unfold D286_1023
      refine xP_b (P285 (by omega) (by show _ < (66 : Int); omega)) (fun _ m3 q => ?_)
      subst q
      refine xP_g (xib_t (by omega) (by omega)) ?_
      dsimp only
      rw [ei]
      exact xP_g z.1 (xP_r ⟨rfl, rfl⟩)
    · obtain ⟨rfl, rfl⟩ := q
      exact xP_g z.1 (xP_r ⟨rfl, z2⟩)
theorem P59_55_1004 {e : Nat} (N : kN m0 b n) (he : e ≤ n) : ∀ (f : Nat) {i num : Nat} {a : Option Nat} {v2 v3 v4 v5 : Int32} {m : xS}, kC m0 n p bg ft out wait cl k dp br ex wh m → i ≤ 66 → 66 - i < f → v5.toInt = (i : Int) → v2.toInt = (e : Int) → v3.toInt = (num : Int) → num ≤ i → tat a v4.toInt → bg ≤ e → xP (D59_2_1004_55 F f v2 v3 v4 v5 m) (fun r m' => (∃ u, tpw b e bg ((tfl tw1004).drop i) a num = some u ∧ r.toInt = (u : Int) ∧ kC m0 n e bg ft out wait cl k dp br ex wh m') ∨ (tpw b e bg ((tfl tw1004).drop i) a num = none ∧ r.toInt = -1 ∧ kC m0 n p bg ft out wait cl k dp br ex wh m')) := by
  intro f
  induction f with
  | zero => intro i num a v2 v3 v4 v5 m _ _ l; omega
  | succ f ih =>
    intro i num a v2 v3 v4 v5 m h l1 l2 h5 h2 h3 l3 ha hb
    obtain ⟨k1, k2⟩ := kC_n N h
    have n4 := N.2.1
    have h4 := h.2.2.2.1
    unfold D59_2_1004_55
    refine xP_b P281_1004 (fun w0 mx q => ?_)
    obtain ⟨rfl, q⟩ := q
    dsimp only
    refine xP_i (fun c => ?_) (fun c => ?_)
    · have c : w0.toInt ≤ v5.toInt := zt c
      refine xP_r (Or.inr ⟨?_, by decide, h⟩)
      rw [List.drop_eq_nil_of_le (by rw [tl1004]; omega)]
      rfl
    · have c : ¬ w0.toInt ≤ v5.toInt := zf c
      have li : i < 66 := by omega
      have hd : (tfl tw1004).drop i = (tfl tw1004).getD i 0 :: (tfl tw1004).drop (i + 1) := by
        have l4 : i < (tfl tw1004).length := by rw [tl1004]; exact li
        rw [List.drop_eq_getElem_cons l4, List.getD_eq_getElem?_getD, List.getElem?_eq_getElem l4]
        rfl
      have i5 : (v5 + Int32.ofInt 1).toInt = ((i + 1 : Nat) : Int) := xinc h5 (by omega)
      refine xP_b (P282_1004 h5 li) (fun r1 mx q1 => ?_)
      obtain ⟨rfl, q1⟩ := q1
      dsimp only
      rw [hd]
      generalize hc0 : (tfl tw1004).getD i 0 = c0 at q1 ⊢
      have nx : ∀ {a' : Option Nat} {num' : Nat} {v3' v4' : Int32}, v3'.toInt = (num' : Int) → num' ≤ i + 1 → tat a' v4'.toInt → tpw b e bg (c0 :: (tfl tw1004).drop (i + 1)) a num = tpw b e bg ((tfl tw1004).drop (i + 1)) a' num' → xP (D59_2_1004_55 F f v2 v3' v4' (v5 + Int32.ofInt 1) mx) (fun r m' => (∃ u, tpw b e bg (c0 :: (tfl tw1004).drop (i + 1)) a num = some u ∧ r.toInt = (u : Int) ∧ kC m0 n e bg ft out wait cl k dp br ex wh m') ∨ (tpw b e bg (c0 :: (tfl tw1004).drop (i + 1)) a num = none ∧ r.toInt = -1 ∧ kC m0 n p bg ft out wait cl k dp br ex wh m')) := fun e3 l6 e4 eq => by
        rw [eq]
        exact ih h (by omega) (by omega) i5 h2 e3 l6 e4 hb
      refine xP_i (fun d => ?_) (fun d => ?_)
      · have d : r1.toInt = 32 := zt d
        have d0 : c0 = 32 := by omega
        refine xP_i (fun g => ?_) (fun g => ?_)
        · have g : v4.toInt ≠ v2.toInt := zt g
          unfold D59_2_1004_138
          refine nx (a' := some bg) (num' := num + 1) (xinc h3 (by omega)) (by omega) h4 ?_
          show (if c0 = 32 then (if a = some e then some num else _) else _) = _
          rw [if_pos d0, if_neg (fun z => by rw [z] at ha; have ha : v4.toInt = (e : Int) := ha; omega)]
        · have g : v4.toInt = v2.toInt := Decidable.not_not.mp (zf g)
          refine xP_r (Or.inl ⟨num, ?_, h3, kC_p h h2 N.2.1 he⟩)
          show (if c0 = 32 then (if a = some e then some num else _) else _) = _
          rw [if_pos d0, if_pos]
          cases a with
          | none =>
            have ha : v4.toInt = -1 := ha
            omega
          | some x =>
            have ha : v4.toInt = (x : Int) := ha
            rw [show x = e by omega]
      · have d : r1.toInt ≠ 32 := zf d
        have d0 : ¬ c0 = 32 := by omega
        have st : ∀ {a' : Option Nat}, tnx b e c0 a = a' → tpw b e bg (c0 :: (tfl tw1004).drop (i + 1)) a num = tpw b e bg ((tfl tw1004).drop (i + 1)) a' num := fun z => by
          show (if c0 = 32 then _ else tpw b e bg _ (tnx b e c0 a) num) = _
          rw [if_neg d0, z]
        have no : tnx b e c0 a = none → xP (D59_2_1004_110 F (D59_2_1004_55 F f) v2 v3 v4 v5 mx) (fun r m' => (∃ u, tpw b e bg (c0 :: (tfl tw1004).drop (i + 1)) a num = some u ∧ r.toInt = (u : Int) ∧ kC m0 n e bg ft out wait cl k dp br ex wh m') ∨ (tpw b e bg (c0 :: (tfl tw1004).drop (i + 1)) a num = none ∧ r.toInt = -1 ∧ kC m0 n p bg ft out wait cl k dp br ex wh m')) := fun z => by
          unfold D59_2_1004_110 D59_2_1004_111 D59_2_1004_138
          exact nx (a' := none) h3 (by omega) (by show (-1 : Int32).toInt = -1; decide) (st z)
        refine xP_i (fun g => ?_) (fun g => ?_)
        · have g : v4.toInt = -1 := zt g
          refine no ?_
          cases a with
          | none => rfl
          | some x =>
            have ha : v4.toInt = (x : Int) := ha
            omega
        · have g : v4.toInt ≠ -1 := zf g
          cases a with
          | none =>
            have ha : v4.toInt = -1 := ha
            omega
          | some x =>
            have ha : v4.toInt = (x : Int) := ha
            refine xP_i (fun g2 => ?_) (fun g2 => ?_)
            · have g2 : v2.toInt ≤ v4.toInt := zt g2
              exact no (if_neg (fun z => by omega))
            · have g2 : ¬ v2.toInt ≤ v4.toInt := zf g2
              refine xP_g (xib_t (by omega) (by omega)) ?_
              refine xP_b (P282_1004 h5 li) (fun r2 mx q2 => ?_)
              obtain ⟨rfl, q2⟩ := q2
              dsimp only
              have ex4 : v4.toNatClampNeg = x := by show v4.toInt.toNat = x; omega
              rw [ex4]
              have kx := k2 x (by omega)
              have q3 : r2.toInt = c0 := q2.trans hc0
              refine xP_i (fun g3 => ?_) (fun g3 => ?_)
              · have g3 : (mx.1 1 x).toInt ≠ r2.toInt := zt g3
                exact no (if_neg (fun z => by omega))
              · have g3 : (mx.1 1 x).toInt = r2.toInt := Decidable.not_not.mp (zf g3)
                unfold D59_2_1004_111 D59_2_1004_138
                exact nx (a' := some (x + 1)) h3 (by omega) ((xa1 (by show _ ≤ _ + (1 : Int); omega) (by show _ + (1 : Int) ≤ _; omega)).trans (by rw [ha]; rfl)) (st (if_pos ⟨by omega, by omega⟩))
theorem P59_18_1004 (hF : 500 ≤ F) (N : kN m0 b n) (hb : bg ≤ n) : ∀ (f : Nat) {j : Nat} {v2 : Int32} {m : xS}, kC m0 n p bg ft out wait cl k dp br ex wh m → v2.toInt = (j : Int) → bg ≤ j → j ≤ n → n - j < f → xP (D59_2_1004_18 F f v2 m) (fun r m' => (∃ u, tix (tw b bg (tS tlt b n j)) tw1004 = some u ∧ r.toInt = (u : Int) ∧ kC m0 n (tS tlt b n j) bg ft out wait cl k dp br ex wh m') ∨ (tix (tw b bg (tS tlt b n j)) tw1004 = none ∧ r.toInt = -1 ∧ kC m0 n p bg ft out wait cl k dp br ex wh m')) := by
  have fin : ∀ {j : Nat} {v2 : Int32} {m : xS}, kC m0 n p bg ft out wait cl k dp br ex wh m → v2.toInt = (j : Int) → bg ≤ j → j ≤ n → xP (D59_2_1004_44 F v2 m) (fun r m' => (∃ u, tix (tw b bg j) tw1004 = some u ∧ r.toInt = (u : Int) ∧ kC m0 n j bg ft out wait cl k dp br ex wh m') ∨ (tix (tw b bg j) tw1004 = none ∧ r.toInt = -1 ∧ kC m0 n p bg ft out wait cl k dp br ex wh m')) := by
    intro j v2 m h h2 l1 l2
    unfold D59_2_1004_44
    have z := P59_55_1004 (F := F) (b := b) (e := j) N l2 F (i := 0) (num := 0) (a := some bg) (v2 := v2) (v3 := 0) (v4 := m.1 2 3) (v5 := 0) h (by omega) (by omega) rfl h2 rfl (Nat.le_refl _) h.2.2.2.1 l1
    rw [List.drop_zero, tpw_ws l1 tw1004 0 tb1004, show (fun x : Nat => x + 0) = id from funext (fun _ => rfl), Option.map_id] at z
    exact z
  intro f
  induction f with
  | zero => intro j v2 m _ _ _ _ l; omega
  | succ f ih =>
    intro j v2 m h h2 l1 l2 l3
    obtain ⟨k1, k2⟩ := kC_n N h
    have n4 := N.2.1
    unfold D59_2_1004_18
    refine xP_i (fun c => ?_) (fun c => ?_)
    · have c : (m.1 2 1).toInt ≤ v2.toInt := zt c
      rw [tS_f (fun z => by omega)]
      exact fin h h2 l1 l2
    · have c : ¬ (m.1 2 1).toInt ≤ v2.toInt := zf c
      refine xP_g (xib_t (by omega) (by omega)) ?_
      refine xP_b P57 (fun r mx q => ?_)
      obtain ⟨rfl, q⟩ := q
      have ej : v2.toNatClampNeg = j := by show v2.toInt.toNat = j; omega
      rw [ej, k2 j (by omega)] at q
      dsimp only
      refine xP_i (fun d => ?_) (fun d => ?_)
      · have q : tlt (b j) = false := by
          rcases q with q | q
          · rw [q.1] at d
            cases d
          · exact q.2
        rw [tS_f (fun z => by rw [q] at z; cases z.2)]
        exact fin h h2 l1 l2
      · have q : tlt (b j) = true := by
          rcases q with q | q
          · exact q.2
          · rw [q.1] at d
            cases d
        rw [tS_t (P := tlt) (show j < n by omega) q]
        exact ih h (xinc h2 (by omega)) (by omega) (by omega) (by omega)
theorem P59_1004 (hF : 500 ≤ F) (N : kN m0 b n) (h : kC m0 n p bg ft out wait cl k dp br ex wh m) : xP (D59_2_1004 F m) (fun r m' => (∃ u, tix (tw b (tS tbl b n p) (tS tlt b n (tS tbl b n p))) tw1004 = some u ∧ r.toInt = (u : Int) ∧ kC m0 n (tS tlt b n (tS tbl b n p)) (tS tbl b n p) ft out wait cl k dp br ex wh m') ∨ (tix (tw b (tS tbl b n p) (tS tlt b n (tS tbl b n p))) tw1004 = none ∧ r.toInt = -1 ∧ kC m0 n (tS tbl b n p) (tS tbl b n p) ft out wait cl k dp br ex wh m')) := by
  have n4 := N.2.1
  unfold D59_2_1004
  refine xP_b (P53 hF N h) (fun v m1 q => ?_)
  obtain ⟨q, -⟩ := q
  have l1 : tS tbl b n p ≤ n := q.2.2.1.2
  dsimp only
  exact P59_18_1004 hF N l1 F (kC_bg q q.2.2.1.1 (by omega)) q.2.2.1.1 (Nat.le_refl _) l1 (by omega)
theorem P60_1004 (hF : 500 ≤ F) (N : kN m0 b n) (h : kC m0 n p bg ft out wait cl k dp br ex wh m) : xP (D60_2_1004 F m) (fun r m' => (∃ u, tix (tw b (tS tbl b n p) (tS tlt b n (tS tbl b n p))) tw1004 = some u ∧ r.toInt = (u : Int) ∧ kC m0 n (tS tlt b n (tS tbl b n p)) (tS tbl b n p) ft out wait cl k dp br ex wh m') ∨ (tix (tw b (tS tbl b n p) (tS tlt b n (tS tbl b n p))) tw1004 = none ∧ r.toInt = -1 ∧ kC m0 n (tS tbl b n p) (tS tbl b n p) (trf ft (1 + 8 * (tS tbl b n p : Int))) out wait cl k dp br ex wh m')) := by
  have n4 := N.2.1
  have l2 := h.2.2.1.2
  unfold D60_2_1004 D60_2_1004_20
  refine xP_b (P59_1004 hF N h) (fun v m1 q => ?_)
  dsimp only
  refine xP_i (fun c => ?_) (fun c => ?_)
  · have c : v.toInt ≠ -1 := zt c
    rcases q with q | q
    · exact xP_r (Or.inl q)
    · exact absurd q.2.1 c
  · have c : v.toInt = -1 := Decidable.not_not.mp (zf c)
    rcases q with ⟨u, -, q, -⟩ | ⟨q1, q2, q3⟩
    · omega
    · have b3 := q3.2.2.2.1
      have l1 : tS tbl b n p ≤ n := q3.2.2.1.2
      refine xP_b (P52 q3 (by omega) (by omega) (by decide) (by decide)) (fun _ m2 q4 => xP_r (Or.inr ⟨q1, q2, ?_⟩))
      rw [b3, show (1 + 8 * ((tS tbl b n p : Nat) : Int) + (0 : Int32).toInt) = 1 + 8 * ((tS tbl b n p : Nat) : Int) from Int.add_zero _] at q4
      exact q4
def tw1005 : List (List Int) := [tIf]
theorem tl1005 : (tfl tw1005).length = 3 := by decide
theorem tb1005 : ∀ w ∈ tw1005, ∀ c ∈ w, c ≠ (32 : Int) := by decide
theorem zsx1005 : (List.range 3).all (fun i => (vp_nar .char (zsX 24 i) == zsX 24 i) && (zsX 24 i).toInt == (tfl tw1005).getD i 0) = true := by decide +kernel
theorem P281_1005 : xP (D281_1005 F m) (fun v m' => m' = m ∧ v.toInt = 3) := by
  unfold D281_1005
  refine xP_b (R := fun v m' => m' = m ∧ v = 0) ?_ (fun v m' q => ?_)
  · unfold D283_1005
    exact xP_i (fun c => absurd c (by decide)) (fun _ => xP_r ⟨rfl, rfl⟩)
  · obtain ⟨rfl, rfl⟩ := q
    exact xP_r ⟨rfl, by show (Int32.ofNat 3 >>> ((0 : Int32) &&& 31)).toInt = 3; decide⟩
theorem P282_1005 {v : Int32} {i : Nat} (hv : v.toInt = (i : Int)) (l : i < 3) : xP (D282_1005 F v m) (fun r m' => m' = m ∧ r.toInt = (tfl tw1005).getD i 0) := by
  have z := List.all_eq_true.mp zsx1005 i (List.mem_range.mpr l)
  simp only [Bool.and_eq_true] at z
  have z2 := eq_of_beq z.2
  have ei : v.toNatClampNeg = i := by show v.toInt.toNat = i; omega
  unfold D282_1005
  refine xP_b (R := fun v m' => m' = m ∧ v = 1) ?_ (fun v1 m' q => ?_)
  · unfold D284_1005
    exact xP_i (fun c => absurd c (by decide)) (fun _ => xP_i (fun c => absurd c (by decide)) (fun _ => xP_r ⟨rfl, rfl⟩))
  · obtain ⟨rfl, rfl⟩ := q
    refine xP_i (fun c => absurd (show zcmp .eq (1 : Int32) 0 = true from c) (by decide)) (fun _ => ?_)
    refine xP_b (R := fun v2 m2 => m2 = m' ∧ v2 = zsX 24 i) ?_ (fun v2 m2 q => ?_)
    · unfold D286_1024
      refine xP_b (P285 (by omega) (by show _ < (3 : Int); omega)) (fun _ m3 q => ?_)
      subst q
      refine xP_g (xib_t (by omega) (by omega)) ?_
      dsimp only
      rw [ei]
      exact xP_g z.1 (xP_r ⟨rfl, rfl⟩)
    · obtain ⟨rfl, rfl⟩ := q
      exact xP_g z.1 (xP_r ⟨rfl, z2⟩)
theorem P59_55_1005 {e : Nat} (N : kN m0 b n) (he : e ≤ n) : ∀ (f : Nat) {i num : Nat} {a : Option Nat} {v2 v3 v4 v5 : Int32} {m : xS}, kC m0 n p bg ft out wait cl k dp br ex wh m → i ≤ 3 → 3 - i < f → v5.toInt = (i : Int) → v2.toInt = (e : Int) → v3.toInt = (num : Int) → num ≤ i → tat a v4.toInt → bg ≤ e → xP (D59_2_1005_55 F f v2 v3 v4 v5 m) (fun r m' => (∃ u, tpw b e bg ((tfl tw1005).drop i) a num = some u ∧ r.toInt = (u : Int) ∧ kC m0 n e bg ft out wait cl k dp br ex wh m') ∨ (tpw b e bg ((tfl tw1005).drop i) a num = none ∧ r.toInt = -1 ∧ kC m0 n p bg ft out wait cl k dp br ex wh m')) := by
  intro f
  induction f with
  | zero => intro i num a v2 v3 v4 v5 m _ _ l; omega
  | succ f ih =>
    intro i num a v2 v3 v4 v5 m h l1 l2 h5 h2 h3 l3 ha hb
    obtain ⟨k1, k2⟩ := kC_n N h
    have n4 := N.2.1
    have h4 := h.2.2.2.1
    unfold D59_2_1005_55
    refine xP_b P281_1005 (fun w0 mx q => ?_)
    obtain ⟨rfl, q⟩ := q
    dsimp only
    refine xP_i (fun c => ?_) (fun c => ?_)
    · have c : w0.toInt ≤ v5.toInt := zt c
      refine xP_r (Or.inr ⟨?_, by decide, h⟩)
      rw [List.drop_eq_nil_of_le (by rw [tl1005]; omega)]
      rfl
    · have c : ¬ w0.toInt ≤ v5.toInt := zf c
      have li : i < 3 := by omega
      have hd : (tfl tw1005).drop i = (tfl tw1005).getD i 0 :: (tfl tw1005).drop (i + 1) := by
        have l4 : i < (tfl tw1005).length := by rw [tl1005]; exact li
        rw [List.drop_eq_getElem_cons l4, List.getD_eq_getElem?_getD, List.getElem?_eq_getElem l4]
        rfl
      have i5 : (v5 + Int32.ofInt 1).toInt = ((i + 1 : Nat) : Int) := xinc h5 (by omega)
      refine xP_b (P282_1005 h5 li) (fun r1 mx q1 => ?_)
      obtain ⟨rfl, q1⟩ := q1
      dsimp only
      rw [hd]
      generalize hc0 : (tfl tw1005).getD i 0 = c0 at q1 ⊢
      have nx : ∀ {a' : Option Nat} {num' : Nat} {v3' v4' : Int32}, v3'.toInt = (num' : Int) → num' ≤ i + 1 → tat a' v4'.toInt → tpw b e bg (c0 :: (tfl tw1005).drop (i + 1)) a num = tpw b e bg ((tfl tw1005).drop (i + 1)) a' num' → xP (D59_2_1005_55 F f v2 v3' v4' (v5 + Int32.ofInt 1) mx) (fun r m' => (∃ u, tpw b e bg (c0 :: (tfl tw1005).drop (i + 1)) a num = some u ∧ r.toInt = (u : Int) ∧ kC m0 n e bg ft out wait cl k dp br ex wh m') ∨ (tpw b e bg (c0 :: (tfl tw1005).drop (i + 1)) a num = none ∧ r.toInt = -1 ∧ kC m0 n p bg ft out wait cl k dp br ex wh m')) := fun e3 l6 e4 eq => by
        rw [eq]
        exact ih h (by omega) (by omega) i5 h2 e3 l6 e4 hb
      refine xP_i (fun d => ?_) (fun d => ?_)
      · have d : r1.toInt = 32 := zt d
        have d0 : c0 = 32 := by omega
        refine xP_i (fun g => ?_) (fun g => ?_)
        · have g : v4.toInt ≠ v2.toInt := zt g
          unfold D59_2_1005_138
          refine nx (a' := some bg) (num' := num + 1) (xinc h3 (by omega)) (by omega) h4 ?_
          show (if c0 = 32 then (if a = some e then some num else _) else _) = _
          rw [if_pos d0, if_neg (fun z => by rw [z] at ha; have ha : v4.toInt = (e : Int) := ha; omega)]
        · have g : v4.toInt = v2.toInt := Decidable.not_not.mp (zf g)
          refine xP_r (Or.inl ⟨num, ?_, h3, kC_p h h2 N.2.1 he⟩)
          show (if c0 = 32 then (if a = some e then some num else _) else _) = _
          rw [if_pos d0, if_pos]
          cases a with
          | none =>
            have ha : v4.toInt = -1 := ha
            omega
          | some x =>
            have ha : v4.toInt = (x : Int) := ha
            rw [show x = e by omega]
      · have d : r1.toInt ≠ 32 := zf d
        have d0 : ¬ c0 = 32 := by omega
        have st : ∀ {a' : Option Nat}, tnx b e c0 a = a' → tpw b e bg (c0 :: (tfl tw1005).drop (i + 1)) a num = tpw b e bg ((tfl tw1005).drop (i + 1)) a' num := fun z => by
          show (if c0 = 32 then _ else tpw b e bg _ (tnx b e c0 a) num) = _
          rw [if_neg d0, z]
        have no : tnx b e c0 a = none → xP (D59_2_1005_110 F (D59_2_1005_55 F f) v2 v3 v4 v5 mx) (fun r m' => (∃ u, tpw b e bg (c0 :: (tfl tw1005).drop (i + 1)) a num = some u ∧ r.toInt = (u : Int) ∧ kC m0 n e bg ft out wait cl k dp br ex wh m') ∨ (tpw b e bg (c0 :: (tfl tw1005).drop (i + 1)) a num = none ∧ r.toInt = -1 ∧ kC m0 n p bg ft out wait cl k dp br ex wh m')) := fun z => by
          unfold D59_2_1005_110 D59_2_1005_111 D59_2_1005_138
          exact nx (a' := none) h3 (by omega) (by show (-1 : Int32).toInt = -1; decide) (st z)
        refine xP_i (fun g => ?_) (fun g => ?_)
        · have g : v4.toInt = -1 := zt g
          refine no ?_
          cases a with
          | none => rfl
          | some x =>
            have ha : v4.toInt = (x : Int) := ha
            omega
        · have g : v4.toInt ≠ -1 := zf g
          cases a with
          | none =>
            have ha : v4.toInt = -1 := ha
            omega
          | some x =>
            have ha : v4.toInt = (x : Int) := ha
            refine xP_i (fun g2 => ?_) (fun g2 => ?_)
            · have g2 : v2.toInt ≤ v4.toInt := zt g2
              exact no (if_neg (fun z => by omega))
            · have g2 : ¬ v2.toInt ≤ v4.toInt := zf g2
              refine xP_g (xib_t (by omega) (by omega)) ?_
              refine xP_b (P282_1005 h5 li) (fun r2 mx q2 => ?_)
              obtain ⟨rfl, q2⟩ := q2
              dsimp only
              have ex4 : v4.toNatClampNeg = x := by show v4.toInt.toNat = x; omega
              rw [ex4]
              have kx := k2 x (by omega)
              have q3 : r2.toInt = c0 := q2.trans hc0
              refine xP_i (fun g3 => ?_) (fun g3 => ?_)
              · have g3 : (mx.1 1 x).toInt ≠ r2.toInt := zt g3
                exact no (if_neg (fun z => by omega))
              · have g3 : (mx.1 1 x).toInt = r2.toInt := Decidable.not_not.mp (zf g3)
                unfold D59_2_1005_111 D59_2_1005_138
                exact nx (a' := some (x + 1)) h3 (by omega) ((xa1 (by show _ ≤ _ + (1 : Int); omega) (by show _ + (1 : Int) ≤ _; omega)).trans (by rw [ha]; rfl)) (st (if_pos ⟨by omega, by omega⟩))
theorem P59_18_1005 (hF : 500 ≤ F) (N : kN m0 b n) (hb : bg ≤ n) : ∀ (f : Nat) {j : Nat} {v2 : Int32} {m : xS}, kC m0 n p bg ft out wait cl k dp br ex wh m → v2.toInt = (j : Int) → bg ≤ j → j ≤ n → n - j < f → xP (D59_2_1005_18 F f v2 m) (fun r m' => (∃ u, tix (tw b bg (tS tlt b n j)) tw1005 = some u ∧ r.toInt = (u : Int) ∧ kC m0 n (tS tlt b n j) bg ft out wait cl k dp br ex wh m') ∨ (tix (tw b bg (tS tlt b n j)) tw1005 = none ∧ r.toInt = -1 ∧ kC m0 n p bg ft out wait cl k dp br ex wh m')) := by
  have fin : ∀ {j : Nat} {v2 : Int32} {m : xS}, kC m0 n p bg ft out wait cl k dp br ex wh m → v2.toInt = (j : Int) → bg ≤ j → j ≤ n → xP (D59_2_1005_44 F v2 m) (fun r m' => (∃ u, tix (tw b bg j) tw1005 = some u ∧ r.toInt = (u : Int) ∧ kC m0 n j bg ft out wait cl k dp br ex wh m') ∨ (tix (tw b bg j) tw1005 = none ∧ r.toInt = -1 ∧ kC m0 n p bg ft out wait cl k dp br ex wh m')) := by
    intro j v2 m h h2 l1 l2
    unfold D59_2_1005_44
    have z := P59_55_1005 (F := F) (b := b) (e := j) N l2 F (i := 0) (num := 0) (a := some bg) (v2 := v2) (v3 := 0) (v4 := m.1 2 3) (v5 := 0) h (by omega) (by omega) rfl h2 rfl (Nat.le_refl _) h.2.2.2.1 l1
    rw [List.drop_zero, tpw_ws l1 tw1005 0 tb1005, show (fun x : Nat => x + 0) = id from funext (fun _ => rfl), Option.map_id] at z
    exact z
  intro f
  induction f with
  | zero => intro j v2 m _ _ _ _ l; omega
  | succ f ih =>
    intro j v2 m h h2 l1 l2 l3
    obtain ⟨k1, k2⟩ := kC_n N h
    have n4 := N.2.1
    unfold D59_2_1005_18
    refine xP_i (fun c => ?_) (fun c => ?_)
    · have c : (m.1 2 1).toInt ≤ v2.toInt := zt c
      rw [tS_f (fun z => by omega)]
      exact fin h h2 l1 l2
    · have c : ¬ (m.1 2 1).toInt ≤ v2.toInt := zf c
      refine xP_g (xib_t (by omega) (by omega)) ?_
      refine xP_b P57 (fun r mx q => ?_)
      obtain ⟨rfl, q⟩ := q
      have ej : v2.toNatClampNeg = j := by show v2.toInt.toNat = j; omega
      rw [ej, k2 j (by omega)] at q
      dsimp only
      refine xP_i (fun d => ?_) (fun d => ?_)
      · have q : tlt (b j) = false := by
          rcases q with q | q
          · rw [q.1] at d
            cases d
          · exact q.2
        rw [tS_f (fun z => by rw [q] at z; cases z.2)]
        exact fin h h2 l1 l2
      · have q : tlt (b j) = true := by
          rcases q with q | q
          · exact q.2
          · rw [q.1] at d
            cases d
        rw [tS_t (P := tlt) (show j < n by omega) q]
        exact ih h (xinc h2 (by omega)) (by omega) (by omega) (by omega)
theorem P59_1005 (hF : 500 ≤ F) (N : kN m0 b n) (h : kC m0 n p bg ft out wait cl k dp br ex wh m) : xP (D59_2_1005 F m) (fun r m' => (∃ u, tix (tw b (tS tbl b n p) (tS tlt b n (tS tbl b n p))) tw1005 = some u ∧ r.toInt = (u : Int) ∧ kC m0 n (tS tlt b n (tS tbl b n p)) (tS tbl b n p) ft out wait cl k dp br ex wh m') ∨ (tix (tw b (tS tbl b n p) (tS tlt b n (tS tbl b n p))) tw1005 = none ∧ r.toInt = -1 ∧ kC m0 n (tS tbl b n p) (tS tbl b n p) ft out wait cl k dp br ex wh m')) := by
  have n4 := N.2.1
  unfold D59_2_1005
  refine xP_b (P53 hF N h) (fun v m1 q => ?_)
  obtain ⟨q, -⟩ := q
  have l1 : tS tbl b n p ≤ n := q.2.2.1.2
  dsimp only
  exact P59_18_1005 hF N l1 F (kC_bg q q.2.2.1.1 (by omega)) q.2.2.1.1 (Nat.le_refl _) l1 (by omega)
def tw1006 : List (List Int) := [tAnd, tOr]
theorem tl1006 : (tfl tw1006).length = 7 := by decide
theorem tb1006 : ∀ w ∈ tw1006, ∀ c ∈ w, c ≠ (32 : Int) := by decide
theorem zsx1006 : (List.range 7).all (fun i => (vp_nar .char (zsX 25 i) == zsX 25 i) && (zsX 25 i).toInt == (tfl tw1006).getD i 0) = true := by decide +kernel
theorem P281_1006 : xP (D281_1006 F m) (fun v m' => m' = m ∧ v.toInt = 7) := by
  unfold D281_1006
  refine xP_b (R := fun v m' => m' = m ∧ v = 0) ?_ (fun v m' q => ?_)
  · unfold D283_1006
    exact xP_i (fun c => absurd c (by decide)) (fun _ => xP_r ⟨rfl, rfl⟩)
  · obtain ⟨rfl, rfl⟩ := q
    exact xP_r ⟨rfl, by show (Int32.ofNat 7 >>> ((0 : Int32) &&& 31)).toInt = 7; decide⟩
theorem P282_1006 {v : Int32} {i : Nat} (hv : v.toInt = (i : Int)) (l : i < 7) : xP (D282_1006 F v m) (fun r m' => m' = m ∧ r.toInt = (tfl tw1006).getD i 0) := by
  have z := List.all_eq_true.mp zsx1006 i (List.mem_range.mpr l)
  simp only [Bool.and_eq_true] at z
  have z2 := eq_of_beq z.2
  have ei : v.toNatClampNeg = i := by show v.toInt.toNat = i; omega
  unfold D282_1006
  refine xP_b (R := fun v m' => m' = m ∧ v = 1) ?_ (fun v1 m' q => ?_)
  · unfold D284_1006
    exact xP_i (fun c => absurd c (by decide)) (fun _ => xP_i (fun c => absurd c (by decide)) (fun _ => xP_r ⟨rfl, rfl⟩))
  · obtain ⟨rfl, rfl⟩ := q
    refine xP_i (fun c => absurd (show zcmp .eq (1 : Int32) 0 = true from c) (by decide)) (fun _ => ?_)
    refine xP_b (R := fun v2 m2 => m2 = m' ∧ v2 = zsX 25 i) ?_ (fun v2 m2 q => ?_)
    · unfold D286_1025
      refine xP_b (P285 (by omega) (by show _ < (7 : Int); omega)) (fun _ m3 q => ?_)
      subst q
      refine xP_g (xib_t (by omega) (by omega)) ?_
      dsimp only
      rw [ei]
      exact xP_g z.1 (xP_r ⟨rfl, rfl⟩)
    · obtain ⟨rfl, rfl⟩ := q
      exact xP_g z.1 (xP_r ⟨rfl, z2⟩)
theorem P59_55_1006 {e : Nat} (N : kN m0 b n) (he : e ≤ n) : ∀ (f : Nat) {i num : Nat} {a : Option Nat} {v2 v3 v4 v5 : Int32} {m : xS}, kC m0 n p bg ft out wait cl k dp br ex wh m → i ≤ 7 → 7 - i < f → v5.toInt = (i : Int) → v2.toInt = (e : Int) → v3.toInt = (num : Int) → num ≤ i → tat a v4.toInt → bg ≤ e → xP (D59_2_1006_55 F f v2 v3 v4 v5 m) (fun r m' => (∃ u, tpw b e bg ((tfl tw1006).drop i) a num = some u ∧ r.toInt = (u : Int) ∧ kC m0 n e bg ft out wait cl k dp br ex wh m') ∨ (tpw b e bg ((tfl tw1006).drop i) a num = none ∧ r.toInt = -1 ∧ kC m0 n p bg ft out wait cl k dp br ex wh m')) := by
  intro f
  induction f with
  | zero => intro i num a v2 v3 v4 v5 m _ _ l; omega
  | succ f ih =>
    intro i num a v2 v3 v4 v5 m h l1 l2 h5 h2 h3 l3 ha hb
    obtain ⟨k1, k2⟩ := kC_n N h
    have n4 := N.2.1
    have h4 := h.2.2.2.1
    unfold D59_2_1006_55
    refine xP_b P281_1006 (fun w0 mx q => ?_)
    obtain ⟨rfl, q⟩ := q
    dsimp only
    refine xP_i (fun c => ?_) (fun c => ?_)
    · have c : w0.toInt ≤ v5.toInt := zt c
      refine xP_r (Or.inr ⟨?_, by decide, h⟩)
      rw [List.drop_eq_nil_of_le (by rw [tl1006]; omega)]
      rfl
    · have c : ¬ w0.toInt ≤ v5.toInt := zf c
      have li : i < 7 := by omega
      have hd : (tfl tw1006).drop i = (tfl tw1006).getD i 0 :: (tfl tw1006).drop (i + 1) := by
        have l4 : i < (tfl tw1006).length := by rw [tl1006]; exact li
        rw [List.drop_eq_getElem_cons l4, List.getD_eq_getElem?_getD, List.getElem?_eq_getElem l4]
        rfl
      have i5 : (v5 + Int32.ofInt 1).toInt = ((i + 1 : Nat) : Int) := xinc h5 (by omega)
      refine xP_b (P282_1006 h5 li) (fun r1 mx q1 => ?_)
      obtain ⟨rfl, q1⟩ := q1
      dsimp only
      rw [hd]
      generalize hc0 : (tfl tw1006).getD i 0 = c0 at q1 ⊢
      have nx : ∀ {a' : Option Nat} {num' : Nat} {v3' v4' : Int32}, v3'.toInt = (num' : Int) → num' ≤ i + 1 → tat a' v4'.toInt → tpw b e bg (c0 :: (tfl tw1006).drop (i + 1)) a num = tpw b e bg ((tfl tw1006).drop (i + 1)) a' num' → xP (D59_2_1006_55 F f v2 v3' v4' (v5 + Int32.ofInt 1) mx) (fun r m' => (∃ u, tpw b e bg (c0 :: (tfl tw1006).drop (i + 1)) a num = some u ∧ r.toInt = (u : Int) ∧ kC m0 n e bg ft out wait cl k dp br ex wh m') ∨ (tpw b e bg (c0 :: (tfl tw1006).drop (i + 1)) a num = none ∧ r.toInt = -1 ∧ kC m0 n p bg ft out wait cl k dp br ex wh m')) := fun e3 l6 e4 eq => by
        rw [eq]
        exact ih h (by omega) (by omega) i5 h2 e3 l6 e4 hb
      refine xP_i (fun d => ?_) (fun d => ?_)
      · have d : r1.toInt = 32 := zt d
        have d0 : c0 = 32 := by omega
        refine xP_i (fun g => ?_) (fun g => ?_)
        · have g : v4.toInt ≠ v2.toInt := zt g
          unfold D59_2_1006_138
          refine nx (a' := some bg) (num' := num + 1) (xinc h3 (by omega)) (by omega) h4 ?_
          show (if c0 = 32 then (if a = some e then some num else _) else _) = _
          rw [if_pos d0, if_neg (fun z => by rw [z] at ha; have ha : v4.toInt = (e : Int) := ha; omega)]
        · have g : v4.toInt = v2.toInt := Decidable.not_not.mp (zf g)
          refine xP_r (Or.inl ⟨num, ?_, h3, kC_p h h2 N.2.1 he⟩)
          show (if c0 = 32 then (if a = some e then some num else _) else _) = _
          rw [if_pos d0, if_pos]
          cases a with
          | none =>
            have ha : v4.toInt = -1 := ha
            omega
          | some x =>
            have ha : v4.toInt = (x : Int) := ha
            rw [show x = e by omega]
      · have d : r1.toInt ≠ 32 := zf d
        have d0 : ¬ c0 = 32 := by omega
        have st : ∀ {a' : Option Nat}, tnx b e c0 a = a' → tpw b e bg (c0 :: (tfl tw1006).drop (i + 1)) a num = tpw b e bg ((tfl tw1006).drop (i + 1)) a' num := fun z => by
          show (if c0 = 32 then _ else tpw b e bg _ (tnx b e c0 a) num) = _
          rw [if_neg d0, z]
        have no : tnx b e c0 a = none → xP (D59_2_1006_110 F (D59_2_1006_55 F f) v2 v3 v4 v5 mx) (fun r m' => (∃ u, tpw b e bg (c0 :: (tfl tw1006).drop (i + 1)) a num = some u ∧ r.toInt = (u : Int) ∧ kC m0 n e bg ft out wait cl k dp br ex wh m') ∨ (tpw b e bg (c0 :: (tfl tw1006).drop (i + 1)) a num = none ∧ r.toInt = -1 ∧ kC m0 n p bg ft out wait cl k dp br ex wh m')) := fun z => by
          unfold D59_2_1006_110 D59_2_1006_111 D59_2_1006_138
          exact nx (a' := none) h3 (by omega) (by show (-1 : Int32).toInt = -1; decide) (st z)
        refine xP_i (fun g => ?_) (fun g => ?_)
        · have g : v4.toInt = -1 := zt g
          refine no ?_
          cases a with
          | none => rfl
          | some x =>
            have ha : v4.toInt = (x : Int) := ha
            omega
        · have g : v4.toInt ≠ -1 := zf g
          cases a with
          | none =>
            have ha : v4.toInt = -1 := ha
            omega
          | some x =>
            have ha : v4.toInt = (x : Int) := ha
            refine xP_i (fun g2 => ?_) (fun g2 => ?_)
            · have g2 : v2.toInt ≤ v4.toInt := zt g2
              exact no (if_neg (fun z => by omega))
            · have g2 : ¬ v2.toInt ≤ v4.toInt := zf g2
              refine xP_g (xib_t (by omega) (by omega)) ?_
              refine xP_b (P282_1006 h5 li) (fun r2 mx q2 => ?_)
              obtain ⟨rfl, q2⟩ := q2
              dsimp only
              have ex4 : v4.toNatClampNeg = x := by show v4.toInt.toNat = x; omega
              rw [ex4]
              have kx := k2 x (by omega)
              have q3 : r2.toInt = c0 := q2.trans hc0
              refine xP_i (fun g3 => ?_) (fun g3 => ?_)
              · have g3 : (mx.1 1 x).toInt ≠ r2.toInt := zt g3
                exact no (if_neg (fun z => by omega))
              · have g3 : (mx.1 1 x).toInt = r2.toInt := Decidable.not_not.mp (zf g3)
                unfold D59_2_1006_111 D59_2_1006_138
                exact nx (a' := some (x + 1)) h3 (by omega) ((xa1 (by show _ ≤ _ + (1 : Int); omega) (by show _ + (1 : Int) ≤ _; omega)).trans (by rw [ha]; rfl)) (st (if_pos ⟨by omega, by omega⟩))
theorem P59_18_1006 (hF : 500 ≤ F) (N : kN m0 b n) (hb : bg ≤ n) : ∀ (f : Nat) {j : Nat} {v2 : Int32} {m : xS}, kC m0 n p bg ft out wait cl k dp br ex wh m → v2.toInt = (j : Int) → bg ≤ j → j ≤ n → n - j < f → xP (D59_2_1006_18 F f v2 m) (fun r m' => (∃ u, tix (tw b bg (tS tlt b n j)) tw1006 = some u ∧ r.toInt = (u : Int) ∧ kC m0 n (tS tlt b n j) bg ft out wait cl k dp br ex wh m') ∨ (tix (tw b bg (tS tlt b n j)) tw1006 = none ∧ r.toInt = -1 ∧ kC m0 n p bg ft out wait cl k dp br ex wh m')) := by
  have fin : ∀ {j : Nat} {v2 : Int32} {m : xS}, kC m0 n p bg ft out wait cl k dp br ex wh m → v2.toInt = (j : Int) → bg ≤ j → j ≤ n → xP (D59_2_1006_44 F v2 m) (fun r m' => (∃ u, tix (tw b bg j) tw1006 = some u ∧ r.toInt = (u : Int) ∧ kC m0 n j bg ft out wait cl k dp br ex wh m') ∨ (tix (tw b bg j) tw1006 = none ∧ r.toInt = -1 ∧ kC m0 n p bg ft out wait cl k dp br ex wh m')) := by
    intro j v2 m h h2 l1 l2
    unfold D59_2_1006_44
    have z := P59_55_1006 (F := F) (b := b) (e := j) N l2 F (i := 0) (num := 0) (a := some bg) (v2 := v2) (v3 := 0) (v4 := m.1 2 3) (v5 := 0) h (by omega) (by omega) rfl h2 rfl (Nat.le_refl _) h.2.2.2.1 l1
    rw [List.drop_zero, tpw_ws l1 tw1006 0 tb1006, show (fun x : Nat => x + 0) = id from funext (fun _ => rfl), Option.map_id] at z
    exact z
  intro f
  induction f with
  | zero => intro j v2 m _ _ _ _ l; omega
  | succ f ih =>
    intro j v2 m h h2 l1 l2 l3
    obtain ⟨k1, k2⟩ := kC_n N h
    have n4 := N.2.1
    unfold D59_2_1006_18
    refine xP_i (fun c => ?_) (fun c => ?_)
    · have c : (m.1 2 1).toInt ≤ v2.toInt := zt c
      rw [tS_f (fun z => by omega)]
      exact fin h h2 l1 l2
    · have c : ¬ (m.1 2 1).toInt ≤ v2.toInt := zf c
      refine xP_g (xib_t (by omega) (by omega)) ?_
      refine xP_b P57 (fun r mx q => ?_)
      obtain ⟨rfl, q⟩ := q
      have ej : v2.toNatClampNeg = j := by show v2.toInt.toNat = j; omega
      rw [ej, k2 j (by omega)] at q
      dsimp only
      refine xP_i (fun d => ?_) (fun d => ?_)
      · have q : tlt (b j) = false := by
          rcases q with q | q
          · rw [q.1] at d
            cases d
          · exact q.2
        rw [tS_f (fun z => by rw [q] at z; cases z.2)]
        exact fin h h2 l1 l2
      · have q : tlt (b j) = true := by
          rcases q with q | q
          · exact q.2
          · rw [q.1] at d
            cases d
        rw [tS_t (P := tlt) (show j < n by omega) q]
        exact ih h (xinc h2 (by omega)) (by omega) (by omega) (by omega)
theorem P59_1006 (hF : 500 ≤ F) (N : kN m0 b n) (h : kC m0 n p bg ft out wait cl k dp br ex wh m) : xP (D59_2_1006 F m) (fun r m' => (∃ u, tix (tw b (tS tbl b n p) (tS tlt b n (tS tbl b n p))) tw1006 = some u ∧ r.toInt = (u : Int) ∧ kC m0 n (tS tlt b n (tS tbl b n p)) (tS tbl b n p) ft out wait cl k dp br ex wh m') ∨ (tix (tw b (tS tbl b n p) (tS tlt b n (tS tbl b n p))) tw1006 = none ∧ r.toInt = -1 ∧ kC m0 n (tS tbl b n p) (tS tbl b n p) ft out wait cl k dp br ex wh m')) := by
  have n4 := N.2.1
  unfold D59_2_1006
  refine xP_b (P53 hF N h) (fun v m1 q => ?_)
  obtain ⟨q, -⟩ := q
  have l1 : tS tbl b n p ≤ n := q.2.2.1.2
  dsimp only
  exact P59_18_1006 hF N l1 F (kC_bg q q.2.2.1.1 (by omega)) q.2.2.1.1 (Nat.le_refl _) l1 (by omega)
end KW
