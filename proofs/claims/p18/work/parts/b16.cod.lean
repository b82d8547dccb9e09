/-! The reference's codes, exactly. -/
/-- none twice, none of the bits b -/
def nodp (b : Nat) : List Nat → Bool
  | [] => true
  | h :: r => !b.testBit h && nodp (b ||| 2 ^ h) r
/-- each trusted by the one ahead -/
def trs (s : Nat → Int32) (a : Nat) : List Nat → Bool
  | [] => true
  | h :: r => ptr s a h && trs s h r
section PCOD
variable {m : xS} {F N n c : Nat}
theorem p6b {N k : Nat} (hN : N ≤ 7) (hk : k ≤ 6) : N ^ k ≤ 117649 := Nat.le_trans (Nat.pow_le_pow_left hN k) (Nat.le_trans (Nat.pow_le_pow_right (by decide) hk) (by decide))
theorem r235_4 {N k : Nat} (N1 : 1 ≤ N) (hN : N ≤ 7) (hk : k ≤ 6) : ∀ (f : Nat) {i : Nat}, i ≤ k → 6 - i < f → D235_4 F f (Int32.ofNat N) (Int32.ofNat k) (Int32.ofNat (N ^ i)) (Int32.ofNat i) m = some (Int32.ofNat (N ^ k), m) := by
  intro f
  induction f with
  | zero => intro i _ l; omega
  | succ f ih =>
    intro i hi l
    have ek := nJ (n := k) (by omega)
    have ei := nJ (n := i) (by omega)
    unfold D235_4
    refine oi (p := decide ((Int32.ofNat k).toInt ≤ (Int32.ofNat i).toInt)) zc (fun h => ?_) (fun h => ?_)
    · have h := of_decide_eq_true h
      rw [show i = k by omega]
    · have h := of_decide_eq_false h
      have b := p6b (N := N) (k := i) hN (by omega)
      have b2 := p6b (N := N) (k := i + 1) hN (by omega)
      rw [xmul (a := N ^ i) (b := N) (by have := b2; rw [Nat.pow_succ] at this; omega) (by omega) (by omega), ← Nat.pow_succ, show Int32.ofNat i + Int32.ofInt 1 = Int32.ofNat (i + 1) from xadd (a := i) (b := 1) (by omega)]
      exact ih (by omega) (by omega)
theorem r235 {k : Nat} {v0 v1 : Int32} (hF : 100 ≤ F) (h0 : v0 = Int32.ofNat N) (h1 : v1 = Int32.ofNat k) (N1 : 1 ≤ N) (hN : N ≤ 7) (hk : k ≤ 6) : D235 F v0 v1 m = some (Int32.ofNat (N ^ k), m) := by
  subst h0
  subst h1
  unfold D235
  exact r235_4 N1 hN hk F (i := 0) (by omega) (by omega)
/-- division and rest of numbers -/
theorem i32dv {a b : Nat} (ha : a < 2147483648) (hb : b < 2147483648) (b0 : 0 < b) : Int32.ofNat a / Int32.ofNat b = Int32.ofNat (a / b) := by
  apply Int32.toInt_inj.mp
  have ea := xI (a := a) ha
  have eb := xI (a := b) hb
  have ed := xI (a := a / b) (by have := Nat.div_le_self a b; omega)
  rw [Int32.toInt_div, ea, eb, ed]
  have e : (a : Int).tdiv (b : Int) = ((a / b : Nat) : Int) := rfl
  have l := Nat.div_le_self a b
  rw [e]
  generalize a / b = q at *
  exact Int.bmod_eq_of_le_mul_two (by omega) (by omega)
theorem i32md {a b : Nat} (ha : a < 2147483648) (hb : b < 2147483648) (b0 : 0 < b) : Int32.ofNat a - Int32.ofNat a / Int32.ofNat b * Int32.ofNat b = Int32.ofNat (a % b) := by
  have l := Nat.div_le_self a b
  have l2 : a / b * b ≤ a := Nat.div_mul_le_self a b
  have k := Nat.div_add_mod a b
  have k2 : b * (a / b) = a / b * b := Nat.mul_comm _ _
  rw [i32dv ha hb b0, xmul (by omega) (by omega) hb]
  apply Int32.toInt_inj.mp
  have ea := xI (a := a) ha
  have em := xI (a := a / b * b) (by omega)
  have er := xI (a := a % b) (by omega)
  rw [xs1 (by rw [ea, em]; omega) (by rw [ea, em]; omega), ea, em, er]
  omega
theorem n0b {n : Nat} (h : 0 < n) (l : n < 2147483648) : (!(Int32.ofNat n == 0)) = true := by
  have : Int32.ofNat n ≠ 0 := fun z => by
    have z := congrArg Int32.toInt z
    rw [xI l] at z
    have z : (n : Int) = 0 := z
    omega
  simp [this]
theorem r236 {k : Nat} {v1 v2 v3 : Int32} (hF : 100 ≤ F) (h1 : v1 = Int32.ofNat c) (h2 : v2 = Int32.ofNat n) (h3 : v3 = Int32.ofNat k) (e0 : m.1 80 0 = Int32.ofNat N) (N1 : 1 ≤ N) (hN : N ≤ 6) (hk : k < n) (hn : n ≤ 6) (hc : c < 2147483648) : D236 F v1 v2 v3 m = some (Int32.ofNat (dgt N n c k), m) := by
  subst h1
  subst h2
  subst h3
  have e : Int32.ofNat n - 1 - Int32.ofNat k = Int32.ofNat (n - 1 - k) := by
    apply Int32.toInt_inj.mp
    have en := nJ (n := n) (by omega)
    have ek := nJ (n := k) (by omega)
    have er := nJ (n := n - 1 - k) (by omega)
    have e1 : (Int32.ofNat n - 1).toInt = (n : Int) - 1 := (xs1 (by show _ ≤ _ - (1 : Int); omega) (by show _ - (1 : Int) ≤ _; omega)).trans (by rw [en]; rfl)
    rw [xs1 (by rw [e1, ek]; omega) (by rw [e1, ek]; omega), e1, ek, er]
    omega
  have b := p6b (N := N) (k := n - 1 - k) (by omega) (by omega)
  have b0 : 0 < N ^ (n - 1 - k) := Nat.pow_pos (by omega)
  have lc := Nat.div_le_self c (N ^ (n - 1 - k))
  unfold D236
  rw [e]
  refine ob (r235 hF e0 rfl N1 (by omega) (by omega)) ?_
  dsimp only
  rw [if_pos (n0b b0 (by omega)), e0, if_pos (n0b (by omega) (by omega)), i32dv hc (by omega) b0, i32md (by omega) (by omega) (by omega)]
  rfl
theorem dgt_lt {k : Nat} (N1 : 1 ≤ N) : dgt N n c k < N := Nat.mod_lt _ (by omega)
/-- bits -/
theorem r159 {b h : Nat} {v0 v1 : Int32} (h0 : v0 = Int32.ofNat b) (h1 : v1 = Int32.ofNat h) (hb : b < 64) (hh : h < 6) : D159 F v0 v1 m = some (pB (b.testBit h), m) := by
  subst h0
  subst h1
  have key : (List.range 64).all (fun b => (List.range 6).all (fun h => zcmp .ne ((Int32.ofNat b >>> (Int32.ofNat h &&& 31)) &&& 1) 1 == !b.testBit h)) = true := by decide +kernel
  have k := eq_of_beq (List.all_eq_true.mp (List.all_eq_true.mp key b (List.mem_range.mpr hb)) h (List.mem_range.mpr hh))
  unfold D159
  refine oi (p := !b.testBit h) k (fun a => ?_) (fun a => ?_)
  · rw [show b.testBit h = false by simpa using a]
    rfl
  · rw [show b.testBit h = true by simpa using a]
    rfl
theorem bor {b h : Nat} (hb : b < 64) (hh : h < 6) : (Int32.ofNat b ||| (1 <<< (Int32.ofNat h &&& 31))) = Int32.ofNat (b ||| 2 ^ h) ∧ (b ||| 2 ^ h) < 64 := by
  have key : (List.range 64).all (fun b => (List.range 6).all (fun h => (Int32.ofNat b ||| ((1 : Int32) <<< (Int32.ofNat h &&& 31))) == Int32.ofNat (b ||| 2 ^ h) && decide ((b ||| 2 ^ h) < 64))) = true := by decide +kernel
  have k := List.all_eq_true.mp (List.all_eq_true.mp key b (List.mem_range.mpr hb)) h (List.mem_range.mpr hh)
  rw [Bool.and_eq_true] at k
  exact ⟨eq_of_beq k.1, of_decide_eq_true k.2⟩
theorem dg_drop {k : Nat} (hk : k < n) : (dg N n c).drop k = dgt N n c k :: (dg N n c).drop (k + 1) := by
  rw [List.drop_eq_getElem_cons (by rw [dg_len]; exact hk), dg_get hk]
theorem dg_drop0 : (dg N n c).drop n = [] := List.drop_eq_nil_of_le (by rw [dg_len]; exact Nat.le_refl _)
theorem r237_5 (hF : 100 ≤ F) (e0 : m.1 80 0 = Int32.ofNat N) (N1 : 1 ≤ N) (hN : N ≤ 6) (hn : n ≤ 6) (hc : c < 2147483648) : ∀ (f : Nat) {b k : Nat}, b < 64 → k ≤ n → 6 - k < f → D237_5 F f (Int32.ofNat c) (Int32.ofNat n) (Int32.ofNat b) (Int32.ofNat k) m = some (pB (nodp b ((dg N n c).drop k)), m) := by
  intro f
  induction f with
  | zero => intro b k _ _ l; omega
  | succ f ih =>
    intro b k hb hk l
    have en := nJ (n := n) (by omega)
    have ek := nJ (n := k) (by omega)
    unfold D237_5
    refine oi (p := decide ((Int32.ofNat n).toInt ≤ (Int32.ofNat k).toInt)) zc (fun h => ?_) (fun h => ?_)
    · have h := of_decide_eq_true h
      rw [show k = n by omega, dg_drop0]
      rfl
    · have h := of_decide_eq_false h
      have dl := dgt_lt (N := N) (n := n) (c := c) (k := k) N1
      refine ob (r236 hF rfl rfl rfl e0 N1 hN (by omega) hn hc) (ob (r159 rfl rfl hb (by omega)) ?_)
      rw [dg_drop (by omega)]
      show _ = some (pB (!b.testBit (dgt N n c k) && nodp (b ||| 2 ^ dgt N n c k) ((dg N n c).drop (k + 1))), m)
      refine oi (p := !b.testBit (dgt N n c k)) pB1 (fun a => ?_) (fun a => ?_)
      · rw [a, Bool.true_and, (bor hb (by omega)).1, show Int32.ofNat k + Int32.ofInt 1 = Int32.ofNat (k + 1) from xadd (a := k) (b := 1) (by omega)]
        exact ih (bor hb (by omega)).2 (by omega) (by omega)
      · rw [a, Bool.false_and]
        rfl
theorem r237 {v1 v2 : Int32} (hF : 100 ≤ F) (h1 : v1 = Int32.ofNat c) (h2 : v2 = Int32.ofNat n) (e0 : m.1 80 0 = Int32.ofNat N) (N1 : 1 ≤ N) (hN : N ≤ 6) (hn : n ≤ 6) (hc : c < 2147483648) : D237 F v1 v2 m = some (pB (nodp 0 (dg N n c)), m) := by
  subst h1
  subst h2
  unfold D237
  exact r237_5 hF e0 N1 hN hn hc F (b := 0) (k := 0) (by decide) (by omega) (by omega)
theorem r238_3 (hF : 100 ≤ F) (e0 : m.1 80 0 = Int32.ofNat N) (N1 : 1 ≤ N) (hN : N ≤ 6) (hn : n ≤ 6) (hc : c < 2147483648) {h : Nat} (hh : h < 6) : ∀ (f : Nat) {k : Nat}, k ≤ n → 6 - k < f → D238_3 F f (Int32.ofNat c) (Int32.ofNat n) (Int32.ofNat h) (Int32.ofNat k) m = some (pB (((dg N n c).drop k).any (· == h)), m) := by
  intro f
  induction f with
  | zero => intro k _ l; omega
  | succ f ih =>
    intro k hk l
    have en := nJ (n := n) (by omega)
    have ek := nJ (n := k) (by omega)
    unfold D238_3
    refine oi (p := decide ((Int32.ofNat n).toInt ≤ (Int32.ofNat k).toInt)) zc (fun a => ?_) (fun a => ?_)
    · have a := of_decide_eq_true a
      rw [show k = n by omega, dg_drop0]
      rfl
    · have a := of_decide_eq_false a
      have dl := dgt_lt (N := N) (n := n) (c := c) (k := k) N1
      refine ob (r236 hF rfl rfl rfl e0 N1 hN (by omega) hn hc) ?_
      rw [dg_drop (by omega), List.any_cons]
      have eq : (Int32.ofNat (dgt N n c k) == Int32.ofNat h) = (dgt N n c k == h) := by
        rw [Bool.eq_iff_iff, beq_iff_eq, beq_iff_eq]
        constructor
        · intro z
          have z := congrArg Int32.toInt z
          rw [nJ (by omega), nJ (by omega)] at z
          omega
        · intro z
          rw [z]
      refine oi (p := !(dgt N n c k == h)) (by rw [zcn]; exact congrArg not eq) (fun d => ?_) (fun d => ?_)
      · rw [show (dgt N n c k == h) = false by simpa using d, Bool.false_or, show Int32.ofNat k + Int32.ofInt 1 = Int32.ofNat (k + 1) from xadd (a := k) (b := 1) (by omega)]
        exact ih (by omega) (by omega)
      · rw [show (dgt N n c k == h) = true by simpa using d]
        rfl
theorem r238 {h : Nat} {v1 v2 v3 : Int32} (hF : 100 ≤ F) (h1 : v1 = Int32.ofNat c) (h2 : v2 = Int32.ofNat n) (h3 : v3 = Int32.ofNat h) (e0 : m.1 80 0 = Int32.ofNat N) (N1 : 1 ≤ N) (hN : N ≤ 6) (hn : n ≤ 6) (hc : c < 2147483648) (hh : h < 6) : D238 F v1 v2 v3 m = some (pB ((dg N n c).any (· == h)), m) := by
  subst h1
  subst h2
  subst h3
  unfold D238
  exact r238_3 hF e0 N1 hN hn hc hh F (k := 0) (by omega) (by omega)
theorem r239_6 (hF : 100 ≤ F) (e0 : m.1 80 0 = Int32.ofNat N) (N1 : 1 ≤ N) (hN : N ≤ 6) (hn : n ≤ 6) (hc : c < 2147483648) {v1 : Int32} : ∀ (f : Nat) {a k : Nat}, a < 6 → k ≤ n → 6 - k < f → D239_6 F f v1 (Int32.ofNat c) (Int32.ofNat n) (Int32.ofNat a) (Int32.ofNat k) m = some (pB (trs (m.1 80) a ((dg N n c).drop k)), m) := by
  intro f
  induction f with
  | zero => intro a k _ _ l; omega
  | succ f ih =>
    intro a k ha hk l
    have en := nJ (n := n) (by omega)
    have ek := nJ (n := k) (by omega)
    unfold D239_6
    refine oi (p := decide ((Int32.ofNat n).toInt ≤ (Int32.ofNat k).toInt)) zc (fun h => ?_) (fun h => ?_)
    · have h := of_decide_eq_true h
      rw [show k = n by omega, dg_drop0]
      rfl
    · have h := of_decide_eq_false h
      have dl := dgt_lt (N := N) (n := n) (c := c) (k := k) N1
      refine ob (r236 hF rfl rfl rfl e0 N1 hN (by omega) hn hc) (ob (r210 rfl rfl ha (by omega)) ?_)
      rw [dg_drop (by omega)]
      show _ = some (pB (ptr (m.1 80) a (dgt N n c k) && trs (m.1 80) (dgt N n c k) ((dg N n c).drop (k + 1))), m)
      refine oi (p := ptr (m.1 80) a (dgt N n c k)) pB2 (fun d => ?_) (fun d => ?_)
      · rw [d, Bool.true_and, show Int32.ofNat k + Int32.ofInt 1 = Int32.ofNat (k + 1) from xadd (a := k) (b := 1) (by omega)]
        exact ih (by omega) (by omega) (by omega)
      · rw [d, Bool.false_and]
        rfl
theorem r239 {a : Nat} {v1 v2 v3 : Int32} (hF : 100 ≤ F) (h1 : v1 = Int32.ofNat a) (h2 : v2 = Int32.ofNat c) (h3 : v3 = Int32.ofNat n) (e0 : m.1 80 0 = Int32.ofNat N) (N1 : 1 ≤ N) (hN : N ≤ 6) (hn : n ≤ 6) (hc : c < 2147483648) (ha : a < 6) : D239 F v1 v2 v3 m = some (pB (trs (m.1 80) a (dg N n c)), m) := by
  subst h1
  subst h2
  subst h3
  unfold D239
  exact r239_6 hF e0 N1 hN hn hc F (a := a) (k := 0) ha (by omega) (by omega)
/-- rings -/
def rgk (s : Nat → Int32) (N n c k : Nat) : Bool := decide (dgt N n c 0 ≤ dgt N n c k) && !(s (82 + 6 * dgt N n c k + dgt N n c ((k + 1) % n)) == 0)
theorem r240_13 (hF : 100 ≤ F) (e0 : m.1 80 0 = Int32.ofNat N) (N1 : 1 ≤ N) (hN : N ≤ 6) (n1 : 1 ≤ n) (hn : n ≤ 6) (hc : c < 2147483648) : ∀ (f : Nat) {k : Nat}, k ≤ n → 6 - k < f → D240_13 F f (Int32.ofNat c) (Int32.ofNat n) (Int32.ofNat k) m = some (pB ((List.range' k (n - k)).all (rgk (m.1 80) N n c)), m) := by
  intro f
  induction f with
  | zero => intro k _ l; omega
  | succ f ih =>
    intro k hk l
    have en := nJ (n := n) (by omega)
    have ek := nJ (n := k) (by omega)
    unfold D240_13
    refine oi (p := decide ((Int32.ofNat n).toInt ≤ (Int32.ofNat k).toInt)) zc (fun h => ?_) (fun h => ?_)
    · have h := of_decide_eq_true h
      rw [show n - k = 0 by omega]
      rfl
    · have h := of_decide_eq_false h
      have dl := dgt_lt (N := N) (n := n) (c := c) (k := k) N1
      have d0 := dgt_lt (N := N) (n := n) (c := c) (k := 0) N1
      have d1 := dgt_lt (N := N) (n := n) (c := c) (k := (k + 1) % n) N1
      have m1 : (k + 1) % n < n := Nat.mod_lt _ (by omega)
      rw [show n - k = (n - (k + 1)) + 1 by omega, List.range'_succ, List.all_cons]
      have nx : Int32.ofNat k + Int32.ofInt 1 = Int32.ofNat (k + 1) := xadd (a := k) (b := 1) (by omega)
      have nx1 : Int32.ofNat k + 1 = Int32.ofNat (k + 1) := xadd (a := k) (b := 1) (by omega)
      refine ob (r236 hF rfl rfl rfl e0 N1 hN (by omega) hn hc) (ob (r236 (k := 0) hF rfl rfl rfl e0 N1 hN (by omega) hn hc) (oi (p := decide ((Int32.ofNat (dgt N n c k)).toInt < (Int32.ofNat (dgt N n c 0)).toInt)) zcl (fun a => ?_) (fun a => ?_)))
      · have a := of_decide_eq_true a
        rw [nJ (by omega), nJ (by omega)] at a
        unfold rgk
        rw [decide_eq_false (by omega), Bool.false_and, Bool.false_and]
        rfl
      · have a := of_decide_eq_false a
        rw [nJ (by omega), nJ (by omega)] at a
        dsimp only
        rw [if_pos (n0b (by omega) (by omega)), nx1, i32md (by omega) (by omega) (by omega)]
        refine ob (r236 hF rfl rfl rfl e0 N1 hN m1 hn hc) (ob (r211 rfl rfl (by omega) (by omega)) (oi (p := !(m.1 80 (82 + 6 * dgt N n c k + dgt N n c ((k + 1) % n)) == 0)) zcn (fun b => ?_) (fun b => ?_)))
        · rw [nx]
          have e : rgk (m.1 80) N n c k = true := by
            unfold rgk
            rw [decide_eq_true (by omega), b]
            rfl
          rw [e, Bool.true_and]
          exact ih (by omega) (by omega)
        · have e : rgk (m.1 80) N n c k = false := by
            unfold rgk
            rw [b, Bool.and_false]
          rw [e, Bool.false_and]
          rfl
def rgc (s : Nat → Int32) (N n c : Nat) : Bool := nodp 0 (dg N n c) && (List.range n).all (rgk s N n c)
theorem r240 {v1 v2 : Int32} (hF : 100 ≤ F) (h1 : v1 = Int32.ofNat c) (h2 : v2 = Int32.ofNat n) (e0 : m.1 80 0 = Int32.ofNat N) (N1 : 1 ≤ N) (hN : N ≤ 6) (n1 : 1 ≤ n) (hn : n ≤ 6) (hc : c < 2147483648) : D240 F v1 v2 m = some (pB (rgc (m.1 80) N n c), m) := by
  subst h1
  subst h2
  unfold D240 rgc
  refine ob (r237 hF rfl rfl e0 N1 hN hn hc) (oi (p := nodp 0 (dg N n c)) pB2 (fun a => ?_) (fun a => ?_))
  · rw [a, Bool.true_and, List.range_eq_range']
    have z := r240_13 (F := F) hF e0 N1 hN n1 hn hc F (k := 0) (by omega) (by omega)
    rw [Nat.sub_zero] at z
    exact z
  · rw [a, Bool.false_and]
    rfl
end PCOD
