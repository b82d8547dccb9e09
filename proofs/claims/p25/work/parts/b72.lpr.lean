/-! Bounds of LENT kept by each call; pairs with an index. -/
def lPx (Pre Post : zHp → Prop) (kc kr : Nat) (as : List Value) (cm : Bool) : Prop := ∀ hp, Pre hp → ∃ (x1 x2 : Int32) (hp1 hp2 : zHp), zKd 0 hp = some 10 ∧ zKd 70 hp1 = some 11 ∧ zCan 20 kc (.ref 0 :: as) hp (some (.int x1), hp1) ∧ hp.1 ≤ hp1.1 ∧ zCan 20 kr (.ref 70 :: as) hp1 (some (.int x2), hp2) ∧ hp1.1 ≤ hp2.1 ∧ Post hp2 ∧ (cm = true → x1 = x2)
abbrev IvL (I : Nat) (hp : zHp) : Prop := MR hp ∧ LB (100 * I) (xof hp)
theorem eL {cm : Bool} {n1 n2 : Nat} {sp1 sp2 : ySp} (T1 : yTs (yEA yAr) n1 sp1) (T2 : yTs (yEA yAr) n2 sp2) {na : Nat} {bl : List Nat} (c1 : (eOk 0 na bl sp1.2.2.1 && (decide (n1 ≤ 20) && (decide (na + 1 ≤ sp1.2.1) && sp1.2.2.2.1.all eQok))) = true) (c2 : (eOk 70 na bl sp2.2.2.1 && (decide (n2 ≤ 20) && (decide (na + 1 ≤ sp2.2.1) && sp2.2.2.2.1.all eQok))) = true) (hN : ydj sp2.2.2.2.2 lbM = true) (ys : List Int32) (hl : ys.length = na) (hb : ∀ s ∈ bl, ∀ y, ys[s]? = some y → 0 ≤ y.toInt ∧ y.toInt ≤ 1) {I : Nat} (P : lPx (IvL I) MR sp1.1 sp2.1 (ys.map .int) cm) (A : lA sp1.1 (ys.map .int)) (h : I ≤ 3100) : lPx (IvL I) (IvL (I + 6)) sp1.1 sp2.1 (ys.map .int) cm := fun hp hI => by
  obtain ⟨x1, x2, z1, z2, a1, a2, a3, a4, a5, a6, a7, a8⟩ := P hp hI
  obtain ⟨x3, z3, b1, b2, b3, -⟩ := eSp T1 c1 hI.1.1.1.1 hl hb
  have L := A hp hI.1 _ _ a3 (100 * I) (by omega) hI.2
  have u := zCan_u a3 b1
  cases u
  obtain ⟨x4, z4, d1, d2, d3, -⟩ := eSp T2 c2 b2 hl hb
  have u := zCan_u a5 d1
  cases u
  exact ⟨x1, x2, z1, z2, a1, a2, a3, a4, a5, a6, ⟨a7, LB_F d3 hN (LB_m (by omega) L)⟩, a8⟩
theorem eCL {kc kr : Nat} {as : List Value} {b : Nat} (P : lP MR kc kr as false) {Dc Dr : xS → Option (Int32 × xS)} (Zc : ∀ {hp : zHp}, yH0 hp → ∀ {y : Int32 × xS}, Dc (xof hp) = some y → zCan 20 kc (.ref 0 :: as) (xW hp (xof hp)) (some (.int y.1), xW hp y.2)) (Zr : ∀ {hp : zHp}, yH0 hp → ∀ {y : Int32 × xS}, Dr (xof hp) = some y → zCan 20 kr (.ref 70 :: as) (xW hp (xof hp)) (some (.int y.1), xW hp y.2)) (H2 : ∀ hp : zHp, MR hp → ∀ x z, zCan 20 kc (.ref 0 :: as) hp (some (.int x), z) → yH0 z) (V : ∀ m : xS, R32 (m.1 80) (m.1 10) → vI9 (m.1 80) → lbS b (m.1 80) → ∃ v m1, Dc m = some (v, m1) ∧ m1.1 80 = m.1 80 ∧ ∀ m2 : xS, m2.1 80 = m.1 80 → ∃ m3, Dr m2 = some (v, m3)) : lPx (fun hp => MR hp ∧ LB b (xof hp)) MR kc kr as true := fun hp hI => by
  obtain ⟨x1, x2, z1, z2, a1, a2, a3, a4, a5, a6, a7, -⟩ := P hp hI.1
  obtain ⟨v, m1, hc, h80, hr⟩ := V (xof hp) hI.1.1.2.1.1 hI.1.1.2.1.2 (lb_RS hI.1.1.2.1.1 hI.2.1)
  have H := hI.1.1.1.1.1
  have u := Zc H hc
  rw [xW_of] at u
  have b2 := H2 hp hI.1 _ _ a3
  have u := zCan_u a3 u
  cases u
  obtain ⟨m3, hm⟩ := hr (xof (xW hp m1)) (((xrw_of H m1).1 80 0 148 (by decide)).trans h80)
  have u := Zr b2 hm
  rw [xW_of] at u
  have u := zCan_u a5 u
  cases u
  exact ⟨_, _, _, _, a1, a2, a3, a4, a5, a6, a7, fun _ => rfl⟩
section PLA
variable {s : Nat → Int32} {b : Nat} {y1 y2 : Int32}
theorem la7 (I : vI s) (P : pLd s y1 y2 = true) (hb : b ≤ 900000) (L : lbS b s) : lbS (b + 1) (pld s y1.toInt.toNat y2.toInt.toNat) := by
  have n6 := I_n6 I
  have nt := I_nt I
  unfold pLd at P
  rw [Bool.and_eq_true, Bool.and_eq_true] at P
  obtain ⟨t, ht, t2⟩ := pin_n P.1
  obtain ⟨h, hh, h2⟩ := pin_n P.2.1
  rw [tnI ht (by omega), tnI hh (by omega)]
  exact lb_ld I t2 h2 (by omega) L
theorem la8 (I : vI s) (P : pGb s y1 = true) (L : lbS b s) : lbS (b + 1) (pgo s y1.toInt.toNat) := by
  have nt := I_nt I
  unfold pGb at P
  rw [Bool.and_eq_true] at P
  obtain ⟨t, ht, t2⟩ := pin_n P.1
  rw [tnI ht (by omega)]
  exact lbS_m (b := b) (by omega) (lb_gv (by omega) L)
theorem la9 (I : vI s) (P : pDo s y1 = true) (L : lbS b s) : lbS (b + 1) (pwk s y1.toInt.toNat) := by
  have nt := I_nw I
  unfold pDo at P
  rw [Bool.and_eq_true] at P
  obtain ⟨t, ht, t2⟩ := pin_n P.1
  rw [tnI ht (by omega)]
  exact lbS_m (b := b) (by omega) (lb_wk (by omega) L)
theorem la10 (I : vI s) (P : pQu s y1 y2 = true) (L : lbS b s) : lbS (b + 1) (pqu s y1.toInt.toNat y2.toInt.toNat) := by
  have n6 := I_n6 I
  unfold pQu at P
  rw [Bool.and_eq_true, Bool.and_eq_true, Bool.and_eq_true] at P
  obtain ⟨t, ht, t2⟩ := pin_n P.1.1
  obtain ⟨h, hh, h2⟩ := pin_n P.1.2.1
  rw [tnI ht (by omega), tnI hh (by omega)]
  exact lbS_m (b := b) (by omega) (lb_qu (by omega) (by omega) L)
theorem la12 (I : vI s) (P : pGf s y1 y2 = true) (L : lbS b s) : lbS (b + 1) (pgv s y1.toInt.toNat y2) := by
  have nt := I_nt I
  unfold pGf at P
  rw [Bool.and_eq_true] at P
  obtain ⟨t, ht, t2⟩ := pin_n P.1
  rw [tnI ht (by omega)]
  exact lbS_m (b := b) (by omega) (lb_gv (by omega) L)
end PLA
section MLPAIRS
theorem A0 {y1 y2 y3 y4 y5 : Int32} : lA ys1542.1 [.int y1, .int y2, .int y3, .int y4, .int y5] := lA_F (yt1542 yXx.1) (na := 5) (bl := []) (by decide +kernel) (by decide +kernel) [y1, y2, y3, y4, y5] rfl (fun s hs => by cases hs)
theorem L0 {y1 y2 y3 y4 y5 : Int32} {I : Nat} (h : I ≤ 3100) : lPx (IvL I) (IvL (I + 6)) ys1542.1 ys1548.1 [.int y1, .int y2, .int y3, .int y4, .int y5] false := eL (yt1542 yXx.1) (yt1548 yXx.1) (na := 5) (bl := []) (by decide +kernel) (by decide +kernel) (by decide +kernel) [y1, y2, y3, y4, y5] rfl (fun s hs => by cases hs) (fun hp h => (lP_w M0) hp h.1) A0 h
theorem A1 {y1 : Int32} : lA ys1538.1 [.int y1] := lA_F (yt1538 yXx.1) (na := 1) (bl := []) (by decide +kernel) (by decide +kernel) [y1] rfl (fun s hs => by cases hs)
theorem L1 {y1 : Int32} {I : Nat} (h : I ≤ 3100) : lPx (IvL I) (IvL (I + 6)) ys1538.1 ys1540.1 [.int y1] false := eL (yt1538 yXx.1) (yt1540 yXx.1) (na := 1) (bl := []) (by decide +kernel) (by decide +kernel) (by decide +kernel) [y1] rfl (fun s hs => by cases hs) (fun hp h => (lP_w M1) hp h.1) A1 h
theorem L2 {I : Nat} (h : I ≤ 3100) : lPx (IvL I) (IvL (I + 6)) ys1537.1 ys243.1 [] false := eL (yt1537b yXx.1) (yl243 yXx) (na := 0) (bl := []) (by decide +kernel) (by decide +kernel) (by decide +kernel) [] rfl (fun s hs => by cases hs) (fun hp h => (lP_w M2) hp h.1) lA_vil h
theorem A3 : lA ys646.1 [] := lA_F (yl646 yXx) (na := 0) (bl := []) (by decide +kernel) (by decide +kernel) [] rfl (fun s hs => by cases hs)
theorem L3 {I : Nat} (h : I ≤ 3100) : lPx (IvL I) (IvL (I + 6)) ys646.1 ys3.1 [] false := eL (yl646 yXx) (yl3 yXx) (na := 0) (bl := []) (by decide +kernel) (by decide +kernel) (by decide +kernel) [] rfl (fun s hs => by cases hs) (fun hp h => (lP_w nRule) hp h.1) A3 h
theorem A4 {y1 y2 : Int32} : lA ys1339.1 [.int y1, .int y2] := lA_F (yt1339 yXx.1) (na := 2) (bl := []) (by decide +kernel) (by decide +kernel) [y1, y2] rfl (fun s hs => by cases hs)
theorem L4 {y1 y2 : Int32} {I : Nat} (h : I ≤ 3100) : lPx (IvL I) (IvL (I + 6)) ys1339.1 ys1342.1 [.int y1, .int y2] false := eL (yt1339 yXx.1) (yt1342 yXx.1) (na := 2) (bl := []) (by decide +kernel) (by decide +kernel) (by decide +kernel) [y1, y2] rfl (fun s hs => by cases hs) (fun hp h => (lP_w M4) hp h.1) A4 h
theorem A5 {y1 y2 : Int32} : lA ys1334.1 [.int y1, .int y2] := lA_F (yt1334 yXx.1) (na := 2) (bl := []) (by decide +kernel) (by decide +kernel) [y1, y2] rfl (fun s hs => by cases hs)
theorem L5 {y1 y2 : Int32} {I : Nat} (h : I ≤ 3100) : lPx (IvL I) (IvL (I + 6)) ys1334.1 ys1337.1 [.int y1, .int y2] false := eL (yt1334 yXx.1) (yt1337 yXx.1) (na := 2) (bl := []) (by decide +kernel) (by decide +kernel) (by decide +kernel) [y1, y2] rfl (fun s hs => by cases hs) (fun hp h => (lP_w M5) hp h.1) A5 h
theorem A6 {y1 y2 y3 : Int32} : lA ys1330.1 [.int y1, .int y2, .int y3] := lA_F (yt1330 yXx.1) (na := 3) (bl := []) (by decide +kernel) (by decide +kernel) [y1, y2, y3] rfl (fun s hs => by cases hs)
theorem L6 {y1 y2 y3 : Int32} {I : Nat} (h : I ≤ 3100) : lPx (IvL I) (IvL (I + 6)) ys1330.1 ys1332.1 [.int y1, .int y2, .int y3] false := eL (yt1330 yXx.1) (yt1332 yXx.1) (na := 3) (bl := []) (by decide +kernel) (by decide +kernel) (by decide +kernel) [y1, y2, y3] rfl (fun s hs => by cases hs) (fun hp h => (lP_w M6) hp h.1) A6 h
theorem A7 {y1 y2 : Int32} : lA 131 [.int y1, .int y2] := lA_D (Dc := D131_0 3000 y1 y2) (fun {_} H {_} h => Z131_0 H h (by decide)) (kLB (p := fun s => pLd s y1 y2) (val := fun s => psh (pld s y1.toInt.toNat y2.toInt.toNat) y1.toInt.toNat 0) (act := fun s => pld s y1.toInt.toNat y2.toInt.toNat) (f := -1) (fun m n h hT R I n20 h20 e1 e2 => c131 hT R I n20 h20 e1 e2) (fun s b I P hb L => la7 I P hb L))
theorem L7 {y1 y2 : Int32} {I : Nat} (h : I ≤ 3100) : lPx (IvL I) (IvL (I + 6)) ys1327.1 ys1329.1 [.int y1, .int y2] false := eL (yt1327 yXx.1) (yt1329 yXx) (na := 2) (bl := []) (by decide +kernel) (by decide +kernel) (by decide +kernel) [y1, y2] rfl (fun s hs => by cases hs) (fun hp h => (lP_w M7) hp h.1) A7 h
theorem A8 {y1 : Int32} : lA 132 [.int y1] := lA_D (Dc := D132_0 3000 y1) (fun {_} H {_} h => Z132_0 H h (by decide)) (kLB (p := fun s => pGb s y1) (val := fun s => s (10 + 6 * y1.toInt.toNat)) (act := fun s => pgo s y1.toInt.toNat) (f := -1) (fun m n h hT R I n20 h20 e1 e2 => c132 R I n20 h20 e1 e2) (fun s b I P hb L => la8 I P L))
theorem L8 {y1 : Int32} {I : Nat} (h : I ≤ 3100) : lPx (IvL I) (IvL (I + 6)) ys1324.1 ys1326.1 [.int y1] false := eL (yt1324 yXx.1) (yt1326 yXx) (na := 1) (bl := []) (by decide +kernel) (by decide +kernel) (by decide +kernel) [y1] rfl (fun s hs => by cases hs) (fun hp h => (lP_w M8) hp h.1) A8 h
theorem A9 {y1 : Int32} : lA 133 [.int y1] := lA_D (Dc := D133_0 3000 y1) (fun {_} H {_} h => Z133_0 H h (by decide)) (kLB (p := fun s => pDo s y1) (val := fun s => s (124 + 4 * y1.toInt.toNat + 3)) (act := fun s => pwk s y1.toInt.toNat) (f := -1) (fun m n h hT R I n20 h20 e1 e2 => c133 (by decide) R I n20 h20 e1 e2) (fun s b I P hb L => la9 I P L))
theorem L9 {y1 : Int32} {I : Nat} (h : I ≤ 3100) : lPx (IvL I) (IvL (I + 6)) ys1318.1 ys1322.1 [.int y1] false := eL (yt1318 yXx.1) (yt1322 yXx) (na := 1) (bl := []) (by decide +kernel) (by decide +kernel) (by decide +kernel) [y1] rfl (fun s hs => by cases hs) (fun hp h => (lP_w M9) hp h.1) A9 h
theorem A10 {y1 y2 : Int32} : lA 134 [.int y1, .int y2] := lA_D (Dc := D134_0 3000 y1 y2) (fun {_} H {_} h => Z134_0 H h (by decide)) (kLB (p := fun s => pQu s y1 y2) (val := fun s => 1) (act := fun s => pqu s y1.toInt.toNat y2.toInt.toNat) (f := 0) (fun m n h hT R I n20 h20 e1 e2 => c134 hT R I n20 h20 e1 e2 (xT_kpc hT n20 h20)) (fun s b I P hb L => la10 I P L))
theorem L10 {y1 y2 : Int32} {I : Nat} (h : I ≤ 3100) : lPx (IvL I) (IvL (I + 6)) ys1314.1 ys1316.1 [.int y1, .int y2] false := eL (yt1314 yXx.1) (yt1316 yXx) (na := 2) (bl := []) (by decide +kernel) (by decide +kernel) (by decide +kernel) [y1, y2] rfl (fun s hs => by cases hs) (fun hp h => (lP_w M10) hp h.1) A10 h
theorem A11 : lA 135 [] := lA_D (Dc := D135_0 200000) (fun {_} H {_} h => Z135_0 H h (by decide)) (kLB_ring (by decide))
theorem L11 {I : Nat} (h : I ≤ 3100) : lPx (IvL I) (IvL (I + 6)) ys1310.1 ys1311.1 [] false := eL (yt1310 yXx.1) (yt1311 yXx) (na := 0) (bl := []) (by decide +kernel) (by decide +kernel) (by decide +kernel) [] rfl (fun s hs => by cases hs) (fun hp h => (lP_w M11) hp h.1) A11 h
theorem A12 {y1 y2 : Int32} : lA 136 [.int y1, .int y2] := lA_D (Dc := D136_0 3000 y1 y2) (fun {_} H {_} h => Z136_0 H h (by decide)) (kLB (p := fun s => pGf s y1 y2) (val := fun s => s (10 + 6 * y1.toInt.toNat)) (act := fun s => pgv s y1.toInt.toNat y2) (f := -1) (fun m n h hT R I n20 h20 e1 e2 => c136 R I n20 h20 e1 e2) (fun s b I P hb L => la12 I P L))
theorem L12 {y1 y2 : Int32} {I : Nat} (h : I ≤ 3100) : lPx (IvL I) (IvL (I + 6)) ys1306.1 ys1308.1 [.int y1, .int y2] false := eL (yt1306 yXx.1) (yt1308 yXx) (na := 2) (bl := []) (by decide +kernel) (by decide +kernel) (by decide +kernel) [y1, y2] rfl (fun s hs => by cases hs) (fun hp h => (lP_w M12) hp h.1) A12 h
theorem A13 : lA 137 [] := lA_D (Dc := D137_0 3000) (fun {_} H {_} h => Z137_0 H h (by decide)) (kLB (p := pDy) (val := fun s => plc (pdy s) 0 (s 2).toInt.toNat 0) (act := pdy) (f := -1) (fun m n h hT R I n20 h20 e1 e2 => c137 (by decide) R I n20 h20 e1 e2) (fun s b I P hb L => lbS_m (b := b) (by omega) (lb_dy I L)))
theorem L13 {I : Nat} (h : I ≤ 3100) : lPx (IvL I) (IvL (I + 6)) ys1302.1 ys1303.1 [] false := eL (yt1302 yXx.1) (yt1303 yXx) (na := 0) (bl := []) (by decide +kernel) (by decide +kernel) (by decide +kernel) [] rfl (fun s hs => by cases hs) (fun hp h => (lP_w M13) hp h.1) A13 h
theorem A14 : lA 138 [] := lA_D (Dc := D138_0 3000) (fun {_} H {_} h => Z138_0 H h (by decide)) (kLB_undo)
theorem L14 {I : Nat} (h : I ≤ 3100) : lPx (IvL I) (IvL (I + 6)) ys1298.1 ys246.1 [] false := eL (yt1298 yXx.1) (yl246 yXx) (na := 0) (bl := []) (by decide +kernel) (by decide +kernel) (by decide +kernel) [] rfl (fun s hs => by cases hs) (fun hp h => (lP_w M14) hp h.1) A14 h
theorem L15 {y1 y2 : Int32} {I : Nat} (h : I ≤ 3100) : lPx (IvL I) (IvL (I + 6)) ys1293.1 ys1295.1 [.int y1, .int y2] false := eL (yt1293 yXx.1) (yt1295 yXx) (na := 2) (bl := []) (by decide +kernel) (by decide +kernel) (by decide +kernel) [y1, y2] rfl (fun s hs => by cases hs) (fun hp h => (lP_w nRun) hp h.1) lA_run h
theorem A16 {y1 y2 y3 y4 : Int32} : lA ys1247.1 [.int y1, .int y2, .int (if y3 = 0 then 0 else 1), .int y4] := lA_F (yt1247 yXx.1) (na := 4) (bl := [2]) (by decide +kernel) (by decide +kernel) [y1, y2, (if y3 = 0 then 0 else 1), y4] rfl (fun s hs z hz => by
    have hs : s = 2 := by simpa using hs
    subst hs
    cases hz
    split <;> decide)
theorem L16 {y1 y2 y3 y4 : Int32} {I : Nat} (h : I ≤ 3100) : lPx (IvL I) (IvL (I + 6)) ys1247.1 ys1248.1 [.int y1, .int y2, .int (if y3 = 0 then 0 else 1), .int y4] false := eL (yt1247 yXx.1) (yt1248 yXx.1) (na := 4) (bl := [2]) (by decide +kernel) (by decide +kernel) (by decide +kernel) [y1, y2, (if y3 = 0 then 0 else 1), y4] rfl (fun s hs z hz => by
    have hs : s = 2 := by simpa using hs
    subst hs
    cases hz
    split <;> decide) (fun hp h => M16 hp h.1) A16 h
theorem A17 {y1 : Int32} : lA ys1241.1 [.int y1] := lA_F (yt1241 yXx.1) (na := 1) (bl := []) (by decide +kernel) (by decide +kernel) [y1] rfl (fun s hs => by cases hs)
theorem L17 {y1 : Int32} {I : Nat} (h : I ≤ 3100) : lPx (IvL I) (IvL (I + 6)) ys1241.1 ys1243.1 [.int y1] false := eL (yt1241 yXx.1) (yt1243 yXx.1) (na := 1) (bl := []) (by decide +kernel) (by decide +kernel) (by decide +kernel) [y1] rfl (fun s hs => by cases hs) (fun hp h => M17 hp h.1) A17 h
theorem A18 {y1 : Int32} : lA ys1233.1 [.int y1] := lA_F (yt1233 yXx.1) (na := 1) (bl := []) (by decide +kernel) (by decide +kernel) [y1] rfl (fun s hs => by cases hs)
theorem L18 {y1 : Int32} {I : Nat} (h : I ≤ 3100) : lPx (IvL I) (IvL (I + 6)) ys1233.1 ys1235.1 [.int y1] false := eL (yt1233 yXx.1) (yt1235 yXx.1) (na := 1) (bl := []) (by decide +kernel) (by decide +kernel) (by decide +kernel) [y1] rfl (fun s hs => by cases hs) (fun hp h => M18 hp h.1) A18 h
theorem A19 {y1 y2 : Int32} : lA ys1225.1 [.int y1, .int y2] := lA_F (yt1225 yXx.1) (na := 2) (bl := []) (by decide +kernel) (by decide +kernel) [y1, y2] rfl (fun s hs => by cases hs)
theorem L19 {y1 y2 : Int32} {I : Nat} (h : I ≤ 3100) : lPx (IvL I) (IvL (I + 6)) ys1225.1 ys1232.1 [.int y1, .int y2] false := eL (yt1225 yXx.1) (yt1232 yXx) (na := 2) (bl := []) (by decide +kernel) (by decide +kernel) (by decide +kernel) [y1, y2] rfl (fun s hs => by cases hs) (fun hp h => nOwner hp h.1) A19 h
theorem A20 {y1 : Int32} : lA ys1193.1 [.int y1] := lA_F (yt1193 yXx.1) (na := 1) (bl := []) (by decide +kernel) (by decide +kernel) [y1] rfl (fun s hs => by cases hs)
theorem L20 {y1 : Int32} {I : Nat} (h : I ≤ 3100) : lPx (IvL I) (IvL (I + 6)) ys1193.1 ys1224.1 [.int y1] false := eL (yt1193 yXx.1) (yt1224 yXx) (na := 1) (bl := []) (by decide +kernel) (by decide +kernel) (by decide +kernel) [y1] rfl (fun s hs => by cases hs) (fun hp h => nBreaks hp h.1) A20 h
theorem A21 {y1 : Int32} : lA ys1089.1 [.int y1] := lA_F (yt1089 yXx.1) (na := 1) (bl := []) (by decide +kernel) (by decide +kernel) [y1] rfl (fun s hs => by cases hs)
theorem L21 {y1 : Int32} {I : Nat} (h : I ≤ 3100) : lPx (IvL I) (IvL (I + 6)) ys1089.1 ys1140.1 [.int y1] false := eL (yt1089 yXx.1) (yt1140 yXx.1) (na := 1) (bl := []) (by decide +kernel) (by decide +kernel) (by decide +kernel) [y1] rfl (fun s hs => by cases hs) (fun hp h => M21 hp h.1) A21 h
theorem A22 {y1 : Int32} : lA ys1075.1 [.int y1] := lA_F (yt1075 yXx.1) (na := 1) (bl := []) (by decide +kernel) (by decide +kernel) [y1] rfl (fun s hs => by cases hs)
theorem L22 {y1 : Int32} {I : Nat} (h : I ≤ 3100) : lPx (IvL I) (IvL (I + 6)) ys1075.1 ys1077.1 [.int y1] false := eL (yt1075 yXx.1) (yt1077 yXx.1) (na := 1) (bl := []) (by decide +kernel) (by decide +kernel) (by decide +kernel) [y1] rfl (fun s hs => by cases hs) (fun hp h => (lP_w M22) hp h.1) A22 h
theorem A23 {y1 y2 : Int32} : lA ys1067.1 [.int y1, .int y2] := lA_F (yt1067 yXx.1) (na := 2) (bl := []) (by decide +kernel) (by decide +kernel) [y1, y2] rfl (fun s hs => by cases hs)
theorem nCame {y1 y2 : Int32} {b : Nat} : lPx (fun hp => MR hp ∧ LB b (xof hp)) MR 148 267 [.int y1, .int y2] true := eCL (as := [y1, y2].map .int) M23 (Dc := D148_0 200000 y1 y2) (Dr := D267 200000 y1 y2) (fun {_} H {_} h => Z148_0 H h (by decide)) (fun {_} H {_} h => Z267 H h (by decide)) (eH2 (yt1067 yXx.1) (na := 2) (bl := []) (by decide +kernel) [y1, y2] rfl (fun s hs => by cases hs)) (fun m R I L => vCame (F := 200000) (by decide) rfl R I.1 (fun t ht ne => (L t (by have := I_nt I.1; omega) ht).2 ne))
theorem L23 {y1 y2 : Int32} {I : Nat} (h : I ≤ 3100) : lPx (IvL I) (IvL (I + 6)) ys1067.1 ys1.1 [.int y1, .int y2] true := eL (yt1067 yXx.1) (yl1 yXx) (na := 2) (bl := []) (by decide +kernel) (by decide +kernel) (by decide +kernel) [y1, y2] rfl (fun s hs => by cases hs) nCame A23 h
theorem A24 {y1 : Int32} : lA ys1013.1 [.int y1] := lA_F (yt1013 yXx.1) (na := 1) (bl := []) (by decide +kernel) (by decide +kernel) [y1] rfl (fun s hs => by cases hs)
theorem L24 {y1 : Int32} {I : Nat} (h : I ≤ 3100) : lPx (IvL I) (IvL (I + 6)) ys1013.1 ys1033.1 [.int y1] false := eL (yt1013 yXx.1) (yt1033 yXx) (na := 1) (bl := []) (by decide +kernel) (by decide +kernel) (by decide +kernel) [y1] rfl (fun s hs => by cases hs) (fun hp h => nDone hp h.1) A24 h
theorem A25 {y1 : Int32} : lA ys861.1 [.int y1] := lA_F (yt861 yXx.1) (na := 1) (bl := []) (by decide +kernel) (by decide +kernel) [y1] rfl (fun s hs => by cases hs)
theorem L25 {y1 : Int32} {I : Nat} (h : I ≤ 3100) : lPx (IvL I) (IvL (I + 6)) ys861.1 ys994.1 [.int y1] false := eL (yt861 yXx.1) (yt994 yXx) (na := 1) (bl := []) (by decide +kernel) (by decide +kernel) (by decide +kernel) [y1] rfl (fun s hs => by cases hs) (fun hp h => nSafe hp h.1) A25 h
theorem A26 {y1 : Int32} : lA ys1556.1 [.int y1] := lA_F (yt1556 yXx.1) (na := 1) (bl := []) (by decide +kernel) (by decide +kernel) [y1] rfl (fun s hs => by cases hs)
theorem L26 {y1 : Int32} {I : Nat} (h : I ≤ 3100) : lPx (IvL I) (IvL (I + 6)) ys1556.1 ys1558.1 [.int y1] false := eL (yt1556 yXx.1) (yt1558 yXx.1) (na := 1) (bl := []) (by decide +kernel) (by decide +kernel) (by decide +kernel) [y1] rfl (fun s hs => by cases hs) (fun hp h => (lP_w M26) hp h.1) A26 h
theorem A27 {y1 y2 y3 : Int32} : lA ys1555.1 [.int y1, .int y2, .int y3] := lA_F (yt1555 yXx.1) (na := 3) (bl := []) (by decide +kernel) (by decide +kernel) [y1, y2, y3] rfl (fun s hs => by cases hs)
theorem L27 {y1 y2 y3 : Int32} {I : Nat} (h : I ≤ 3100) : lPx (IvL I) (IvL (I + 6)) ys1555.1 ys837.1 [.int y1, .int y2, .int y3] false := eL (yt1555 yXx.1) (yt837 yXx) (na := 3) (bl := []) (by decide +kernel) (by decide +kernel) (by decide +kernel) [y1, y2, y3] rfl (fun s hs => by cases hs) (fun hp h => (lP_w nHarv) hp h.1) A27 h
theorem A28 {y1 : Int32} : lA ys666.1 [.int y1] := lA_F (yt666 yXx.1) (na := 1) (bl := []) (by decide +kernel) (by decide +kernel) [y1] rfl (fun s hs => by cases hs)
theorem L28 {y1 : Int32} {I : Nat} (h : I ≤ 3100) : lPx (IvL I) (IvL (I + 6)) ys666.1 ys670.1 [.int y1] false := eL (yt666 yXx.1) (yt670 yXx.1) (na := 1) (bl := []) (by decide +kernel) (by decide +kernel) (by decide +kernel) [y1] rfl (fun s hs => by cases hs) (fun hp h => (lP_w M28) hp h.1) A28 h
theorem A29 {y1 : Int32} : lA 155 [.int y1] := lA_D (Dc := D155_0 3000 y1) (fun {_} H {_} h => Z155_0 H h (by decide)) (kLB_image)
theorem L29 {y1 : Int32} {I : Nat} (h : I ≤ 3100) : lPx (IvL I) (IvL (I + 6)) ys1560.1 ys7.1 [.int y1] false := eL (yt1560 yXx.1) (yl7 yXx) (na := 1) (bl := []) (by decide +kernel) (by decide +kernel) (by decide +kernel) [y1] rfl (fun s hs => by cases hs) (fun hp h => (lP_w M29) hp h.1) A29 h
theorem A30 {y1 : Int32} : lA 156 [.int y1] := lA_D (Dc := D156_0 3000 y1) (fun {_} H {_} h => Z156_0 H h (by decide)) (kLB_back)
theorem L30 {y1 : Int32} {I : Nat} (h : I ≤ 3100) : lPx (IvL I) (IvL (I + 6)) ys1559.1 ys8.1 [.int y1] false := eL (yt1559 yXx.1) (yl8 yXx) (na := 1) (bl := []) (by decide +kernel) (by decide +kernel) (by decide +kernel) [y1] rfl (fun s hs => by cases hs) (fun hp h => (lP_w M30) hp h.1) A30 h
end MLPAIRS
