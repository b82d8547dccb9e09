/-! The spec of the reference's rule. -/
theorem yas1 {hp : zHp} {r : Nat → Int} {as : List Value} {c : Nat} (g : yG hp r (0, [], [], [], [(0, (2, yc c, yc 0))], []) (lv_args 0 as) []) (hlen : as.length = 1) : as = [.ref c] := by
  match as, hlen with
  | [a], _ =>
    obtain ⟨-, w, w1, w2⟩ := g.2.2.2.1 0 (2, yc c, yc 0) rfl
    have w1 : some a = some w := w1
    cases w1
    rcases w2 with ⟨w2, -⟩ | ⟨-, w2⟩
    · have w2 : yev r (yc c) = -1 := w2
      rw [yev_c] at w2
      omega
    · have w2 : a = .ref (yev r (yc c)).toNat := w2
      rw [yev_c] at w2
      rw [w2]
      rfl
/-- E1 where its cells are left alone -/
theorem yE1_F {M : yM} {a b : zHp} (f : yF M a b) (h : ∀ (c : Nat) (j : Nat), c = 80 ∨ c = 81 ∨ c = 84 ∨ c = 85 → yinM M c (j : Int) = false) (e : yE1 a) : yE1 b :=
  ⟨yP_F f (h _ _ (by decide)) (h _ _ (by decide)) e.1, yP_F f (h _ _ (by decide)) (h _ _ (by decide)) e.2.1, fun k hk => yP_F f (h _ _ (by decide)) (h _ _ (by decide)) (e.2.2.1 k hk), fun k hk => yP_F f (h _ _ (by decide)) (h _ _ (by decide)) (e.2.2.2 k hk)⟩
theorem xof_t {B : zHp} (H : yH0 B) {m : xS} {i k n : Nat} (ht : xta i k n = true) : (xof (xW B m)).1 i = m.1 i := by
  funext j
  obtain ⟨-, -, -, f, e⟩ := xta_ok H ht
  refine xof_W B m i j ⟨m.1 i j, ?_⟩
  unfold yrd
  rw [xW_a e]
  dsimp only
  rw [if_neg (by omega), Int.toNat_natCast]
theorem yrule_r : yTs (yEA yAr) 16 ys3 := by
  intro d hd hp r as H gg hl hlen
  have has := yas1 (c := 70) gg hlen
  subst has
  obtain ⟨x, hx, f, hT, hA⟩ := P197 (F := 500) (Nat.le_refl _) (xT_of H.1) H.2.2.1
  have z := Z197 H.1 hx (d := d) (by omega)
  rw [xW_of] at z
  have fy : yF ys3.2.2.2.2 hp (xW hp x.2) := yF_le (M := xMR) (by decide) (xF f.2 (fun i j _ => by rw [f.1]))
  refine ⟨_, z, ⟨xH H.1 hT (fun i j _ => by rw [f.1]), yE1_F fy ?_ H.2.1, ?_, ?_⟩, fy, _, List.mem_cons_self, (fun _ => x.1.toInt), fun s hs => absurd hs (Nat.not_lt_zero _), Nat.zero_le _, yany1⟩
  · intro c j hc
    rcases hc with rfl | rfl | rfl | rfl <;> rfl
  · have e2 := xof_t (m := x.2) H.1 (i := 72) (k := 0) (n := 2400) (by decide)
    have e4 := xof_t (m := x.2) H.1 (i := 74) (k := 0) (n := 288) (by decide)
    have e5 := xof_t (m := x.2) H.1 (i := 75) (k := 0) (n := 6) (by decide)
    unfold xA wfc wfs
    rw [e2, e4, e5]
    exact hA
  · have e8 : (xof (xW hp x.2)).1 0 8 = (xof hp).1 0 8 := by
      rw [xof_rd, xof_rd, fy.2.2 0 ((8 : Nat) : Int) (Or.inr rfl)]
    rw [e8]
    exact H.2.2.2
