/-! The reference's reader of rules: words, values. -/
theorem twd_id (b : Nat → Int) (n p : Nat) : twd b n (tS tbl b n p) = twd b n p := by
  unfold twd
  rw [tS_id]
theorem tix_ne {w v : List Int} {vs : List (List Int)} (h : w ≠ v) : tix w (v :: vs) = (tix w vs).map (· + 1) := if_neg (fun z => h z.symm)
theorem tix_b : ∀ (ws : List (List Int)) (w : List Int) (u : Nat), tix w ws = some u → u < ws.length := by
  intro ws
  induction ws with
  | nil => intro w u z; cases z
  | cons y ys ih =>
    intro w u z
    unfold tix at z
    split at z
    · cases z
      exact Nat.succ_pos _
    · cases t : tix w ys with
      | none => rw [t] at z; cases z
      | some t2 =>
        rw [t] at z
        have := ih w t2 t
        have z : t2 + 1 = u := Option.some.inj z
        rw [List.length_cons]
        omega
/-- a step of the reference's code as one of the class's -/
def tenc (c : Int) : Int := if c % 16 = 0 then 40 + c / 16 else if c % 16 = 1 then 20 + c / 16 else if c % 16 = 14 then 13 else if 6 ≤ c % 16 ∧ c % 16 ≤ 10 then c % 16 - 2 else if c % 16 = 11 then 3 else if c % 16 = 12 then 2 else if c % 16 = 13 then 1 else c % 16 + 7
section RV
variable {m0 m : xS} {b : Nat → Int} {n t p : Nat} {ft nu : Int} {rc : List Int} {cs : List (Int × Int × Int × Int)} {op : List Int} {dp ln : Int} {F : Nat}
set_option maxRecDepth 4000 in
theorem R171 (hF : 500 ≤ F) (N : rN m0 b n) (h : rT m0 n p ft nu m) : xP (D171 F m) (fun r m' => rT m0 n (tsk b n p) ft nu m' ∧ ((∃ u : Nat, tix (twd b n p) tw1004 = some u ∧ r.toInt = (u : Int)) ∨ (tix (twd b n p) tw1004 = none ∧ r.toInt = -1))) := by
  unfold D171
  refine xP_b (R167 (W := [116, 111, 111, 108]) (w := 1953460076) hF N h (by decide) (by decide) (by decide)) (fun r0 m0 q0 => ?_)
  obtain ⟨h1, q0⟩ := q0
  dsimp only
  refine xP_i (fun c => ?_) (fun c => xP_r ⟨h1, Or.inl ⟨0, ?_, by decide⟩⟩)
  rotate_left
  · rcases q0 with ⟨-, q⟩ | ⟨q, -⟩
    · rw [q]
      decide
    · rw [q] at c
      cases c
  have n0 : twd b n p ≠ [116, 111, 111, 108] := by
    rcases q0 with ⟨q, -⟩ | ⟨-, q⟩
    · rw [q] at c
      cases c
    · exact q
  clear c q0
  refine xP_b (R167 (W := [107, 105, 110, 100]) (w := 1802071652) hF N h1 (by decide) (by decide) (by decide)) (fun r1 m1 q1 => ?_)
  obtain ⟨h2, q1⟩ := q1
  rw [show tsk b n (tsk b n p) = tsk b n p from tS_id p] at h2
  rw [show twd b n (tsk b n p) = twd b n p from twd_id b n p] at q1
  dsimp only
  refine xP_i (fun c => ?_) (fun c => xP_r ⟨h2, Or.inl ⟨1, ?_, by decide⟩⟩)
  rotate_left
  · rcases q1 with ⟨-, q⟩ | ⟨q, -⟩
    · rw [q]
      decide
    · rw [q] at c
      cases c
  have n1 : twd b n p ≠ [107, 105, 110, 100] := by
    rcases q1 with ⟨q, -⟩ | ⟨-, q⟩
    · rw [q] at c
      cases c
    · exact q
  clear c q1
  refine xP_b (R167 (W := [111, 119, 110, 101, 114]) (w := 478745093490) hF N h2 (by decide) (by decide) (by decide)) (fun r2 m2 q2 => ?_)
  obtain ⟨h3, q2⟩ := q2
  rw [show tsk b n (tsk b n p) = tsk b n p from tS_id p] at h3
  rw [show twd b n (tsk b n p) = twd b n p from twd_id b n p] at q2
  dsimp only
  refine xP_i (fun c => ?_) (fun c => xP_r ⟨h3, Or.inl ⟨2, ?_, by decide⟩⟩)
  rotate_left
  · rcases q2 with ⟨-, q⟩ | ⟨q, -⟩
    · rw [q]
      decide
    · rw [q] at c
      cases c
  have n2 : twd b n p ≠ [111, 119, 110, 101, 114] := by
    rcases q2 with ⟨q, -⟩ | ⟨-, q⟩
    · rw [q] at c
      cases c
    · exact q
  clear c q2
  refine xP_b (R167 (W := [104, 111, 108, 100, 101, 114]) (w := 114827769177458) hF N h3 (by decide) (by decide) (by decide)) (fun r3 m3 q3 => ?_)
  obtain ⟨h4, q3⟩ := q3
  rw [show tsk b n (tsk b n p) = tsk b n p from tS_id p] at h4
  rw [show twd b n (tsk b n p) = twd b n p from twd_id b n p] at q3
  dsimp only
  refine xP_i (fun c => ?_) (fun c => xP_r ⟨h4, Or.inl ⟨3, ?_, by decide⟩⟩)
  rotate_left
  · rcases q3 with ⟨-, q⟩ | ⟨q, -⟩
    · rw [q]
      decide
    · rw [q] at c
      cases c
  have n3 : twd b n p ≠ [104, 111, 108, 100, 101, 114] := by
    rcases q3 with ⟨q, -⟩ | ⟨-, q⟩
    · rw [q] at c
      cases c
    · exact q
  clear c q3
  refine xP_b (R167 (W := [116, 111]) (w := 29807) hF N h4 (by decide) (by decide) (by decide)) (fun r4 m4 q4 => ?_)
  obtain ⟨h5, q4⟩ := q4
  rw [show tsk b n (tsk b n p) = tsk b n p from tS_id p] at h5
  rw [show twd b n (tsk b n p) = twd b n p from twd_id b n p] at q4
  dsimp only
  refine xP_i (fun c => ?_) (fun c => xP_r ⟨h5, Or.inl ⟨4, ?_, by decide⟩⟩)
  rotate_left
  · rcases q4 with ⟨-, q⟩ | ⟨q, -⟩
    · rw [q]
      decide
    · rw [q] at c
      cases c
  have n4 : twd b n p ≠ [116, 111] := by
    rcases q4 with ⟨q, -⟩ | ⟨-, q⟩
    · rw [q] at c
      cases c
    · exact q
  clear c q4
  refine xP_b (R167 (W := [108, 101, 110, 116]) (w := 1818586740) hF N h5 (by decide) (by decide) (by decide)) (fun r5 m5 q5 => ?_)
  obtain ⟨h6, q5⟩ := q5
  rw [show tsk b n (tsk b n p) = tsk b n p from tS_id p] at h6
  rw [show twd b n (tsk b n p) = twd b n p from twd_id b n p] at q5
  dsimp only
  refine xP_i (fun c => ?_) (fun c => xP_r ⟨h6, Or.inl ⟨5, ?_, by decide⟩⟩)
  rotate_left
  · rcases q5 with ⟨-, q⟩ | ⟨q, -⟩
    · rw [q]
      decide
    · rw [q] at c
      cases c
  have n5 : twd b n p ≠ [108, 101, 110, 116] := by
    rcases q5 with ⟨q, -⟩ | ⟨-, q⟩
    · rw [q] at c
      cases c
    · exact q
  clear c q5
  refine xP_b (R167 (W := [115, 104, 97, 114, 112]) (w := 495672455792) hF N h6 (by decide) (by decide) (by decide)) (fun r6 m6 q6 => ?_)
  obtain ⟨h7, q6⟩ := q6
  rw [show tsk b n (tsk b n p) = tsk b n p from tS_id p] at h7
  rw [show twd b n (tsk b n p) = twd b n p from twd_id b n p] at q6
  dsimp only
  refine xP_i (fun c => ?_) (fun c => xP_r ⟨h7, Or.inl ⟨6, ?_, by decide⟩⟩)
  rotate_left
  · rcases q6 with ⟨-, q⟩ | ⟨q, -⟩
    · rw [q]
      decide
    · rw [q] at c
      cases c
  have n6 : twd b n p ≠ [115, 104, 97, 114, 112] := by
    rcases q6 with ⟨q, -⟩ | ⟨-, q⟩
    · rw [q] at c
      cases c
    · exact q
  clear c q6
  refine xP_b (R167 (W := [111, 117, 116]) (w := 7304564) hF N h7 (by decide) (by decide) (by decide)) (fun r7 m7 q7 => ?_)
  obtain ⟨h8, q7⟩ := q7
  rw [show tsk b n (tsk b n p) = tsk b n p from tS_id p] at h8
  rw [show twd b n (tsk b n p) = twd b n p from twd_id b n p] at q7
  dsimp only
  refine xP_i (fun c => ?_) (fun c => xP_r ⟨h8, Or.inl ⟨7, ?_, by decide⟩⟩)
  rotate_left
  · rcases q7 with ⟨-, q⟩ | ⟨q, -⟩
    · rw [q]
      decide
    · rw [q] at c
      cases c
  have n7 : twd b n p ≠ [111, 117, 116] := by
    rcases q7 with ⟨q, -⟩ | ⟨-, q⟩
    · rw [q] at c
      cases c
    · exact q
  clear c q7
  refine xP_b (R167 (W := [100, 97, 121]) (w := 6578553) hF N h8 (by decide) (by decide) (by decide)) (fun r8 m8 q8 => ?_)
  obtain ⟨h9, q8⟩ := q8
  rw [show tsk b n (tsk b n p) = tsk b n p from tS_id p] at h9
  rw [show twd b n (tsk b n p) = twd b n p from twd_id b n p] at q8
  dsimp only
  refine xP_i (fun c => ?_) (fun c => xP_r ⟨h9, Or.inl ⟨8, ?_, by decide⟩⟩)
  rotate_left
  · rcases q8 with ⟨-, q⟩ | ⟨q, -⟩
    · rw [q]
      decide
    · rw [q] at c
      cases c
  have n8 : twd b n p ≠ [100, 97, 121] := by
    rcases q8 with ⟨q, -⟩ | ⟨-, q⟩
    · rw [q] at c
      cases c
    · exact q
  clear c q8
  refine xP_b (R167 (W := [110, 101, 101, 100]) (w := 1852138852) hF N h9 (by decide) (by decide) (by decide)) (fun r9 m9 q9 => ?_)
  obtain ⟨h10, q9⟩ := q9
  rw [show tsk b n (tsk b n p) = tsk b n p from tS_id p] at h10
  rw [show twd b n (tsk b n p) = twd b n p from twd_id b n p] at q9
  dsimp only
  refine xP_i (fun c => ?_) (fun c => xP_r ⟨h10, Or.inl ⟨9, ?_, by decide⟩⟩)
  rotate_left
  · rcases q9 with ⟨-, q⟩ | ⟨q, -⟩
    · rw [q]
      decide
    · rw [q] at c
      cases c
  have n9 : twd b n p ≠ [110, 101, 101, 100] := by
    rcases q9 with ⟨q, -⟩ | ⟨-, q⟩
    · rw [q] at c
      cases c
    · exact q
  clear c q9
  refine xP_b (R167 (W := [112, 97, 121]) (w := 7364985) hF N h10 (by decide) (by decide) (by decide)) (fun r10 m10 q10 => ?_)
  obtain ⟨h11, q10⟩ := q10
  rw [show tsk b n (tsk b n p) = tsk b n p from tS_id p] at h11
  rw [show twd b n (tsk b n p) = twd b n p from twd_id b n p] at q10
  dsimp only
  refine xP_i (fun c => ?_) (fun c => xP_r ⟨h11, Or.inl ⟨10, ?_, by decide⟩⟩)
  rotate_left
  · rcases q10 with ⟨-, q⟩ | ⟨q, -⟩
    · rw [q]
      decide
    · rw [q] at c
      cases c
  have n10 : twd b n p ≠ [112, 97, 121] := by
    rcases q10 with ⟨q, -⟩ | ⟨-, q⟩
    · rw [q] at c
      cases c
    · exact q
  clear c q10
  refine xP_b (R167 (W := [111, 119, 101, 115]) (w := 1870095731) hF N h11 (by decide) (by decide) (by decide)) (fun r11 m11 q11 => ?_)
  obtain ⟨h12, q11⟩ := q11
  rw [show tsk b n (tsk b n p) = tsk b n p from tS_id p] at h12
  rw [show twd b n (tsk b n p) = twd b n p from twd_id b n p] at q11
  dsimp only
  refine xP_i (fun c => ?_) (fun c => xP_r ⟨h12, Or.inl ⟨11, ?_, by decide⟩⟩)
  rotate_left
  · rcases q11 with ⟨-, q⟩ | ⟨q, -⟩
    · rw [q]
      decide
    · rw [q] at c
      cases c
  have n11 : twd b n p ≠ [111, 119, 101, 115] := by
    rcases q11 with ⟨q, -⟩ | ⟨-, q⟩
    · rw [q] at c
      cases c
    · exact q
  clear c q11
  refine xP_b (R167 (W := [116, 114, 117, 115, 116, 115]) (w := 128034945594483) hF N h12 (by decide) (by decide) (by decide)) (fun r12 m12 q12 => ?_)
  obtain ⟨h13, q12⟩ := q12
  rw [show tsk b n (tsk b n p) = tsk b n p from tS_id p] at h13
  rw [show twd b n (tsk b n p) = twd b n p from twd_id b n p] at q12
  dsimp only
  refine xP_i (fun c => xP_r ⟨h13, Or.inr ⟨?_, by decide⟩⟩) (fun c => xP_r ⟨h13, Or.inl ⟨12, ?_, by decide⟩⟩)
  · have n12 : twd b n p ≠ [116, 114, 117, 115, 116, 115] := by
      rcases q12 with ⟨q, -⟩ | ⟨-, q⟩
      · rw [q] at c
        cases c
      · exact q
    show tix (twd b n p) [[116, 111, 111, 108], [107, 105, 110, 100], [111, 119, 110, 101, 114], [104, 111, 108, 100, 101, 114], [116, 111], [108, 101, 110, 116], [115, 104, 97, 114, 112], [111, 117, 116], [100, 97, 121], [110, 101, 101, 100], [112, 97, 121], [111, 119, 101, 115], [116, 114, 117, 115, 116, 115]] = none
    rw [tix_ne n0, tix_ne n1, tix_ne n2, tix_ne n3, tix_ne n4, tix_ne n5, tix_ne n6, tix_ne n7, tix_ne n8, tix_ne n9, tix_ne n10, tix_ne n11, tix_ne n12]
    rfl
  · rcases q12 with ⟨-, q⟩ | ⟨q, -⟩
    · rw [q]
      decide
    · rw [q] at c
      cases c
/-- value -/
theorem R177 {kk : Nat} (hF : 500 ≤ F) (N : rN m0 b n) (ht : t < 6) (hT : (m0.1 70 11).toInt = (t : Int)) (h : rC m0 n t p 0 nu (kk : Int) rc cs op dp ln m) (hk : kk ≤ 60) (l : rc.length < 400) : xP (D177 F m) (fun v m' => (∃ f, tval b n p kk = .inl f ∧ f ≠ 0 ∧ v = 0 ∧ rF m0 f m') ∨ (∃ x c nu', tval b n p kk = .inr x ∧ v = 1 ∧ tenc c = x.2 ∧ rC m0 n t x.1 0 nu' ((kk + 1 : Nat) : Int) (c :: rc) cs op dp ln m')) := by
  have n4 := N.2.1
  have pn : p ≤ n := h.2.2.1.2
  have l4 : tS tbl b n p ≤ n := tS_le p pn
  unfold D177 D177_39
  refine xP_b (R164 hF (rN_t N h) (rC_t h)) (fun v1 m1 q => ?_)
  obtain ⟨q, qv⟩ := q
  have c1 := rC_T h q
  have h3 := c1.2.2.1
  refine xP_b (R165 (rN_t N c1) (rC_t c1) h3.1) (fun r mx q1 => ?_)
  obtain ⟨rfl, q1⟩ := q1
  dsimp only
  refine xP_i (fun c => ?_) (fun c => ?_)
  · have nd : ¬ (tS tbl b n p < n ∧ tdg (b (tS tbl b n p)) = true) := by
      rcases q1 with ⟨q1, -⟩ | ⟨-, q1⟩
      · rw [q1] at c
        cases c
      · exact q1
    have dg : ¬ tdg (tsg b n (tsk b n p)) = true := by
      unfold tsg tsk
      split
      · next z => exact fun y => nd ⟨z, y⟩
      · decide
    have tv0 : tval b n p kk = (match tix (twd b n p) tw1004 with
      | none => .inl (1 + 8 * (tsk b n p : Int))
      | some u => if 60 ≤ kk then .inl (1 + 8 * (tsk b n p : Int) + 3) else .inr (tle b n p, 20 + (u : Int))) := by
      unfold tval
      rw [if_neg dg]
      cases tix (twd b n p) tw1004 <;> rfl
    rw [tv0]
    refine xP_b (R171 hF (rN_t N c1) (rC_t c1)) (fun r2 m2 q2 => ?_)
    obtain ⟨q2, q3⟩ := q2
    have c2 := rC_T c1 q2
    rw [show tsk b n (tS tbl b n p) = tS tbl b n p from tS_id p] at c2
    rw [twd_id] at q3
    have h32 := c2.2.2.1
    dsimp only
    refine xP_i (fun d => ?_) (fun d => ?_)
    · have d : (0 : Int) ≤ r2.toInt := zt d
      rcases q3 with ⟨u, q3, q4⟩ | ⟨-, q3⟩
      · have ub : u < 13 := tix_b _ _ _ q3
        rw [q3]
        refine xP_b (R173 (a := mx.1 70 8) c2 hk (by omega) (by omega)) (fun r3 m3 q5 => ?_)
        dsimp only
        rcases q5 with ⟨z, rfl, q5⟩ | ⟨z, rfl, q5⟩
        · refine xP_i (fun e => absurd e (by decide)) (fun _ => xP_r (Or.inl ⟨_, if_pos z, ?_, rfl, ?_⟩))
          · show 1 + 8 * ((tS tbl b n p : Nat) : Int) + 3 ≠ 0
            omega
          · rw [h3.1] at q5
            exact ⟨_, _, _, _, _, _, _, _, _, _, hT, q5⟩
        · refine xP_i (fun _ => ?_) (fun e => absurd e (by decide))
          refine xP_b (R168 hF (rN_t N q5) (rC_t q5)) (fun _ m4 q6 => ?_)
          have c4 := rC_T q5 q6
          have e16 : (1 + 16 * r2).toInt = 1 + 16 * (u : Int) := by
            have e1 : (16 * r2).toInt = 16 * r2.toInt := xm1 (by show _ ≤ (16 : Int) * _; omega) (by show (16 : Int) * _ ≤ _; omega)
            exact (xa1 (by show _ ≤ (1 : Int) + _; omega) (by show (1 : Int) + _ ≤ _; omega)).trans (by rw [e1, q4]; rfl)
          refine xP_b (R172 (s := 1) (v := r2) ht hT c4 l e16) (fun _ m5 q7 => xP_r (Or.inr ⟨_, _, _, if_neg z, rfl, ?_, q7.1⟩))
          show tenc (1 + 16 * (u : Int)) = 20 + (u : Int)
          unfold tenc
          rw [if_neg (by omega), if_pos (by omega)]
          omega
      · omega
    · have d : ¬ (0 : Int) ≤ r2.toInt := zf d
      rcases q3 with ⟨u, q3, q4⟩ | ⟨q3, -⟩
      · omega
      · rw [q3]
        refine xP_b (R163c c2 (by omega) (by omega) (by decide) (by decide)) (fun r3 m3 q5 => ?_)
        obtain ⟨rfl, q5⟩ := q5
        refine xP_g (show xbo (0 : Int32) = true by decide) (xP_r (Or.inl ⟨_, rfl, ?_, rfl, ?_⟩))
        · show 1 + 8 * ((tS tbl b n p : Nat) : Int) ≠ 0
          omega
        · rw [h3.1, show (1 + 8 * ((tS tbl b n p : Nat) : Int) + (0 : Int32).toInt) = 1 + 8 * ((tS tbl b n p : Nat) : Int) from Int.add_zero _] at q5
          exact ⟨_, _, _, _, _, _, _, _, _, _, hT, q5⟩
  · have nd : tS tbl b n p < n ∧ tdg (b (tS tbl b n p)) = true := by
      rcases q1 with ⟨-, q1⟩ | ⟨q1, -⟩
      · exact q1
      · rw [q1] at c
        cases c
    have dg : tdg (tsg b n (tsk b n p)) = true := by
      unfold tsg tsk
      rw [if_pos nd.1]
      exact nd.2
    have tv0 : tval b n p kk = (if 5 < tde b n p - tsk b n p then .inl (1 + 8 * (tsk b n p : Int) + 1) else if 60 ≤ kk then .inl (1 + 8 * (tsk b n p : Int) + 3) else .inr (tde b n p, 40 + tv b (tsk b n p) (tde b n p - tsk b n p))) := by
      unfold tval
      rw [if_pos dg]
    rw [tv0]
    have tb := tv_b (b := b) (p := tS tbl b n p) (n := tS tdg b n (tS tbl b n p) - tS tbl b n p) (fun j j1 j2 j3 => by
      have := (tS_in (P := tdg) (b := b) (n := n) (tS tbl b n p) j j1 (by omega)).2
      unfold tdg at this
      simp only [Bool.and_eq_true, decide_eq_true_eq] at this
      exact this) (min (tS tdg b n (tS tbl b n p) - tS tbl b n p) 5) (Nat.min_le_right _ _) (Nat.min_le_left _ _)
    have tb2 : tv b (tS tbl b n p) (min (tS tdg b n (tS tbl b n p) - tS tbl b n p) 5) < 100000 := by
      refine Int.lt_of_lt_of_le tb.2 ?_
      have : min (tS tdg b n (tS tbl b n p) - tS tbl b n p) 5 = 0 ∨ min (tS tdg b n (tS tbl b n p) - tS tbl b n p) 5 = 1 ∨ min (tS tdg b n (tS tbl b n p) - tS tbl b n p) 5 = 2 ∨ min (tS tdg b n (tS tbl b n p) - tS tbl b n p) 5 = 3 ∨ min (tS tdg b n (tS tbl b n p) - tS tbl b n p) 5 = 4 ∨ min (tS tdg b n (tS tbl b n p) - tS tbl b n p) 5 = 5 := by omega
      rcases this with z | z | z | z | z | z <;> (rw [z]; decide)
    refine xP_b (R170 (lo := 0) (hi := 99999) hF (rN_t N c1) (rC_t c1)) (fun r2 m2 q2 => ?_)
    simp only [tsk, tde, tS_id] at q2
    rw [show (0 : Int32).toInt = 0 from rfl, show (99999 : Int32).toInt = 99999 from rfl] at q2
    dsimp only
    rcases q2 with ⟨z, -⟩ | ⟨-, ⟨z, rfl, q2⟩ | ⟨z, rfl, q2⟩⟩
    · exact absurd nd z
    · have z5 : 5 < tS tdg b n (tS tbl b n p) - tS tbl b n p := by
        rcases z with z | z | z
        · exact z
        · omega
        · omega
      have c2 := rC_T c1 q2
      rw [show trf 0 (1 + 8 * ((tS tbl b n p : Nat) : Int) + 1) = 1 + 8 * ((tS tbl b n p : Nat) : Int) + 1 from if_pos rfl] at c2
      refine xP_i (fun _ => xP_r (Or.inl ⟨_, if_pos z5, ?_, rfl, ?_⟩)) (fun e => absurd e (by decide))
      · show 1 + 8 * ((tS tbl b n p : Nat) : Int) + 1 ≠ 0
        omega
      · exact ⟨_, _, _, _, _, _, _, _, _, _, hT, c2⟩
    · have z5 : ¬ 5 < tS tdg b n (tS tbl b n p) - tS tbl b n p := fun y => z (Or.inl y)
      have c2 := rC_T c1 q2
      rw [show min (tS tdg b n (tS tbl b n p) - tS tbl b n p) 5 = tS tdg b n (tS tbl b n p) - tS tbl b n p by omega] at c2 tb tb2
      refine xP_i (fun e => absurd e (by decide)) (fun _ => ?_)
      refine xP_b (R173 (a := mx.1 70 8) c2 hk (by omega) (by omega)) (fun r3 m3 q5 => ?_)
      dsimp only
      rcases q5 with ⟨z6, rfl, q5⟩ | ⟨z6, rfl, q5⟩
      · refine xP_i (fun e => absurd e (by decide)) (fun _ => xP_r (Or.inl ⟨_, (if_neg z5).trans (if_pos z6), ?_, rfl, ?_⟩))
        · show 1 + 8 * ((tS tbl b n p : Nat) : Int) + 3 ≠ 0
          omega
        · rw [h3.1] at q5
          exact ⟨_, _, _, _, _, _, _, _, _, _, hT, q5⟩
      · refine xP_i (fun _ => ?_) (fun e => absurd e (by decide))
        have h5 := q5.2.2.2.2.1
        have e16 : (0 + 16 * (m3.1 70 10)).toInt = 16 * tv b (tS tbl b n p) (tS tdg b n (tS tbl b n p) - tS tbl b n p) := by
          have e1 : (16 * (m3.1 70 10)).toInt = 16 * (m3.1 70 10).toInt := xm1 (by show _ ≤ (16 : Int) * _; omega) (by show (16 : Int) * _ ≤ _; omega)
          exact (xa1 (by show _ ≤ (0 : Int) + _; omega) (by show (0 : Int) + _ ≤ _; omega)).trans (by rw [e1, h5]; exact Int.zero_add _)
        refine xP_b (R172 (s := 0) (v := m3.1 70 10) ht hT q5 l e16) (fun _ m5 q7 => xP_r (Or.inr ⟨_, _, _, (if_neg z5).trans (if_neg z6), rfl, ?_, q7.1⟩))
        show tenc (16 * tv b (tS tbl b n p) (tS tdg b n (tS tbl b n p) - tS tbl b n p)) = 40 + tv b (tS tbl b n p) (tS tdg b n (tS tbl b n p) - tS tbl b n p)
        unfold tenc
        rw [if_pos (by omega)]
        omega
end RV
