theorem zs_start {p : Program} {e : Env} {s : State} {m : MethodId} {below : List Frame} {meth : Method} {c : Code} (l : Launch) {b L : Nat} {xs : Nat → Int32} (C0 : lw_At p s m meth c b L xs) {f1 f : Nat} {hpF : zHp} (hrun : zlaw f1 f L xs = some (some (.int 1), hpF)) (hF : hpF.1 ≤ 2000) : W p l e room_1 s m #[Value.ref b] below meth c s.heap [] 0 0 (lw_Z below #[Value.ref b] s) (entryFrame m ([Value.ref b] : List Value).toArray 4) := by
  obtain ⟨hx, hb, hr, hml, hown, hts, hX, hbl, hlocks, hgv⟩ := C0
  have hs : ∀ q, zfm q = true → q.before #[Value.ref b] s = true := fun q h => flat_of_before _ hgv q (of_decide_eq_true h)
  have hw : ∀ q, zlm_w q = true → q.before #[Value.ref b] s = true := fun q h => hts q (of_decide_eq_true h)
  have ht2 : ∀ q ∈ zTw, q.before #[Value.ref b] s = true := fun q h => hts q (List.mem_filter.mp h).1
  have hA : ∀ a : Nat, a < s.heap.size → ¬ (fun q : Nat => s.heap.size ≤ q) a := fun a h h2 => absurd h (Nat.not_lt.mpr h2)
  obtain ⟨adK, adV, hSt, hEv⟩ := vk_Sof (args := #[Value.ref b]) (s := s) (N := 6) (tm := ztm) (len := zsl) (byt := zsb) (A := fun q : Nat => s.heap.size ≤ q) zst_ln (fun i hi => hs _ (zra zst_ex hi)) (fun i hi => hs _ (zra zst_co hi)) (fun i hi => hs _ (zra zst_ar hi)) (fun i hi => hs _ (zra zst_le hi)) (fun i hi j hj => hs _ (zra (zra zst_el hi) hj)) (fun i j hi hj hij => by
    have h := zra (zra zst_ne hi) hj
    simp only [Bool.or_eq_true, decide_eq_true_eq] at h
    rcases h with h | h | h
    · exact absurd h hij
    · exact Or.inl (hs _ h)
    · exact Or.inr (hs _ h)) hA
  have hTo : ∀ i : Nat, ∃ t : Nat, i < 3 → (zrt i).eval #[Value.ref b] s none [] s = some (.ref t) ∧ va_T .int t (zrw.getD i []).length (fun j => .int ((zrw.getD i []).getD j 0)) (fun q : Nat => s.heap.size ≤ q) s s.heap := by
    intro i
    by_cases hi : i < 3
    · obtain ⟨t, h1, h2⟩ := va_Tof (args := #[Value.ref b]) (s := s) (tm := zrt i) (ty := .int) (N := (zrw.getD i []).length) (f := fun j => .int ((zrw.getD i []).getD j 0)) (A := fun q : Nat => s.heap.size ≤ q) (by rcases (show i = 0 ∨ i = 1 ∨ i = 2 by omega) with rfl | rfl | rfl <;> decide) (hs _ (zra zrw_ar hi)) (va_eqt (hs _ (zra zrw_le hi))) (fun j hj => va_eqt (hs _ (zra (zra zrw_el hi) hj))) hA
      exact ⟨t, fun _ => ⟨h1, h2⟩⟩
    · exact ⟨0, fun h => absurd h hi⟩
  obtain ⟨adR, hRo⟩ := Classical.axiomOfChoice hTo
  obtain ⟨fmt, hfmt⟩ : ∃ r : Option Nat, va_Z "jdk/internal/util/Preconditions" "SIOOBE_FORMATTER" "Ljava/util/function/BiFunction;" (va_rf r) (fun q : Nat => s.heap.size ≤ q) s s.heap := by
    rcases va_Zqof (hw _ zfo_1) (hw _ zfo_2) (hs _ zfo_3) hA with h | ⟨t, h⟩
    · exact ⟨none, h⟩
    · exact ⟨some t, h⟩
  have hCl : ∀ k : Nat, ∃ z : ClassId × (Nat → Nat), ∀ q : vw_C, zcls[k]? = some q → u_Kn s q.1 q.2.1 q.2.2 z.1 z.2 := by
    intro k
    cases hq : zcls[k]? with
    | none => exact ⟨(0, fun _ => 0), fun q h => by cases h⟩
    | some q =>
      obtain ⟨cC, iS, h⟩ := u_known (n := q.2.2) ht2 (zk_all hq).1 (ht2 _ (zin_mem (List.all_eq_true.mp zins_1 q (List.mem_of_getElem? hq))))
      exact ⟨(cC, iS), fun q2 h2 => by cases h2; exact h⟩
  obtain ⟨dd, hdd⟩ := Classical.axiomOfChoice hCl
  obtain ⟨c0, k0, m0, a01, a02, a03⟩ := Cond.arrayClass_spec (ht2 _ (zin_mem zar_i))
  obtain ⟨c1, k1, m1, a11, a12, a13⟩ := Cond.arrayClass_spec (ht2 _ (zin_mem zar_b))
  obtain ⟨c2, k2, m2, a21, a22, a23⟩ := Cond.arrayClass_spec (ht2 _ (zin_mem zar_z))
  obtain ⟨c3, k3, m3, a31, a32, a33⟩ := Cond.arrayClass_spec (ht2 _ (zin_mem zar_l))
  obtain ⟨m4, c4, k4, a41, a42, a43, a44, a45⟩ := Cond.arrayOver_spec (hw _ zao_1)
  obtain ⟨m5, c5, k5, a51, a52, a53, a54, a55⟩ := _root_.Jvm.Stand.arrayOver_specB (hw _ zao_2)
  have harr : ∀ {cA : ClassId} {kA : Class} {cm : ClassId} {ty : FieldType}, s.vm.classes[cA]? = some kA → kA.kind = .array cm ty → ArrOfT s cA ty := fun h1 h2 n z => ⟨(fun k h => by cases h), _, h1, _, h2⟩
  obtain ⟨w, ew⟩ : ∃ w : zWd, w = (s.heap.size, (fun j => if j = 0 then b else if j < 7 then adK (j - 1) else if j < 26 then adV (j - 20) else adR (j - 30)), (fun t => match t with | 0 => c0 | 1 => c1 | 2 => c2 | 3 => c3 | 4 => c4 | _ => c5), ((fun k => (dd k).1), (fun k => (dd k).2)), fmt) := ⟨_, rfl⟩
  have w1 : w.1 = s.heap.size := by rw [ew]
  have wA : zA w = fun q : Nat => s.heap.size ≤ q := by unfold zA; rw [w1]
  have we0 : w.2.1 0 = b := by rw [ew]; rfl
  have weK : ∀ j, j < 6 → w.2.1 (1 + j) = adK j := fun j hj => by
    rw [ew]
    show (if 1 + j = 0 then b else if 1 + j < 7 then adK (1 + j - 1) else if 1 + j < 26 then adV (1 + j - 20) else adR (1 + j - 30)) = adK j
    rw [if_neg (by omega), if_pos (by omega), Nat.add_sub_cancel_left]
  have weV : ∀ j, j < 6 → w.2.1 (20 + j) = adV j := fun j hj => by
    rw [ew]
    show (if 20 + j = 0 then b else if 20 + j < 7 then adK (20 + j - 1) else if 20 + j < 26 then adV (20 + j - 20) else adR (20 + j - 30)) = adV j
    rw [if_neg (by omega), if_neg (by omega), if_pos (by omega), Nat.add_sub_cancel_left]
  have weR : ∀ j, j < 3 → w.2.1 (30 + j) = adR j := fun j hj => by
    rw [ew]
    show (if 30 + j = 0 then b else if 30 + j < 7 then adK (30 + j - 1) else if 30 + j < 26 then adV (30 + j - 20) else adR (30 + j - 30)) = adR j
    rw [if_neg (by omega), if_neg (by omega), if_neg (by omega), Nat.add_sub_cancel_left]
  have hK : va_K w.2.2.2.1 zcls (ztys w) s := by
    refine ⟨fun k q hq => ?_, fun k q hq => ?_⟩
    · rw [ew]
      exact hdd k q hq
    · have hk : k < 6 := (List.getElem?_eq_some_iff.mp hq).1
      rw [ew] at hq
      rcases (show k = 0 ∨ k = 1 ∨ k = 2 ∨ k = 3 ∨ k = 4 ∨ k = 5 by omega) with rfl | rfl | rfl | rfl | rfl | rfl <;> cases hq
      · exact ⟨harr a02 a03, a01⟩
      · exact ⟨harr a12 a13, a11⟩
      · exact ⟨harr a22 a23, a21⟩
      · exact ⟨harr a32 a33, a31⟩
      · exact ⟨harr a43 a44, k4, m4, a43, a44, a41, a45⟩
      · exact ⟨harr a53 a54, a55⟩
  have hZr : ∀ j, j < 3 → va_Z "LentTools$VillageReader" (zrn j) "[I" (.ref (w.2.1 (30 + j))) (fun q : Nat => s.heap.size ≤ q) s s.heap := fun j hj => by
    rw [weR j hj]
    exact va_Zref (hw _ (zra zrw_ls hj)) (hw _ zrw_in) (hRo j hj).1 hA
  have hSp : zSp w (some (L, xs)) s s.heap := by
    refine ⟨hK, ?_, ?_, ?_, ?_, ?_, va_AO.of (hw _ zao_1), hw _ zao_2, va_Nw.of rfl (hw _ zcl_9)⟩
    · intro j t n g hj
      rw [wA]
      unfold ztb at hj
      by_cases j0 : j = 0
      · rw [if_pos j0] at hj
        cases hj
        subst j0
        rw [we0]
        obtain ⟨scr, q1, q2, q3, q4, q5⟩ := hX
        exact ⟨scr, q1, q2, q3, Nat.le_of_eq q4.symm, (by rw [q4]; first | done | rfl), q5, hA b hbl⟩
      · rw [if_neg j0] at hj
        by_cases j1 : 20 ≤ j ∧ j < 26
        · rw [if_pos j1] at hj
          cases hj
          obtain ⟨i, rfl⟩ : ∃ i, j = 20 + i := ⟨j - 20, by omega⟩
          rw [weV i (by omega), Nat.add_sub_cancel_left]
          exact (hSt.1 i (by omega)).2.2.2
        · rw [if_neg j1] at hj
          by_cases j2 : 30 ≤ j ∧ j < 33
          · rw [if_pos j2] at hj
            cases hj
            obtain ⟨i, rfl⟩ : ∃ i, j = 30 + i := ⟨j - 30, by omega⟩
            rw [weR i (by omega), Nat.add_sub_cancel_left]
            exact (hRo i (by omega)).2
          · rw [if_neg j2] at hj
            cases hj
    · intro j hj
      rw [wA, weK j hj, weV j hj]
      obtain ⟨q1, q2, q3, -⟩ := hSt.1 j hj
      exact ⟨q1, q2, q3⟩
    · intro q hq
      obtain ⟨h6, hq2⟩ := zstr_i q hq
      rw [weK _ h6]
      have h1 := hw _ (zra zsr_1 h6)
      have h2 := hEv _ h6
      unfold ztm at h2
      rw [← hq2] at h1 h2
      exact vk_R.of h1 h2
    · intro q hq
      exact va_Nw.of rfl (hw _ (List.all_eq_true.mp zne_1 q hq))
    · intro a ha
      rw [wA]
      have eR : ∀ j, j < 3 → ztv w (.ref (1030 + j)) = .ref (w.2.1 (30 + j)) := fun j hj => by
        show Value.ref (zta w (1030 + j)) = _
        rw [zta_hi w (show ¬ (1030 + j : Nat) < 1000 by omega), show (1030 + j : Nat) - zSC = 30 + j by show (1030 + j : Nat) - 1000 = 30 + j; omega]
      rcases (show a = 0 ∨ a = 1 ∨ a = 2 ∨ a = 3 ∨ a = 4 by omega) with rfl | rfl | rfl | rfl | rfl
      · exact va_Zof (hw _ zcs_1) (hw _ zcs_2) (va_eqt (hs _ zcs_3)) hA
      · have h9 := hZr 0 (by decide)
        rw [← eR 0 (by decide)] at h9
        exact h9
      · have h9 := hZr 1 (by decide)
        rw [← eR 1 (by decide)] at h9
        exact h9
      · have h9 := hZr 2 (by decide)
        rw [← eR 2 (by decide)] at h9
        exact h9
      · have e9 : ztv w (.retAddr 0) = va_rf fmt := by rw [ew]; rfl
        show va_Z _ _ _ (ztv w (.retAddr 0)) _ _ _
        rw [e9]
        exact hfmt
  have C : zCx w (some (L, xs)) 20 zyL code 4 ret 0 hpF.1 p room_1 s m #[Value.ref b] meth c :=
    ⟨hx, hb, hml, hr, hown, ht2, hlocks, fun h => absurd h (by decide), by rw [w1]; exact Nat.le_refl _, hSp, by decide, by decide, by show hpF.1 - 0 ≤ 600000; omega, by show 3000 * (hpF.1 - 0) ≤ 7302250; omega⟩
  have run := zs_run (l := l) (e := e) (below := below) (Q := lw_Z below #[Value.ref b] s) C (zs_zcall w f1 20) zokL (r := some (.int 1)) (hpF := hpF) (Nat.le_refl _) (fun pc H locs ls hH hS hdec hrok => ?_) f (0, [(0, .ref zSC)], []) zh0 (Nat.le_refl _) hrun
  · have hl := lv_entry ([.ref b]) (n := 4) (Nat.le_of_ble_eq_true rfl)
    rw [lg_entry_eq]
    generalize (lg_sl ([.ref b]) ++ List.replicate (4 - (lg_sl ([.ref b])).length) Slot.unset).toArray = ls at hl ⊢
    have k := run.2 s.heap [] ls ⟨by rw [w1]; rfl, fun k q h => by cases h⟩ va_S.rf (by
      show lv_has ls 4 [(0, .ref (zta w zSC))]
      have e9 : zta w zSC = b := by
        rw [zta_hi w (Nat.lt_irrefl _), Nat.sub_self]
        exact we0
      rw [e9]
      exact hl)
    exact k
  · refine va_forget (fun q hq => by have h9 := hS.2.2 q hq; rw [wA] at h9; exact h9) ?_
    refine W.widen (k := 600000) (n := 7302250) (by omega) (by show 3000 * (hpF.1 - 0) ≤ 7302250; omega) ?_
    exact lw_ret hx hb hr hlocks hdec
