/-! The checks of the code lists by places in the tables: quick for the kernel. -/
def zge {α : Type} : List α → Nat → Option α
  | [], _ => none
  | a :: _, 0 => some a
  | _ :: l, n + 1 => zge l n
theorem zge_mem {α : Type} : ∀ {l : List α} {i : Nat} {x : α}, zge l i = some x → x ∈ l
  | [], _, _, h => by cases h
  | a :: l, 0, x, h => by cases h; exact List.mem_cons_self
  | a :: l, n + 1, x, h => List.mem_cons_of_mem _ (zge_mem (l := l) h)
/-- the words that an entry needs, if all else of it is right -/
def zneed (y : MethodName) (pc : Nat) (q : zEn) : Option (List Cond) := match q.1 with
  | .getfield i => if q.2.2.1 = 100 then (if q.2.2.2.1 = 0 then some [.fieldLink y.cls i "java/lang/String" "value" "[B"] else some [.fieldLink y.cls i "java/lang/String" "coder" "B"]) else
      match zcls[q.2.2.1]? with
      | some c => if q.2.2.2.1 < c.2.2 then some [.fieldLink y.cls i (c.2.1 q.2.2.2.1).1 (c.2.1 q.2.2.2.1).2.1 (c.2.1 q.2.2.2.1).2.2.1] else none
      | none => none
  | .putfield i => match zcls[q.2.2.1]? with
      | some c => if q.2.2.2.1 < c.2.2 ∧ zok_p y q.2.2.1 q.2.2.2.1 = true then some [.fieldLink y.cls i (c.2.1 q.2.2.2.1).1 (c.2.1 q.2.2.2.1).2.1 (c.2.1 q.2.2.2.1).2.2.1] else none
      | none => none
  | .new i => match zcls[q.2.2.1]? with
      | some c => some [.classLink y.cls i c.1, .instantiable c.1 c.2.2, .initialized c.1]
      | none => none
  | .anewarray i => some [.classLink y.cls i "LentTools$Rule"]
  | .multianewarray i n => if n = 2 then some [.classLink y.cls i "[[I"] else none
  | .invokevirtual i => if q.2.2.2.1 = 9 then none else match zg zml q.2.2.1 with
      | some mi => if mi.2.2.2.2.2 < 200 ∧ ¬ mi.1.name = "<init>" then some [.methodLink y.cls i mi.1] else none
      | none => none
  | .invokespecial i => if q.2.2.2.1 = 0 then some [.methodLink y.cls i objectInit] else
      match zg zml q.2.2.1 with
      | some mi => if mi.2.2.2.2.2 < 200 ∧ mi.1.name = "<init>" then (if q.2.2.2.1 = 1 then some [.methodLink y.cls i mi.1] else if (y.cls, i, mi.1) ∈ znests then some [] else none) else none
      | none => none
  | .invokestatic i => if q.2.2.2.1 = 0 then some [.methodLink y.cls i arraycopyName] else if q.2.2.2.1 = 2 then some [.methodLink y.cls i Lib.Math.max.name] else if q.2.2.2.1 = 3 then some [.methodLink y.cls i Lib.Math.min.name] else
      match zg zml q.2.2.1 with
      | some mi => if mi.2.2.2.2.2 = 200 then some [.methodLink y.cls i mi.1] else none
      | none => none
  | .ldc i => match q.2.2.2.2 with
      | .int x => some [.constant y.cls i x]
      | v => if zok_c y i v = true then some [] else none
  | .ldc_w i => match q.2.2.2.2 with
      | .int x => some [.constant y.cls i x]
      | _ => none
  | .ldc2_w i => match q.2.2.2.2 with
      | .long x => some [.constantLong y.cls i x]
      | _ => none
  | .getstatic i => if q.2.2.2.2 = (zsta q.2.2.1).2.2.2 then some [.fieldLink y.cls i (zsta q.2.2.1).1 (zsta q.2.2.1).2.1 (zsta q.2.2.1).2.2.1] else none
  | _ => if zokI y pc q = true then some [] else none
theorem zneed_ok {y : MethodName} {pc : Nat} {q : zEn} {ws : List Cond} (h : zneed y pc q = some ws) (hw : ∀ x ∈ ws, zin x = true) : zokI y pc q = true := by
  obtain ⟨ins, len, a, b, v⟩ := q
  have one : ∀ {x : Cond}, ws = [x] → zin x = true := fun e => hw _ (by rw [e]; exact List.mem_cons_self)
  cases ins with
  | getfield i =>
    simp only [zneed] at h
    show (if a = 100 then (if b = 0 then zin (.fieldLink y.cls i "java/lang/String" "value" "[B") else zin (.fieldLink y.cls i "java/lang/String" "coder" "B")) else zok_f y i a b) = true
    by_cases ha : a = 100
    · rw [if_pos ha] at h ⊢
      by_cases hb : b = 0
      · rw [if_pos hb] at h ⊢
        exact one (Option.some.inj h).symm
      · rw [if_neg hb] at h ⊢
        exact one (Option.some.inj h).symm
    · rw [if_neg ha] at h ⊢
      unfold zok_f
      split at h
      · next c hc =>
        split at h
        · next hb =>
          rw [hc]
          dsimp only
          rw [one (Option.some.inj h).symm, decide_eq_true hb]
          rfl
        · cases h
      · cases h
  | putfield i =>
    simp only [zneed] at h
    show (zok_f y i a b && zok_p y a b) = true
    split at h
    · next c hc =>
      split at h
      · next hb =>
        unfold zok_f
        rw [hc]
        dsimp only
        rw [one (Option.some.inj h).symm, decide_eq_true hb.1, hb.2]
        rfl
      · cases h
    · cases h
  | new i =>
    simp only [zneed] at h
    show zok_n y i a = true
    unfold zok_n
    split at h
    · next c hc =>
      have e := (Option.some.inj h).symm
      rw [hc]
      dsimp only
      rw [hw (.classLink y.cls i c.1) (by rw [e]; simp), hw (.instantiable c.1 c.2.2) (by rw [e]; simp), hw (.initialized c.1) (by rw [e]; simp)]
      rfl
    · cases h
  | anewarray i =>
    simp only [zneed] at h
    exact one (Option.some.inj h).symm
  | multianewarray i n =>
    simp only [zneed] at h
    split at h
    · next hn =>
      show (zin _ && decide (n = 2)) = true
      rw [one (Option.some.inj h).symm, decide_eq_true hn]
      rfl
    · cases h
  | invokevirtual i =>
    simp only [zneed] at h
    show (if b = 9 then zin (.methodLink y.cls i ⟨"[I", "clone", "()Ljava/lang/Object;"⟩) else zok_v y i a) = true
    by_cases h9 : b = 9
    · rw [if_pos h9] at h
      cases h
    · rw [if_neg h9] at h ⊢
      unfold zok_v
      split at h
      · next mi hm =>
        split at h
        · next hb =>
          rw [hm]
          dsimp only
          rw [one (Option.some.inj h).symm, decide_eq_true hb.1, decide_eq_false hb.2]
          rfl
        · cases h
      · cases h
  | invokespecial i =>
    simp only [zneed] at h
    show (if b = 0 then zin (.methodLink y.cls i objectInit) else zok_i y i a b) = true
    by_cases hb0 : b = 0
    · rw [if_pos hb0] at h ⊢
      exact one (Option.some.inj h).symm
    · rw [if_neg hb0] at h ⊢
      unfold zok_i
      split at h
      · next mi hm =>
        split at h
        · next hb =>
          rw [hm]
          dsimp only
          rw [decide_eq_true hb.1, decide_eq_true hb.2]
          by_cases hb1 : b = 1
          · rw [if_pos hb1] at h ⊢
            rw [one (Option.some.inj h).symm]
            rfl
          · rw [if_neg hb1] at h ⊢
            split at h
            · next hz => rw [decide_eq_true hz]; rfl
            · cases h
        · cases h
      · cases h
  | invokestatic i =>
    simp only [zneed] at h
    show (if b = 0 then zin (.methodLink y.cls i arraycopyName) else if b = 2 then zin (.methodLink y.cls i Lib.Math.max.name) else if b = 3 then zin (.methodLink y.cls i Lib.Math.min.name) else zok_s y i a) = true
    by_cases hb0 : b = 0
    · rw [if_pos hb0] at h ⊢
      exact one (Option.some.inj h).symm
    · rw [if_neg hb0] at h ⊢
      by_cases hb2 : b = 2
      · rw [if_pos hb2] at h ⊢
        exact one (Option.some.inj h).symm
      · rw [if_neg hb2] at h ⊢
        by_cases hb3 : b = 3
        · rw [if_pos hb3] at h ⊢
          exact one (Option.some.inj h).symm
        · rw [if_neg hb3] at h ⊢
          unfold zok_s
          split at h
          · next mi hm =>
            split at h
            · next hb =>
              rw [hm]
              dsimp only
              rw [one (Option.some.inj h).symm, decide_eq_true hb]
              rfl
            · cases h
          · cases h
  | ldc i =>
    simp only [zneed] at h
    show zok_c y i v = true
    split at h
    · exact one (Option.some.inj h).symm
    · split at h
      · assumption
      · cases h
  | ldc_w i =>
    simp only [zneed] at h
    show zok_k y i v = true
    split at h
    · exact one (Option.some.inj h).symm
    · cases h
  | ldc2_w i =>
    simp only [zneed] at h
    show zok_l y i v = true
    split at h
    · exact one (Option.some.inj h).symm
    · cases h
  | getstatic i =>
    simp only [zneed] at h
    show zok_t y i a v = true
    unfold zok_t
    split at h
    · next hv =>
      rw [one (Option.some.inj h).symm, decide_eq_true hv]
      rfl
    · cases h
  | _ =>
    simp only [zneed] at h
    split at h
    · assumption
    · cases h
/-- the tables' words in pieces -/
def zPl : List (List Cond) := [k2_sels lw_privs_1, k2_sels lw_privs_2, k2_sels lw_privs_3, k2_sels lw_privs_4, k2_sels lw_privs_5, k2_sels lw_privs_6, k2_sels lw_privs_7, k2_sels lw_privs_8, tables_1_1, tables_1_2, tables_1_3, tables_1_4, tables_1_5, tables_1_6, tables_1_7, tables_1_8]
theorem zPp {l : List (MethodName × Nat)} (hl : ∀ q ∈ l, q ∈ lw_privs) {x : Cond} (h : x ∈ k2_sels l) : x ∈ lw_tbl := by
  obtain ⟨q, hq, rfl⟩ := List.mem_map.mp h
  exact List.mem_append_left _ (List.mem_map.mpr ⟨q, hl q hq, rfl⟩)
theorem zPl_m : ∀ l ∈ zPl, ∀ x ∈ l, x ∈ lw_tbl := List.forall_mem_cons.mpr ⟨fun x h => zPp (fun q hq => List.mem_append_left _ hq) h, List.forall_mem_cons.mpr ⟨fun x h => zPp (fun q hq => List.mem_append_right _ (List.mem_append_left _ hq)) h, List.forall_mem_cons.mpr ⟨fun x h => zPp (fun q hq => List.mem_append_right _ (List.mem_append_right _ (List.mem_append_left _ hq))) h, List.forall_mem_cons.mpr ⟨fun x h => zPp (fun q hq => List.mem_append_right _ (List.mem_append_right _ (List.mem_append_right _ (List.mem_append_left _ hq)))) h, List.forall_mem_cons.mpr ⟨fun x h => zPp (fun q hq => List.mem_append_right _ (List.mem_append_right _ (List.mem_append_right _ (List.mem_append_right _ (List.mem_append_left _ hq))))) h, List.forall_mem_cons.mpr ⟨fun x h => zPp (fun q hq => List.mem_append_right _ (List.mem_append_right _ (List.mem_append_right _ (List.mem_append_right _ (List.mem_append_right _ (List.mem_append_left _ hq)))))) h, List.forall_mem_cons.mpr ⟨fun x h => zPp (fun q hq => List.mem_append_right _ (List.mem_append_right _ (List.mem_append_right _ (List.mem_append_right _ (List.mem_append_right _ (List.mem_append_right _ (List.mem_append_left _ hq))))))) h, List.forall_mem_cons.mpr ⟨fun x h => zPp (fun q hq => List.mem_append_right _ (List.mem_append_right _ (List.mem_append_right _ (List.mem_append_right _ (List.mem_append_right _ (List.mem_append_right _ (List.mem_append_right _ (hq)))))))) h, List.forall_mem_cons.mpr ⟨fun x h => List.mem_append_right _ (show x ∈ tables_1 from List.mem_append_left _ h), List.forall_mem_cons.mpr ⟨fun x h => List.mem_append_right _ (show x ∈ tables_1 from List.mem_append_right _ (List.mem_append_left _ h)), List.forall_mem_cons.mpr ⟨fun x h => List.mem_append_right _ (show x ∈ tables_1 from List.mem_append_right _ (List.mem_append_right _ (List.mem_append_left _ h))), List.forall_mem_cons.mpr ⟨fun x h => List.mem_append_right _ (show x ∈ tables_1 from List.mem_append_right _ (List.mem_append_right _ (List.mem_append_right _ (List.mem_append_left _ h)))), List.forall_mem_cons.mpr ⟨fun x h => List.mem_append_right _ (show x ∈ tables_1 from List.mem_append_right _ (List.mem_append_right _ (List.mem_append_right _ (List.mem_append_right _ (List.mem_append_left _ h))))), List.forall_mem_cons.mpr ⟨fun x h => List.mem_append_right _ (show x ∈ tables_1 from List.mem_append_right _ (List.mem_append_right _ (List.mem_append_right _ (List.mem_append_right _ (List.mem_append_right _ (List.mem_append_left _ h)))))), List.forall_mem_cons.mpr ⟨fun x h => List.mem_append_right _ (show x ∈ tables_1 from List.mem_append_right _ (List.mem_append_right _ (List.mem_append_right _ (List.mem_append_right _ (List.mem_append_right _ (List.mem_append_right _ (List.mem_append_left _ h))))))), List.forall_mem_cons.mpr ⟨fun x h => List.mem_append_right _ (show x ∈ tables_1 from List.mem_append_right _ (List.mem_append_right _ (List.mem_append_right _ (List.mem_append_right _ (List.mem_append_right _ (List.mem_append_right _ (List.mem_append_right _ (h)))))))), fun l h => absurd h List.not_mem_nil⟩⟩⟩⟩⟩⟩⟩⟩⟩⟩⟩⟩⟩⟩⟩⟩
def zgp (i : Nat) : Option Cond := match zge zPl (i / 1000) with
  | some l => zge l (i % 1000)
  | none => none
theorem zgp_m {i : Nat} {x : Cond} (h : zgp i = some x) : x ∈ lw_tbl := by
  unfold zgp at h
  split at h
  · next l hl => exact zPl_m l (zge_mem hl) x (zge_mem h)
  · cases h
theorem zpw {p i : Nat} {l : List Cond} {x : Cond} (hl : zge zPl p = some l) (h : zge l i = some x) (g : goodWord x = true) : x ∈ zTw := List.mem_filter.mpr ⟨zPl_m l (zge_mem hl) x (zge_mem h), g⟩
def zat (i : Nat) (x : Cond) : Bool := decide (zgp i = some x) && goodWord x
theorem zat_in {i : Nat} {x : Cond} (h : zat i x = true) : zin x = true := by
  unfold zat at h
  simp only [Bool.and_eq_true, decide_eq_true_eq] at h
  unfold zin
  rw [decide_eq_true (zgp_m h.1), h.2]
  rfl
/-- a search that looks at numbers before names -/
def zkey : Cond → Nat
  | .fieldLink _ i _ _ _ => i * 8 + 1
  | .methodLink _ i _ => i * 8 + 2
  | .classLink _ i _ => i * 8 + 3
  | .instantiable _ n => n * 8 + 4
  | .initialized _ => 5
  | .stringRef _ i _ => i * 8 + 6
  | _ => 0
def zlmq (w : Cond) : Bool := zPl.any (fun l => l.any (fun x => Nat.beq (zkey x) (zkey w) && decide (x = w)))
theorem zlmq_m {w : Cond} (h : zlmq w = true) : w ∈ lw_tbl := by
  unfold zlmq at h
  rw [List.any_eq_true] at h
  obtain ⟨l, hl, h⟩ := h
  rw [List.any_eq_true] at h
  obtain ⟨x, hx, h⟩ := h
  rw [Bool.and_eq_true, decide_eq_true_eq] at h
  rw [← h.2]
  exact zPl_m l hl x hx
def zinq (w : Cond) : Bool := zlmq w && goodWord w
theorem zinq_in {w : Cond} (h : zinq w = true) : zin w = true := by
  unfold zinq at h
  rw [Bool.and_eq_true] at h
  unfold zin
  rw [decide_eq_true (zlmq_m h.1), h.2]
  rfl
theorem all_q {α : Type} {l : List α} {f g : α → Bool} (h : ∀ a, f a = true → g a = true) (k : l.all f = true) : l.all g = true := by
  rw [List.all_eq_true] at k ⊢
  exact fun x hx => h x (k x hx)
/-- a method's own words, by their places -/
def zokYh (mi : zMi) (a b c : Nat) : Bool := zat a (.initialized mi.1.cls) && (decide (mi.1.cls ≠ "java/lang/invoke/MethodHandle") && decide (mi.1.cls ≠ "java/lang/invoke/VarHandle")) && decide ((parseMethodDescriptor mi.1.desc).map (fun d => d.parameters.length) = some mi.2.2.2.2.1) && plainName mi.1.cls && decide (mi.2.2.1 ≤ 41) &&
  (if mi.2.2.2.2.2 = 200 then zat b (.static mi.1) else zat b (.instanceMethod mi.1) && ((decide (mi.1.name = "<init>") && decide (mi.2.2.2.1 = none)) || (!decide (mi.1.name = "<init>") && zat c (.selects mi.1.cls mi.1 mi.1))) && (if mi.2.2.2.2.2 = 100 then decide (mi.1.cls = "java/lang/String") else decide ((zcls[mi.2.2.2.2.2]?).map (fun c => c.1) = some mi.1.cls)))
theorem zokYh_ok {mi : zMi} {a b c : Nat} (h : zokYh mi a b c = true) : zokY mi = true := by
  unfold zokYh at h
  unfold zokY
  rw [Bool.and_eq_true, Bool.and_eq_true, Bool.and_eq_true, Bool.and_eq_true, Bool.and_eq_true] at h ⊢
  obtain ⟨⟨⟨⟨⟨h1, h2⟩, h3⟩, h4⟩, h5⟩, h6⟩ := h
  refine ⟨⟨⟨⟨⟨zat_in h1, h2⟩, h3⟩, h4⟩, h5⟩, ?_⟩
  split at h6
  · next z => rw [if_pos z]; exact zat_in h6
  · next z =>
    rw [if_neg z]
    rw [Bool.and_eq_true, Bool.and_eq_true, Bool.or_eq_true, Bool.and_eq_true] at h6 ⊢
    refine ⟨⟨zat_in h6.1.1, h6.1.2.imp id (fun q => ?_)⟩, h6.2⟩
    rw [Bool.and_eq_true] at q ⊢
    exact ⟨q.1, zat_in q.2⟩
/-- words by their places: what is left of the places -/
def zpos : List Cond → List Nat → Option (List Nat)
  | [], hs => some hs
  | x :: ws, i :: hs => if zgp i = some x ∧ goodWord x = true then zpos ws hs else none
  | _ :: _, [] => none
theorem zpos_ok : ∀ {ws : List Cond} {hs r : List Nat}, zpos ws hs = some r → ∀ x ∈ ws, zin x = true
  | [], _, _, _, x, h => absurd h List.not_mem_nil
  | w :: ws, i :: hs, r, h, x, hx => by
    unfold zpos at h
    split at h
    · next hc =>
      rcases List.mem_cons.mp hx with rfl | hx
      · unfold zin
        rw [decide_eq_true (zgp_m hc.1), hc.2]
        rfl
      · exact zpos_ok h x hx
    · cases h
  | _ :: _, [], _, h, _, _ => by cases h
def zokH (y : MethodName) (bs : ByteArray) : Nat → List (Option zEn) → List Nat → Bool
  | _, [], _ => true
  | n, none :: l, hs => zokH y bs (n + 1) l hs
  | n, some q :: l, hs => decide (decode bs n = .ok (q.1, q.2.1)) && ((zlen q.1 == 0 || q.2.1 == zlen q.1) && (match zneed y n q with
    | some ws => (match zpos ws hs with
      | some hs2 => zokH y bs (n + 1) l hs2
      | none => false)
    | none => false))
theorem zokH_ok {y : MethodName} {bs : ByteArray} : ∀ {cd : List (Option zEn)} {n : Nat} {hs : List Nat}, zokH y bs n cd hs = true → zokC y bs n cd = true
  | [], _, _, _ => rfl
  | none :: l, n, hs, h => zokH_ok (cd := l) (n := n + 1) h
  | some q :: l, n, hs, h => by
    unfold zokH at h
    simp only [Bool.and_eq_true] at h
    obtain ⟨h1, h2, h3⟩ := h
    split at h3
    · next ws hn =>
      split at h3
      · next hs2 hp =>
        have h4 := zokH_ok (cd := l) h3
        show (zokE y bs n q && zokC y bs (n + 1) l) = true
        rw [h4]
        unfold zokE
        rw [h1, h2, zneed_ok hn (zpos_ok hp)]
        rfl
      · cases h3
    · cases h3
