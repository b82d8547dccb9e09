def zh0 : zHp := (0, fun _ => .inr (0, []))
def zqv (x : Option zRe) : Option (Option Value) := x.map (fun r => r.1)
def zlaw (L : Nat) (xs : Nat → Int32) : Option zRe := zrun zts (some (L, xs)) (zcall zts zms 100000 20) 4 (some .boolean) zcL 100000 (0, [(0, .ref zSC)], []) zh0
theorem zq_0 : zqv (zlaw 3 (fun _ => 0)) = some (some (.int 1)) := by decide +kernel
theorem zq_2 : zqv (zlaw 6 (fun i => if i = 0 then 2 else 0)) = some (some (.int 1)) := by decide +kernel
theorem zq_3 : zqv (zlaw 6 (fun i => if i = 0 then 3 else 0)) = some (some (.int 1)) := by decide +kernel
