/-! THE LAW'S LOOP: its head, and what is wanted of each call -/
def I0 : Nat → Int32 := upd (fun _ => 0) 31 (-1)
def A0 : Nat → Nat → Int32 := fun _ _ => 0
theorem init_x (sc : Nat × (Nat → Int32)) : run sc 400 (start [.inr (7, [.null, .null, .null, .null, .null, .null, .null, .null, .int 0, .int 0, .int 0])] 48 [.ref 0]) = some (none, (hp I0 A0 0).take 26) := rfl
