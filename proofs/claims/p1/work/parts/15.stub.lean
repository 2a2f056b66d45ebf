def anFind (k s t : Int32) : Int32 := 0
theorem ct_X4_find (E : En) (ad : Nat → Nat) (tl : va_W) (k s t : Int32) : Ct E mX4_find 5 1 8000 [.ref (ad 19), .int k, .int s, .int t] (cw E ad 16 gF aF vF tl) (fun o w => o = some (.int (anFind k s t)) ∧ ∃ L : va_W, w = L ++ tl) := sorry
theorem ct_X5_find (E : En) (ad : Nat → Nat) (tl : va_W) (k s t : Int32) : Ct E mX5_find 3 0 0 [.ref (ad 17), .int k, .int s, .int t] (mw E ad gF aF vF tl) (fun o w => o = some (.int (anFind k s t)) ∧ True) := sorry
