/-! what both sides answer: stubs -/
theorem jo_isTrue {N sn : Nat} {G SG : Nat → Nat → Bool} (hG : GOK N G) (hS : GOK sn SG) : jN (fun v : Bool => Value.int (bI v)) 197 206 [] N G sn SG := sorry
