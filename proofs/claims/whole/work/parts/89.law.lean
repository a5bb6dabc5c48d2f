/-! the law, abstractly -/
def hscr (b L : Nat) (xs : Nat → Int32) : AH := fun q => if q = b then some (ra 5 L fun j => .int (xs j)) else none
def lawP : AP := fun o _ _ => o = .inl (some (.int 1))
theorem law_abs {b L z : Nat} {xs : Nat → Int32} (hL : L ≤ 1536) (hb : b < z) : aW (Sp 60) 216 603072 7207018 lawP 0 (aEntry 216 [.ref b]) [] (hscr b L xs) z 0 0 := sorry
