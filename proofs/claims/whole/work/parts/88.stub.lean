/-! what both sides answer: stubs -/
theorem jo_isTwo {N sn : Nat} {G SG : Nat → Nat → Bool} (hG : GOK N G) (hS : GOK sn SG) : jN (fun v : Bool => Value.int (bI v)) 122 124 [] N G sn SG := sorry
theorem jo_value {p0 : Int32} {N sn : Nat} {G SG : Nat → Nat → Bool} (hG : GOK N G) (hS : GOK sn SG) : jO (fun v : Int32 => Value.int v) (fun _ : Int32 => True) 147 156 [.int p0] [(4, 1)] N G sn SG := sorry
theorem jo_round {p0 : Int32} {N sn : Nat} {G SG : Nat → Nat → Bool} (hG : GOK N G) (hS : GOK sn SG) : jN (fun v : Int64 => Value.long v) 162 163 [.int p0] N G sn SG := sorry
theorem jo_bits {p0 : Int32} {N sn : Nat} {G SG : Nat → Nat → Bool} (hG : GOK N G) (hS : GOK sn SG) : jN (fun v : Int32 => Value.int v) 165 169 [.int p0] N G sn SG := sorry
theorem jo_sign {p0 : Int32} {N sn : Nat} {G SG : Nat → Nat → Bool} (hG : GOK N G) (hS : GOK sn SG) : jN (fun v : Int32 => Value.int v) 170 172 [.int p0] N G sn SG := sorry
theorem jo_digit {p0 p1 : Int32} {N sn : Nat} {G SG : Nat → Nat → Bool} (hG : GOK N G) (hS : GOK sn SG) : jO (fun v : Int32 => Value.int v) (fun _ : Int32 => True) 174 176 [.int p0, .int p1] [(2, 1)] N G sn SG := sorry
theorem jo_rest {p0 p1 : Int32} {N sn : Nat} {G SG : Nat → Nat → Bool} (hG : GOK N G) (hS : GOK sn SG) : jO (fun v : Int32 => Value.int v) (fun _ : Int32 => True) 178 181 [.int p0, .int p1] [(4, 1)] N G sn SG := sorry
theorem jo_compare {p0 p1 : Int32} {N sn : Nat} {G SG : Nat → Nat → Bool} (hG : GOK N G) (hS : GOK sn SG) : jN (fun v : Int32 => Value.int v) 182 184 [.int p0, .int p1] N G sn SG := sorry
theorem jo_tried {N sn : Nat} {G SG : Nat → Nat → Bool} (hG : GOK N G) (hS : GOK sn SG) : jO (fun v : Int32 => Value.int v) (fun _ : Int32 => True) 189 194 [] [(5, 1)] N G sn SG := sorry
theorem jo_isTrue {N sn : Nat} {G SG : Nat → Nat → Bool} (hG : GOK N G) (hS : GOK sn SG) : jN (fun v : Bool => Value.int (bI v)) 197 206 [] N G sn SG := sorry
