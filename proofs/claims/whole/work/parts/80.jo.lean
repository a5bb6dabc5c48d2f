/-! what both sides answer: stubs -/
theorem jo_begin {p0 : Int32} {N sn : Nat} {G SG : Nat → Nat → Bool} (hG : GOK N G) (hS : GOK sn SG) : jO (fun v : Int32 => Value.int v) (fun _ : Int32 => True) 8 13 [.int p0] [(0, 1)] N G sn SG := sorry
theorem jo_place {N sn : Nat} {G SG : Nat → Nat → Bool} (hG : GOK N G) (hS : GOK sn SG) : jO (fun v : Int32 => Value.int v) (fun _ : Int32 => True) 19 23 [] [(1, 1)] N G sn SG := sorry
theorem jo_star {N sn : Nat} {G SG : Nat → Nat → Bool} (hG : GOK N G) (hS : GOK sn SG) : jO (fun v : Int32 => Value.int v) (fun _ : Int32 => True) 25 28 [] [(1, 1)] N G sn SG := sorry
theorem jo_leave {p0 : Int32} {N sn : Nat} {G SG : Nat → Nat → Bool} (hG : GOK N G) (hS : GOK sn SG) : jO (fun v : Int32 => Value.int v) (fun _ : Int32 => True) 32 38 [.int p0] [(2, 1)] N G sn SG := sorry
theorem jo_way {p0 p1 : Int32} {N sn : Nat} {G SG : Nat → Nat → Bool} (hG : GOK N G) (hS : GOK sn SG) : jO (fun v : Bool => Value.int (bI v)) (fun _ : Bool => True) 43 47 [.int p0, .int p1] [(2, 1), (0, 2)] N G sn SG := sorry
theorem jo_tear {p0 p1 : Int32} {N sn : Nat} {G SG : Nat → Nat → Bool} (hG : GOK N G) (hS : GOK sn SG) : jO (fun v : Int32 => Value.int v) (fun _ : Int32 => True) 49 51 [.int p0, .int p1] [(2, 1), (3, 2)] N G sn SG := sorry
theorem jo_draw {p0 p1 : Int32} {N sn : Nat} {G SG : Nat → Nat → Bool} (hG : GOK N G) (hS : GOK sn SG) : jO (fun v : Int32 => Value.int v) (fun _ : Int32 => True) 53 55 [.int p0, .int p1] [(2, 1), (0, 2)] N G sn SG := sorry
theorem jo_swap {p0 p1 : Int32} {N sn : Nat} {G SG : Nat → Nat → Bool} (hG : GOK N G) (hS : GOK sn SG) : jO (fun v : Bool => Value.int (bI v)) (fun _ : Bool => True) 58 61 [.int p0, .int p1] [(2, 1)] N G sn SG := sorry
theorem jo_others {N sn : Nat} {G SG : Nat → Nat → Bool} (hG : GOK N G) (hS : GOK sn SG) : jN (fun v : Int32 => Value.int v) 62 64 [] N G sn SG := sorry
theorem jo_keep {N sn : Nat} {G SG : Nat → Nat → Bool} (hG : GOK N G) (hS : GOK sn SG) : jN (fun v : Int32 => Value.int v) 65 67 [] N G sn SG := sorry
theorem jo_turn {N sn : Nat} {G SG : Nat → Nat → Bool} (hG : GOK N G) (hS : GOK sn SG) : jN (fun v : Bool => Value.int (bI v)) 68 70 [] N G sn SG := sorry
theorem jo_beside {N sn : Nat} {G SG : Nat → Nat → Bool} (hG : GOK N G) (hS : GOK sn SG) : jO (fun v : Int32 => Value.int v) (fun _ : Int32 => True) 72 74 [] [(1, 1)] N G sn SG := sorry
theorem jo_places {N sn : Nat} {G SG : Nat → Nat → Bool} (hG : GOK N G) (hS : GOK sn SG) : jN (fun v : Int32 => Value.int v) 75 76 [] N G sn SG := sorry
theorem jo_ways {N sn : Nat} {G SG : Nat → Nat → Bool} (hG : GOK N G) (hS : GOK sn SG) : jN (fun v : Int32 => Value.int v) 77 29 [] N G sn SG := sorry
theorem jo_isWay {p0 p1 : Int32} {N sn : Nat} {G SG : Nat → Nat → Bool} (hG : GOK N G) (hS : GOK sn SG) : jO (fun v : Bool => Value.int (bI v)) (fun _ : Bool => True) 79 80 [.int p0, .int p1] [(2, 1)] N G sn SG := sorry
theorem jo_degree {p0 : Int32} {N sn : Nat} {G SG : Nat → Nat → Bool} (hG : GOK N G) (hS : GOK sn SG) : jO (fun v : Int32 => Value.int v) (fun _ : Int32 => True) 82 83 [.int p0] [(2, 1)] N G sn SG := sorry
theorem jo_next {p0 p1 : Int32} {N sn : Nat} {G SG : Nat → Nat → Bool} (hG : GOK N G) (hS : GOK sn SG) : jO (fun v : Int32 => Value.int v) (fun _ : Int32 => True) 85 87 [.int p0, .int p1] [(2, 1)] N G sn SG := sorry
theorem jo_previous {p0 p1 : Int32} {N sn : Nat} {G SG : Nat → Nat → Bool} (hG : GOK N G) (hS : GOK sn SG) : jO (fun v : Int32 => Value.int v) (fun _ : Int32 => True) 89 90 [.int p0, .int p1] [(2, 1)] N G sn SG := sorry
theorem jo_mean {N sn : Nat} {G SG : Nat → Nat → Bool} (hG : GOK N G) (hS : GOK sn SG) : jO (fun v : UInt64 => Value.double v) (fun v : UInt64 => Op.cmpValue (FP.dcmp v v) .l = 0) 92 93 [] [(1, 1)] N G sn SG := sorry
theorem jo_pieces {N sn : Nat} {G SG : Nat → Nat → Bool} (hG : GOK N G) (hS : GOK sn SG) : jN (fun v : Int32 => Value.int v) 94 98 [] N G sn SG := sorry
theorem jo_piece {p0 : Int32} {N sn : Nat} {G SG : Nat → Nat → Bool} (hG : GOK N G) (hS : GOK sn SG) : jO (fun v : Int32 => Value.int v) (fun _ : Int32 => True) 101 102 [.int p0] [(2, 1)] N G sn SG := sorry
theorem jo_apart {N sn : Nat} {G SG : Nat → Nat → Bool} (hG : GOK N G) (hS : GOK sn SG) : jN (fun v : Int32 => Value.int v) 103 106 [] N G sn SG := sorry
theorem jo_together {N sn : Nat} {G SG : Nat → Nat → Bool} (hG : GOK N G) (hS : GOK sn SG) : jN (fun v : Int32 => Value.int v) 108 111 [] N G sn SG := sorry
theorem jo_partings {p0 : Int32} {N sn : Nat} {G SG : Nat → Nat → Bool} (hG : GOK N G) (hS : GOK sn SG) : jO (fun v : Int32 => Value.int v) (fun _ : Int32 => True) 113 119 [.int p0] [(0, 1)] N G sn SG := sorry
theorem jo_isTwo {N sn : Nat} {G SG : Nat → Nat → Bool} (hG : GOK N G) (hS : GOK sn SG) : jN (fun v : Bool => Value.int (bI v)) 122 124 [] N G sn SG := sorry
theorem jo_fewest {N sn : Nat} {G SG : Nat → Nat → Bool} (hG : GOK N G) (hS : GOK sn SG) : jN (fun v : Int32 => Value.int v) 126 128 [] N G sn SG := sorry
theorem jo_colour {p0 : Int32} {N sn : Nat} {G SG : Nat → Nat → Bool} (hG : GOK N G) (hS : GOK sn SG) : jO (fun v : Int32 => Value.int v) (fun _ : Int32 => True) 130 134 [.int p0] [(2, 1)] N G sn SG := sorry
theorem jo_colourings {p0 : Int32} {N sn : Nat} {G SG : Nat → Nat → Bool} (hG : GOK N G) (hS : GOK sn SG) : jO (fun v : Int32 => Value.int v) (fun _ : Int32 => True) 137 140 [.int p0] [(0, 1)] N G sn SG := sorry
theorem jo_coefficient {p0 : Int32} {N sn : Nat} {G SG : Nat → Nat → Bool} (hG : GOK N G) (hS : GOK sn SG) : jO (fun v : Int64 => Value.long v) (fun _ : Int64 => True) 142 144 [.int p0] [(2, 1)] N G sn SG := sorry
theorem jo_value {p0 : Int32} {N sn : Nat} {G SG : Nat → Nat → Bool} (hG : GOK N G) (hS : GOK sn SG) : jO (fun v : Int32 => Value.int v) (fun _ : Int32 => True) 147 156 [.int p0] [(4, 1)] N G sn SG := sorry
theorem jo_round {p0 : Int32} {N sn : Nat} {G SG : Nat → Nat → Bool} (hG : GOK N G) (hS : GOK sn SG) : jN (fun v : Int64 => Value.long v) 162 163 [.int p0] N G sn SG := sorry
theorem jo_bits {p0 : Int32} {N sn : Nat} {G SG : Nat → Nat → Bool} (hG : GOK N G) (hS : GOK sn SG) : jN (fun v : Int32 => Value.int v) 165 169 [.int p0] N G sn SG := sorry
theorem jo_sign {p0 : Int32} {N sn : Nat} {G SG : Nat → Nat → Bool} (hG : GOK N G) (hS : GOK sn SG) : jN (fun v : Int32 => Value.int v) 170 172 [.int p0] N G sn SG := sorry
theorem jo_digit {p0 p1 : Int32} {N sn : Nat} {G SG : Nat → Nat → Bool} (hG : GOK N G) (hS : GOK sn SG) : jO (fun v : Int32 => Value.int v) (fun _ : Int32 => True) 174 176 [.int p0, .int p1] [(2, 1)] N G sn SG := sorry
theorem jo_rest {p0 p1 : Int32} {N sn : Nat} {G SG : Nat → Nat → Bool} (hG : GOK N G) (hS : GOK sn SG) : jO (fun v : Int32 => Value.int v) (fun _ : Int32 => True) 178 181 [.int p0, .int p1] [(4, 1)] N G sn SG := sorry
theorem jo_compare {p0 p1 : Int32} {N sn : Nat} {G SG : Nat → Nat → Bool} (hG : GOK N G) (hS : GOK sn SG) : jN (fun v : Int32 => Value.int v) 182 184 [.int p0, .int p1] N G sn SG := sorry
theorem jo_directions {N sn : Nat} {G SG : Nat → Nat → Bool} (hG : GOK N G) (hS : GOK sn SG) : jN (fun v : Int64 => Value.long v) 185 187 [] N G sn SG := sorry
theorem jo_tried {N sn : Nat} {G SG : Nat → Nat → Bool} (hG : GOK N G) (hS : GOK sn SG) : jO (fun v : Int32 => Value.int v) (fun _ : Int32 => True) 189 194 [] [(5, 1)] N G sn SG := sorry
theorem jo_isTrue {N sn : Nat} {G SG : Nat → Nat → Bool} (hG : GOK N G) (hS : GOK sn SG) : jN (fun v : Bool => Value.int (bI v)) 197 206 [] N G sn SG := sorry
theorem jo_checksum {N sn : Nat} {G SG : Nat → Nat → Bool} (hG : GOK N G) (hS : GOK sn SG) : jN (fun v : Int64 => Value.long v) 211 214 [] N G sn SG := sorry
