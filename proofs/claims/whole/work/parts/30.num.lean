/-! small numbers as ints; masks of a few bits -/
theorem Sp_in {d m : Nat} {as : List Value} {h : AH} {z mc ms : Nat} {P : AP} {al : AL} (q : aW (Sp d) m mc ms P 0 al [] h z 0 0) (hm : m < 216 := by decide) (hl : (aEnt as).length ≤ mmax m := by exact Nat.le_of_ble_eq_true rfl) (ha : aEntry m as = al := by rfl) : Sp (d + 1) m as h z mc ms P := ⟨hm, hl, by rw [ha]; exact q⟩
theorem nI_bv (n : Nat) : (nI n).toBitVec = BitVec.ofNat 32 n := rfl
theorem i32_ext {x y : Int32} (h : x.toBitVec.toNat = y.toBitVec.toNat) : x = y := Int32.toBitVec_inj.mp (BitVec.eq_of_toNat_eq h)
theorem nI_and (a b : Nat) : nI a &&& nI b = nI (a &&& b) := by
  apply i32_ext
  rw [Int32.toBitVec_and, BitVec.toNat_and, nI_bv, nI_bv, nI_bv, BitVec.toNat_ofNat, BitVec.toNat_ofNat, BitVec.toNat_ofNat, Nat.and_mod_two_pow]
theorem nI_or (a b : Nat) : nI a ||| nI b = nI (a ||| b) := by
  apply i32_ext
  rw [Int32.toBitVec_or, BitVec.toNat_or, nI_bv, nI_bv, nI_bv, BitVec.toNat_ofNat, BitVec.toNat_ofNat, BitVec.toNat_ofNat, Nat.or_mod_two_pow]
theorem nI_xor (a b : Nat) : nI a ^^^ nI b = nI (a ^^^ b) := by
  apply i32_ext
  rw [Int32.toBitVec_xor, BitVec.toNat_xor, nI_bv, nI_bv, nI_bv, BitVec.toNat_ofNat, BitVec.toNat_ofNat, BitVec.toNat_ofNat, Nat.xor_mod_two_pow]
theorem sm31 : ∀ b, b < 31 → ((nI b &&& 31).toBitVec.smod 32).toNat = b := by decide +kernel
theorem nI_shl {x b : Nat} (hb : b < 31) (h : x * 2 ^ b < 2 ^ 32) : nI x <<< (nI b &&& 31) = nI (x * 2 ^ b) := pk_shlN _ b (sm31 b hb) h
theorem one_shl {b : Nat} (hb : b < 31) : (1 : Int32) <<< (nI b &&& 31) = nI (2 ^ b) := by
  have h : 1 * 2 ^ b < 2 ^ 32 := by
    rw [Nat.one_mul]
    exact Nat.pow_lt_pow_right (by decide) (by omega)
  have := nI_shl (x := 1) hb h
  rw [Nat.one_mul] at this
  exact this
theorem nI_shr {x b : Nat} (hb : b < 31) (h : x < 2 ^ 31) : nI x >>> (nI b &&& 31) = nI (x / 2 ^ b) := pk_shrN h _ b (sm31 b hb)
theorem nI_num (n : Nat) : nI n = Int32.ofNat n := rfl
theorem nI_lit0 : (0 : Int32) = nI 0 := rfl
theorem nI_lit1 : (1 : Int32) = nI 1 := rfl
theorem nI_lit2 : (2 : Int32) = nI 2 := rfl
theorem nI_lit9 : (9 : Int32) = nI 9 := rfl
/-- the mask of the first n places of f -/
def mk (f : Nat → Bool) : Nat → Nat
  | 0 => 0
  | n + 1 => mk f n ||| (if f n then 2 ^ n else 0)
theorem mk_bit (f : Nat → Bool) (n q : Nat) : (mk f n).testBit q = (decide (q < n) && f q) := by
  induction n with
  | zero => simp [mk]
  | succ n ih =>
    rw [mk, Nat.testBit_or, ih]
    by_cases h : f n = true
    · rw [if_pos h, Nat.testBit_two_pow]
      by_cases h1 : n = q
      · subst h1
        simp [h]
      · rcases Nat.lt_or_ge q n with h2 | h2
        · simp [h1, h2, Nat.lt_succ_of_lt h2]
        · have h3 : ¬ q < n := by omega
          have h4 : ¬ q < n + 1 := by omega
          simp [h1, h3, h4]
    · rw [if_neg h]
      by_cases h1 : q = n
      · subst h1
        simp [h]
      · rcases Nat.lt_or_ge q n with h2 | h2
        · simp [h2, Nat.lt_succ_of_lt h2]
        · have h3 : ¬ q < n := by omega
          have h4 : ¬ q < n + 1 := by omega
          simp [h3, h4]
theorem mk_lt (f : Nat → Bool) (n : Nat) : mk f n < 2 ^ n := by
  apply Nat.lt_pow_two_of_testBit
  intro q hq
  rw [mk_bit]
  simp
  omega
theorem mk9 (f : Nat → Bool) : mk f 9 < 512 := mk_lt f 9
theorem mk_ext {f : Nat → Bool} {n x : Nat} (h : ∀ q, x.testBit q = (decide (q < n) && f q)) : x = mk f n := Nat.eq_of_testBit_eq fun q => by rw [h, mk_bit]
theorem mk_congr {f g : Nat → Bool} {n : Nat} (h : ∀ q, q < n → f q = g q) : mk f n = mk g n := by
  apply mk_ext
  intro q
  rw [mk_bit]
  by_cases hq : q < n
  · rw [h q hq]
  · simp [hq]
/-- how many of the first n -/
def cnt (f : Nat → Bool) : Nat → Nat
  | 0 => 0
  | n + 1 => cnt f n + (if f n then 1 else 0)
theorem cnt_le (f : Nat → Bool) (n : Nat) : cnt f n ≤ n := by
  induction n with
  | zero => exact Nat.le_refl _
  | succ n ih =>
    unfold cnt
    split <;> omega
theorem cnt_congr {f g : Nat → Bool} {n : Nat} (h : ∀ q, q < n → f q = g q) : cnt f n = cnt g n := by
  induction n with
  | zero => rfl
  | succ n ih =>
    unfold cnt
    rw [ih (fun q hq => h q (by omega)), h n (by omega)]
/-- an array of naturals -/
def na (n : Nat) (R : Nat → Nat) : AC := ra 0 n (fun p => .int (nI (R p)))
def updN (f : Nat → Nat) (i x : Nat) : Nat → Nat := fun j => if j = i then x else f j
theorem na_upd {n i x : Nat} {R : Nat → Nat} : ra 0 n (updV' (fun p => .int (nI (R p))) i (.int (nI x))) = na n (updN R i x) := by
  unfold na ra updV' updN
  congr 3
  funext j
  split <;> rfl
theorem na_eq {n : Nat} {R R' : Nat → Nat} (h : R = R') : na n R = na n R' := by rw [h]
theorem ald_na {h : AH} {a n p : Nat} {R : Nat → Nat} {f : Value → Prop} (e : h a = some (na n R)) (hp : p < n) (hn : n < 2 ^ 31 := by decide) : ald h a 0 (nI p) f = f (.int (nI (R p))) := ald_at (k0 := 0) e hp hn
theorem ast_na {h : AH} {a n p x : Nat} {R : Nat → Nat} {f : AH → Prop} (e : h a = some (na n R)) (hp : p < n) (hn : n < 2 ^ 31 := by decide) : ast h a 0 (nI p) (.int (nI x)) f = f (hup h a (na n (updN R p x))) := by
  rw [ast_at e hp hn, na_upd]
theorem nar01 {b : Bool} : narrow .boolean (.int (if b then 1 else 0)) = .int (if b then 1 else 0) := by cases b <;> rfl
theorem nar1 : narrow .boolean (.int 1) = .int 1 := rfl
theorem nar0 : narrow .boolean (.int 0) = .int 0 := rfl
def bI (b : Bool) : Int32 := if b then 1 else 0
theorem nar_bI (b : Bool) : narrow .boolean (.int (bI b)) = .int (bI b) := by cases b <;> rfl
theorem bI_0 {b : Bool} : (bI b = 0) ↔ b = false := by cases b <;> decide
/-- the ones among nine bits -/
def ones (x : Nat) : Nat := cnt (fun q => x.testBit q) 9
def bcx (x : Int32) : Int32 :=
  let u (y : Int32) (k : Int32) : Int32 := (y.toUInt32 >>> (k.toUInt32 &&& Int32.toUInt32 31)).toInt32
  let a := x - (u x 1 &&& 1431655765)
  let b := (a &&& 858993459) + (u a 2 &&& 858993459)
  let c := (b + u b 4) &&& 252645135
  let d := c + u c 8
  let e := d + u d 16
  e &&& 63
theorem bcx_ok : ∀ x, x < 512 → bcx (nI x) = nI (ones x) := by decide +kernel
theorem ones_mk (f : Nat → Bool) : ones (mk f 9) = cnt f 9 := by
  unfold ones
  exact cnt_congr fun q hq => by rw [mk_bit]; simp [hq]
theorem sp_bitCount {x : Nat} (hx : x < 512) {h : AH} {z : Nat} : Sp 1 27 [.int (nI x)] h z 0 0 (RR (some (.int (nI (ones x)))) h z) := by
  refine Sp_in (al := [some (.int (nI x))]) ?_
  simp only [s27_0, s27_1, s27_2, s27_3, s27_4, s27_7, s27_8, s27_9, s27_10, s27_11, s27_14, s27_15, s27_16, s27_17, s27_18, s27_21, s27_22, s27_23, s27_24, s27_25, s27_26, s27_27, s27_28, s27_29, s27_32, s27_33, s27_34, s27_35, s27_36, s27_38, s27_39, s27_40, s27_41, s27_42, s27_43, s27_45, s27_46, s27_47, s27_48, s27_49, s27_51, s27_52, ldi_0, ldi_s, ldl_0, ldl_s, ldd_0, ldd_s, lda_0, lda_s, st1_0, st1_1, st2_0, st2_1, sti_0, sti_1, stj_0, stj_1, st1_2, sti_2, st2_2, stj_2, st1_3, sti_3, st2_3, stj_3, st1_4, sti_4, st2_4, stj_4, st1_5, sti_5, st2_5, stj_5, st1_6, sti_6, st2_6, stj_6, st1_7, sti_7, st2_7, stj_7, st1_8, sti_8, st2_8, stj_8, st1_9, sti_9, st2_9, stj_9, kil_n, kil_i, kil_r, kil_l, kil_d, gl_0, gl_s, cat_i, cat_r, true_and]
  exact out_eq (congrArg (fun y => some (Value.int y)) (bcx_ok x hx)) rfl rfl
