/-! the coefficients as whole numbers: their signs alternate -/
theorem oI_add (a b : Int) : Int64.ofInt (a + b) = Int64.ofInt a + Int64.ofInt b := by simp [Int64.ofInt_add]
theorem oI_sub (a b : Int) : Int64.ofInt (a - b) = Int64.ofInt a - Int64.ofInt b := by simp [Int64.ofInt_sub]
theorem oI_mul (a b : Int) : Int64.ofInt (a * b) = Int64.ofInt a * Int64.ofInt b := by simp [Int64.ofInt_mul]
theorem oI_nat (n : Nat) : Int64.ofInt (n : Int) = lN n := by
  apply Int64.toBitVec_inj.mp
  show BitVec.ofInt 64 (n : Int) = BitVec.ofNat 64 n
  exact BitVec.ofInt_natCast 64 n
theorem oI_to {z : Int} (h1 : -2 ^ 63 ≤ z) (h2 : z < 2 ^ 63) : (Int64.ofInt z).toInt = z := by
  rw [Int64.toInt_ofInt]
  exact Int.bmod_eq_of_le (by simp; omega) (by simp; omega)
def sumZ (f : Nat → Int) : Nat → Int
  | 0 => 0
  | k + 1 => sumZ f k + f k
theorem sumZ_congr {f g : Nat → Int} (u : Nat) (h : ∀ s, s < u → f s = g s) : sumZ f u = sumZ g u := by
  induction u with
  | zero => rfl
  | succ u ih =>
    show sumZ f u + f u = sumZ g u + g u
    rw [ih fun s hs => h s (by omega), h u (by omega)]
theorem sumZ_0 (u : Nat) : sumZ (fun _ => 0) u = 0 := by
  induction u with
  | zero => rfl
  | succ u ih =>
    show sumZ _ u + 0 = 0
    rw [ih]
    rfl
theorem sumZ_add (f g : Nat → Int) (u : Nat) : sumZ (fun k => f k + g k) u = sumZ f u + sumZ g u := by
  induction u with
  | zero => rfl
  | succ u ih =>
    show sumZ (fun k => f k + g k) u + (f u + g u) = sumZ f u + f u + (sumZ g u + g u)
    rw [ih]
    omega
theorem sumZ_sub (f g : Nat → Int) (u : Nat) : sumZ (fun k => f k - g k) u = sumZ f u - sumZ g u := by
  induction u with
  | zero => rfl
  | succ u ih =>
    show sumZ (fun k => f k - g k) u + (f u - g u) = sumZ f u + f u - (sumZ g u + g u)
    rw [ih]
    omega
theorem sumZ_mul (c : Int) (f : Nat → Int) (u : Nat) : sumZ (fun k => c * f k) u = c * sumZ f u := by
  induction u with
  | zero => exact (Int.mul_zero c).symm
  | succ u ih =>
    show sumZ (fun k => c * f k) u + c * f u = c * (sumZ f u + f u)
    rw [ih, Int.mul_add]
theorem sumZ_one {f : Nat → Int} {a : Nat} (u : Nat) (h : ∀ m, m ≠ a → f m = 0) : sumZ f u = if a < u then f a else 0 := by
  induction u with
  | zero => rfl
  | succ u ih =>
    show sumZ f u + f u = _
    rw [ih]
    by_cases h1 : a < u
    · rw [if_pos h1, if_pos (by omega), h u (by omega), Int.add_zero]
    · rw [if_neg h1]
      by_cases h2 : a = u
      · rw [if_pos (by omega), h2, Int.zero_add]
      · rw [if_neg (by omega), h u (by omega)]
        rfl
theorem sumZ_swap (f : Nat → Nat → Int) (u v : Nat) : sumZ (fun a => sumZ (fun b => f a b) v) u = sumZ (fun b => sumZ (fun a => f a b) u) v := by
  induction u with
  | zero => exact (sumZ_0 v).symm
  | succ u ih =>
    show sumZ (fun a => sumZ (fun b => f a b) v) u + sumZ (fun b => f u b) v = sumZ (fun b => sumZ (fun a => f a b) u + f u b) v
    rw [ih, sumZ_add]
def ffI : Nat → Nat → Int
  | 0 => fun x => if x = 0 then 1 else 0
  | j + 1 => fun x => (if 0 < x then ffI j (x - 1) else 0) - (j : Int) * ffI j x
theorem ffI_s (j x : Nat) : ffI (j + 1) x = (if 0 < x then ffI j (x - 1) else 0) - (j : Int) * ffI j x := rfl
theorem ffI_big (j : Nat) : ∀ q, j < q → ffI j q = 0 := by
  induction j with
  | zero =>
    intro q hq
    show (if q = 0 then 1 else 0) = (0 : Int)
    rw [if_neg (by omega)]
  | succ j ih =>
    intro q hq
    rw [ffI_s, if_pos (by omega), ih (q - 1) (by omega), ih q (by omega), Int.mul_zero]
    rfl
theorem ffx_I (j : Nat) (hj : j < 2 ^ 31) : ∀ x, ffx j x = Int64.ofInt (ffI j x) := by
  induction j with
  | zero =>
    intro x
    show (if x = 0 then 1 else 0) = Int64.ofInt (if x = 0 then 1 else 0)
    split <;> rfl
  | succ j ih =>
    have ih := ih (by omega)
    intro x
    rw [ffx_s, ffI_s, oI_sub, oI_mul, oI_nat]
    show (if 0 < x then ffx j (x - 1) else 0) - nL j * ffx j x = _
    rw [ih x, show nL j = lN j from nI_l (by omega)]
    by_cases h : 0 < x
    · rw [if_pos h, if_pos h, ih]
    · rw [if_neg h, if_neg h]
      rfl
/-- the coefficient as a whole number -/
def cI (n : Nat) (G : Nat → Nat → Bool) (i : Nat) : Int := sumZ (fun m => (ptm G n m : Int) * ffI m i) (n + 1)
theorem sfx_I {C : Nat → Nat} (j : Nat) (hj : j < 2 ^ 31) (x : Nat) : sfx (fun m => lN (C m)) j x = Int64.ofInt (sumZ (fun m => (C m : Int) * ffI m x) j) := by
  induction j with
  | zero => rfl
  | succ j ih =>
    show sfx (fun m => lN (C m)) j x + lN (C j) * ffx j x = Int64.ofInt (sumZ (fun m => (C m : Int) * ffI m x) j + (C j : Int) * ffI j x)
    rw [oI_add, oI_mul, oI_nat, ih (by omega), ffx_I j (by omega)]
theorem cof_I {n : Nat} {G : Nat → Nat → Bool} (hn : n ≤ 9) (i : Nat) : cofM G n i = Int64.ofInt (cI n G i) := by
  rw [cofM_e hn]
  exact sfx_I (n + 1) (by omega) i
def fct : Nat → Nat
  | 0 => 1
  | j + 1 => (j + 1) * fct j
theorem ffI_le (j : Nat) : ∀ x, (ffI j x).natAbs ≤ fct j := by
  induction j with
  | zero =>
    intro x
    show (if x = 0 then (1 : Int) else 0).natAbs ≤ 1
    split <;> decide
  | succ j ih =>
    intro x
    rw [ffI_s]
    have h1 := ih x
    have h2 : (if 0 < x then ffI j (x - 1) else 0).natAbs ≤ fct j := by
      split
      · exact ih _
      · exact Nat.zero_le _
    have h3 : ((j : Int) * ffI j x).natAbs = j * (ffI j x).natAbs := by rw [Int.natAbs_mul, Int.natAbs_natCast]
    have h4 : j * (ffI j x).natAbs ≤ j * fct j := Nat.mul_le_mul_left j h1
    have h5 := Int.natAbs_sub_le (if 0 < x then ffI j (x - 1) else 0) ((j : Int) * ffI j x)
    show _ ≤ (j + 1) * fct j
    rw [Nat.succ_mul]
    omega
theorem sumZ_le {f : Nat → Int} {B : Nat} (u : Nat) (h : ∀ m, m < u → (f m).natAbs ≤ B) : (sumZ f u).natAbs ≤ u * B := by
  induction u with
  | zero => exact Nat.zero_le _
  | succ u ih =>
    have h1 := ih fun m hm => h m (by omega)
    have h2 := h u (by omega)
    have h3 := Int.natAbs_add_le (sumZ f u) (f u)
    show (sumZ f u + f u).natAbs ≤ (u + 1) * B
    rw [Nat.succ_mul]
    omega
theorem fct_mono {a b : Nat} (h : a ≤ b) : fct a ≤ fct b := by
  induction h with
  | refl => exact Nat.le_refl _
  | step _ ih => exact Nat.le_trans ih (Nat.le_mul_of_pos_left _ (by omega))
theorem cI_le {n : Nat} {G : Nat → Nat → Bool} (hn : n ≤ 9) (i : Nat) : (cI n G i).natAbs ≤ 2 ^ 62 := by
  have h1 := sumZ_le (f := fun m => (ptm G n m : Int) * ffI m i) (B := 2 ^ 31 * fct 9) (n + 1) fun m hm => by
    rw [Int.natAbs_mul, Int.natAbs_natCast]
    exact Nat.mul_le_mul (Nat.le_of_lt (ptm_lt hn m)) (Nat.le_trans (ffI_le m i) (fct_mono (by omega)))
  refine Nat.le_trans h1 ?_
  have h2 : (n + 1) * (2 ^ 31 * fct 9) ≤ 10 * (2 ^ 31 * fct 9) := Nat.mul_le_mul_right _ (by omega)
  exact Nat.le_trans h2 (by decide)
theorem cof_to {n : Nat} {G : Nat → Nat → Bool} (hn : n ≤ 9) (i : Nat) : (cofM G n i).toInt = cI n G i := by
  rw [cof_I hn]
  have := cI_le (G := G) hn i
  exact oI_to (by omega) (by omega)
/-- a sum over all partings -/
def ZF (G : Nat → Nat → Bool) (F : Nat → (Nat → Nat) → Int) : Nat → Nat → Nat → (Nat → Nat) → Int
  | 0, _, u, S => F u S
  | j + 1, p, u, S => sumZ (fun k => if mayk G p S k p = true then ZF G F j (p + 1) (if k = u then u + 1 else u) (updN S p k) else 0) (u + 1)
theorem sumV_Z {f : Nat → Nat → Nat} (u m : Nat) : ((sumV f u m : Nat) : Int) = sumZ (fun k => (f k m : Int)) u := by
  induction u with
  | zero => rfl
  | succ u ih =>
    show ((sumV f u m + f u m : Nat) : Int) = _
    rw [Int.natCast_add, ih]
    rfl
theorem ZF_prm {G : Nat → Nat → Bool} {f : Nat → Int} {N : Nat} (j : Nat) : ∀ (p u : Nat) (S : Nat → Nat), u + j < N → ZF G (fun u _ => f u) j p u S = sumZ (fun m => (prm G j p u S m : Int) * f m) N := by
  induction j with
  | zero =>
    intro p u S h
    show f u = sumZ (fun m => ((if m = u then 1 else 0 : Nat) : Int) * f m) N
    rw [sumZ_one (a := u) N fun m hm => by rw [if_neg hm]; exact Int.zero_mul _]
    rw [if_pos (by omega), if_pos rfl]
    exact (Int.one_mul _).symm
  | succ j ih =>
    intro p u S h
    show sumZ (fun k => if mayk G p S k p = true then ZF G (fun u _ => f u) j (p + 1) (if k = u then u + 1 else u) (updN S p k) else 0) (u + 1) = sumZ (fun m => ((sumV (fun k m => if mayk G p S k p = true then prm G j (p + 1) (if k = u then u + 1 else u) (updN S p k) m else 0) (u + 1) m : Nat) : Int) * f m) N
    have e : ∀ m, ((sumV (fun k m => if mayk G p S k p = true then prm G j (p + 1) (if k = u then u + 1 else u) (updN S p k) m else 0) (u + 1) m : Nat) : Int) * f m = sumZ (fun k => if mayk G p S k p = true then (prm G j (p + 1) (if k = u then u + 1 else u) (updN S p k) m : Int) * f m else 0) (u + 1) := by
      intro m
      rw [sumV_Z, Int.mul_comm, ← sumZ_mul]
      refine sumZ_congr _ fun k _ => ?_
      split
      · exact Int.mul_comm _ _
      · exact Int.mul_zero _
    rw [sumZ_congr (g := fun m => sumZ (fun k => if mayk G p S k p = true then (prm G j (p + 1) (if k = u then u + 1 else u) (updN S p k) m : Int) * f m else 0) (u + 1)) N fun m _ => e m, sumZ_swap]
    refine sumZ_congr _ fun k hk => ?_
    by_cases hm : mayk G p S k p = true
    · rw [if_pos hm, ih _ _ _ (by split <;> omega)]
      exact sumZ_congr _ fun m _ => by rw [if_pos hm]
    · rw [if_neg hm, sumZ_congr (g := fun _ => 0) N fun m _ => by rw [if_neg hm], sumZ_0]
theorem cI_ZF {n : Nat} {G : Nat → Nat → Bool} (i : Nat) : cI n G i = ZF G (fun u _ => ffI u i) n 0 0 (fun _ => 0) := (ZF_prm (f := fun u => ffI u i) n 0 0 _ (by omega)).symm
theorem ZF_congr {G : Nat → Nat → Bool} {F F' : Nat → (Nat → Nat) → Int} (j : Nat) : ∀ (p u : Nat) (S : Nat → Nat), (∀ i, i < p → S i < u) → (∀ u' S', (∀ i, i < p + j → S' i < u') → F u' S' = F' u' S') → ZF G F j p u S = ZF G F' j p u S := by
  induction j with
  | zero => exact fun p u S hS h => h u S hS
  | succ j ih =>
    intro p u S hS h
    refine sumZ_congr _ fun k hk => ?_
    split
    · refine ih _ _ _ (fun i hi => ?_) (fun u' S' h' => h u' S' fun i hi => h' i (by omega))
      unfold updN
      by_cases e : i = p
      · rw [if_pos e]
        split <;> omega
      · rw [if_neg e]
        have := hS i (by omega)
        split <;> omega
    · rfl
theorem ZF_sub {G : Nat → Nat → Bool} {F F' : Nat → (Nat → Nat) → Int} (j : Nat) : ∀ (p u : Nat) (S : Nat → Nat), ZF G (fun u S => F u S - F' u S) j p u S = ZF G F j p u S - ZF G F' j p u S := by
  induction j with
  | zero => exact fun p u S => rfl
  | succ j ih =>
    intro p u S
    show sumZ _ _ = sumZ _ _ - sumZ _ _
    rw [← sumZ_sub]
    refine sumZ_congr _ fun k hk => ?_
    split
    · exact ih _ _ _
    · rfl
/-- the last place taken apart -/
theorem ZF_last {G : Nat → Nat → Bool} {F : Nat → (Nat → Nat) → Int} (j : Nat) : ∀ (p u : Nat) (S : Nat → Nat), ZF G F (j + 1) p u S = ZF G (fun u S => sumZ (fun k => if mayk G (p + j) S k (p + j) = true then F (if k = u then u + 1 else u) (updN S (p + j) k) else 0) (u + 1)) j p u S := by
  induction j with
  | zero => exact fun p u S => rfl
  | succ j ih =>
    intro p u S
    show sumZ (fun k => if mayk G p S k p = true then ZF G F (j + 1) (p + 1) (if k = u then u + 1 else u) (updN S p k) else 0) (u + 1) = sumZ (fun k => if mayk G p S k p = true then ZF G _ j (p + 1) (if k = u then u + 1 else u) (updN S p k) else 0) (u + 1)
    refine sumZ_congr _ fun k hk => ?_
    split
    · rw [ih, show p + 1 + j = p + (j + 1) by omega]
    · rfl
/-- sets below u that g's places are in -/
def hit (g : Nat → Bool) (n : Nat) (S : Nat → Nat) (u : Nat) : Nat := cnt (fun k => !mayk (fun _ => g) 0 S k n) u
theorem sumZ_may {f : Nat → Bool} {c : Int} (u : Nat) : sumZ (fun k => if f k = true then c else 0) u = ((u : Int) - (cnt (fun k => !f k) u : Int)) * c := by
  induction u with
  | zero =>
    show (0 : Int) = (0 - 0) * c
    omega
  | succ u ih =>
    show sumZ _ u + (if f u = true then c else 0) = _
    rw [ih]
    cases h : f u
    · rw [cnt_t (by rw [h]; rfl), if_neg (by decide), Int.add_zero]
      congr 1
      omega
    · rw [cnt_f (by rw [h]; rfl), if_pos rfl, show (((u + 1 : Nat) : Int) - (cnt (fun k => !f k) u : Int)) = ((u : Int) - (cnt (fun k => !f k) u : Int)) + 1 by omega, Int.add_mul, Int.one_mul]
theorem mayk_row {G : Nat → Nat → Bool} {p k : Nat} {S : Nat → Nat} (q : Nat) : mayk G p S k q = mayk (fun _ => G p) 0 S k q := by
  induction q with
  | zero => rfl
  | succ q ih =>
    unfold mayk
    rw [ih]
theorem cI_last {n : Nat} {G : Nat → Nat → Bool} (i : Nat) : cI (n + 1) G i = ZF G (fun u S => (if 0 < i then ffI u (i - 1) else 0) - (hit (G n) n S u : Int) * ffI u i) n 0 0 (fun _ => 0) := by
  rw [cI_ZF, ZF_last]
  refine ZF_congr n 0 0 _ (fun i hi => absurd hi (Nat.not_lt_zero i)) fun u S hS => ?_
  rw [Nat.zero_add] at hS ⊢
  show sumZ (fun k => if mayk G n S k n = true then ffI (if k = u then u + 1 else u) i else 0) u + (if mayk G n S u n = true then ffI (if u = u then u + 1 else u) i else 0) = _
  rw [mayk_new n hS, if_pos rfl, if_pos rfl, ffI_s]
  rw [sumZ_congr (g := fun k => if mayk (fun _ => G n) 0 S k n = true then ffI u i else 0) u fun k hk => by rw [mayk_row, if_neg (show ¬ k = u by omega)]]
  rw [sumZ_may]
  unfold hit
  rw [Int.sub_mul]
  omega
theorem ZF_GF {G G' : Nat → Nat → Bool} {F : Nat → (Nat → Nat) → Int} (j : Nat) : ∀ (p u : Nat) (S : Nat → Nat), (∀ a b, a < p + j → G a b = G' a b) → ZF G F j p u S = ZF G' F j p u S := by
  induction j with
  | zero => exact fun p u S h => rfl
  | succ j ih =>
    intro p u S h
    refine sumZ_congr _ fun k hk => ?_
    rw [mayk_row (G := G), mayk_row (G := G'), show G p = G' p from funext fun b => h p b (by omega), ih (p + 1) _ _ fun a b hab => h a b (by omega)]
