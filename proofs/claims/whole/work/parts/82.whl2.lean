/-! Colourmap$Whole: sign, digits, low part, fit, tenth, comparison -/
theorem ltcmp {a b : Nat} (ha : a < 2 ^ 63) (hb : b < 2 ^ 63) : (lN a = lN b ↔ a = b) ∧ (lN b ≤ lN a ↔ b ≤ a) := by
  have h1 := lN_ti (m := a) (by omega)
  have h2 := lN_ti (m := b) (by omega)
  rw [if_pos ha] at h1
  rw [if_pos hb] at h2
  constructor
  · rw [← Int64.toInt_inj, h1, h2]
    omega
  · rw [Int64.le_iff_toInt_le, h1, h2]
    omega
theorem wq9 {x : Int} (h1 : -2 ^ 319 ≤ x) (h2 : x < 2 ^ 319) : -2147483648 ≤ wq x 9 ∧ wq x 9 < 2147483648 ∧ (wq x 9 < 0 ↔ x < 0) := by
  have e : wq x 9 = x / 4294967296 / 4294967296 / 4294967296 / 4294967296 / 4294967296 / 4294967296 / 4294967296 / 4294967296 / 4294967296 := rfl
  rw [e]
  omega
theorem wneg_R {P : Nat → Int64} {x : Int} (h : RW P x) (h1 : -2 ^ 319 ≤ x) (h2 : x < 2 ^ 319) : wneg P = decide (x < 0) := by
  obtain ⟨b1, b2, b3⟩ := wq9 h1 h2
  have a1 := wd_c x 9
  have a2 := wd_lt x 9
  unfold wneg
  rw [decide_eq_decide, h 9 (by decide), show (31 : Int32) = nI 31 from rfl, sarN (by omega) (by decide), lg_cmp_eq, show (0 : Int64) = lN 0 from rfl, (ltcmp (by omega) (by decide)).1]
  omega
theorem dSg_R {P : Nat → Int64} {x : Int} (h : RW P x) (h1 : -2 ^ 319 ≤ x) (h2 : x < 2 ^ 319) : RW (dSg P) (x.natAbs : Int) := by
  unfold dSg
  rw [wneg_R h h1 h2]
  by_cases hx : x < 0
  · rw [decide_eq_true hx, if_pos rfl, show ((x.natAbs : Nat) : Int) = -x by omega]
    exact ngF_R h
  · rw [decide_eq_false hx, if_neg (by decide), show ((x.natAbs : Nat) : Int) = x by omega]
    exact h
theorem wq_nat (V i : Nat) : wq (V : Int) i = ((V / 2 ^ (32 * i) : Nat) : Int) := by
  induction i with
  | zero =>
    rw [Nat.mul_zero, Nat.pow_zero, Nat.div_one]
    rfl
  | succ i ih =>
    rw [wq_s, ih, Nat.mul_succ, Nat.pow_add, ← Nat.div_div_eq_div_mul]
    exact (Int.natCast_ediv _ _).symm
theorem wd_nat (V i : Nat) : wd (V : Int) i = V / 2 ^ (32 * i) % 4294967296 := by
  have h1 := wd_c (V : Int) i
  rw [wq_nat] at h1
  omega
theorem wbit_R {P : Nat → Int64} {V : Nat} (h : RW P (V : Int)) {j : Nat} (hj : j < 320) : wbit P j = decide (V / 2 ^ j % 2 = 1) := by
  have hr : j % 32 < 32 := Nat.mod_lt _ (by decide)
  have a2 := wd_lt (V : Int) (j / 32)
  unfold wbit
  rw [decide_eq_decide]
  have h0 : wd (V : Int) (j / 32) / 2 ^ (j % 32) ≤ wd (V : Int) (j / 32) := Nat.div_le_self _ _
  rw [h (j / 32) (by omega), sarN (by omega) (by omega), wb_a1 (by omega), lg_cmp_eq, show (0 : Int64) = lN 0 from rfl, (ltcmp (by omega) (by decide)).1]
  have e : wd (V : Int) (j / 32) / 2 ^ (j % 32) % 2 = V / 2 ^ j % 2 := by
    rw [wd_nat, show (4294967296 : Nat) = 2 ^ (j % 32) * 2 ^ (32 - j % 32) by rw [← Nat.pow_add, show j % 32 + (32 - j % 32) = 32 by omega], Nat.mod_mul_right_div_self, Nat.div_div_eq_div_mul, ← Nat.pow_add, show 32 * (j / 32) + j % 32 = j by omega, Nat.mod_mod_of_dvd]
    exact ⟨2 ^ (31 - j % 32), by rw [← Nat.pow_succ', show 32 - j % 32 = 31 - j % 32 + 1 by omega]⟩
  rw [e]
  omega
def isBl (V b : Nat) : Prop := V < 2 ^ b ∧ (b = 0 ∨ 2 ^ (b - 1) ≤ V)
theorem isBl_u {V b c : Nat} (h : isBl V b) (k : isBl V c) : b = c := by
  obtain ⟨h1, h2⟩ := h
  obtain ⟨k1, k2⟩ := k
  rcases Nat.lt_trichotomy b c with l | l | l
  · have : 2 ^ b ≤ 2 ^ (c - 1) := Nat.pow_le_pow_right (by decide) (by omega)
    omega
  · exact l
  · have : 2 ^ c ≤ 2 ^ (b - 1) := Nat.pow_le_pow_right (by decide) (by omega)
    omega
theorem blN_is (f : Nat) : ∀ V, V < 2 ^ f → isBl V (blN f V) := by
  induction f with
  | zero =>
    intro V h
    exact ⟨h, Or.inl rfl⟩
  | succ f ih =>
    intro V h
    unfold blN
    by_cases h0 : V = 0
    · rw [if_pos h0]
      exact ⟨by rw [h0]; decide, Or.inl rfl⟩
    · rw [if_neg h0]
      obtain ⟨h1, h2⟩ := ih (V / 2) (by rw [Nat.pow_succ] at h; omega)
      refine ⟨by rw [Nat.pow_succ]; omega, Or.inr ?_⟩
      rw [Nat.add_sub_cancel]
      rcases h2 with h2 | h2
      · rw [h2, Nat.pow_zero]
        omega
      · by_cases h3 : blN f (V / 2) = 0
        · rw [h3, Nat.pow_zero]
          omega
        · rw [show blN f (V / 2) = blN f (V / 2) - 1 + 1 by omega, Nat.pow_succ]
          omega
theorem wbd_is {P : Nat → Int64} {V : Nat} (h : RW P (V : Int)) (j : Nat) (hj : j ≤ 320) : isBl (V % 2 ^ j) (wbd P j) := by
  induction j with
  | zero => exact ⟨Nat.mod_lt _ (by decide), Or.inl rfl⟩
  | succ j ih =>
    obtain ⟨h1, h2⟩ := ih (by omega)
    have e : V % 2 ^ (j + 1) = V % 2 ^ j + 2 ^ j * (V / 2 ^ j % 2) := by rw [Nat.pow_succ, Nat.mod_mul]
    have e2 : wbd P (j + 1) = if wbit P j then j + 1 else wbd P j := rfl
    rw [e, e2, wbit_R h (by omega)]
    by_cases hb : V / 2 ^ j % 2 = 1
    · rw [hb, decide_eq_true rfl, if_pos rfl, Nat.mul_one]
      have h3 := Nat.mod_lt V (show 0 < 2 ^ j from Nat.pow_pos (by decide))
      exact ⟨by rw [Nat.pow_succ]; omega, Or.inr (by rw [Nat.add_sub_cancel]; omega)⟩
    · rw [decide_eq_false hb, if_neg (by decide), show V / 2 ^ j % 2 = 0 by omega, Nat.mul_zero, Nat.add_zero]
      exact ⟨h1, h2⟩
theorem wbd_R {P : Nat → Int64} {V : Nat} (h : RW P (V : Int)) (hV : V < 2 ^ 320) : wbd P 320 = blN 333 V := by
  have h1 := wbd_is h 320 (Nat.le_refl _)
  rw [Nat.mod_eq_of_lt hV] at h1
  exact isBl_u h1 (blN_is 333 V (Nat.lt_trans hV (by decide)))
theorem wbd_0 {P : Nat → Int64} {V : Nat} (h : RW P (V : Int)) (hV : V < 2 ^ 320) : wbd P 320 = 0 ↔ V = 0 := by
  have h1 := wbd_is h 320 (Nat.le_refl _)
  rw [Nat.mod_eq_of_lt hV] at h1
  obtain ⟨h2, h3⟩ := h1
  constructor
  · intro e
    rw [e] at h2
    omega
  · intro e
    rcases h3 with h3 | h3
    · exact h3
    · have : 0 < 2 ^ (wbd P 320 - 1) := Nat.pow_pos (by decide)
      omega
theorem sh_or {a b : Nat} (ha : a < 4294967296) (hb : b < 4294967296) : lN a <<< ((32 : Int32).toInt64 &&& 63) ||| lN b = lN (4294967296 * a + b) := by
  rw [show (32 : Int32) = nI 32 from rfl, wb_shl _ (by decide), wb_or (by omega) (by omega)]
  congr 1
  rw [Nat.mul_comm]
  exact (Nat.two_pow_add_eq_or_of_lt (i := 32) hb a).symm
theorem wlow_R {P : Nat → Int64} {x : Int} (h : RW P x) : wlow P = Int64.ofInt x := by
  have a1 := wd_c x 0
  have a2 := wd_c x 1
  have b1 := wd_lt x 0
  have b2 := wd_lt x 1
  unfold wlow
  rw [h 0 (by decide), h 1 (by decide), sh_or b2 b1, ← oI_nat]
  have e : x = ((4294967296 * wd x 1 + wd x 0 : Nat) : Int) + 18446744073709551616 * (x / 18446744073709551616) := by
    have e0 : wq x 0 = x := rfl
    have e1 : wq x 1 = x / 4294967296 := rfl
    rw [e0] at a1
    rw [e1] at a2
    omega
  conv => rhs; rw [e]
  rw [oI_add, oI_mul, show Int64.ofInt 18446744073709551616 = 0 from rfl, Int64.zero_mul, Int64.add_zero]
theorem wfit_all {P : Nat → Int64} (n : Nat) : wfit P n = true ↔ ∀ i, i < n → P (i + 1) = wabove P := by
  induction n with
  | zero => exact ⟨fun _ i hi => absurd hi (Nat.not_lt_zero i), fun _ => rfl⟩
  | succ n ih =>
    show (wfit P n && decide (lg_cmp (P (n + 1)) (wabove P) = 0)) = true ↔ _
    rw [Bool.and_eq_true, ih, decide_eq_true_eq, lg_cmp_eq]
    constructor
    · rintro ⟨h1, h2⟩ i hi
      rcases Nat.lt_succ_iff_lt_or_eq.mp hi with h3 | h3
      · exact h1 i h3
      · rw [h3]
        exact h2
    · intro h1
      exact ⟨fun i hi => h1 i (by omega), h1 n (by omega)⟩
theorem wfit_R {P : Nat → Int64} {x : Int} (h : RW P x) (h1 : -2 ^ 319 ≤ x) (h2 : x < 2 ^ 319) : wfit P 9 = true ↔ -2147483648 ≤ x ∧ x < 2147483648 := by
  obtain ⟨b1, b2, b3⟩ := wq9 h1 h2
  have a0 := wd_lt x 0
  have c0 := wd_c x 0
  have e0 : wq x 0 = x := rfl
  have hab : wabove P = lN (if wd x 0 < 2147483648 then 0 else 4294967295) := by
    unfold wabove
    rw [h 0 (by decide), lN_i]
    by_cases hp : wd x 0 < 2147483648
    · rw [if_pos hp, if_pos (nI_pos' (by omega))]
      rfl
    · rw [if_neg hp, if_neg]
      · rfl
      · rw [Int32.le_iff_toInt_le, show (0 : Int32).toInt = 0 from rfl]
        have : (nI (wd x 0)).toInt = (wd x 0 : Int) - 4294967296 := by
          have c := BitVec.toInt_eq_toNat_cond (nI (wd x 0)).toBitVec
          rw [nI_bv, BitVec.toNat_ofNat, Nat.mod_eq_of_lt (show wd x 0 < 2 ^ 32 by omega), if_neg (by omega)] at c
          exact c
        omega
  rw [wfit_all, hab]
  constructor
  · intro hw
    have hw2 : ∀ i, i < 9 → wd x (i + 1) = if wd x 0 < 2147483648 then 0 else 4294967295 := fun i hi => by
      have e := hw i hi
      rw [h (i + 1) (by omega)] at e
      have a := wd_lt x (i + 1)
      exact (ltcmp (by omega) (by split <;> decide)).1.mp e
    have key : ∀ i, i ≤ 8 → wq x (9 - i) = if wd x 0 < 2147483648 then 0 else -1 := by
      intro i
      induction i with
      | zero =>
        intro _
        have e : wd x 9 = _ := hw2 8 (by decide)
        have c := wd_c x 9
        show wq x 9 = _
        split at e <;> split <;> omega
      | succ i ih =>
        intro hi
        have e1 := ih (by omega)
        have e := hw2 (8 - (i + 1)) (by omega)
        rw [show 8 - (i + 1) + 1 = 9 - (i + 1) by omega] at e
        have c := wd_c x (9 - (i + 1))
        rw [show 9 - i = 9 - (i + 1) + 1 by omega, wq_s] at e1
        split at e <;> split <;> split at e1 <;> omega
    have k := key 8 (by decide)
    rw [show 9 - 8 = 0 + 1 from rfl, wq_s] at k
    split at k <;> omega
  · intro hx i hi
    have key : ∀ i, wq x (i + 1) = if 0 ≤ x then 0 else -1 := by
      intro i
      induction i with
      | zero =>
        rw [wq_s, e0]
        split <;> omega
      | succ i ih =>
        rw [wq_s, ih]
        split <;> decide
    rw [h (i + 1) (by omega)]
    congr 1
    have c := wd_c x (i + 1)
    rw [key i] at c
    split at c <;> split <;> omega
theorem dvo_R {P : Nat → Int64} {V : Nat} (h : RW P (V : Int)) (hV : V < 2 ^ 320) (k : Nat) (hk : k ≤ 10) : dvo P k = lN (V / 2 ^ (32 * (10 - k)) % 10) := by
  induction k with
  | zero =>
    rw [show 32 * (10 - 0) = 320 from rfl, Nat.div_eq_of_lt hV]
    rfl
  | succ k ih =>
    have e : dvo P (k + 1) = (dvo P k <<< ((32 : Int32).toInt64 &&& 63) ||| P (9 - k)) - (dvo P k <<< ((32 : Int32).toInt64 &&& 63) ||| P (9 - k)) / 10 * 10 := rfl
    have a2 := wd_lt (V : Int) (9 - k)
    have hm := Nat.mod_lt (V / 2 ^ (32 * (10 - k))) (show 0 < 10 by decide)
    rw [e, ih (by omega), h (9 - k) (by omega), sh_or (by omega) a2, lit10L, pk_lRem (by omega) (by decide) (by decide)]
    congr 1
    rw [wd_nat, show 10 - (k + 1) = 9 - k by omega, show 32 * (10 - k) = 32 * (9 - k) + 32 by omega, Nat.pow_add, ← Nat.div_div_eq_div_mul]
    omega
theorem dvF_R {P : Nat → Int64} {V : Nat} (h : RW P (V : Int)) (hV : V < 2 ^ 320) : RW (dvF P) ((V / 10 : Nat) : Int) := by
  intro q hq
  have e : dvF P q = (dvo P (9 - q) <<< ((32 : Int32).toInt64 &&& 63) ||| P (9 - (9 - q))) / 10 := if_pos ⟨Nat.zero_le q, hq⟩
  have a2 := wd_lt (V : Int) q
  have hm := Nat.mod_lt (V / 2 ^ (32 * (10 - (9 - q)))) (show 0 < 10 by decide)
  rw [e, dvo_R h hV _ (by omega), show 9 - (9 - q) = q by omega, h q hq, sh_or (by omega) a2, lit10L, pk_lDiv (by omega) (by decide) (by decide)]
  congr 1
  rw [wd_nat, wd_nat, show 32 * (10 - (9 - q)) = 32 * q + 32 by omega, Nat.pow_add, ← Nat.div_div_eq_div_mul, Nat.div_div_eq_div_mul V 10, Nat.mul_comm 10, ← Nat.div_div_eq_div_mul]
  omega
theorem dvI_R {P : Nat → Int64} {V : Nat} (h : RW P (V : Int)) (hV : V < 2 ^ 320) (d : Nat) : RW (dvI P d) ((V / 10 ^ d : Nat) : Int) := by
  induction d with
  | zero =>
    rw [Nat.pow_zero, Nat.div_one]
    exact h
  | succ d ih =>
    rw [Nat.pow_succ, ← Nat.div_div_eq_div_mul]
    exact dvF_R ih (Nat.lt_of_le_of_lt (Nat.div_le_self _ _) hV)
def wl (x : Int) : Nat → Nat
  | 0 => 0
  | j + 1 => wl x j + 4294967296 ^ j * wd x j
theorem wl_lt (x : Int) (j : Nat) : wl x j < 4294967296 ^ j := by
  induction j with
  | zero => exact Nat.one_pos
  | succ j ih =>
    show wl x j + 4294967296 ^ j * wd x j < _
    have h1 := wd_lt x j
    have h2 : 4294967296 ^ j * (wd x j + 1) ≤ 4294967296 ^ j * 4294967296 := Nat.mul_le_mul_left _ h1
    rw [Nat.mul_succ] at h2
    rw [Nat.pow_succ]
    omega
theorem wl_x (x : Int) (j : Nat) : x = ((4294967296 ^ j : Nat) : Int) * wq x j + wl x j := by
  induction j with
  | zero => exact ((Int.add_zero _).trans (Int.one_mul x)).symm
  | succ j ih =>
    have h1 := wd_c x j
    have h2 : wq x j = 4294967296 * wq x (j + 1) + wd x j := by rw [h1, wq_s]; omega
    have e : ((wl x (j + 1) : Nat) : Int) = wl x j + ((4294967296 ^ j : Nat) : Int) * wd x j := by
      show ((wl x j + 4294967296 ^ j * wd x j : Nat) : Int) = _
      rw [Int.natCast_add, Int.natCast_mul]
    rw [e, Nat.pow_succ, Int.natCast_mul]
    conv => lhs; rw [ih, h2]
    grind
def cm3 (a b : Nat) : Int32 := if a = b then 0 else if b ≤ a then 1 else -1
theorem wag_R {P Q : Nat → Int64} {x y : Int} (h : RW P x) (k : RW Q y) (j : Nat) (hj : j ≤ 10) : wag P Q j = cm3 (wl x j) (wl y j) := by
  induction j with
  | zero => rfl
  | succ j ih =>
    have e : wag P Q (j + 1) = if lg_cmp (P j) (Q j) = 0 then wag P Q j else if 0 ≤ lg_cmp (P j) (Q j) then 1 else -1 := rfl
    have a1 := wd_lt x j
    have a2 := wd_lt y j
    have l1 := wl_lt x j
    have l2 := wl_lt y j
    have c := ltcmp (a := wd x j) (b := wd y j) (by omega) (by omega)
    have d1 := (lg_cmp_eq (lN (wd x j)) (lN (wd y j))).trans c.1
    have d2 := (lg_cmp_ge (lN (wd x j)) (lN (wd y j))).trans c.2
    rw [e, ih (by omega), h j (by omega), k j (by omega)]
    unfold cm3
    show _ = if wl x j + 4294967296 ^ j * wd x j = wl y j + 4294967296 ^ j * wd y j then (0 : Int32) else if wl y j + 4294967296 ^ j * wd y j ≤ wl x j + 4294967296 ^ j * wd x j then 1 else -1
    rcases Nat.lt_trichotomy (wd x j) (wd y j) with g | g | g
    · have g2 := Nat.mul_le_mul_left (4294967296 ^ j) (show wd x j + 1 ≤ wd y j from g)
      rw [Nat.mul_succ] at g2
      rw [if_neg (fun w => by have := d1.mp w; omega), if_neg (fun w => by have := d2.mp w; omega), if_neg (by omega), if_neg (by omega)]
    · rw [if_pos (d1.mpr g), g]
      by_cases g3 : wl x j = wl y j
      · rw [if_pos g3, if_pos (by omega)]
      · by_cases g4 : wl y j ≤ wl x j
        · rw [if_neg g3, if_pos g4, if_neg (by omega), if_pos (by omega)]
        · rw [if_neg g3, if_neg g4, if_neg (by omega), if_neg (by omega)]
    · have g2 := Nat.mul_le_mul_left (4294967296 ^ j) (show wd y j + 1 ≤ wd x j from g)
      rw [Nat.mul_succ] at g2
      rw [if_neg (fun w => by have := d1.mp w; omega), if_pos (d2.mpr (by omega)), if_neg (by omega), if_pos (by omega)]
theorem wcm_R {P Q : Nat → Int64} {x y : Int} (h : RW P x) (k : RW Q y) (h1 : -2 ^ 319 ≤ x) (h2 : x < 2 ^ 319) (k1 : -2 ^ 319 ≤ y) (k2 : y < 2 ^ 319) : wcm P Q = if x = y then 0 else if y ≤ x then 1 else -1 := by
  unfold wcm
  rw [wneg_R h h1 h2, wneg_R k k1 k2, wag_R h k 10 (Nat.le_refl _)]
  obtain ⟨b1, b2, b3⟩ := wq9 h1 h2
  obtain ⟨c1, c2, c3⟩ := wq9 k1 k2
  have e1 := wl_x x 10
  have e2 := wl_x y 10
  have q1 : wq x 10 = wq x 9 / 4294967296 := rfl
  have q2 : wq y 10 = wq y 9 / 4294967296 := rfl
  by_cases hs : (x < 0 ↔ y < 0)
  · rw [if_pos (decide_eq_decide.mpr hs)]
    have q3 : wq x 10 = wq y 10 := by
      rw [q1, q2]
      omega
    rw [q3] at e1
    unfold cm3
    by_cases g : wl x 10 = wl y 10
    · rw [if_pos g, if_pos (by omega)]
    · by_cases g2 : wl y 10 ≤ wl x 10
      · rw [if_neg g, if_pos g2, if_neg (by omega), if_pos (by omega)]
      · rw [if_neg g, if_neg g2, if_neg (by omega), if_neg (by omega)]
  · by_cases hx : x < 0
    · have hy : ¬ y < 0 := fun w => hs ⟨fun _ => w, fun _ => hx⟩
      rw [decide_eq_true hx, decide_eq_false hy, if_neg (by decide), if_pos rfl, if_neg (by omega), if_neg (by omega)]
    · have hy : y < 0 := Decidable.byContradiction fun w => hs ⟨fun q => absurd q hx, fun q => absurd q w⟩
      rw [decide_eq_false hx, decide_eq_true hy, if_neg (by decide), if_neg (by decide), if_neg (by omega), if_pos (by omega)]
