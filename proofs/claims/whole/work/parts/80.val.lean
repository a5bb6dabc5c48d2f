/-! the value at k as a whole number; what the reference reckons -/
def evS (F : Nat → Int) (k : Int) : Nat → Int
  | 0 => 0
  | i + 1 => evS F k i + F i * k ^ i
def ffv (k : Int) : Nat → Int
  | 0 => 1
  | j + 1 => ffv k j * (k - j)
theorem z_ring1 (a k e1 e2 f g p : Int) : k * e1 - a * e2 + (f - a * g) * (p * k) = k * (e1 + f * p) - a * (e2 + g * (p * k)) := by grind
theorem evS_shift (F : Nat → Int) (a k : Int) (m : Nat) : evS (fun x => (if 0 < x then F (x - 1) else 0) - a * F x) k (m + 1) = k * evS F k m - a * evS F k (m + 1) := by
  induction m with
  | zero =>
    show 0 + ((0 : Int) - a * F 0) * k ^ 0 = k * 0 - a * (0 + F 0 * k ^ 0)
    rw [Int.pow_zero]
    grind
  | succ m ih =>
    show evS (fun x => (if 0 < x then F (x - 1) else 0) - a * F x) k (m + 1) + ((if 0 < m + 1 then F (m + 1 - 1) else 0) - a * F (m + 1)) * k ^ (m + 1) = k * (evS F k m + F m * k ^ m) - a * (evS F k (m + 1) + F (m + 1) * k ^ (m + 1))
    rw [ih, if_pos (by omega), show m + 1 - 1 = m by omega, Int.pow_succ]
    exact z_ring1 _ _ _ _ _ _ _
theorem evS_ffI (k : Int) (j : Nat) : ∀ m, j < m → evS (ffI j) k m = ffv k j := by
  induction j with
  | zero =>
    intro m hm
    obtain ⟨i, rfl⟩ : ∃ i, m = i + 1 := ⟨m - 1, by omega⟩
    clear hm
    induction i with
    | zero =>
      show 0 + (1 : Int) * k ^ 0 = 1
      rw [Int.pow_zero]
      rfl
    | succ i ih =>
      show evS (ffI 0) k (i + 1) + ffI 0 (i + 1) * k ^ (i + 1) = 1
      rw [ih, show ffI 0 (i + 1) = 0 from rfl, Int.zero_mul]
      rfl
  | succ j ih =>
    intro m hm
    obtain ⟨i, rfl⟩ : ∃ i, m = i + 1 := ⟨m - 1, by omega⟩
    have e := evS_shift (ffI j) j k i
    rw [ih i (by omega), ih (i + 1) (by omega)] at e
    show evS (ffI (j + 1)) k (i + 1) = ffv k j * (k - j)
    rw [Int.mul_sub, Int.mul_comm (ffv k j) k, Int.mul_comm (ffv k j) (j : Int)]
    exact e
theorem evS_sum (f : Nat → Int) (F : Nat → Nat → Int) (k : Int) (u M : Nat) : evS (fun i => sumZ (fun m => f m * F m i) u) k M = sumZ (fun m => f m * evS (F m) k M) u := by
  induction M with
  | zero =>
    show 0 = sumZ (fun m => f m * 0) u
    rw [sumZ_congr (g := fun _ => 0) u fun m _ => Int.mul_zero _, sumZ_0]
  | succ M ih =>
    show evS (fun i => sumZ (fun m => f m * F m i) u) k M + sumZ (fun m => f m * F m M) u * k ^ M = sumZ (fun m => f m * (evS (F m) k M + F m M * k ^ M)) u
    rw [ih, Int.mul_comm _ (k ^ M), ← sumZ_mul, ← sumZ_add]
    refine sumZ_congr u fun m _ => ?_
    rw [Int.mul_add, Int.mul_left_comm, Int.mul_comm (k ^ M)]
/-- the value at k -/
def PV (n : Nat) (G : Nat → Nat → Bool) (k : Int) : Int := evS (cI n G) k (n + 1)
theorem PV_ff {n : Nat} {G : Nat → Nat → Bool} (k : Int) : PV n G k = sumZ (fun m => (ptm G n m : Int) * ffv k m) (n + 1) := by
  unfold PV
  rw [show cI n G = fun i => sumZ (fun m => (ptm G n m : Int) * ffI m i) (n + 1) from rfl, evS_sum]
  exact sumZ_congr _ fun m hm => by rw [evS_ffI k m (n + 1) hm]
theorem ffv_pos (kk : Nat) (j : Nat) : ffv (kk : Int) j = ((prf (fun i => kk - i) j : Nat) : Int) := by
  induction j with
  | zero => rfl
  | succ j ih =>
    show ffv (kk : Int) j * ((kk : Int) - j) = ((prf (fun i => kk - i) j * (kk - j) : Nat) : Int)
    rw [ih, Int.natCast_mul]
    by_cases h : j ≤ kk
    · rw [Int.natCast_sub h]
    · rw [prf_z (f := fun i => kk - i) (i := kk) (Nat.sub_self kk) (by omega)]
      simp
theorem rkV_Z (v f : Nat → Nat) (u : Nat) : ((rkV v f u : Nat) : Int) = sumZ (fun m => (v m : Int) * (prf f m : Int)) u := by
  induction u with
  | zero => rfl
  | succ u ih =>
    show ((rkV v f u + v u * prf f u : Nat) : Int) = _
    rw [Int.natCast_add, ih, Int.natCast_mul]
    rfl
theorem PV_pos {n : Nat} {G : Nat → Nat → Bool} (kk : Nat) : PV n G (kk : Int) = ((rkV (ptm G n) (fun i => kk - i) (n + 1) : Nat) : Int) := by
  rw [PV_ff, rkV_Z]
  exact sumZ_congr _ fun m _ => by rw [ffv_pos]
def sgp (j : Nat) : Int := if j % 2 = 1 then -1 else 1
theorem neg_pow (kk j : Nat) : (-(kk : Int)) ^ j = sgp j * ((prf (fun _ => kk) j : Nat) : Int) := by
  induction j with
  | zero => rw [Int.pow_zero]; rfl
  | succ j ih =>
    rw [Int.pow_succ, ih]
    show sgp j * ((prf (fun _ => kk) j : Nat) : Int) * -(kk : Int) = sgp (j + 1) * ((prf (fun _ => kk) j * kk : Nat) : Int)
    rw [Int.natCast_mul]
    unfold sgp
    by_cases h : j % 2 = 1
    · rw [if_pos h, if_neg (by omega)]
      grind
    · rw [if_neg h, if_pos (by omega)]
      grind
theorem alt_sg {n j : Nat} {G : Nat → Nat → Bool} (hj : j ≤ n) : cI n G j * sgp j = sgp n * ((cI n G j).natAbs : Int) := by
  obtain ⟨-, h⟩ := alt_cI n G j
  obtain ⟨h1, h2⟩ := h hj
  unfold sgp
  by_cases hp : (n - j) % 2 = 0
  · have h3 := h1 hp
    have h4 : ((cI n G j).natAbs : Int) = cI n G j := by omega
    rw [h4]
    by_cases h5 : j % 2 = 1
    · rw [if_pos h5, if_pos (by omega)]
      exact Int.mul_comm _ _
    · rw [if_neg h5, if_neg (by omega)]
      exact Int.mul_comm _ _
  · have h3 := h2 (by omega)
    have h4 : ((cI n G j).natAbs : Int) = -cI n G j := by omega
    rw [h4]
    by_cases h5 : j % 2 = 1
    · rw [if_pos h5, if_neg (by omega)]
      grind
    · rw [if_neg h5, if_pos (by omega)]
      grind
theorem evS_Z (F : Nat → Int) (k : Int) (u : Nat) : evS F k u = sumZ (fun i => F i * k ^ i) u := by
  induction u with
  | zero => rfl
  | succ u ih =>
    show evS F k u + F u * k ^ u = _
    rw [ih]
    rfl
theorem PV_neg {n : Nat} {G : Nat → Nat → Bool} (kk : Nat) : PV n G (-(kk : Int)) = sgp n * ((rkV (fun j => (cI n G j).natAbs) (fun _ => kk) (n + 1) : Nat) : Int) := by
  unfold PV
  rw [evS_Z, rkV_Z, ← sumZ_mul]
  refine sumZ_congr _ fun j hj => ?_
  rw [neg_pow, ← Int.mul_assoc, alt_sg (by omega), Int.mul_assoc]
theorem ffv_le {k : Int} {B : Nat} (hB : k.natAbs + 9 ≤ B) (j : Nat) (hj : j ≤ 9) : (ffv k j).natAbs ≤ B ^ j := by
  induction j with
  | zero => exact Nat.le_refl _
  | succ j ih =>
    show (ffv k j * (k - j)).natAbs ≤ B ^ (j + 1)
    rw [Int.natAbs_mul, Nat.pow_succ]
    exact Nat.mul_le_mul (ih (by omega)) (by omega)
theorem PV_le {n : Nat} {G : Nat → Nat → Bool} (hn : n ≤ 9) {k : Int} (hk : k.natAbs ≤ 2 ^ 31) : (PV n G k).natAbs < 2 ^ 316 := by
  rw [PV_ff]
  have h1 := sumZ_le (f := fun m => (ptm G n m : Int) * ffv k m) (B := 2 ^ 31 * (2 ^ 31 + 9) ^ 9) (n + 1) fun m hm => by
    rw [Int.natAbs_mul, Int.natAbs_natCast]
    exact Nat.mul_le_mul (Nat.le_of_lt (ptm_lt hn m)) (Nat.le_trans (ffv_le (B := 2 ^ 31 + 9) (by omega) m (by omega)) (Nat.pow_le_pow_right (by decide) (by omega)))
  refine Nat.lt_of_le_of_lt h1 ?_
  have h2 : (n + 1) * (2 ^ 31 * (2 ^ 31 + 9) ^ 9) ≤ 10 * (2 ^ 31 * (2 ^ 31 + 9) ^ 9) := Nat.mul_le_mul_right _ (by omega)
  exact Nat.lt_of_le_of_lt h2 (by decide)
/-- what reckons finds -/
def rV (n : Nat) (G : Nat → Nat → Bool) (k : Int32) : Nat := (PV n G k.toInt).natAbs
def rS (n : Nat) (k : Int32) : Int32 := if k < 0 ∧ n % 2 = 1 then -1 else 1
theorem k_abs (k : Int32) : k.toInt.natAbs ≤ 2 ^ 31 := by
  have h1 := k.le_toInt
  have h2 := k.toInt_lt
  omega
theorem rV_lt {n : Nat} {G : Nat → Nat → Bool} (hn : n ≤ 9) (k : Int32) : rV n G k < 2 ^ 316 := PV_le hn (k_abs k)
theorem rV_lt10 {n : Nat} {G : Nat → Nat → Bool} (hn : n ≤ 9) (k : Int32) : rV n G k < 10 ^ 100 := Nat.lt_trans (rV_lt hn k) (by decide)
theorem rS_or {n : Nat} {k : Int32} : rS n k = 1 ∨ rS n k = -1 := by
  unfold rS
  split
  · exact Or.inr rfl
  · exact Or.inl rfl
theorem oI_neg (a : Int) : Int64.ofInt (-a) = -Int64.ofInt a := by simp [Int64.ofInt_neg]
theorem cof_abs {n : Nat} {G : Nat → Nat → Bool} (hn : n ≤ 9) (j : Nat) : absL (cofM G n j) = lN (cI n G j).natAbs ∧ (cI n G j).natAbs < 2 ^ 63 := by
  have h := cI_le (G := G) hn j
  have ht := cof_to (G := G) hn j
  refine ⟨?_, by omega⟩
  unfold absL
  by_cases h0 : 0 ≤ cI n G j
  · rw [if_pos ((lg_cmp_ge _ _).mpr (by rw [Int64.le_iff_toInt_le, ht]; exact h0)), cof_I hn, ← oI_nat]
    congr 1
    omega
  · rw [if_neg (fun w => h0 (by have := (lg_cmp_ge _ _).mp w; rw [Int64.le_iff_toInt_le, ht] at this; exact this)), cof_I hn, ← oI_nat, ← oI_neg]
    congr 1
    omega
theorem k_neg {k : Int32} (hk : k < 0) : -k.toInt64 = lN k.toInt.natAbs ∧ k.toInt = -(k.toInt.natAbs : Int) := by
  have h1 : k.toInt < 0 := by
    rw [Int32.lt_iff_toInt_lt] at hk
    exact hk
  have h2 := k_abs k
  have h3 : k.toInt = -(k.toInt.natAbs : Int) := by omega
  refine ⟨?_, h3⟩
  have h4 : k.toInt64 = Int64.ofInt k.toInt := by
    apply Int64.toInt_inj.mp
    rw [oI_to (by omega) (by omega)]
    exact Int32.toInt_toInt64 k
  rw [h4, ← oI_neg, ← oI_nat]
  congr 1
  omega
theorem rk_ok {m t t2 ns n : Nat} {G SG : Nat → Nat → Bool} (hG : GOK n G) (k : Int32) : RkH m t t2 ns G SG n k (rV n G k) (rS n k) := by
  have hn := hG.1
  intro h th z hB hS
  obtain ⟨R0, r0⟩ := hS.2.2.2.1
  obtain ⟨T0, t0⟩ := hS.2.2.2.2.1
  by_cases hk : k < 0
  · obtain ⟨k1, k2⟩ := k_neg hk
    have hV : rkV (fun j => (cI n G j).natAbs) (fun _ => k.toInt.natAbs) (n + 1) = rV n G k := by
      have e := PV_neg (n := n) (G := G) k.toInt.natAbs
      rw [← k2] at e
      unfold rV
      rw [e]
      unfold sgp
      split <;> omega
    have e := sp_reckons_neg (z := z) (th := th) (ns := ns) (SG := SG) (cb := fun j => (cI n G j).natAbs) (kk := k.toInt.natAbs) hB hS.2.1 hn hk k1 (by have := k_abs k; omega) (fun j _ => cof_abs hn j) (by rw [hV]; exact rV_lt10 hn k) r0 t0
    rw [hV] at e
    have es : rS n k = if n % 2 = 1 then -1 else 1 := by
      unfold rS
      by_cases hp : n % 2 = 1
      · rw [if_pos ⟨hk, hp⟩, if_pos hp]
      · rw [if_neg (fun w => hp w.2), if_neg hp]
    rw [es]
    exact e
  · obtain ⟨kk, hkk, rfl⟩ := nI_of hk
    have hV : rkV (ptm G n) (fun i => kk - i) (n + 1) = rV n G (nI kk) := by
      have e := PV_pos (n := n) (G := G) kk
      unfold rV
      rw [nI_toInt hkk, e]
      omega
    have e := sp_reckons_pos (z := z) (th := th) (ns := ns) (SG := SG) hB hS.2.1 hn hkk (by rw [hV]; exact rV_lt10 hn _) r0 t0
    rw [hV] at e
    have es : rS n (nI kk) = 1 := if_neg (fun w => hk w.1)
    rw [es]
    exact e
/-- the value is V with its sign -/
theorem PV_rV {n : Nat} {G : Nat → Nat → Bool} (k : Int32) : PV n G k.toInt = (rS n k).toInt * (rV n G k : Int) := by
  unfold rS rV
  by_cases hk : k < 0
  · obtain ⟨k1, k2⟩ := k_neg hk
    have e := PV_neg (n := n) (G := G) k.toInt.natAbs
    rw [← k2] at e
    unfold sgp at e
    by_cases hp : n % 2 = 1
    · rw [if_pos ⟨hk, hp⟩, show (-1 : Int32).toInt = -1 from rfl]
      rw [if_pos hp] at e
      omega
    · rw [if_neg (fun w => hp w.2), show (1 : Int32).toInt = 1 from rfl]
      rw [if_neg hp] at e
      omega
  · obtain ⟨kk, hkk, rfl⟩ := nI_of hk
    have e := PV_pos (n := n) (G := G) kk
    rw [if_neg (fun w => hk w.1), show (1 : Int32).toInt = 1 from rfl, nI_toInt hkk]
    omega
