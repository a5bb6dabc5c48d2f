/-! Colourmap$Whole: what its ten parts stand for -/
def wq (x : Int) : Nat → Int
  | 0 => x
  | i + 1 => wq x i / 4294967296
def wd (x : Int) (i : Nat) : Nat := (wq x i % 4294967296).toNat
def RW (P : Nat → Int64) (x : Int) : Prop := ∀ i, i < 10 → P i = lN (wd x i)
theorem wq_s (x : Int) (i : Nat) : wq x (i + 1) = wq x i / 4294967296 := rfl
theorem wd_c (x : Int) (i : Nat) : ((wd x i : Nat) : Int) = wq x i % 4294967296 := by
  unfold wd
  omega
theorem wd_lt (x : Int) (i : Nat) : wd x i < 4294967296 := by
  unfold wd
  omega
theorem sar {x : Int64} {k : Nat} (hk : k < 64) : (x >>> ((nI k).toInt64 &&& 63)).toInt = x.toInt / ((2 ^ k : Nat) : Int) := by
  rw [wb_c k hk]
  show (x.toBitVec.sshiftRight ((lN k).toBitVec.smod 64).toNat).toInt = _
  rw [wb_tb, wb_sm k hk, BitVec.toNat_ofNat, Nat.mod_eq_of_lt (by omega), BitVec.toInt_sshiftRight, Int.shiftRight_eq_div_pow]
  rfl
theorem sarN {n k : Nat} (hn : n < 2 ^ 63) (hk : k < 64) : lN n >>> ((nI k).toInt64 &&& 63) = lN (n / 2 ^ k) := by
  apply Int64.toInt_inj.mp
  have h1 : n / 2 ^ k ≤ n := Nat.div_le_self _ _
  rw [sar hk, lN_ti (by omega), lN_ti (by omega), if_pos hn, if_pos (by omega)]
  exact (Int.natCast_ediv _ _).symm
theorem lo32 (x : Int64) : x &&& 4294967295 = lN (x.toInt % 4294967296).toNat := by
  obtain ⟨n, hn, rfl⟩ := wb_of x
  rw [show (4294967295 : Int64) = lN (2 ^ 32 - 1) from rfl, wb_mask hn (by decide), lN_ti hn]
  congr 1
  split <;> omega
theorem lo32N {n : Nat} (hn : n < 2 ^ 64) : lN n &&& 4294967295 = lN (n % 4294967296) := wb_mask (k := 32) hn (by decide)
theorem hi32N {n : Nat} (hn : n < 2 ^ 64) : ((lN n).toUInt64 >>> ((32 : Int32).toInt64.toUInt64 &&& Int64.toUInt64 63)).toInt64 = lN (n / 4294967296) := wb_shr (k := 32) hn (by decide)
theorem RW_0 : RW (fun _ => 0) 0 := by
  intro i _
  have h : ∀ i, wq 0 i = 0 := by
    intro i
    induction i with
    | zero => rfl
    | succ i ih => rw [wq_s, ih]; rfl
  unfold wd
  rw [h]
  rfl
theorem plc_inv {P : Nat → Int64} {x : Int} (h : RW P x) (y : Int64) (i : Nat) (hi : i ≤ 10) : (plc P y i).1.toInt = wq y.toInt i ∧ ∃ c : Nat, c ≤ 1 ∧ (plc P y i).2 = lN c ∧ wq (x + y.toInt) i = wq x i + wq y.toInt i + c := by
  induction i with
  | zero => exact ⟨rfl, 0, Nat.zero_le _, rfl, (Int.add_zero _).symm⟩
  | succ i ih =>
    obtain ⟨h1, c, h2, h3, h4⟩ := ih (by omega)
    have a1 := wd_c x i
    have a2 := wd_lt x i
    have e1 : (plc P y (i + 1)).1 = (plc P y i).1 >>> ((nI 32).toInt64 &&& 63) := rfl
    have e2 : (plc P y (i + 1)).2 = ((P i + ((plc P y i).1 &&& 4294967295) + (plc P y i).2).toUInt64 >>> ((32 : Int32).toInt64.toUInt64 &&& Int64.toUInt64 63)).toInt64 := rfl
    refine ⟨?_, (wd x i + (wq y.toInt i % 4294967296).toNat + c) / 4294967296, ?_, ?_, ?_⟩
    · rw [e1, sar (by decide), h1]
      rfl
    · omega
    · rw [e2, lo32, h1, h3, h i (by omega), lN_add, lN_add, hi32N (by omega)]
    · rw [wq_s, wq_s, wq_s, h4]
      omega
theorem plF_R {P : Nat → Int64} {x : Int} (h : RW P x) (y : Int64) : RW (plF P y) (x + y.toInt) := by
  intro i hi
  obtain ⟨h1, c, h2, h3, h4⟩ := plc_inv h y i (by omega)
  have a1 := wd_c x i
  have a2 := wd_lt x i
  have e : plF P y i = (P i + ((plc P y i).1 &&& 4294967295) + (plc P y i).2) &&& 4294967295 := if_pos hi
  rw [e, lo32 (plc P y i).1, h1, h3, h i hi, lN_add, lN_add, lo32N (by omega)]
  congr 1
  unfold wd at *
  rw [h4]
  omega
theorem wq_neg (x : Int) (i : Nat) : wq (-x - 1) i = -wq x i - 1 := by
  induction i with
  | zero => rfl
  | succ i ih =>
    rw [wq_s, wq_s, ih]
    omega
theorem xor32 {a : Nat} (ha : a < 4294967296) : (a ^^^ (2 ^ 64 - 1)) % 4294967296 = 4294967295 - a := by
  have h1 : (a ^^^ (2 ^ 64 - 1)) % 2 ^ 32 = a % 2 ^ 32 ^^^ (2 ^ 64 - 1) % 2 ^ 32 := Nat.xor_mod_two_pow
  have h2 : (BitVec.ofNat 32 a ^^^ BitVec.allOnes 32).toNat = (a % 2 ^ 32) ^^^ (2 ^ 32 - 1) := by
    rw [BitVec.toNat_xor, BitVec.toNat_ofNat, BitVec.toNat_allOnes]
  rw [BitVec.xor_allOnes, BitVec.toNat_not, BitVec.toNat_ofNat] at h2
  rw [show (4294967296 : Nat) = 2 ^ 32 from rfl, h1, show (2 ^ 64 - 1) % 2 ^ 32 = 2 ^ 32 - 1 from rfl, ← h2, Nat.mod_eq_of_lt ha]
theorem ngF_R {P : Nat → Int64} {x : Int} (h : RW P x) : RW (ngF P) (-x) := by
  have h1 : RW (stg P (ngd P) 10) (-x - 1) := by
    intro i hi
    have a1 := wd_c x i
    have a2 := wd_lt x i
    have e : stg P (ngd P) 10 i = (P i ^^^ (-1)) &&& 4294967295 := if_pos hi
    rw [e, h i hi, show (-1 : Int64) = lN (2 ^ 64 - 1) from rfl, lN_xor, lo32N (Nat.xor_lt_two_pow (by omega) (by decide)), xor32 a2]
    congr 1
    have a3 := wq_neg x i
    unfold wd at *
    rw [a3]
    omega
  have h2 := plF_R h1 1
  rw [show (-x - 1) + (1 : Int64).toInt = -x by rw [show (1 : Int64).toInt = 1 from rfl]; omega] at h2
  exact h2
theorem tmc_inv {P : Nat → Int64} {x : Int} (h : RW P x) {s : Nat} (hs : s ≤ 2 ^ 31) (i : Nat) (hi : i ≤ 10) : ∃ c : Nat, c ≤ s ∧ tmc P (lN s) i = lN c ∧ wq (x * s) i = wq x i * s + c := by
  induction i with
  | zero => exact ⟨0, Nat.zero_le _, rfl, (Int.add_zero _).symm⟩
  | succ i ih =>
    obtain ⟨c, h2, h3, h4⟩ := ih (by omega)
    have a1 := wd_c x i
    have a2 := wd_lt x i
    have b1 : wd x i * s ≤ 4294967295 * s := Nat.mul_le_mul_right _ (by omega)
    have e2 : tmc P (lN s) (i + 1) = ((P i * lN s + tmc P (lN s) i).toUInt64 >>> ((32 : Int32).toInt64.toUInt64 &&& Int64.toUInt64 63)).toInt64 := rfl
    refine ⟨(wd x i * s + c) / 4294967296, by omega, ?_, ?_⟩
    · rw [e2, h3, h i (by omega), lN_mul, lN_add, hi32N (by omega)]
    · rw [wq_s, wq_s, h4]
      have e3 : wq x i * (s : Int) = 4294967296 * (wq x i / 4294967296 * s) + ((wd x i * s : Nat) : Int) := by
        rw [Int.natCast_mul, a1, ← Int.mul_assoc, ← Int.add_mul, Int.mul_ediv_add_emod]
      rw [e3]
      omega
theorem tmP_R {P : Nat → Int64} {x : Int} (h : RW P x) {s : Nat} (hs : s ≤ 2 ^ 31) : RW (stg P (tmd P (lN s)) 10) (x * s) := by
  intro i hi
  obtain ⟨c, h2, h3, h4⟩ := tmc_inv h hs i (by omega)
  have a1 := wd_c x i
  have a2 := wd_lt x i
  have b1 : wd x i * s ≤ 4294967295 * s := Nat.mul_le_mul_right _ (by omega)
  have e : stg P (tmd P (lN s)) 10 i = (P i * lN s + tmc P (lN s) i) &&& 4294967295 := if_pos hi
  rw [e, h3, h i hi, lN_mul, lN_add, lo32N (by omega)]
  congr 1
  have e3 : wq x i * (s : Int) = 4294967296 * (wq x i / 4294967296 * s) + ((wd x i * s : Nat) : Int) := by
    rw [Int.natCast_mul, a1, ← Int.mul_assoc, ← Int.add_mul, Int.mul_ediv_add_emod]
  rw [e3] at h4
  have e4 := wd_c (x * s) i
  rw [h4] at e4
  omega
theorem k_i64 (k : Int32) : k.toInt64 = Int64.ofInt k.toInt := by
  have h2 := k_abs k
  apply Int64.toInt_inj.mp
  rw [oI_to (by omega) (by omega)]
  exact Int32.toInt_toInt64 k
theorem absL_k (k : Int32) : absL k.toInt64 = lN k.toInt.natAbs := by
  have h2 := k_abs k
  unfold absL
  by_cases hk : k < 0
  · rw [if_neg, (k_neg hk).1]
    intro w
    have := (lg_cmp_ge _ _).mp w
    rw [Int64.le_iff_toInt_le, Int32.toInt_toInt64] at this
    rw [Int32.lt_iff_toInt_lt] at hk
    exact absurd hk (Int.not_lt.mpr this)
  · rw [if_pos, k_i64, ← oI_nat]
    · congr 1
      rw [Int32.lt_iff_toInt_lt] at hk
      have : (0 : Int32).toInt = 0 := rfl
      omega
    · refine (lg_cmp_ge _ _).mpr ?_
      rw [Int64.le_iff_toInt_le, Int32.toInt_toInt64]
      rw [Int32.lt_iff_toInt_lt] at hk
      exact Int.not_lt.mp hk
theorem tmF_R {P : Nat → Int64} {x : Int} (h : RW P x) (k : Int32) : RW (tmF P k) (x * k.toInt) := by
  have h2 := k_abs k
  have h3 := tmP_R h h2
  unfold tmF
  rw [absL_k]
  by_cases hk : 0 ≤ k
  · rw [if_pos hk]
    rw [Int32.le_iff_toInt_le, show (0 : Int32).toInt = 0 from rfl] at hk
    rw [show ((k.toInt.natAbs : Nat) : Int) = k.toInt by omega] at h3
    exact h3
  · rw [if_neg hk]
    rw [Int32.le_iff_toInt_le, show (0 : Int32).toInt = 0 from rfl] at hk
    have h4 := ngF_R h3
    rw [← Int.mul_neg, show -((k.toInt.natAbs : Nat) : Int) = k.toInt by omega] at h4
    exact h4
theorem evl_R {F : Nat → Int64} {k : Int32} (j : Nat) : ∀ (W : Nat → Int64) (x : Int), RW W x → RW (evl F k j W) (x * k.toInt ^ j + evS (fun i => (F i).toInt) k.toInt j) := by
  induction j with
  | zero =>
    intro W x h
    rw [Int.pow_zero, Int.mul_one, show x + evS (fun i => (F i).toInt) k.toInt 0 = x from Int.add_zero _]
    exact h
  | succ j ih =>
    intro W x h
    have h1 := ih _ _ (plF_R (tmF_R h k) (F j))
    rw [show x * k.toInt ^ (j + 1) + evS (fun i => (F i).toInt) k.toInt (j + 1) = (x * k.toInt + (F j).toInt) * k.toInt ^ j + evS (fun i => (F i).toInt) k.toInt j by
      show x * k.toInt ^ (j + 1) + (evS (fun i => (F i).toInt) k.toInt j + (F j).toInt * k.toInt ^ j) = _
      rw [Int.pow_succ]
      grind]
    exact h1
theorem evS_congr {F F' : Nat → Int} (k : Int) (j : Nat) (h : ∀ i, F i = F' i) : evS F k j = evS F' k j := by rw [show F = F' from funext h]
theorem evW_R {n : Nat} {G : Nat → Nat → Bool} (hG : GOK n G) (k : Int32) : RW (evW n G k) (PV n G k.toInt) := by
  have h := evl_R (F := mlt (ptn n G) n n) (k := k) (n + 1) _ _ RW_0
  rw [Int.zero_mul, Int.zero_add, mlt_cof hG, evS_congr _ _ (fun i => cof_to hG.1 i)] at h
  rw [← mlt_cof hG] at h
  exact h
