/-! ColourmapModel: rows of decimal digits -/
theorem ne10L {B : Prop} : ((10 : Int64) ≠ 0 ∧ B) = B := and_t (by decide)
theorem ne10 {B : Prop} : ((10 : Int32) ≠ 0 ∧ B) = B := and_t (by decide)
theorem ne2 {B : Prop} : ((2 : Int32) ≠ 0 ∧ B) = B := and_t (by decide)
theorem lit10L : (10 : Int64) = lN 10 := rfl
def dgN (v i : Nat) : Nat := v / 10 ^ i % 10
def dgT (v : Nat) (R : Nat → Nat) : Nat → Nat := stg R (dgN v) 100
def tmcN (R : Nat → Nat) (b : Nat) : Nat → Nat
  | 0 => 0
  | i + 1 => (tmcN R b i + R i * b) / 10
def tmdN (R : Nat → Nat) (b i : Nat) : Nat := (tmcN R b i + R i * b) % 10
def tmN (R : Nat → Nat) (b : Nat) : Nat → Nat := stg R (tmdN R b) 100
def plcN (R Q : Nat → Nat) : Nat → Nat
  | 0 => 0
  | i + 1 => (plcN R Q i + (R i + Q i)) / 10
def pldN (R Q : Nat → Nat) (i : Nat) : Nat := (plcN R Q i + (R i + Q i)) % 10
def plN (R Q : Nat → Nat) : Nat → Nat := stg R (pldN R Q) 100
/-- the digits of a number, the last hundred -/
def DG (R : Nat → Nat) (V : Nat) : Prop := ∀ i, i < 100 → R i = dgN V i
theorem DG.le {R : Nat → Nat} {V i : Nat} (h : DG R V) (hi : i < 100) : R i ≤ 9 := by
  rw [h i hi]
  unfold dgN
  omega
theorem dg_be {v : Nat} {R : Nat → Nat} : DG (dgT v R) v := fun i hi => if_pos hi
theorem mod_s (V i : Nat) : V % 10 ^ (i + 1) = V % 10 ^ i + dgN V i * 10 ^ i := by
  unfold dgN
  rw [Nat.pow_succ, Nat.mod_mul, Nat.mul_comm]
theorem tmc_e {R : Nat → Nat} {V b : Nat} (h : DG R V) (i : Nat) (hi : i ≤ 100) : tmcN R b i = (V % 10 ^ i) * b / 10 ^ i := by
  induction i with
  | zero =>
    show 0 = _
    rw [Nat.pow_zero, Nat.mod_one, Nat.zero_mul, Nat.zero_div]
  | succ i ih =>
    have hp : 0 < 10 ^ i := Nat.pow_pos (by decide)
    show (tmcN R b i + R i * b) / 10 = _
    rw [ih (by omega), h i (by omega), mod_s, Nat.add_mul, Nat.pow_succ, ← Nat.div_div_eq_div_mul, show dgN V i * 10 ^ i * b = 10 ^ i * (dgN V i * b) by rw [Nat.mul_comm (dgN V i) (10 ^ i), Nat.mul_assoc], Nat.add_mul_div_left _ _ hp]
theorem tmc_le {R : Nat → Nat} {b : Nat} (h : ∀ i, i < 100 → R i ≤ 9) (i : Nat) (hi : i ≤ 100) : tmcN R b i ≤ b := by
  induction i with
  | zero => exact Nat.zero_le _
  | succ i ih =>
    have h1 := ih (by omega)
    have h2 : R i * b ≤ 9 * b := Nat.mul_le_mul_right b (h i (by omega))
    show (tmcN R b i + R i * b) / 10 ≤ b
    omega
theorem dg_tm {R : Nat → Nat} {V b : Nat} (h : DG R V) : DG (tmN R b) (V * b) := by
  intro i hi
  have hp : 0 < 10 ^ i := Nat.pow_pos (by decide)
  show (if i < 100 then tmdN R b i else R i) = _
  rw [if_pos hi]
  unfold tmdN
  rw [tmc_e h i (by omega), h i hi]
  have e1 : (V % 10 ^ i) * b / 10 ^ i + dgN V i * b = (V % 10 ^ (i + 1)) * b / 10 ^ i := by
    rw [mod_s, Nat.add_mul, show dgN V i * 10 ^ i * b = 10 ^ i * (dgN V i * b) by rw [Nat.mul_comm (dgN V i) (10 ^ i), Nat.mul_assoc], Nat.add_mul_div_left _ _ hp]
  rw [e1]
  have e2 : V * b = (V % 10 ^ (i + 1)) * b + 10 ^ i * (10 * (V / 10 ^ (i + 1) * b)) := by
    have e3 := Nat.div_add_mod V (10 ^ (i + 1))
    have e4 : V * b = (10 ^ (i + 1) * (V / 10 ^ (i + 1)) + V % 10 ^ (i + 1)) * b := by rw [e3]
    rw [e4, Nat.add_mul, Nat.add_comm]
    congr 1
    rw [Nat.pow_succ, Nat.mul_assoc, Nat.mul_assoc]
  unfold dgN
  conv => rhs; rw [e2, Nat.add_mul_div_left _ _ hp, Nat.add_mul_mod_self_left]
theorem plc_e {R Q : Nat → Nat} {V W : Nat} (h : DG R V) (h2 : DG Q W) (i : Nat) (hi : i ≤ 100) : plcN R Q i = (V % 10 ^ i + W % 10 ^ i) / 10 ^ i := by
  induction i with
  | zero =>
    show 0 = _
    rw [Nat.pow_zero, Nat.mod_one, Nat.mod_one]
  | succ i ih =>
    have hp : 0 < 10 ^ i := Nat.pow_pos (by decide)
    show (plcN R Q i + (R i + Q i)) / 10 = _
    rw [ih (by omega), h i (by omega), h2 i (by omega), mod_s, mod_s, Nat.pow_succ, ← Nat.div_div_eq_div_mul, show V % 10 ^ i + dgN V i * 10 ^ i + (W % 10 ^ i + dgN W i * 10 ^ i) = V % 10 ^ i + W % 10 ^ i + 10 ^ i * (dgN V i + dgN W i) by rw [Nat.mul_add, Nat.mul_comm (10 ^ i), Nat.mul_comm (10 ^ i)]; omega, Nat.add_mul_div_left _ _ hp]
theorem plc_le {R Q : Nat → Nat} (h : ∀ i, i < 100 → R i ≤ 9) (h2 : ∀ i, i < 100 → Q i ≤ 9) (i : Nat) (hi : i ≤ 100) : plcN R Q i ≤ 1 := by
  induction i with
  | zero => exact Nat.zero_le _
  | succ i ih =>
    have h1 := ih (by omega)
    have := h i (by omega)
    have := h2 i (by omega)
    show (plcN R Q i + (R i + Q i)) / 10 ≤ 1
    omega
theorem dg_pl {R Q : Nat → Nat} {V W : Nat} (h : DG R V) (h2 : DG Q W) : DG (plN R Q) (V + W) := by
  intro i hi
  have hp : 0 < 10 ^ i := Nat.pow_pos (by decide)
  show (if i < 100 then pldN R Q i else R i) = _
  rw [if_pos hi]
  unfold pldN
  rw [plc_e h h2 i (by omega), h i hi, h2 i hi]
  have e1 : (V % 10 ^ i + W % 10 ^ i) / 10 ^ i + (dgN V i + dgN W i) = (V % 10 ^ (i + 1) + W % 10 ^ (i + 1)) / 10 ^ i := by
    rw [mod_s, mod_s, show V % 10 ^ i + dgN V i * 10 ^ i + (W % 10 ^ i + dgN W i * 10 ^ i) = V % 10 ^ i + W % 10 ^ i + 10 ^ i * (dgN V i + dgN W i) by rw [Nat.mul_add, Nat.mul_comm (10 ^ i), Nat.mul_comm (10 ^ i)]; omega, Nat.add_mul_div_left _ _ hp]
  rw [e1]
  have e2 : V + W = (V % 10 ^ (i + 1) + W % 10 ^ (i + 1)) + 10 ^ i * (10 * (V / 10 ^ (i + 1) + W / 10 ^ (i + 1))) := by
    have e3 := Nat.div_add_mod V (10 ^ (i + 1))
    have e4 := Nat.div_add_mod W (10 ^ (i + 1))
    have e5 : 10 ^ i * (10 * (V / 10 ^ (i + 1) + W / 10 ^ (i + 1))) = 10 ^ (i + 1) * (V / 10 ^ (i + 1)) + 10 ^ (i + 1) * (W / 10 ^ (i + 1)) := by
      rw [← Nat.mul_assoc, ← Nat.pow_succ, Nat.mul_add]
    omega
  unfold dgN
  conv => rhs; rw [e2, Nat.add_mul_div_left _ _ hp, Nat.add_mul_mod_self_left]
def zrN (R : Nat → Nat) : Nat → Bool
  | 0 => true
  | i + 1 => zrN R i && decide (R i = 0)
theorem zrN_f {R : Nat → Nat} {i : Nat} (h : zrN R i = false) : ∀ j, i ≤ j → zrN R j = false := by
  intro j hj
  induction hj with
  | refl => exact h
  | step _ ih => unfold zrN; rw [ih]; rfl
theorem zrN_mod {R : Nat → Nat} {V : Nat} (h : DG R V) (i : Nat) (hi : i ≤ 100) : zrN R i = true ↔ V % 10 ^ i = 0 := by
  induction i with
  | zero =>
    rw [Nat.pow_zero, Nat.mod_one]
    exact ⟨fun _ => rfl, fun _ => rfl⟩
  | succ i ih =>
    have hp : 0 < 10 ^ i := Nat.pow_pos (by decide)
    unfold zrN
    rw [Bool.and_eq_true, ih (by omega), decide_eq_true_eq, mod_s, h i (by omega)]
    constructor
    · rintro ⟨h1, h2⟩
      rw [h1, h2, Nat.zero_mul]
    · intro h1
      refine ⟨by omega, ?_⟩
      have h2 : dgN V i * 10 ^ i = 0 := by omega
      rcases Nat.mul_eq_zero.mp h2 with h3 | h3
      · exact h3
      · omega
theorem zrN_z {R : Nat → Nat} {V : Nat} (h : DG R V) (hV : V < 10 ^ 100) : zrN R 100 = decide (V = 0) := by
  rw [Bool.eq_iff_iff, zrN_mod h 100 (Nat.le_refl _), Nat.mod_eq_of_lt hV, decide_eq_true_eq]
section Digits
variable {h : AH} {a z : Nat} {R : Nat → Nat}
theorem sp_becomes {v : Nat} (ha : h a = some (na 100 R)) (hv : v < 2 ^ 63) : Sp 1 158 [.ref a, .long (lN v)] h z 0 0 (RR none (hup h a (na 100 (dgT v R))) z) := by
  refine Sp_in (al := [some (.ref a), some (.long (lN v)), none, none, none, none]) ?_
  simp only [s158_0, s158_1, s158_2, s158_3, s158_7, s158_9, s158_12, s158_13, s158_15, s158_16, s158_19, s158_20, s158_21, s158_22, s158_23, s158_26, s158_27, s158_28, s158_31, s158_34, ldi_0, ldi_s, ldl_0, ldl_s, ldd_0, ldd_s, lda_0, lda_s, st1_0, st1_1, st2_0, st2_1, sti_0, sti_1, stj_0, stj_1, st1_2, sti_2, st2_2, stj_2, st1_3, sti_3, st2_3, stj_3, st1_4, sti_4, st2_4, stj_4, st1_5, sti_5, st2_5, stj_5, st1_6, sti_6, st2_6, stj_6, st1_7, sti_7, st2_7, stj_7, st1_8, sti_8, st2_8, stj_8, st1_9, sti_9, st2_9, stj_9, kil_n, kil_i, kil_r, kil_l, kil_d, gl_0, gl_s, cat_i, cat_r, true_and]
  have key : ∀ i, i ≤ 100 → aW (Sp 0) 158 0 0 (RR none (hup h a (na 100 (dgT v R))) z) 5 [some (.ref a), some (.long (lN v)), none, some (.long (lN (v / 10 ^ i))), none, some (.int (nI i))] [] (hup h a (na 100 (stg R (dgN v) i))) z 0 0 := by
    refine aUp ?_ fun i hi ih => ?_
    · rw [s158_5]
      simp only [s158_0, s158_1, s158_2, s158_3, s158_7, s158_9, s158_12, s158_13, s158_15, s158_16, s158_19, s158_20, s158_21, s158_22, s158_23, s158_26, s158_27, s158_28, s158_31, s158_34, ldi_0, ldi_s, ldl_0, ldl_s, ldd_0, ldd_s, lda_0, lda_s, st1_0, st1_1, st2_0, st2_1, sti_0, sti_1, stj_0, stj_1, st1_2, sti_2, st2_2, stj_2, st1_3, sti_3, st2_3, stj_3, st1_4, sti_4, st2_4, stj_4, st1_5, sti_5, st2_5, stj_5, st1_6, sti_6, st2_6, stj_6, st1_7, sti_7, st2_7, stj_7, st1_8, sti_8, st2_8, stj_8, st1_9, sti_9, st2_9, stj_9, kil_n, kil_i, kil_r, kil_l, kil_d, gl_0, gl_s, cat_i, cat_r, true_and]
      rw [br_1 (by decide)]
      exact out_RR
    · have hb : v / 10 ^ i < 2 ^ 63 := Nat.lt_of_le_of_lt (Nat.div_le_self _ _) hv
      rw [← stgN_s, Nat.pow_succ, ← Nat.div_div_eq_div_mul] at ih
      rw [s158_5]
      simp only [s158_0, s158_1, s158_2, s158_3, s158_7, s158_9, s158_12, s158_13, s158_15, s158_16, s158_19, s158_20, s158_21, s158_22, s158_23, s158_26, s158_27, s158_28, s158_31, s158_34, ldi_0, ldi_s, ldl_0, ldl_s, ldd_0, ldd_s, lda_0, lda_s, st1_0, st1_1, st2_0, st2_1, sti_0, sti_1, stj_0, stj_1, st1_2, sti_2, st2_2, stj_2, st1_3, sti_3, st2_3, stj_3, st1_4, sti_4, st2_4, stj_4, st1_5, sti_5, st2_5, stj_5, st1_6, sti_6, st2_6, stj_6, st1_7, sti_7, st2_7, stj_7, st1_8, sti_8, st2_8, stj_8, st1_9, sti_9, st2_9, stj_9, kil_n, kil_i, kil_r, kil_l, kil_d, gl_0, gl_s, cat_i, cat_r, true_and, nI_1, ne10L]
      rw [show (100 : Int32) = nI 100 from rfl, br_0 (nI_ge hi (by decide)), lit10L, pk_lRem hb (by decide) (by decide), pk_lDiv hb (by decide) (by decide), lN_i, ast_na hup_same hi, hup_hup]
      exact ih
  have k0 := key 0 (by omega)
  rw [stg_0, hup_id ha, Nat.pow_zero, Nat.div_one] at k0
  exact k0
theorem sp_mtimes {b : Nat} (ha : h a = some (na 100 R)) (hR : ∀ i, i < 100 → R i ≤ 9) (hb : b < 2 ^ 40) : Sp 1 159 [.ref a, .long (lN b)] h z 0 0 (RR none (hup h a (na 100 (tmN R b))) z) := by
  refine Sp_in (al := [some (.ref a), some (.long (lN b)), none, none, none, none]) ?_
  simp only [s159_0, s159_1, s159_2, s159_3, s159_7, s159_9, s159_12, s159_13, s159_14, s159_16, s159_17, s159_18, s159_19, s159_20, s159_21, s159_22, s159_23, s159_25, s159_26, s159_29, s159_30, s159_31, s159_32, s159_33, s159_36, s159_37, s159_38, s159_41, s159_44, ldi_0, ldi_s, ldl_0, ldl_s, ldd_0, ldd_s, lda_0, lda_s, st1_0, st1_1, st2_0, st2_1, sti_0, sti_1, stj_0, stj_1, st1_2, sti_2, st2_2, stj_2, st1_3, sti_3, st2_3, stj_3, st1_4, sti_4, st2_4, stj_4, st1_5, sti_5, st2_5, stj_5, st1_6, sti_6, st2_6, stj_6, st1_7, sti_7, st2_7, stj_7, st1_8, sti_8, st2_8, stj_8, st1_9, sti_9, st2_9, stj_9, kil_n, kil_i, kil_r, kil_l, kil_d, gl_0, gl_s, cat_i, cat_r, true_and]
  have key : ∀ i, i ≤ 100 → aW (Sp 0) 159 0 0 (RR none (hup h a (na 100 (tmN R b))) z) 5 [some (.ref a), some (.long (lN b)), none, some (.long (lN (tmcN R b i))), none, some (.int (nI i))] [] (hup h a (na 100 (stg R (tmdN R b) i))) z 0 0 := by
    refine aUp ?_ fun i hi ih => ?_
    · rw [s159_5]
      simp only [s159_0, s159_1, s159_2, s159_3, s159_7, s159_9, s159_12, s159_13, s159_14, s159_16, s159_17, s159_18, s159_19, s159_20, s159_21, s159_22, s159_23, s159_25, s159_26, s159_29, s159_30, s159_31, s159_32, s159_33, s159_36, s159_37, s159_38, s159_41, s159_44, ldi_0, ldi_s, ldl_0, ldl_s, ldd_0, ldd_s, lda_0, lda_s, st1_0, st1_1, st2_0, st2_1, sti_0, sti_1, stj_0, stj_1, st1_2, sti_2, st2_2, stj_2, st1_3, sti_3, st2_3, stj_3, st1_4, sti_4, st2_4, stj_4, st1_5, sti_5, st2_5, stj_5, st1_6, sti_6, st2_6, stj_6, st1_7, sti_7, st2_7, stj_7, st1_8, sti_8, st2_8, stj_8, st1_9, sti_9, st2_9, stj_9, kil_n, kil_i, kil_r, kil_l, kil_d, gl_0, gl_s, cat_i, cat_r, true_and]
      rw [br_1 (by decide)]
      exact out_RR
    · have h1 := tmc_le (b := b) hR i (by omega)
      have h9 := hR i hi
      have h2 : R i * b ≤ 9 * b := Nat.mul_le_mul_right b h9
      have h3 : tmcN R b i + R i * b < 2 ^ 63 := by omega
      rw [← stgN_s, show tmcN R b (i + 1) = (tmcN R b i + R i * b) / 10 from rfl] at ih
      rw [s159_5]
      simp only [s159_0, s159_1, s159_2, s159_3, s159_7, s159_9, s159_12, s159_13, s159_14, s159_16, s159_17, s159_18, s159_19, s159_20, s159_21, s159_22, s159_23, s159_25, s159_26, s159_29, s159_30, s159_31, s159_32, s159_33, s159_36, s159_37, s159_38, s159_41, s159_44, ldi_0, ldi_s, ldl_0, ldl_s, ldd_0, ldd_s, lda_0, lda_s, st1_0, st1_1, st2_0, st2_1, sti_0, sti_1, stj_0, stj_1, st1_2, sti_2, st2_2, stj_2, st1_3, sti_3, st2_3, stj_3, st1_4, sti_4, st2_4, stj_4, st1_5, sti_5, st2_5, stj_5, st1_6, sti_6, st2_6, stj_6, st1_7, sti_7, st2_7, stj_7, st1_8, sti_8, st2_8, stj_8, st1_9, sti_9, st2_9, stj_9, kil_n, kil_i, kil_r, kil_l, kil_d, gl_0, gl_s, cat_i, cat_r, true_and, nI_1, ne10L, ald_na hup_same hi, stg_at]
      rw [show (100 : Int32) = nI 100 from rfl, br_0 (nI_ge hi (by decide)), lit10L, nI_l (by omega), lN_mul, lN_add, pk_lRem h3 (by decide) (by decide), pk_lDiv h3 (by decide) (by decide), lN_i, ast_na hup_same hi, hup_hup]
      exact ih
  have k0 := key 0 (by omega)
  rw [stg_0, hup_id ha] at k0
  exact k0
theorem sp_mplus {b : Nat} {Q : Nat → Nat} (ha : h a = some (na 100 R)) (hb : h b = some (na 100 Q)) (hab : b ≠ a) (hR : ∀ i, i < 100 → R i ≤ 9) (hQ : ∀ i, i < 100 → Q i ≤ 9) : Sp 1 160 [.ref a, .ref b] h z 0 0 (RR none (hup h a (na 100 (plN R Q))) z) := by
  have hbX : ∀ X, hup h a X b = some (na 100 Q) := fun X => by rw [hup_ne hab, hb]
  refine Sp_in (al := [some (.ref a), some (.ref b), none, none]) ?_
  simp only [s160_0, s160_1, s160_2, s160_3, s160_5, s160_7, s160_10, s160_11, s160_12, s160_13, s160_14, s160_15, s160_16, s160_17, s160_18, s160_19, s160_20, s160_21, s160_22, s160_23, s160_25, s160_26, s160_27, s160_28, s160_30, s160_31, s160_32, s160_35, s160_38, ldi_0, ldi_s, ldl_0, ldl_s, ldd_0, ldd_s, lda_0, lda_s, st1_0, st1_1, st2_0, st2_1, sti_0, sti_1, stj_0, stj_1, st1_2, sti_2, st2_2, stj_2, st1_3, sti_3, st2_3, stj_3, st1_4, sti_4, st2_4, stj_4, st1_5, sti_5, st2_5, stj_5, st1_6, sti_6, st2_6, stj_6, st1_7, sti_7, st2_7, stj_7, st1_8, sti_8, st2_8, stj_8, st1_9, sti_9, st2_9, stj_9, kil_n, kil_i, kil_r, kil_l, kil_d, gl_0, gl_s, cat_i, cat_r, true_and]
  have key : ∀ i, i ≤ 100 → aW (Sp 0) 160 0 0 (RR none (hup h a (na 100 (plN R Q))) z) 4 [some (.ref a), some (.ref b), some (.int (nI (plcN R Q i))), some (.int (nI i))] [] (hup h a (na 100 (stg R (pldN R Q) i))) z 0 0 := by
    refine aUp ?_ fun i hi ih => ?_
    · rw [s160_4]
      simp only [s160_0, s160_1, s160_2, s160_3, s160_5, s160_7, s160_10, s160_11, s160_12, s160_13, s160_14, s160_15, s160_16, s160_17, s160_18, s160_19, s160_20, s160_21, s160_22, s160_23, s160_25, s160_26, s160_27, s160_28, s160_30, s160_31, s160_32, s160_35, s160_38, ldi_0, ldi_s, ldl_0, ldl_s, ldd_0, ldd_s, lda_0, lda_s, st1_0, st1_1, st2_0, st2_1, sti_0, sti_1, stj_0, stj_1, st1_2, sti_2, st2_2, stj_2, st1_3, sti_3, st2_3, stj_3, st1_4, sti_4, st2_4, stj_4, st1_5, sti_5, st2_5, stj_5, st1_6, sti_6, st2_6, stj_6, st1_7, sti_7, st2_7, stj_7, st1_8, sti_8, st2_8, stj_8, st1_9, sti_9, st2_9, stj_9, kil_n, kil_i, kil_r, kil_l, kil_d, gl_0, gl_s, cat_i, cat_r, true_and]
      rw [br_1 (by decide)]
      exact out_RR
    · have h1 := plc_le hR hQ i (by omega)
      have h9 := hR i hi
      have h8 := hQ i hi
      rw [← stgN_s, show plcN R Q (i + 1) = (plcN R Q i + (R i + Q i)) / 10 from rfl] at ih
      rw [s160_4]
      simp only [s160_0, s160_1, s160_2, s160_3, s160_5, s160_7, s160_10, s160_11, s160_12, s160_13, s160_14, s160_15, s160_16, s160_17, s160_18, s160_19, s160_20, s160_21, s160_22, s160_23, s160_25, s160_26, s160_27, s160_28, s160_30, s160_31, s160_32, s160_35, s160_38, ldi_0, ldi_s, ldl_0, ldl_s, ldd_0, ldd_s, lda_0, lda_s, st1_0, st1_1, st2_0, st2_1, sti_0, sti_1, stj_0, stj_1, st1_2, sti_2, st2_2, stj_2, st1_3, sti_3, st2_3, stj_3, st1_4, sti_4, st2_4, stj_4, st1_5, sti_5, st2_5, stj_5, st1_6, sti_6, st2_6, stj_6, st1_7, sti_7, st2_7, stj_7, st1_8, sti_8, st2_8, stj_8, st1_9, sti_9, st2_9, stj_9, kil_n, kil_i, kil_r, kil_l, kil_d, gl_0, gl_s, cat_i, cat_r, true_and, nI_1, ne10, ald_na hup_same hi, ald_na (hbX _) hi, stg_at, nI_add]
      rw [show (100 : Int32) = nI 100 from rfl, br_0 (nI_ge hi (by decide)), nI_lit10, pk_rem (by omega) (by decide) (by decide), pk_div (by omega) (by decide) (by decide), ast_na hup_same hi, hup_hup]
      exact ih
  have k0 := key 0 (by omega)
  rw [stg_0, hup_id ha] at k0
  exact k0
theorem sp_isZero (ha : h a = some (na 100 R)) (hR : ∀ i, i < 100 → R i < 2 ^ 31) : Sp 1 161 [.ref a] h z 0 0 (RR (some (.int (bI (zrN R 100)))) h z) := by
  refine Sp_in (al := [some (.ref a), none, none, none, none]) ?_
  simp only [s161_0, s161_1, s161_2, s161_3, s161_4, s161_5, s161_6, s161_8, s161_9, s161_12, s161_13, s161_14, s161_15, s161_17, s161_19, s161_22, s161_23, s161_24, s161_27, s161_30, s161_31, ldi_0, ldi_s, ldl_0, ldl_s, ldd_0, ldd_s, lda_0, lda_s, st1_0, st1_1, st2_0, st2_1, sti_0, sti_1, stj_0, stj_1, st1_2, sti_2, st2_2, stj_2, st1_3, sti_3, st2_3, stj_3, st1_4, sti_4, st2_4, stj_4, st1_5, sti_5, st2_5, stj_5, st1_6, sti_6, st2_6, stj_6, st1_7, sti_7, st2_7, stj_7, st1_8, sti_8, st2_8, stj_8, st1_9, sti_9, st2_9, stj_9, kil_n, kil_i, kil_r, kil_l, kil_d, gl_0, gl_s, cat_i, cat_r, true_and, aln_na ha]
  have key : ∀ i, i ≤ 100 → zrN R i = true → ∀ b : Option Value, aW (Sp 0) 161 0 0 (RR (some (.int (bI (zrN R 100)))) h z) 7 [some (.ref a), some (.ref a), some (.int (nI 100)), some (.int (nI i)), b] [] h z 0 0 := by
    refine aUp ?_ fun i hi ih => ?_
    · intro e b
      rw [s161_7]
      simp only [s161_0, s161_1, s161_2, s161_3, s161_4, s161_5, s161_6, s161_8, s161_9, s161_12, s161_13, s161_14, s161_15, s161_17, s161_19, s161_22, s161_23, s161_24, s161_27, s161_30, s161_31, ldi_0, ldi_s, ldl_0, ldl_s, ldd_0, ldd_s, lda_0, lda_s, st1_0, st1_1, st2_0, st2_1, sti_0, sti_1, stj_0, stj_1, st1_2, sti_2, st2_2, stj_2, st1_3, sti_3, st2_3, stj_3, st1_4, sti_4, st2_4, stj_4, st1_5, sti_5, st2_5, stj_5, st1_6, sti_6, st2_6, stj_6, st1_7, sti_7, st2_7, stj_7, st1_8, sti_8, st2_8, stj_8, st1_9, sti_9, st2_9, stj_9, kil_n, kil_i, kil_r, kil_l, kil_d, gl_0, gl_s, cat_i, cat_r, true_and]
      rw [br_1 (by decide), e]
      exact ⟨by decide, out_RR⟩
    · intro e b
      rw [s161_7]
      simp only [s161_0, s161_1, s161_2, s161_3, s161_4, s161_5, s161_6, s161_8, s161_9, s161_12, s161_13, s161_14, s161_15, s161_17, s161_19, s161_22, s161_23, s161_24, s161_27, s161_30, s161_31, ldi_0, ldi_s, ldl_0, ldl_s, ldd_0, ldd_s, lda_0, lda_s, st1_0, st1_1, st2_0, st2_1, sti_0, sti_1, stj_0, stj_1, st1_2, sti_2, st2_2, stj_2, st1_3, sti_3, st2_3, stj_3, st1_4, sti_4, st2_4, stj_4, st1_5, sti_5, st2_5, stj_5, st1_6, sti_6, st2_6, stj_6, st1_7, sti_7, st2_7, stj_7, st1_8, sti_8, st2_8, stj_8, st1_9, sti_9, st2_9, stj_9, kil_n, kil_i, kil_r, kil_l, kil_d, gl_0, gl_s, cat_i, cat_r, true_and, nI_1, ald_na ha hi]
      rw [br_0 (nI_ge hi (by decide)), nI_z (hR i hi)]
      refine ⟨fun h1 => ?_, fun h1 => ?_⟩
      · exact ih (by unfold zrN; rw [e, decide_eq_true h1]; rfl) _
      · exact ⟨by decide, out_eq (by rw [zrN_f (i := i + 1) (by unfold zrN; rw [e, decide_eq_false h1]; rfl) 100 (by omega)]; rfl) rfl rfl⟩
  exact key 0 (by omega) rfl none
end Digits
def RB (h : AH) (m : Nat) (R T : Nat → Nat) : AH := hup (hup h (m + 27) (na 100 R)) (m + 28) (na 100 T)
section Reckons
variable {h : AH} {m t t2 ns n z : Nat} {G SG : Nat → Nat → Bool} {th : Int32} {S R T : Nat → Nat} {C F D : Nat → Int64}
def ZH (h : AH) (m t t2 ns : Nat) (G : Nat → Nat → Bool) (th : Int32) (n : Nat) (S : Nat → Nat) (C F D : Nat → Int64) (R T : Nat → Nat) : AH := XH (RB h m R T) m t t2 ns G th n S C F D
theorem ZH_m : ZH h m t t2 ns G th n S C F D R T m = some (moO m th n t ns t2) := NF_m
theorem ZH_gf {k : Nat} {f : Value → Prop} : gf (ZH h m t t2 ns G th n S C F D R T) m 6 k f = gl [.int th, .int (nI n), .ref t, .int (nI ns), .ref t2, .ref (m + 21), .ref (m + 22), .ref (m + 23), .ref (m + 24), .ref (m + 25), .ref (m + 26), .ref (m + 27), .ref (m + 28), .ref (m + 29), .ref (m + 30), .ref (m + 40)] k f := gf_ob NF_m
theorem ZH_C (hT : TT m t t2) : ZH h m t t2 ns G th n S C F D R T (m + 23) = some (la 10 C) := PH_C hT
theorem ZH_D (hT : TT m t t2) : ZH h m t t2 ns G th n S C F D R T (m + 25) = some (la 10 D) := XH_D hT
theorem ZH_R (hT : TT m t t2) : ZH h m t t2 ns G th n S C F D R T (m + 27) = some (na 100 R) := by
  unfold ZH RB
  rw [XH_old hT (by omega), hup_ne (by omega), hup_same]
theorem ZH_T (hT : TT m t t2) : ZH h m t t2 ns G th n S C F D R T (m + 28) = some (na 100 T) := by
  unfold ZH RB
  rw [XH_old hT (by omega), hup_same]
theorem ZH_uR {R' : Nat → Nat} (hT : TT m t t2) : hup (ZH h m t t2 ns G th n S C F D R T) (m + 27) (na 100 R') = ZH h m t t2 ns G th n S C F D R' T := by
  unfold ZH RB
  rw [XH_set hT (by omega), hup_comm (by omega), hup_hup]
theorem ZH_uT {T' : Nat → Nat} (hT : TT m t t2) : hup (ZH h m t t2 ns G th n S C F D R T) (m + 28) (na 100 T') = ZH h m t t2 ns G th n S C F D R T' := by
  unfold ZH RB
  rw [XH_set hT (by omega), hup_hup]
theorem ZH_old {a : Nat} (hT : TT m t t2) (ha : m + 29 ≤ a) : ZH h m t t2 ns G th n S C F D R T a = h a := by
  unfold ZH RB
  rw [XH_old hT (by omega), hup_ne (by omega), hup_ne (by omega)]
theorem ZH_set {a : Nat} {Y : AC} (hT : TT m t t2) (ha : m + 29 ≤ a) : hup (ZH h m t t2 ns G th n S C F D R T) a Y = ZH (hup h a Y) m t t2 ns G th n S C F D R T := by
  unfold ZH RB
  rw [XH_set hT (by omega), hup_comm (a := m + 28) (by omega), hup_comm (a := m + 27) (by omega)]
theorem ZH_e (e1 : h (m + 27) = some (na 100 R)) (e2 : h (m + 28) = some (na 100 T)) : XH h m t t2 ns G th n S C F D = ZH h m t t2 ns G th n S C F D R T := by
  have e : RB h m R T = h := by
    unfold RB
    rw [hup_id e1, hup_id e2]
  unfold ZH
  rw [e]
theorem MB.rb (hB : MB h m t t2 SG) : MB (RB h m R T) m t t2 SG := (hB.sc (by omega)).sc (by omega)
def prf (f : Nat → Nat) : Nat → Nat
  | 0 => 1
  | i + 1 => prf f i * f i
def rkV (v f : Nat → Nat) : Nat → Nat
  | 0 => 0
  | j + 1 => rkV v f j + v j * prf f j
/-- behind reckons: the row holds the digits of V -/
def RkP (h : AH) (m t t2 ns : Nat) (G : Nat → Nat → Bool) (th : Int32) (n z : Nat) (C D : Nat → Int64) (V : Nat) (v : Option Value) : AP := fun o h' z' => o = .inl v ∧ z' = z ∧ ∃ (S' : Nat → Nat) (F' : Nat → Int64) (R T : Nat → Nat), (∀ q, 11 ≤ q → F' q = 0) ∧ DG R V ∧ h' = ZH h m t t2 ns G th n S' C F' D R T
theorem ctL_e (q : Nat) : ctL G n q = lN (ptm G n q) := by
  unfold ctL addL
  rw [Int64.zero_add]
theorem prf_z {f : Nat → Nat} {i j : Nat} (h : f i = 0) (hj : i < j) : prf f j = 0 := by
  induction j with
  | zero => omega
  | succ j ih =>
    show prf f j * f j = 0
    by_cases e : i = j
    · rw [← e, h, Nat.mul_zero]
    · rw [ih (by omega), Nat.zero_mul]
theorem sp_reckons_pos (hB : MB h m t t2 SG) (hA : ScA h m) (hn : n ≤ 9) {kk : Nat} (hk : kk < 2 ^ 31) (hV : (rkV (ptm G n) (fun i => kk - i) (n + 1)) < 10 ^ 100) {R0 T0 : Nat → Nat} (e1 : h (m + 27) = some (na 100 R0)) (e2 : h (m + 28) = some (na 100 T0)) : Sp 13 157 [.ref m, .int (nI kk)] (NF h m t t2 ns G th n) z 0 0 (RkP h m t t2 ns G th n z (ctL G n) (cofM G n) (rkV (ptm G n) (fun i => kk - i) (n + 1)) (some (.int (if (rkV (ptm G n) (fun i => kk - i) (n + 1)) = 0 then 0 else 1)))) := by
  have hT := hB.1
  refine Sp_in (al := [some (.ref m), some (.int (nI kk)), none, none, none, none]) ?_
  simp only [s157_0, s157_1, s157_2, s157_5, s157_6, s157_12, s157_13, s157_16, s157_20, s157_21, s157_23, s157_24, s157_27, s157_30, s157_31, s157_34, s157_35, s157_36, s157_39, s157_42, s157_43, s157_46, s157_47, s157_48, s157_49, s157_50, s157_53, s157_54, s157_57, s157_58, s157_61, s157_62, s157_63, s157_66, s157_67, s157_68, s157_69, s157_72, s157_73, s157_74, s157_77, s157_81, s157_82, s157_86, s157_87, s157_90, s157_91, s157_94, s157_95, s157_98, s157_99, s157_101, s157_102, s157_103, s157_106, s157_107, s157_108, s157_112, s157_115, s157_118, s157_119, s157_122, s157_123, s157_129, s157_132, s157_135, s157_136, s157_142, s157_145, s157_146, s157_149, s157_150, s157_153, s157_154, s157_157, s157_158, s157_159, s157_160, s157_163, s157_164, s157_167, s157_168, ldi_0, ldi_s, ldl_0, ldl_s, ldd_0, ldd_s, lda_0, lda_s, st1_0, st1_1, st2_0, st2_1, sti_0, sti_1, stj_0, stj_1, st1_2, sti_2, st2_2, stj_2, st1_3, sti_3, st2_3, stj_3, st1_4, sti_4, st2_4, stj_4, st1_5, sti_5, st2_5, stj_5, st1_6, sti_6, st2_6, stj_6, st1_7, sti_7, st2_7, stj_7, st1_8, sti_8, st2_8, stj_8, st1_9, sti_9, st2_9, stj_9, kil_n, kil_i, kil_r, kil_l, kil_d, gl_0, gl_s, cat_i, cat_r, true_and, NF_gf]
  refine c157_9 NF_m (sp_expands0 hB hA hn) (by omega) (by omega) ?_
  rintro _ _ z ⟨rfl, rfl, S', F', hF', rfl⟩
  show aW (Sp 12) 157 0 0 _ 12 _ _ _ _ (0 + 0) (0 + 0)
  rw [ZH_e e1 e2]
  simp only [s157_0, s157_1, s157_2, s157_5, s157_6, s157_12, s157_13, s157_16, s157_20, s157_21, s157_23, s157_24, s157_27, s157_30, s157_31, s157_34, s157_35, s157_36, s157_39, s157_42, s157_43, s157_46, s157_47, s157_48, s157_49, s157_50, s157_53, s157_54, s157_57, s157_58, s157_61, s157_62, s157_63, s157_66, s157_67, s157_68, s157_69, s157_72, s157_73, s157_74, s157_77, s157_81, s157_82, s157_86, s157_87, s157_90, s157_91, s157_94, s157_95, s157_98, s157_99, s157_101, s157_102, s157_103, s157_106, s157_107, s157_108, s157_112, s157_115, s157_118, s157_119, s157_122, s157_123, s157_129, s157_132, s157_135, s157_136, s157_142, s157_145, s157_146, s157_149, s157_150, s157_153, s157_154, s157_157, s157_158, s157_159, s157_160, s157_163, s157_164, s157_167, s157_168, ldi_0, ldi_s, ldl_0, ldl_s, ldd_0, ldd_s, lda_0, lda_s, st1_0, st1_1, st2_0, st2_1, sti_0, sti_1, stj_0, stj_1, st1_2, sti_2, st2_2, stj_2, st1_3, sti_3, st2_3, stj_3, st1_4, sti_4, st2_4, stj_4, st1_5, sti_5, st2_5, stj_5, st1_6, sti_6, st2_6, stj_6, st1_7, sti_7, st2_7, stj_7, st1_8, sti_8, st2_8, stj_8, st1_9, sti_9, st2_9, stj_9, kil_n, kil_i, kil_r, kil_l, kil_d, gl_0, gl_s, cat_i, cat_r, true_and, ZH_gf]
  refine c157_17r (sp_becomes (v := 0) (ZH_R hT) (by decide)) ?_
  rw [ZH_uR hT]
  simp only [s157_0, s157_1, s157_2, s157_5, s157_6, s157_12, s157_13, s157_16, s157_20, s157_21, s157_23, s157_24, s157_27, s157_30, s157_31, s157_34, s157_35, s157_36, s157_39, s157_42, s157_43, s157_46, s157_47, s157_48, s157_49, s157_50, s157_53, s157_54, s157_57, s157_58, s157_61, s157_62, s157_63, s157_66, s157_67, s157_68, s157_69, s157_72, s157_73, s157_74, s157_77, s157_81, s157_82, s157_86, s157_87, s157_90, s157_91, s157_94, s157_95, s157_98, s157_99, s157_101, s157_102, s157_103, s157_106, s157_107, s157_108, s157_112, s157_115, s157_118, s157_119, s157_122, s157_123, s157_129, s157_132, s157_135, s157_136, s157_142, s157_145, s157_146, s157_149, s157_150, s157_153, s157_154, s157_157, s157_158, s157_159, s157_160, s157_163, s157_164, s157_167, s157_168, ldi_0, ldi_s, ldl_0, ldl_s, ldd_0, ldd_s, lda_0, lda_s, st1_0, st1_1, st2_0, st2_1, sti_0, sti_1, stj_0, stj_1, st1_2, sti_2, st2_2, stj_2, st1_3, sti_3, st2_3, stj_3, st1_4, sti_4, st2_4, stj_4, st1_5, sti_5, st2_5, stj_5, st1_6, sti_6, st2_6, stj_6, st1_7, sti_7, st2_7, stj_7, st1_8, sti_8, st2_8, stj_8, st1_9, sti_9, st2_9, stj_9, kil_n, kil_i, kil_r, kil_l, kil_d, gl_0, gl_s, cat_i, cat_r, true_and]
  have key : ∀ j, j ≤ n + 1 → ∀ R T, DG R (rkV (ptm G n) (fun i => kk - i) j) → ∀ b1 b2 b3 : Option Value, aW (Sp 12) 157 0 0 (RkP h m t t2 ns G th n z (ctL G n) (cofM G n) (rkV (ptm G n) (fun i => kk - i) (n + 1)) (some (.int (if (rkV (ptm G n) (fun i => kk - i) (n + 1)) = 0 then 0 else 1)))) 22 [some (.ref m), some (.int (nI kk)), some (.int (nI j)), b1, b2, b3] [] (ZH h m t t2 ns G th n S' (ctL G n) F' (cofM G n) R T) z (0 + 0) (0 + 0) := by
    refine aUp ?_ fun j hj ih => ?_
    · intro R T hR b1 b2 b3
      have hz := zrN_z hR hV
      rw [s157_22]
      simp only [s157_0, s157_1, s157_2, s157_5, s157_6, s157_12, s157_13, s157_16, s157_20, s157_21, s157_23, s157_24, s157_27, s157_30, s157_31, s157_34, s157_35, s157_36, s157_39, s157_42, s157_43, s157_46, s157_47, s157_48, s157_49, s157_50, s157_53, s157_54, s157_57, s157_58, s157_61, s157_62, s157_63, s157_66, s157_67, s157_68, s157_69, s157_72, s157_73, s157_74, s157_77, s157_81, s157_82, s157_86, s157_87, s157_90, s157_91, s157_94, s157_95, s157_98, s157_99, s157_101, s157_102, s157_103, s157_106, s157_107, s157_108, s157_112, s157_115, s157_118, s157_119, s157_122, s157_123, s157_129, s157_132, s157_135, s157_136, s157_142, s157_145, s157_146, s157_149, s157_150, s157_153, s157_154, s157_157, s157_158, s157_159, s157_160, s157_163, s157_164, s157_167, s157_168, ldi_0, ldi_s, ldl_0, ldl_s, ldd_0, ldd_s, lda_0, lda_s, st1_0, st1_1, st2_0, st2_1, sti_0, sti_1, stj_0, stj_1, st1_2, sti_2, st2_2, stj_2, st1_3, sti_3, st2_3, stj_3, st1_4, sti_4, st2_4, stj_4, st1_5, sti_5, st2_5, stj_5, st1_6, sti_6, st2_6, stj_6, st1_7, sti_7, st2_7, stj_7, st1_8, sti_8, st2_8, stj_8, st1_9, sti_9, st2_9, stj_9, kil_n, kil_i, kil_r, kil_l, kil_d, gl_0, gl_s, cat_i, cat_r, true_and, ZH_gf]
      rw [br_1 (nI_lt (Nat.lt_succ_self n) (by omega))]
      refine c157_139r (sp_isZero (ZH_R hT) (fun i hi => by have := hR.le hi; omega)) ?_
      rw [hz]
      simp only [s157_0, s157_1, s157_2, s157_5, s157_6, s157_12, s157_13, s157_16, s157_20, s157_21, s157_23, s157_24, s157_27, s157_30, s157_31, s157_34, s157_35, s157_36, s157_39, s157_42, s157_43, s157_46, s157_47, s157_48, s157_49, s157_50, s157_53, s157_54, s157_57, s157_58, s157_61, s157_62, s157_63, s157_66, s157_67, s157_68, s157_69, s157_72, s157_73, s157_74, s157_77, s157_81, s157_82, s157_86, s157_87, s157_90, s157_91, s157_94, s157_95, s157_98, s157_99, s157_101, s157_102, s157_103, s157_106, s157_107, s157_108, s157_112, s157_115, s157_118, s157_119, s157_122, s157_123, s157_129, s157_132, s157_135, s157_136, s157_142, s157_145, s157_146, s157_149, s157_150, s157_153, s157_154, s157_157, s157_158, s157_159, s157_160, s157_163, s157_164, s157_167, s157_168, ldi_0, ldi_s, ldl_0, ldl_s, ldd_0, ldd_s, lda_0, lda_s, st1_0, st1_1, st2_0, st2_1, sti_0, sti_1, stj_0, stj_1, st1_2, sti_2, st2_2, stj_2, st1_3, sti_3, st2_3, stj_3, st1_4, sti_4, st2_4, stj_4, st1_5, sti_5, st2_5, stj_5, st1_6, sti_6, st2_6, stj_6, st1_7, sti_7, st2_7, stj_7, st1_8, sti_8, st2_8, stj_8, st1_9, sti_9, st2_9, stj_9, kil_n, kil_i, kil_r, kil_l, kil_d, gl_0, gl_s, cat_i, cat_r, true_and, ZH_gf, bI_0, ne2]
      refine ⟨fun h1 => ?_, fun h1 => ?_⟩
      · rw [decide_eq_false_iff_not] at h1
        rw [br_1 (nI_pos' hk)]
        exact ⟨by omega, by omega, by rw [if_neg h1], rfl, S', F', R, T, hF', hR, rfl⟩
      · rw [Bool.not_eq_false, decide_eq_true_eq] at h1
        exact ⟨by omega, by omega, by rw [if_pos h1], rfl, S', F', R, T, hF', hR, rfl⟩
    · intro R T hR b1 b2 b3
      have hj10 : j < 10 := by omega
      rw [s157_22]
      simp only [s157_0, s157_1, s157_2, s157_5, s157_6, s157_12, s157_13, s157_16, s157_20, s157_21, s157_23, s157_24, s157_27, s157_30, s157_31, s157_34, s157_35, s157_36, s157_39, s157_42, s157_43, s157_46, s157_47, s157_48, s157_49, s157_50, s157_53, s157_54, s157_57, s157_58, s157_61, s157_62, s157_63, s157_66, s157_67, s157_68, s157_69, s157_72, s157_73, s157_74, s157_77, s157_81, s157_82, s157_86, s157_87, s157_90, s157_91, s157_94, s157_95, s157_98, s157_99, s157_101, s157_102, s157_103, s157_106, s157_107, s157_108, s157_112, s157_115, s157_118, s157_119, s157_122, s157_123, s157_129, s157_132, s157_135, s157_136, s157_142, s157_145, s157_146, s157_149, s157_150, s157_153, s157_154, s157_157, s157_158, s157_159, s157_160, s157_163, s157_164, s157_167, s157_168, ldi_0, ldi_s, ldl_0, ldl_s, ldd_0, ldd_s, lda_0, lda_s, st1_0, st1_1, st2_0, st2_1, sti_0, sti_1, stj_0, stj_1, st1_2, sti_2, st2_2, stj_2, st1_3, sti_3, st2_3, stj_3, st1_4, sti_4, st2_4, stj_4, st1_5, sti_5, st2_5, stj_5, st1_6, sti_6, st2_6, stj_6, st1_7, sti_7, st2_7, stj_7, st1_8, sti_8, st2_8, stj_8, st1_9, sti_9, st2_9, stj_9, kil_n, kil_i, kil_r, kil_l, kil_d, gl_0, gl_s, cat_i, cat_r, true_and, ZH_gf, ald_la (ZH_D hT) hj10, ald_la (ZH_C hT) hj10]
      rw [br_0 (nI_nlt (show j ≤ n by omega) (by omega))]
      have eV : rkV (ptm G n) (fun i => kk - i) (j + 1) = rkV (ptm G n) (fun i => kk - i) j + (ptm G n) j * prf (fun i => kk - i) j := rfl
      rw [eV] at ih
      have body : j ≤ kk → ∀ T2, DG T2 ((ptm G n) j) → ∀ b3 : Option Value, aW (Sp 12) 157 0 0 (RkP h m t t2 ns G th n z (ctL G n) (cofM G n) (rkV (ptm G n) (fun i => kk - i) (n + 1)) (some (.int (if (rkV (ptm G n) (fun i => kk - i) (n + 1)) = 0 then 0 else 1)))) 84 [some (.ref m), some (.int (nI kk)), some (.int (nI j)), some (.long (cofM G n j)), none, some (.int (nI 0))] [] (ZH h m t t2 ns G th n S' (ctL G n) F' (cofM G n) R T2) z (0 + 0) (0 + 0) := by
        intro hjk T2 hT2 b3
        have inn : ∀ i, i ≤ j → ∀ T3, DG T3 ((ptm G n) j * prf (fun i => kk - i) i) → aW (Sp 12) 157 0 0 (RkP h m t t2 ns G th n z (ctL G n) (cofM G n) (rkV (ptm G n) (fun i => kk - i) (n + 1)) (some (.int (if (rkV (ptm G n) (fun i => kk - i) (n + 1)) = 0 then 0 else 1)))) 84 [some (.ref m), some (.int (nI kk)), some (.int (nI j)), some (.long (cofM G n j)), none, some (.int (nI i))] [] (ZH h m t t2 ns G th n S' (ctL G n) F' (cofM G n) R T3) z (0 + 0) (0 + 0) := by
          refine aUp ?_ fun i hi ihi => ?_
          · intro T3 hT3
            rw [s157_84]
            simp only [s157_0, s157_1, s157_2, s157_5, s157_6, s157_12, s157_13, s157_16, s157_20, s157_21, s157_23, s157_24, s157_27, s157_30, s157_31, s157_34, s157_35, s157_36, s157_39, s157_42, s157_43, s157_46, s157_47, s157_48, s157_49, s157_50, s157_53, s157_54, s157_57, s157_58, s157_61, s157_62, s157_63, s157_66, s157_67, s157_68, s157_69, s157_72, s157_73, s157_74, s157_77, s157_81, s157_82, s157_86, s157_87, s157_90, s157_91, s157_94, s157_95, s157_98, s157_99, s157_101, s157_102, s157_103, s157_106, s157_107, s157_108, s157_112, s157_115, s157_118, s157_119, s157_122, s157_123, s157_129, s157_132, s157_135, s157_136, s157_142, s157_145, s157_146, s157_149, s157_150, s157_153, s157_154, s157_157, s157_158, s157_159, s157_160, s157_163, s157_164, s157_167, s157_168, ldi_0, ldi_s, ldl_0, ldl_s, ldd_0, ldd_s, lda_0, lda_s, st1_0, st1_1, st2_0, st2_1, sti_0, sti_1, stj_0, stj_1, st1_2, sti_2, st2_2, stj_2, st1_3, sti_3, st2_3, stj_3, st1_4, sti_4, st2_4, stj_4, st1_5, sti_5, st2_5, stj_5, st1_6, sti_6, st2_6, stj_6, st1_7, sti_7, st2_7, stj_7, st1_8, sti_8, st2_8, stj_8, st1_9, sti_9, st2_9, stj_9, kil_n, kil_i, kil_r, kil_l, kil_d, gl_0, gl_s, cat_i, cat_r, true_and, ZH_gf]
            rw [br_1 (nI_le (Nat.le_refl _) (by omega))]
            refine c157_126r (sp_mplus (ZH_R hT) (ZH_T hT) (by omega) (fun i hi => hR.le hi) (fun i hi => hT3.le hi)) ?_
            rw [ZH_uR hT]
            simp only [s157_0, s157_1, s157_2, s157_5, s157_6, s157_12, s157_13, s157_16, s157_20, s157_21, s157_23, s157_24, s157_27, s157_30, s157_31, s157_34, s157_35, s157_36, s157_39, s157_42, s157_43, s157_46, s157_47, s157_48, s157_49, s157_50, s157_53, s157_54, s157_57, s157_58, s157_61, s157_62, s157_63, s157_66, s157_67, s157_68, s157_69, s157_72, s157_73, s157_74, s157_77, s157_81, s157_82, s157_86, s157_87, s157_90, s157_91, s157_94, s157_95, s157_98, s157_99, s157_101, s157_102, s157_103, s157_106, s157_107, s157_108, s157_112, s157_115, s157_118, s157_119, s157_122, s157_123, s157_129, s157_132, s157_135, s157_136, s157_142, s157_145, s157_146, s157_149, s157_150, s157_153, s157_154, s157_157, s157_158, s157_159, s157_160, s157_163, s157_164, s157_167, s157_168, ldi_0, ldi_s, ldl_0, ldl_s, ldd_0, ldd_s, lda_0, lda_s, st1_0, st1_1, st2_0, st2_1, sti_0, sti_1, stj_0, stj_1, st1_2, sti_2, st2_2, stj_2, st1_3, sti_3, st2_3, stj_3, st1_4, sti_4, st2_4, stj_4, st1_5, sti_5, st2_5, stj_5, st1_6, sti_6, st2_6, stj_6, st1_7, sti_7, st2_7, stj_7, st1_8, sti_8, st2_8, stj_8, st1_9, sti_9, st2_9, stj_9, kil_n, kil_i, kil_r, kil_l, kil_d, gl_0, gl_s, cat_i, cat_r, true_and, nI_1]
            exact ih _ _ (dg_pl hR hT3) _ _ _
          · intro T3 hT3
            rw [s157_84]
            simp only [s157_0, s157_1, s157_2, s157_5, s157_6, s157_12, s157_13, s157_16, s157_20, s157_21, s157_23, s157_24, s157_27, s157_30, s157_31, s157_34, s157_35, s157_36, s157_39, s157_42, s157_43, s157_46, s157_47, s157_48, s157_49, s157_50, s157_53, s157_54, s157_57, s157_58, s157_61, s157_62, s157_63, s157_66, s157_67, s157_68, s157_69, s157_72, s157_73, s157_74, s157_77, s157_81, s157_82, s157_86, s157_87, s157_90, s157_91, s157_94, s157_95, s157_98, s157_99, s157_101, s157_102, s157_103, s157_106, s157_107, s157_108, s157_112, s157_115, s157_118, s157_119, s157_122, s157_123, s157_129, s157_132, s157_135, s157_136, s157_142, s157_145, s157_146, s157_149, s157_150, s157_153, s157_154, s157_157, s157_158, s157_159, s157_160, s157_163, s157_164, s157_167, s157_168, ldi_0, ldi_s, ldl_0, ldl_s, ldd_0, ldd_s, lda_0, lda_s, st1_0, st1_1, st2_0, st2_1, sti_0, sti_1, stj_0, stj_1, st1_2, sti_2, st2_2, stj_2, st1_3, sti_3, st2_3, stj_3, st1_4, sti_4, st2_4, stj_4, st1_5, sti_5, st2_5, stj_5, st1_6, sti_6, st2_6, stj_6, st1_7, sti_7, st2_7, stj_7, st1_8, sti_8, st2_8, stj_8, st1_9, sti_9, st2_9, stj_9, kil_n, kil_i, kil_r, kil_l, kil_d, gl_0, gl_s, cat_i, cat_r, true_and, ZH_gf]
            rw [br_0 (nI_ge hi (by omega)), br_0 (nI_pos hk), pk_sub (by omega), nI_l (by omega)]
            refine c157_109r (sp_mtimes (ZH_T hT) (fun i hi => hT3.le hi) (by omega)) ?_
            rw [ZH_uT hT]
            simp only [s157_0, s157_1, s157_2, s157_5, s157_6, s157_12, s157_13, s157_16, s157_20, s157_21, s157_23, s157_24, s157_27, s157_30, s157_31, s157_34, s157_35, s157_36, s157_39, s157_42, s157_43, s157_46, s157_47, s157_48, s157_49, s157_50, s157_53, s157_54, s157_57, s157_58, s157_61, s157_62, s157_63, s157_66, s157_67, s157_68, s157_69, s157_72, s157_73, s157_74, s157_77, s157_81, s157_82, s157_86, s157_87, s157_90, s157_91, s157_94, s157_95, s157_98, s157_99, s157_101, s157_102, s157_103, s157_106, s157_107, s157_108, s157_112, s157_115, s157_118, s157_119, s157_122, s157_123, s157_129, s157_132, s157_135, s157_136, s157_142, s157_145, s157_146, s157_149, s157_150, s157_153, s157_154, s157_157, s157_158, s157_159, s157_160, s157_163, s157_164, s157_167, s157_168, ldi_0, ldi_s, ldl_0, ldl_s, ldd_0, ldd_s, lda_0, lda_s, st1_0, st1_1, st2_0, st2_1, sti_0, sti_1, stj_0, stj_1, st1_2, sti_2, st2_2, stj_2, st1_3, sti_3, st2_3, stj_3, st1_4, sti_4, st2_4, stj_4, st1_5, sti_5, st2_5, stj_5, st1_6, sti_6, st2_6, stj_6, st1_7, sti_7, st2_7, stj_7, st1_8, sti_8, st2_8, stj_8, st1_9, sti_9, st2_9, stj_9, kil_n, kil_i, kil_r, kil_l, kil_d, gl_0, gl_s, cat_i, cat_r, true_and, nI_1]
            refine ihi _ ?_
            have e := dg_tm (b := (fun i => kk - i) i) hT3
            rw [Nat.mul_assoc] at e
            exact e
        exact inn 0 (by omega) T2 (by rw [show prf (fun i => kk - i) 0 = 1 from rfl, Nat.mul_one]; exact hT2)
      rw [br_0 (nI_pos hk), nI_leI (by omega) hk]
      refine ⟨fun h1 => ?_, fun h1 => ?_⟩
      · rw [br_0 (nI_pos hk), ctL_e]
        have hp := ptm_lt (G := G) hn j
        refine c157_78r (sp_becomes (ZH_T hT) (by omega)) ?_
        rw [ZH_uT hT]
        simp only [s157_0, s157_1, s157_2, s157_5, s157_6, s157_12, s157_13, s157_16, s157_20, s157_21, s157_23, s157_24, s157_27, s157_30, s157_31, s157_34, s157_35, s157_36, s157_39, s157_42, s157_43, s157_46, s157_47, s157_48, s157_49, s157_50, s157_53, s157_54, s157_57, s157_58, s157_61, s157_62, s157_63, s157_66, s157_67, s157_68, s157_69, s157_72, s157_73, s157_74, s157_77, s157_81, s157_82, s157_86, s157_87, s157_90, s157_91, s157_94, s157_95, s157_98, s157_99, s157_101, s157_102, s157_103, s157_106, s157_107, s157_108, s157_112, s157_115, s157_118, s157_119, s157_122, s157_123, s157_129, s157_132, s157_135, s157_136, s157_142, s157_145, s157_146, s157_149, s157_150, s157_153, s157_154, s157_157, s157_158, s157_159, s157_160, s157_163, s157_164, s157_167, s157_168, ldi_0, ldi_s, ldl_0, ldl_s, ldd_0, ldd_s, lda_0, lda_s, st1_0, st1_1, st2_0, st2_1, sti_0, sti_1, stj_0, stj_1, st1_2, sti_2, st2_2, stj_2, st1_3, sti_3, st2_3, stj_3, st1_4, sti_4, st2_4, stj_4, st1_5, sti_5, st2_5, stj_5, st1_6, sti_6, st2_6, stj_6, st1_7, sti_7, st2_7, stj_7, st1_8, sti_8, st2_8, stj_8, st1_9, sti_9, st2_9, stj_9, kil_n, kil_i, kil_r, kil_l, kil_d, gl_0, gl_s, cat_i, cat_r, true_and]
        exact body h1 _ dg_be none
      · rw [prf_z (f := (fun i => kk - i)) (i := kk) (Nat.sub_self kk) (by omega), Nat.mul_zero, Nat.add_zero] at ih
        simp only [s157_0, s157_1, s157_2, s157_5, s157_6, s157_12, s157_13, s157_16, s157_20, s157_21, s157_23, s157_24, s157_27, s157_30, s157_31, s157_34, s157_35, s157_36, s157_39, s157_42, s157_43, s157_46, s157_47, s157_48, s157_49, s157_50, s157_53, s157_54, s157_57, s157_58, s157_61, s157_62, s157_63, s157_66, s157_67, s157_68, s157_69, s157_72, s157_73, s157_74, s157_77, s157_81, s157_82, s157_86, s157_87, s157_90, s157_91, s157_94, s157_95, s157_98, s157_99, s157_101, s157_102, s157_103, s157_106, s157_107, s157_108, s157_112, s157_115, s157_118, s157_119, s157_122, s157_123, s157_129, s157_132, s157_135, s157_136, s157_142, s157_145, s157_146, s157_149, s157_150, s157_153, s157_154, s157_157, s157_158, s157_159, s157_160, s157_163, s157_164, s157_167, s157_168, ldi_0, ldi_s, ldl_0, ldl_s, ldd_0, ldd_s, lda_0, lda_s, st1_0, st1_1, st2_0, st2_1, sti_0, sti_1, stj_0, stj_1, st1_2, sti_2, st2_2, stj_2, st1_3, sti_3, st2_3, stj_3, st1_4, sti_4, st2_4, stj_4, st1_5, sti_5, st2_5, stj_5, st1_6, sti_6, st2_6, stj_6, st1_7, sti_7, st2_7, stj_7, st1_8, sti_8, st2_8, stj_8, st1_9, sti_9, st2_9, stj_9, kil_n, kil_i, kil_r, kil_l, kil_d, gl_0, gl_s, cat_i, cat_r, true_and, nI_1]
        exact ih R T hR _ _ _
  exact key 0 (by omega) _ _ dg_be none none none
theorem sp_reckons_neg (hB : MB h m t t2 SG) (hA : ScA h m) (hn : n ≤ 9) {k : Int32} {kk : Nat} (hk : k < 0) (hkk : -k.toInt64 = lN kk) (hkb : kk < 2 ^ 40) {cb : Nat → Nat} (hcb : ∀ j, j ≤ n → absL (cofM G n j) = lN (cb j) ∧ cb j < 2 ^ 63) (hV : (rkV cb (fun _ => kk) (n + 1)) < 10 ^ 100) {R0 T0 : Nat → Nat} (e1 : h (m + 27) = some (na 100 R0)) (e2 : h (m + 28) = some (na 100 T0)) : Sp 13 157 [.ref m, .int k] (NF h m t t2 ns G th n) z 0 0 (RkP h m t t2 ns G th n z (ctL G n) (cofM G n) (rkV cb (fun _ => kk) (n + 1)) (some (.int (if (rkV cb (fun _ => kk) (n + 1)) = 0 then 0 else (if n % 2 = 1 then -1 else 1))))) := by
  have hT := hB.1
  refine Sp_in (al := [some (.ref m), some (.int k), none, none, none, none]) ?_
  simp only [s157_0, s157_1, s157_2, s157_5, s157_6, s157_12, s157_13, s157_16, s157_20, s157_21, s157_23, s157_24, s157_27, s157_30, s157_31, s157_34, s157_35, s157_36, s157_39, s157_42, s157_43, s157_46, s157_47, s157_48, s157_49, s157_50, s157_53, s157_54, s157_57, s157_58, s157_61, s157_62, s157_63, s157_66, s157_67, s157_68, s157_69, s157_72, s157_73, s157_74, s157_77, s157_81, s157_82, s157_86, s157_87, s157_90, s157_91, s157_94, s157_95, s157_98, s157_99, s157_101, s157_102, s157_103, s157_106, s157_107, s157_108, s157_112, s157_115, s157_118, s157_119, s157_122, s157_123, s157_129, s157_132, s157_135, s157_136, s157_142, s157_145, s157_146, s157_149, s157_150, s157_153, s157_154, s157_157, s157_158, s157_159, s157_160, s157_163, s157_164, s157_167, s157_168, ldi_0, ldi_s, ldl_0, ldl_s, ldd_0, ldd_s, lda_0, lda_s, st1_0, st1_1, st2_0, st2_1, sti_0, sti_1, stj_0, stj_1, st1_2, sti_2, st2_2, stj_2, st1_3, sti_3, st2_3, stj_3, st1_4, sti_4, st2_4, stj_4, st1_5, sti_5, st2_5, stj_5, st1_6, sti_6, st2_6, stj_6, st1_7, sti_7, st2_7, stj_7, st1_8, sti_8, st2_8, stj_8, st1_9, sti_9, st2_9, stj_9, kil_n, kil_i, kil_r, kil_l, kil_d, gl_0, gl_s, cat_i, cat_r, true_and, NF_gf]
  refine c157_9 NF_m (sp_expands0 hB hA hn) (by omega) (by omega) ?_
  rintro _ _ z ⟨rfl, rfl, S', F', hF', rfl⟩
  show aW (Sp 12) 157 0 0 _ 12 _ _ _ _ (0 + 0) (0 + 0)
  rw [ZH_e e1 e2]
  simp only [s157_0, s157_1, s157_2, s157_5, s157_6, s157_12, s157_13, s157_16, s157_20, s157_21, s157_23, s157_24, s157_27, s157_30, s157_31, s157_34, s157_35, s157_36, s157_39, s157_42, s157_43, s157_46, s157_47, s157_48, s157_49, s157_50, s157_53, s157_54, s157_57, s157_58, s157_61, s157_62, s157_63, s157_66, s157_67, s157_68, s157_69, s157_72, s157_73, s157_74, s157_77, s157_81, s157_82, s157_86, s157_87, s157_90, s157_91, s157_94, s157_95, s157_98, s157_99, s157_101, s157_102, s157_103, s157_106, s157_107, s157_108, s157_112, s157_115, s157_118, s157_119, s157_122, s157_123, s157_129, s157_132, s157_135, s157_136, s157_142, s157_145, s157_146, s157_149, s157_150, s157_153, s157_154, s157_157, s157_158, s157_159, s157_160, s157_163, s157_164, s157_167, s157_168, ldi_0, ldi_s, ldl_0, ldl_s, ldd_0, ldd_s, lda_0, lda_s, st1_0, st1_1, st2_0, st2_1, sti_0, sti_1, stj_0, stj_1, st1_2, sti_2, st2_2, stj_2, st1_3, sti_3, st2_3, stj_3, st1_4, sti_4, st2_4, stj_4, st1_5, sti_5, st2_5, stj_5, st1_6, sti_6, st2_6, stj_6, st1_7, sti_7, st2_7, stj_7, st1_8, sti_8, st2_8, stj_8, st1_9, sti_9, st2_9, stj_9, kil_n, kil_i, kil_r, kil_l, kil_d, gl_0, gl_s, cat_i, cat_r, true_and, ZH_gf]
  refine c157_17r (sp_becomes (v := 0) (ZH_R hT) (by decide)) ?_
  rw [ZH_uR hT]
  simp only [s157_0, s157_1, s157_2, s157_5, s157_6, s157_12, s157_13, s157_16, s157_20, s157_21, s157_23, s157_24, s157_27, s157_30, s157_31, s157_34, s157_35, s157_36, s157_39, s157_42, s157_43, s157_46, s157_47, s157_48, s157_49, s157_50, s157_53, s157_54, s157_57, s157_58, s157_61, s157_62, s157_63, s157_66, s157_67, s157_68, s157_69, s157_72, s157_73, s157_74, s157_77, s157_81, s157_82, s157_86, s157_87, s157_90, s157_91, s157_94, s157_95, s157_98, s157_99, s157_101, s157_102, s157_103, s157_106, s157_107, s157_108, s157_112, s157_115, s157_118, s157_119, s157_122, s157_123, s157_129, s157_132, s157_135, s157_136, s157_142, s157_145, s157_146, s157_149, s157_150, s157_153, s157_154, s157_157, s157_158, s157_159, s157_160, s157_163, s157_164, s157_167, s157_168, ldi_0, ldi_s, ldl_0, ldl_s, ldd_0, ldd_s, lda_0, lda_s, st1_0, st1_1, st2_0, st2_1, sti_0, sti_1, stj_0, stj_1, st1_2, sti_2, st2_2, stj_2, st1_3, sti_3, st2_3, stj_3, st1_4, sti_4, st2_4, stj_4, st1_5, sti_5, st2_5, stj_5, st1_6, sti_6, st2_6, stj_6, st1_7, sti_7, st2_7, stj_7, st1_8, sti_8, st2_8, stj_8, st1_9, sti_9, st2_9, stj_9, kil_n, kil_i, kil_r, kil_l, kil_d, gl_0, gl_s, cat_i, cat_r, true_and]
  have key : ∀ j, j ≤ n + 1 → ∀ R T, DG R (rkV cb (fun _ => kk) j) → ∀ b1 b2 b3 : Option Value, aW (Sp 12) 157 0 0 (RkP h m t t2 ns G th n z (ctL G n) (cofM G n) (rkV cb (fun _ => kk) (n + 1)) (some (.int (if (rkV cb (fun _ => kk) (n + 1)) = 0 then 0 else (if n % 2 = 1 then -1 else 1))))) 22 [some (.ref m), some (.int k), some (.int (nI j)), b1, b2, b3] [] (ZH h m t t2 ns G th n S' (ctL G n) F' (cofM G n) R T) z (0 + 0) (0 + 0) := by
    refine aUp ?_ fun j hj ih => ?_
    · intro R T hR b1 b2 b3
      have hz := zrN_z hR hV
      rw [s157_22]
      simp only [s157_0, s157_1, s157_2, s157_5, s157_6, s157_12, s157_13, s157_16, s157_20, s157_21, s157_23, s157_24, s157_27, s157_30, s157_31, s157_34, s157_35, s157_36, s157_39, s157_42, s157_43, s157_46, s157_47, s157_48, s157_49, s157_50, s157_53, s157_54, s157_57, s157_58, s157_61, s157_62, s157_63, s157_66, s157_67, s157_68, s157_69, s157_72, s157_73, s157_74, s157_77, s157_81, s157_82, s157_86, s157_87, s157_90, s157_91, s157_94, s157_95, s157_98, s157_99, s157_101, s157_102, s157_103, s157_106, s157_107, s157_108, s157_112, s157_115, s157_118, s157_119, s157_122, s157_123, s157_129, s157_132, s157_135, s157_136, s157_142, s157_145, s157_146, s157_149, s157_150, s157_153, s157_154, s157_157, s157_158, s157_159, s157_160, s157_163, s157_164, s157_167, s157_168, ldi_0, ldi_s, ldl_0, ldl_s, ldd_0, ldd_s, lda_0, lda_s, st1_0, st1_1, st2_0, st2_1, sti_0, sti_1, stj_0, stj_1, st1_2, sti_2, st2_2, stj_2, st1_3, sti_3, st2_3, stj_3, st1_4, sti_4, st2_4, stj_4, st1_5, sti_5, st2_5, stj_5, st1_6, sti_6, st2_6, stj_6, st1_7, sti_7, st2_7, stj_7, st1_8, sti_8, st2_8, stj_8, st1_9, sti_9, st2_9, stj_9, kil_n, kil_i, kil_r, kil_l, kil_d, gl_0, gl_s, cat_i, cat_r, true_and, ZH_gf]
      rw [br_1 (nI_lt (Nat.lt_succ_self n) (by omega))]
      refine c157_139r (sp_isZero (ZH_R hT) (fun i hi => by have := hR.le hi; omega)) ?_
      rw [hz]
      simp only [s157_0, s157_1, s157_2, s157_5, s157_6, s157_12, s157_13, s157_16, s157_20, s157_21, s157_23, s157_24, s157_27, s157_30, s157_31, s157_34, s157_35, s157_36, s157_39, s157_42, s157_43, s157_46, s157_47, s157_48, s157_49, s157_50, s157_53, s157_54, s157_57, s157_58, s157_61, s157_62, s157_63, s157_66, s157_67, s157_68, s157_69, s157_72, s157_73, s157_74, s157_77, s157_81, s157_82, s157_86, s157_87, s157_90, s157_91, s157_94, s157_95, s157_98, s157_99, s157_101, s157_102, s157_103, s157_106, s157_107, s157_108, s157_112, s157_115, s157_118, s157_119, s157_122, s157_123, s157_129, s157_132, s157_135, s157_136, s157_142, s157_145, s157_146, s157_149, s157_150, s157_153, s157_154, s157_157, s157_158, s157_159, s157_160, s157_163, s157_164, s157_167, s157_168, ldi_0, ldi_s, ldl_0, ldl_s, ldd_0, ldd_s, lda_0, lda_s, st1_0, st1_1, st2_0, st2_1, sti_0, sti_1, stj_0, stj_1, st1_2, sti_2, st2_2, stj_2, st1_3, sti_3, st2_3, stj_3, st1_4, sti_4, st2_4, stj_4, st1_5, sti_5, st2_5, stj_5, st1_6, sti_6, st2_6, stj_6, st1_7, sti_7, st2_7, stj_7, st1_8, sti_8, st2_8, stj_8, st1_9, sti_9, st2_9, stj_9, kil_n, kil_i, kil_r, kil_l, kil_d, gl_0, gl_s, cat_i, cat_r, true_and, ZH_gf, bI_0, ne2]
      refine ⟨fun h1 => ?_, fun h1 => ?_⟩
      · rw [decide_eq_false_iff_not] at h1
        rw [br_0 (Int32.not_le.mpr hk), nI_lit2, pk_rem (by omega) (by decide) (by decide), nI_lit1, nI_eq (by omega) (by decide)]
        refine ⟨fun h2 => ?_, fun h2 => ?_⟩
        · exact ⟨by omega, by omega, by rw [if_neg h1, if_neg h2], rfl, S', F', R, T, hF', hR, rfl⟩
        · exact ⟨by omega, by omega, by rw [if_neg h1, if_pos (Decidable.not_not.mp h2)], rfl, S', F', R, T, hF', hR, rfl⟩
      · rw [Bool.not_eq_false, decide_eq_true_eq] at h1
        exact ⟨by omega, by omega, by rw [if_pos h1], rfl, S', F', R, T, hF', hR, rfl⟩
    · intro R T hR b1 b2 b3
      have hj10 : j < 10 := by omega
      rw [s157_22]
      simp only [s157_0, s157_1, s157_2, s157_5, s157_6, s157_12, s157_13, s157_16, s157_20, s157_21, s157_23, s157_24, s157_27, s157_30, s157_31, s157_34, s157_35, s157_36, s157_39, s157_42, s157_43, s157_46, s157_47, s157_48, s157_49, s157_50, s157_53, s157_54, s157_57, s157_58, s157_61, s157_62, s157_63, s157_66, s157_67, s157_68, s157_69, s157_72, s157_73, s157_74, s157_77, s157_81, s157_82, s157_86, s157_87, s157_90, s157_91, s157_94, s157_95, s157_98, s157_99, s157_101, s157_102, s157_103, s157_106, s157_107, s157_108, s157_112, s157_115, s157_118, s157_119, s157_122, s157_123, s157_129, s157_132, s157_135, s157_136, s157_142, s157_145, s157_146, s157_149, s157_150, s157_153, s157_154, s157_157, s157_158, s157_159, s157_160, s157_163, s157_164, s157_167, s157_168, ldi_0, ldi_s, ldl_0, ldl_s, ldd_0, ldd_s, lda_0, lda_s, st1_0, st1_1, st2_0, st2_1, sti_0, sti_1, stj_0, stj_1, st1_2, sti_2, st2_2, stj_2, st1_3, sti_3, st2_3, stj_3, st1_4, sti_4, st2_4, stj_4, st1_5, sti_5, st2_5, stj_5, st1_6, sti_6, st2_6, stj_6, st1_7, sti_7, st2_7, stj_7, st1_8, sti_8, st2_8, stj_8, st1_9, sti_9, st2_9, stj_9, kil_n, kil_i, kil_r, kil_l, kil_d, gl_0, gl_s, cat_i, cat_r, true_and, ZH_gf, ald_la (ZH_D hT) hj10, ald_la (ZH_C hT) hj10]
      rw [br_0 (nI_nlt (show j ≤ n by omega) (by omega))]
      have eV : rkV cb (fun _ => kk) (j + 1) = rkV cb (fun _ => kk) j + cb j * prf (fun _ => kk) j := rfl
      rw [eV] at ih
      have body : True → ∀ T2, DG T2 (cb j) → ∀ b3 : Option Value, aW (Sp 12) 157 0 0 (RkP h m t t2 ns G th n z (ctL G n) (cofM G n) (rkV cb (fun _ => kk) (n + 1)) (some (.int (if (rkV cb (fun _ => kk) (n + 1)) = 0 then 0 else (if n % 2 = 1 then -1 else 1))))) 84 [some (.ref m), some (.int k), some (.int (nI j)), some (.long (cofM G n j)), none, some (.int (nI 0))] [] (ZH h m t t2 ns G th n S' (ctL G n) F' (cofM G n) R T2) z (0 + 0) (0 + 0) := by
        intro hjk T2 hT2 b3
        have inn : ∀ i, i ≤ j → ∀ T3, DG T3 (cb j * prf (fun _ => kk) i) → aW (Sp 12) 157 0 0 (RkP h m t t2 ns G th n z (ctL G n) (cofM G n) (rkV cb (fun _ => kk) (n + 1)) (some (.int (if (rkV cb (fun _ => kk) (n + 1)) = 0 then 0 else (if n % 2 = 1 then -1 else 1))))) 84 [some (.ref m), some (.int k), some (.int (nI j)), some (.long (cofM G n j)), none, some (.int (nI i))] [] (ZH h m t t2 ns G th n S' (ctL G n) F' (cofM G n) R T3) z (0 + 0) (0 + 0) := by
          refine aUp ?_ fun i hi ihi => ?_
          · intro T3 hT3
            rw [s157_84]
            simp only [s157_0, s157_1, s157_2, s157_5, s157_6, s157_12, s157_13, s157_16, s157_20, s157_21, s157_23, s157_24, s157_27, s157_30, s157_31, s157_34, s157_35, s157_36, s157_39, s157_42, s157_43, s157_46, s157_47, s157_48, s157_49, s157_50, s157_53, s157_54, s157_57, s157_58, s157_61, s157_62, s157_63, s157_66, s157_67, s157_68, s157_69, s157_72, s157_73, s157_74, s157_77, s157_81, s157_82, s157_86, s157_87, s157_90, s157_91, s157_94, s157_95, s157_98, s157_99, s157_101, s157_102, s157_103, s157_106, s157_107, s157_108, s157_112, s157_115, s157_118, s157_119, s157_122, s157_123, s157_129, s157_132, s157_135, s157_136, s157_142, s157_145, s157_146, s157_149, s157_150, s157_153, s157_154, s157_157, s157_158, s157_159, s157_160, s157_163, s157_164, s157_167, s157_168, ldi_0, ldi_s, ldl_0, ldl_s, ldd_0, ldd_s, lda_0, lda_s, st1_0, st1_1, st2_0, st2_1, sti_0, sti_1, stj_0, stj_1, st1_2, sti_2, st2_2, stj_2, st1_3, sti_3, st2_3, stj_3, st1_4, sti_4, st2_4, stj_4, st1_5, sti_5, st2_5, stj_5, st1_6, sti_6, st2_6, stj_6, st1_7, sti_7, st2_7, stj_7, st1_8, sti_8, st2_8, stj_8, st1_9, sti_9, st2_9, stj_9, kil_n, kil_i, kil_r, kil_l, kil_d, gl_0, gl_s, cat_i, cat_r, true_and, ZH_gf]
            rw [br_1 (nI_le (Nat.le_refl _) (by omega))]
            refine c157_126r (sp_mplus (ZH_R hT) (ZH_T hT) (by omega) (fun i hi => hR.le hi) (fun i hi => hT3.le hi)) ?_
            rw [ZH_uR hT]
            simp only [s157_0, s157_1, s157_2, s157_5, s157_6, s157_12, s157_13, s157_16, s157_20, s157_21, s157_23, s157_24, s157_27, s157_30, s157_31, s157_34, s157_35, s157_36, s157_39, s157_42, s157_43, s157_46, s157_47, s157_48, s157_49, s157_50, s157_53, s157_54, s157_57, s157_58, s157_61, s157_62, s157_63, s157_66, s157_67, s157_68, s157_69, s157_72, s157_73, s157_74, s157_77, s157_81, s157_82, s157_86, s157_87, s157_90, s157_91, s157_94, s157_95, s157_98, s157_99, s157_101, s157_102, s157_103, s157_106, s157_107, s157_108, s157_112, s157_115, s157_118, s157_119, s157_122, s157_123, s157_129, s157_132, s157_135, s157_136, s157_142, s157_145, s157_146, s157_149, s157_150, s157_153, s157_154, s157_157, s157_158, s157_159, s157_160, s157_163, s157_164, s157_167, s157_168, ldi_0, ldi_s, ldl_0, ldl_s, ldd_0, ldd_s, lda_0, lda_s, st1_0, st1_1, st2_0, st2_1, sti_0, sti_1, stj_0, stj_1, st1_2, sti_2, st2_2, stj_2, st1_3, sti_3, st2_3, stj_3, st1_4, sti_4, st2_4, stj_4, st1_5, sti_5, st2_5, stj_5, st1_6, sti_6, st2_6, stj_6, st1_7, sti_7, st2_7, stj_7, st1_8, sti_8, st2_8, stj_8, st1_9, sti_9, st2_9, stj_9, kil_n, kil_i, kil_r, kil_l, kil_d, gl_0, gl_s, cat_i, cat_r, true_and, nI_1]
            exact ih _ _ (dg_pl hR hT3) _ _ _
          · intro T3 hT3
            rw [s157_84]
            simp only [s157_0, s157_1, s157_2, s157_5, s157_6, s157_12, s157_13, s157_16, s157_20, s157_21, s157_23, s157_24, s157_27, s157_30, s157_31, s157_34, s157_35, s157_36, s157_39, s157_42, s157_43, s157_46, s157_47, s157_48, s157_49, s157_50, s157_53, s157_54, s157_57, s157_58, s157_61, s157_62, s157_63, s157_66, s157_67, s157_68, s157_69, s157_72, s157_73, s157_74, s157_77, s157_81, s157_82, s157_86, s157_87, s157_90, s157_91, s157_94, s157_95, s157_98, s157_99, s157_101, s157_102, s157_103, s157_106, s157_107, s157_108, s157_112, s157_115, s157_118, s157_119, s157_122, s157_123, s157_129, s157_132, s157_135, s157_136, s157_142, s157_145, s157_146, s157_149, s157_150, s157_153, s157_154, s157_157, s157_158, s157_159, s157_160, s157_163, s157_164, s157_167, s157_168, ldi_0, ldi_s, ldl_0, ldl_s, ldd_0, ldd_s, lda_0, lda_s, st1_0, st1_1, st2_0, st2_1, sti_0, sti_1, stj_0, stj_1, st1_2, sti_2, st2_2, stj_2, st1_3, sti_3, st2_3, stj_3, st1_4, sti_4, st2_4, stj_4, st1_5, sti_5, st2_5, stj_5, st1_6, sti_6, st2_6, stj_6, st1_7, sti_7, st2_7, stj_7, st1_8, sti_8, st2_8, stj_8, st1_9, sti_9, st2_9, stj_9, kil_n, kil_i, kil_r, kil_l, kil_d, gl_0, gl_s, cat_i, cat_r, true_and, ZH_gf]
            rw [br_0 (nI_ge hi (by omega)), br_1 hk, hkk]
            refine c157_109r (sp_mtimes (ZH_T hT) (fun i hi => hT3.le hi) hkb) ?_
            rw [ZH_uT hT]
            simp only [s157_0, s157_1, s157_2, s157_5, s157_6, s157_12, s157_13, s157_16, s157_20, s157_21, s157_23, s157_24, s157_27, s157_30, s157_31, s157_34, s157_35, s157_36, s157_39, s157_42, s157_43, s157_46, s157_47, s157_48, s157_49, s157_50, s157_53, s157_54, s157_57, s157_58, s157_61, s157_62, s157_63, s157_66, s157_67, s157_68, s157_69, s157_72, s157_73, s157_74, s157_77, s157_81, s157_82, s157_86, s157_87, s157_90, s157_91, s157_94, s157_95, s157_98, s157_99, s157_101, s157_102, s157_103, s157_106, s157_107, s157_108, s157_112, s157_115, s157_118, s157_119, s157_122, s157_123, s157_129, s157_132, s157_135, s157_136, s157_142, s157_145, s157_146, s157_149, s157_150, s157_153, s157_154, s157_157, s157_158, s157_159, s157_160, s157_163, s157_164, s157_167, s157_168, ldi_0, ldi_s, ldl_0, ldl_s, ldd_0, ldd_s, lda_0, lda_s, st1_0, st1_1, st2_0, st2_1, sti_0, sti_1, stj_0, stj_1, st1_2, sti_2, st2_2, stj_2, st1_3, sti_3, st2_3, stj_3, st1_4, sti_4, st2_4, stj_4, st1_5, sti_5, st2_5, stj_5, st1_6, sti_6, st2_6, stj_6, st1_7, sti_7, st2_7, stj_7, st1_8, sti_8, st2_8, stj_8, st1_9, sti_9, st2_9, stj_9, kil_n, kil_i, kil_r, kil_l, kil_d, gl_0, gl_s, cat_i, cat_r, true_and, nI_1]
            refine ihi _ ?_
            have e := dg_tm (b := (fun _ => kk) i) hT3
            rw [Nat.mul_assoc] at e
            exact e
        exact inn 0 (by omega) T2 (by rw [show prf (fun _ => kk) 0 = 1 from rfl, Nat.mul_one]; exact hT2)
      obtain ⟨c1, c2⟩ := hcb j (by omega)
      rw [br_1 hk]
      rw [br_1 hk]
      refine ⟨fun h1 => ?_, fun h1 => ?_⟩
      · rw [show cofM G n j = lN (cb j) by rw [← c1]; unfold absL; rw [if_pos h1]]
        refine c157_78r (sp_becomes (ZH_T hT) c2) ?_
        rw [ZH_uT hT]
        simp only [s157_0, s157_1, s157_2, s157_5, s157_6, s157_12, s157_13, s157_16, s157_20, s157_21, s157_23, s157_24, s157_27, s157_30, s157_31, s157_34, s157_35, s157_36, s157_39, s157_42, s157_43, s157_46, s157_47, s157_48, s157_49, s157_50, s157_53, s157_54, s157_57, s157_58, s157_61, s157_62, s157_63, s157_66, s157_67, s157_68, s157_69, s157_72, s157_73, s157_74, s157_77, s157_81, s157_82, s157_86, s157_87, s157_90, s157_91, s157_94, s157_95, s157_98, s157_99, s157_101, s157_102, s157_103, s157_106, s157_107, s157_108, s157_112, s157_115, s157_118, s157_119, s157_122, s157_123, s157_129, s157_132, s157_135, s157_136, s157_142, s157_145, s157_146, s157_149, s157_150, s157_153, s157_154, s157_157, s157_158, s157_159, s157_160, s157_163, s157_164, s157_167, s157_168, ldi_0, ldi_s, ldl_0, ldl_s, ldd_0, ldd_s, lda_0, lda_s, st1_0, st1_1, st2_0, st2_1, sti_0, sti_1, stj_0, stj_1, st1_2, sti_2, st2_2, stj_2, st1_3, sti_3, st2_3, stj_3, st1_4, sti_4, st2_4, stj_4, st1_5, sti_5, st2_5, stj_5, st1_6, sti_6, st2_6, stj_6, st1_7, sti_7, st2_7, stj_7, st1_8, sti_8, st2_8, stj_8, st1_9, sti_9, st2_9, stj_9, kil_n, kil_i, kil_r, kil_l, kil_d, gl_0, gl_s, cat_i, cat_r, true_and]
        rw [show lN (cb j) = cofM G n j by rw [← c1]; unfold absL; rw [if_pos h1]]
        exact body trivial _ dg_be none
      · rw [show -cofM G n j = lN (cb j) by rw [← c1]; unfold absL; rw [if_neg h1]]
        refine c157_78r (sp_becomes (ZH_T hT) c2) ?_
        rw [ZH_uT hT]
        simp only [s157_0, s157_1, s157_2, s157_5, s157_6, s157_12, s157_13, s157_16, s157_20, s157_21, s157_23, s157_24, s157_27, s157_30, s157_31, s157_34, s157_35, s157_36, s157_39, s157_42, s157_43, s157_46, s157_47, s157_48, s157_49, s157_50, s157_53, s157_54, s157_57, s157_58, s157_61, s157_62, s157_63, s157_66, s157_67, s157_68, s157_69, s157_72, s157_73, s157_74, s157_77, s157_81, s157_82, s157_86, s157_87, s157_90, s157_91, s157_94, s157_95, s157_98, s157_99, s157_101, s157_102, s157_103, s157_106, s157_107, s157_108, s157_112, s157_115, s157_118, s157_119, s157_122, s157_123, s157_129, s157_132, s157_135, s157_136, s157_142, s157_145, s157_146, s157_149, s157_150, s157_153, s157_154, s157_157, s157_158, s157_159, s157_160, s157_163, s157_164, s157_167, s157_168, ldi_0, ldi_s, ldl_0, ldl_s, ldd_0, ldd_s, lda_0, lda_s, st1_0, st1_1, st2_0, st2_1, sti_0, sti_1, stj_0, stj_1, st1_2, sti_2, st2_2, stj_2, st1_3, sti_3, st2_3, stj_3, st1_4, sti_4, st2_4, stj_4, st1_5, sti_5, st2_5, stj_5, st1_6, sti_6, st2_6, stj_6, st1_7, sti_7, st2_7, stj_7, st1_8, sti_8, st2_8, stj_8, st1_9, sti_9, st2_9, stj_9, kil_n, kil_i, kil_r, kil_l, kil_d, gl_0, gl_s, cat_i, cat_r, true_and]
        exact body trivial _ dg_be none
  exact key 0 (by omega) _ _ dg_be none none none
end Reckons
