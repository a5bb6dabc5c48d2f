/-! Colourmap$Colours, the row -/
theorem bit_int' {x a : Nat} (hx : x < 2 ^ 31) (ha : a < 31) : nI x >>> (nI a &&& 31) &&& 1 = nI (if x.testBit a then 1 else 0) := by
  rw [nI_shr ha hx, nI_lit1, nI_and, shr_bit]
theorem ob_ra {h : AH} {a b c k n : Nat} {fs : List Value} {g : Nat → Value} (h1 : h a = some (ob c fs)) (h2 : h b = some (ra k n g)) : a ≠ b := by
  intro e
  rw [e, h2] at h1
  exact absurd h1 (by intro q; cases q)
def lni (t : Nat) : Nat → Nat
  | 0 => 9
  | j + 1 => if t.testBit (9 - (j + 1)) then lni t j else 9 - (j + 1)
theorem lni_le {t : Nat} (j : Nat) : lni t j ≤ 9 := by
  induction j with
  | zero => exact Nat.le_refl _
  | succ j ih =>
    unfold lni
    split
    · exact ih
    · omega
theorem sp_leastNotIn {h : AH} {z t : Nat} (ht : t < 2 ^ 31) : Sp 1 133 [.int (nI t)] h z 0 0 (RR (some (.int (nI (lni t 9)))) h z) := by
  refine Sp_in (al := [some (.int (nI t)), none]) ?_
  simp only [s133_0, s133_1, s133_3, s133_5, s133_8, s133_9, s133_10, s133_11, s133_12, s133_13, s133_16, s133_19, s133_22, s133_23, ldi_0, ldi_s, ldl_0, ldl_s, ldd_0, ldd_s, lda_0, lda_s, st1_0, st1_1, st2_0, st2_1, sti_0, sti_1, stj_0, stj_1, st1_2, sti_2, st2_2, stj_2, st1_3, sti_3, st2_3, stj_3, st1_4, sti_4, st2_4, stj_4, st1_5, sti_5, st2_5, stj_5, st1_6, sti_6, st2_6, stj_6, st1_7, sti_7, st2_7, stj_7, st1_8, sti_8, st2_8, stj_8, st1_9, sti_9, st2_9, stj_9, kil_n, kil_i, kil_r, kil_l, kil_d, gl_0, gl_s, cat_i, cat_r, true_and]
  have loop : ∀ (j p : Nat), p + j = 9 → lni t 9 = lni t j → aW (Sp 0) 133 0 0 (RR (some (.int (nI (lni t 9)))) h z) 2 [some (.int (nI t)), some (.int (nI p))] [] h z 0 0 := by
    intro j
    induction j with
    | zero =>
      intro p hp e
      have e1 : p = 9 := by omega
      subst e1
      rw [s133_2]
      simp only [s133_0, s133_1, s133_3, s133_5, s133_8, s133_9, s133_10, s133_11, s133_12, s133_13, s133_16, s133_19, s133_22, s133_23, ldi_0, ldi_s, ldl_0, ldl_s, ldd_0, ldd_s, lda_0, lda_s, st1_0, st1_1, st2_0, st2_1, sti_0, sti_1, stj_0, stj_1, st1_2, sti_2, st2_2, stj_2, st1_3, sti_3, st2_3, stj_3, st1_4, sti_4, st2_4, stj_4, st1_5, sti_5, st2_5, stj_5, st1_6, sti_6, st2_6, stj_6, st1_7, sti_7, st2_7, stj_7, st1_8, sti_8, st2_8, stj_8, st1_9, sti_9, st2_9, stj_9, kil_n, kil_i, kil_r, kil_l, kil_d, gl_0, gl_s, cat_i, cat_r, true_and]
      rw [br_1 (by decide)]
      refine out_eq ?_ rfl rfl
      rw [e]
      rfl
    | succ j ih =>
      intro p hp e
      rw [s133_2]
      simp only [s133_0, s133_1, s133_3, s133_5, s133_8, s133_9, s133_10, s133_11, s133_12, s133_13, s133_16, s133_19, s133_22, s133_23, ldi_0, ldi_s, ldl_0, ldl_s, ldd_0, ldd_s, lda_0, lda_s, st1_0, st1_1, st2_0, st2_1, sti_0, sti_1, stj_0, stj_1, st1_2, sti_2, st2_2, stj_2, st1_3, sti_3, st2_3, stj_3, st1_4, sti_4, st2_4, stj_4, st1_5, sti_5, st2_5, stj_5, st1_6, sti_6, st2_6, stj_6, st1_7, sti_7, st2_7, stj_7, st1_8, sti_8, st2_8, stj_8, st1_9, sti_9, st2_9, stj_9, kil_n, kil_i, kil_r, kil_l, kil_d, gl_0, gl_s, cat_i, cat_r, true_and]
      rw [nI_lit9, br_0 (nI_ge (show p < 9 by omega) (by omega)), bit_int' ht (by omega)]
      have ep : lni t (j + 1) = if t.testBit (9 - (j + 1)) then lni t j else 9 - (j + 1) := rfl
      rw [ep, show 9 - (j + 1) = p by omega] at e
      refine ⟨fun h1 => ?_, fun h1 => ?_⟩
      · rw [bit_e0] at h1
        rw [h1, if_neg (by decide)] at e
        refine out_eq ?_ rfl rfl
        rw [e]
      · rw [bit_e0, Bool.not_eq_false] at h1
        rw [if_pos h1] at e
        rw [nI_1]
        exact ih (p + 1) (by omega) e
  exact loop 9 0 (by omega) rfl
/-- the colours of the neighbours below q -/
def tak (f : Nat → Bool) (R : Nat → Nat) : Nat → Nat
  | 0 => 0
  | q + 1 => tak f R q ||| (if f q then 2 ^ R q else 0)
theorem tak_lt {f : Nat → Bool} {R : Nat → Nat} (k : Nat) (hR : ∀ q, q < k → R q ≤ 9) : tak f R k < 1024 := by
  induction k with
  | zero => show 0 < 1024; decide
  | succ k ih =>
    unfold tak
    refine Nat.or_lt_two_pow (n := 10) (ih fun q hq => hR q (by omega)) ?_
    split
    · exact Nat.pow_lt_pow_right (show 1 < 2 by decide) (by have := hR k (by omega); omega)
    · decide
/-- the row after p places, painted over R -/
def grR (G : Nat → Nat → Bool) (R : Nat → Nat) : Nat → Nat → Nat
  | 0 => R
  | p + 1 => updN (grR G R p) p (lni (tak (G p) (grR G R p) p) 9)
theorem grR_le {G : Nat → Nat → Bool} {R : Nat → Nat} (p : Nat) : ∀ q, q < p → grR G R p q ≤ 9 := by
  induction p with
  | zero => exact fun q hq => absurd hq (Nat.not_lt_zero q)
  | succ p ih =>
    intro q hq
    unfold grR updN
    split
    · exact lni_le 9
    · exact ih q (by omega)
theorem tak_congr {f : Nat → Bool} {R R' : Nat → Nat} (k : Nat) (hR : ∀ q, q < k → R q = R' q) : tak f R k = tak f R' k := by
  induction k with
  | zero => rfl
  | succ k ih =>
    unfold tak
    rw [ih fun q hq => hR q (by omega), hR k (by omega)]
theorem grR_any {G : Nat → Nat → Bool} {R R' : Nat → Nat} (p : Nat) : ∀ q, q < p → grR G R p q = grR G R' p q := by
  induction p with
  | zero => exact fun q hq => absurd hq (Nat.not_lt_zero q)
  | succ p ih =>
    intro q hq
    unfold grR updN
    rw [tak_congr p ih]
    split
    · rfl
    · exact ih q (by omega)
def coO (rw pt : Nat) : AC := ob 1 [.ref rw, .ref pt]
def grH (h : AH) (rw : Nat) (G : Nat → Nat → Bool) (R : Nat → Nat) (p : Nat) : AH := hup h rw (na 9 (grR G R p))
section Colours
variable {h : AH} {c r n z co rw pt : Nat} {G : Nat → Nat → Bool} {R : Nat → Nat}
theorem grH_ob {a k p : Nat} {fs : List Value} (h1 : h a = some (ob k fs)) (h2 : h rw = some (na 9 R)) : grH h rw G R p a = some (ob k fs) := by
  unfold grH
  rw [hup_ne (ob_ra h1 h2), h1]
theorem grH_ch {p : Nat} (hc : ChAt h c r n G) (h2 : h rw = some (na 9 R)) (hr : r ≠ rw) : ChAt (grH h rw G R p) c r n G := by
  refine ⟨grH_ob hc.1 h2, ?_⟩
  unfold grH
  rw [hup_ne hr, hc.2]
theorem sp_paintRow (hc : ChAt h c r n G) (hG : GOK n G) (ho : h co = some (coO rw pt)) (h2 : h rw = some (na 9 R)) (hr : r ≠ rw) : Sp 3 132 [.ref co, .ref c] h z 0 0 (RR none (grH h rw G R n) z) := by
  have hn := hG.1
  refine Sp_in (al := [some (.ref co), some (.ref c), none, none, none]) ?_
  simp only [s132_0, s132_1, s132_3, s132_7, s132_10, s132_11, s132_12, s132_13, s132_17, s132_18, s132_21, s132_22, s132_23, s132_28, s132_31, s132_32, s132_33, s132_34, s132_37, s132_39, s132_40, s132_41, s132_42, s132_43, s132_46, s132_49, s132_50, s132_53, s132_54, s132_58, s132_59, s132_62, s132_65, ldi_0, ldi_s, ldl_0, ldl_s, ldd_0, ldd_s, lda_0, lda_s, st1_0, st1_1, st2_0, st2_1, sti_0, sti_1, stj_0, stj_1, st1_2, sti_2, st2_2, stj_2, st1_3, sti_3, st2_3, stj_3, st1_4, sti_4, st2_4, stj_4, st1_5, sti_5, st2_5, stj_5, st1_6, sti_6, st2_6, stj_6, st1_7, sti_7, st2_7, stj_7, st1_8, sti_8, st2_8, stj_8, st1_9, sti_9, st2_9, stj_9, kil_n, kil_i, kil_r, kil_l, kil_d, gl_0, gl_s, cat_i, cat_r, true_and]
  have loop : ∀ (j p : Nat) (a b : Option Value), kil a = a → p + j = n → aW (Sp 2) 132 0 0 (RR none (grH h rw G R n) z) 2 [some (.ref co), some (.ref c), some (.int (nI p)), a, b] [] (grH h rw G R p) z 0 0 := by
    intro j
    induction j with
    | zero =>
      intro p a b ha hp
      have e1 : p = n := by omega
      subst e1
      rw [s132_2]
      simp only [s132_0, s132_1, s132_3, s132_7, s132_10, s132_11, s132_12, s132_13, s132_17, s132_18, s132_21, s132_22, s132_23, s132_28, s132_31, s132_32, s132_33, s132_34, s132_37, s132_39, s132_40, s132_41, s132_42, s132_43, s132_46, s132_49, s132_50, s132_53, s132_54, s132_58, s132_59, s132_62, s132_65, ldi_0, ldi_s, ldl_0, ldl_s, ldd_0, ldd_s, lda_0, lda_s, st1_0, st1_1, st2_0, st2_1, sti_0, sti_1, stj_0, stj_1, st1_2, sti_2, st2_2, stj_2, st1_3, sti_3, st2_3, stj_3, st1_4, sti_4, st2_4, stj_4, st1_5, sti_5, st2_5, stj_5, st1_6, sti_6, st2_6, stj_6, st1_7, sti_7, st2_7, stj_7, st1_8, sti_8, st2_8, stj_8, st1_9, sti_9, st2_9, stj_9, kil_n, kil_i, kil_r, kil_l, kil_d, gl_0, gl_s, cat_i, cat_r, true_and]
      refine c132_4r (grH_ch hc h2 hr).1 (sp_size (grH_ch hc h2 hr).1) ?_
      simp only [s132_0, s132_1, s132_3, s132_7, s132_10, s132_11, s132_12, s132_13, s132_17, s132_18, s132_21, s132_22, s132_23, s132_28, s132_31, s132_32, s132_33, s132_34, s132_37, s132_39, s132_40, s132_41, s132_42, s132_43, s132_46, s132_49, s132_50, s132_53, s132_54, s132_58, s132_59, s132_62, s132_65, ldi_0, ldi_s, ldl_0, ldl_s, ldd_0, ldd_s, lda_0, lda_s, st1_0, st1_1, st2_0, st2_1, sti_0, sti_1, stj_0, stj_1, st1_2, sti_2, st2_2, stj_2, st1_3, sti_3, st2_3, stj_3, st1_4, sti_4, st2_4, stj_4, st1_5, sti_5, st2_5, stj_5, st1_6, sti_6, st2_6, stj_6, st1_7, sti_7, st2_7, stj_7, st1_8, sti_8, st2_8, stj_8, st1_9, sti_9, st2_9, stj_9, kil_n, kil_i, kil_r, kil_l, kil_d, gl_0, gl_s, cat_i, cat_r, true_and]
      rw [br_1 (nI_le (Nat.le_refl _) (by omega))]
      exact out_RR
    | succ j ih =>
      intro p a b ha hp
      have hcp := grH_ch (p := p) hc h2 hr
      have hop := grH_ob (G := G) (p := p) ho h2
      have hrp : grH h rw G R p rw = some (na 9 (grR G R p)) := hup_same
      rw [s132_2]
      simp only [s132_0, s132_1, s132_3, s132_7, s132_10, s132_11, s132_12, s132_13, s132_17, s132_18, s132_21, s132_22, s132_23, s132_28, s132_31, s132_32, s132_33, s132_34, s132_37, s132_39, s132_40, s132_41, s132_42, s132_43, s132_46, s132_49, s132_50, s132_53, s132_54, s132_58, s132_59, s132_62, s132_65, ldi_0, ldi_s, ldl_0, ldl_s, ldd_0, ldd_s, lda_0, lda_s, st1_0, st1_1, st2_0, st2_1, sti_0, sti_1, stj_0, stj_1, st1_2, sti_2, st2_2, stj_2, st1_3, sti_3, st2_3, stj_3, st1_4, sti_4, st2_4, stj_4, st1_5, sti_5, st2_5, stj_5, st1_6, sti_6, st2_6, stj_6, st1_7, sti_7, st2_7, stj_7, st1_8, sti_8, st2_8, stj_8, st1_9, sti_9, st2_9, stj_9, kil_n, kil_i, kil_r, kil_l, kil_d, gl_0, gl_s, cat_i, cat_r, true_and]
      refine c132_4r hcp.1 (sp_size hcp.1) ?_
      simp only [s132_0, s132_1, s132_3, s132_7, s132_10, s132_11, s132_12, s132_13, s132_17, s132_18, s132_21, s132_22, s132_23, s132_28, s132_31, s132_32, s132_33, s132_34, s132_37, s132_39, s132_40, s132_41, s132_42, s132_43, s132_46, s132_49, s132_50, s132_53, s132_54, s132_58, s132_59, s132_62, s132_65, ldi_0, ldi_s, ldl_0, ldl_s, ldd_0, ldd_s, lda_0, lda_s, st1_0, st1_1, st2_0, st2_1, sti_0, sti_1, stj_0, stj_1, st1_2, sti_2, st2_2, stj_2, st1_3, sti_3, st2_3, stj_3, st1_4, sti_4, st2_4, stj_4, st1_5, sti_5, st2_5, stj_5, st1_6, sti_6, st2_6, stj_6, st1_7, sti_7, st2_7, stj_7, st1_8, sti_8, st2_8, stj_8, st1_9, sti_9, st2_9, stj_9, kil_n, kil_i, kil_r, kil_l, kil_d, gl_0, gl_s, cat_i, cat_r, true_and]
      rw [br_0 (nI_ge (show p < n by omega) (by omega))]
      have inner : ∀ (i q : Nat), q + i = p → aW (Sp 2) 132 0 0 (RR none (grH h rw G R n) z) 15 [some (.ref co), some (.ref c), some (.int (nI p)), some (.int (nI (tak (G p) (grR G R p) q))), some (.int (nI q))] [] (grH h rw G R p) z 0 0 := by
        intro i
        induction i with
        | zero =>
          intro q hq
          have e1 : q = p := by omega
          subst e1
          rw [s132_15]
          simp only [s132_0, s132_1, s132_3, s132_7, s132_10, s132_11, s132_12, s132_13, s132_17, s132_18, s132_21, s132_22, s132_23, s132_28, s132_31, s132_32, s132_33, s132_34, s132_37, s132_39, s132_40, s132_41, s132_42, s132_43, s132_46, s132_49, s132_50, s132_53, s132_54, s132_58, s132_59, s132_62, s132_65, ldi_0, ldi_s, ldl_0, ldl_s, ldd_0, ldd_s, lda_0, lda_s, st1_0, st1_1, st2_0, st2_1, sti_0, sti_1, stj_0, stj_1, st1_2, sti_2, st2_2, stj_2, st1_3, sti_3, st2_3, stj_3, st1_4, sti_4, st2_4, stj_4, st1_5, sti_5, st2_5, stj_5, st1_6, sti_6, st2_6, stj_6, st1_7, sti_7, st2_7, stj_7, st1_8, sti_8, st2_8, stj_8, st1_9, sti_9, st2_9, stj_9, kil_n, kil_i, kil_r, kil_l, kil_d, gl_0, gl_s, cat_i, cat_r, true_and, gf_ob hop]
          rw [br_1 (nI_le (Nat.le_refl _) (by omega))]
          refine c132_55r (sp_leastNotIn (Nat.lt_trans (tak_lt q (grR_le q)) (by decide))) ?_
          simp only [s132_0, s132_1, s132_3, s132_7, s132_10, s132_11, s132_12, s132_13, s132_17, s132_18, s132_21, s132_22, s132_23, s132_28, s132_31, s132_32, s132_33, s132_34, s132_37, s132_39, s132_40, s132_41, s132_42, s132_43, s132_46, s132_49, s132_50, s132_53, s132_54, s132_58, s132_59, s132_62, s132_65, ldi_0, ldi_s, ldl_0, ldl_s, ldd_0, ldd_s, lda_0, lda_s, st1_0, st1_1, st2_0, st2_1, sti_0, sti_1, stj_0, stj_1, st1_2, sti_2, st2_2, stj_2, st1_3, sti_3, st2_3, stj_3, st1_4, sti_4, st2_4, stj_4, st1_5, sti_5, st2_5, stj_5, st1_6, sti_6, st2_6, stj_6, st1_7, sti_7, st2_7, stj_7, st1_8, sti_8, st2_8, stj_8, st1_9, sti_9, st2_9, stj_9, kil_n, kil_i, kil_r, kil_l, kil_d, gl_0, gl_s, cat_i, cat_r, true_and, ast_na hrp (show q < 9 by omega)]
          rw [nI_1]
          have key := ih (q + 1) (some (.int (nI (tak (G q) (grR G R q) q)))) (some (.int (nI q))) rfl (by omega)
          unfold grH at key ⊢
          rw [hup_hup]
          exact key
        | succ i ih2 =>
          intro q hq
          rw [s132_15]
          simp only [s132_0, s132_1, s132_3, s132_7, s132_10, s132_11, s132_12, s132_13, s132_17, s132_18, s132_21, s132_22, s132_23, s132_28, s132_31, s132_32, s132_33, s132_34, s132_37, s132_39, s132_40, s132_41, s132_42, s132_43, s132_46, s132_49, s132_50, s132_53, s132_54, s132_58, s132_59, s132_62, s132_65, ldi_0, ldi_s, ldl_0, ldl_s, ldd_0, ldd_s, lda_0, lda_s, st1_0, st1_1, st2_0, st2_1, sti_0, sti_1, stj_0, stj_1, st1_2, sti_2, st2_2, stj_2, st1_3, sti_3, st2_3, stj_3, st1_4, sti_4, st2_4, stj_4, st1_5, sti_5, st2_5, stj_5, st1_6, sti_6, st2_6, stj_6, st1_7, sti_7, st2_7, stj_7, st1_8, sti_8, st2_8, stj_8, st1_9, sti_9, st2_9, stj_9, kil_n, kil_i, kil_r, kil_l, kil_d, gl_0, gl_s, cat_i, cat_r, true_and]
          rw [br_0 (nI_ge (show q < p by omega) (by omega))]
          refine c132_25r hcp.1 (sp_joined hcp hG (show p < n by omega) (show q < n by omega)) ?_
          simp only [s132_0, s132_1, s132_3, s132_7, s132_10, s132_11, s132_12, s132_13, s132_17, s132_18, s132_21, s132_22, s132_23, s132_28, s132_31, s132_32, s132_33, s132_34, s132_37, s132_39, s132_40, s132_41, s132_42, s132_43, s132_46, s132_49, s132_50, s132_53, s132_54, s132_58, s132_59, s132_62, s132_65, ldi_0, ldi_s, ldl_0, ldl_s, ldd_0, ldd_s, lda_0, lda_s, st1_0, st1_1, st2_0, st2_1, sti_0, sti_1, stj_0, stj_1, st1_2, sti_2, st2_2, stj_2, st1_3, sti_3, st2_3, stj_3, st1_4, sti_4, st2_4, stj_4, st1_5, sti_5, st2_5, stj_5, st1_6, sti_6, st2_6, stj_6, st1_7, sti_7, st2_7, stj_7, st1_8, sti_8, st2_8, stj_8, st1_9, sti_9, st2_9, stj_9, kil_n, kil_i, kil_r, kil_l, kil_d, gl_0, gl_s, cat_i, cat_r, true_and, gf_ob hop, ald_na hrp (show q < 9 by omega)]
          have key := ih2 (q + 1) (by omega)
          have ep : tak (G p) (grR G R p) (q + 1) = tak (G p) (grR G R p) q ||| (if G p q then 2 ^ grR G R p q else 0) := rfl
          rw [ep] at key
          have hle := grR_le (G := G) (R := R) p q (by omega)
          refine ⟨fun h1 => ?_, fun h1 => ?_⟩
          · rw [bI_0] at h1
            rw [h1, if_neg (by decide), Nat.or_zero] at key
            rw [nI_1]
            exact key
          · rw [bI_0, Bool.not_eq_false] at h1
            rw [if_pos h1] at key
            rw [one_shl (show grR G R p q < 31 by omega), nI_or, nI_1]
            exact key
      exact inner p 0 (by omega)
  have key := loop n 0 none none rfl (by omega)
  have e : grH h rw G R 0 = h := hup_id h2
  rw [e] at key
  exact key
end Colours
