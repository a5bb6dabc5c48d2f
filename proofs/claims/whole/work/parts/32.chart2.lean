/-! Colourmap$Chart: writes -/
def chSet (h : AH) (c r n : Nat) (G : Nat → Nat → Bool) : AH := hup (hup h r (na 9 (rowsN G))) c (chO n r)
theorem chSet_at {h : AH} {c r n : Nat} {G : Nat → Nat → Bool} (hn : c ≠ r) : ChAt (chSet h c r n G) c r n G := ⟨hup_same, by unfold chSet; rw [hup_ne hn.symm, hup_same]⟩
theorem chSet_ne {h : AH} {c r n a : Nat} {G : Nat → Nat → Bool} (h1 : a ≠ c) (h2 : a ≠ r) : chSet h c r n G a = h a := by
  unfold chSet
  rw [hup_ne h1, hup_ne h2]
theorem chSet_id {h : AH} {c r n : Nat} {G : Nat → Nat → Bool} (hc : ChAt h c r n G) : chSet h c r n G = h := by
  unfold chSet
  rw [hup_id hc.2, hup_id hc.1]
theorem chSet_set {h : AH} {c r n n' : Nat} {G G' : Nat → Nat → Bool} (hn : c ≠ r) : chSet (chSet h c r n G) c r n' G' = chSet h c r n' G' := by
  unfold chSet
  rw [hup_comm hn, hup_hup, hup_hup]
/-- only the rows were written -/
theorem chSet_rows {h : AH} {c r n : Nat} {G G' : Nat → Nat → Bool} (hc : ChAt h c r n G) {R : Nat → Nat} (e : R = rowsN G') : hup h r (na 9 R) = chSet h c r n G' := by
  subst e
  unfold chSet
  rw [hup_id (a := c)]
  rw [hup_ne hc.ne]
  exact hc.1
theorem shr_bit {x p : Nat} : x / 2 ^ p &&& 1 = if x.testBit p then 1 else 0 := by
  rw [Nat.and_one_is_mod, Nat.testBit_eq_decide_div_mod_eq]
  have := Nat.mod_lt (x / 2 ^ p) (show 0 < 2 by decide)
  by_cases h : x / 2 ^ p % 2 = 1
  · simp [h]
  · simp [h]
    omega
theorem bit_up {x p n : Nat} : ((x / 2 ^ p &&& 1) * 2 ^ n) = if x.testBit p then 2 ^ n else 0 := by
  rw [shr_bit]
  split <;> simp
def gAdd (n : Nat) (nb : Nat → Bool) (G : Nat → Nat → Bool) : Nat → Nat → Bool := fun p q => if p = n then decide (q < n) && nb q else if q = n then decide (p < n) && nb p else G p q
theorem gAdd_ok {n : Nat} {G : Nat → Nat → Bool} {nb : Nat → Bool} (hG : GOK n G) (h8 : n < 9) : GOK (n + 1) (gAdd n nb G) := by
  refine ⟨by omega, fun p q h => ?_⟩
  unfold gAdd at h ⊢
  by_cases hp : p = n
  · subst hp
    rw [if_pos rfl] at h
    simp at h
    refine ⟨by omega, by omega, by omega, ?_⟩
    rw [if_neg (by omega), if_pos rfl]
    simp [h.1, h.2]
  · rw [if_neg hp] at h
    by_cases hq : q = n
    · subst hq
      rw [if_pos rfl] at h
      simp at h
      refine ⟨by omega, by omega, by omega, ?_⟩
      rw [if_pos rfl]
      simp [h.1, h.2]
    · rw [if_neg hq] at h
      obtain ⟨h1, h2, h3, h4⟩ := hG.2 p q h
      refine ⟨by omega, by omega, h3, ?_⟩
      rw [if_neg hq, if_neg hp]
      exact h4
section ChartW
variable {h : AH} {c r n z : Nat} {G : Nat → Nat → Bool}
theorem GOK.lt {n p q : Nat} {G : Nat → Nat → Bool} (hG : GOK n G) (h : n ≤ q) : G p q = false := by
  cases hh : G p q
  · rfl
  · have := (hG.2 p q hh).2.1
    omega
theorem GOK.lt' {n p q : Nat} {G : Nat → Nat → Bool} (hG : GOK n G) (h : n ≤ p) : G p q = false := by
  cases hh : G p q
  · rfl
  · have := (hG.2 p q hh).1
    omega
theorem rows_bit {G : Nat → Nat → Bool} {n p q : Nat} (hG : GOK n G) : (rowsN G p).testBit q = G p q := by
  unfold rowsN
  rw [mk_bit]
  by_cases hq : q < 9
  · simp [hq]
  · have := hG.lt (p := p) (q := q) (by have := hG.1; omega)
    simp [hq, this]
theorem rows_ext {G : Nat → Nat → Bool} {n x p : Nat} (hG : GOK n G) (h : ∀ q, x.testBit q = G p q) : x = rowsN G p := Nat.eq_of_testBit_eq fun q => by rw [h, rows_bit hG]
theorem sp_append (hc : ChAt h c r n G) (hG : GOK n G) (h8 : n < 9) {x : Nat} (hx : x < 512) : Sp 2 21 [.ref c, .int (nI x)] h z 0 0 (RR none (chSet h c r (n + 1) (gAdd n (fun q => x.testBit q) G)) z) := by
  have hne := hc.ne
  have h232 : 2 ^ n < 2 ^ 32 := Nat.pow_lt_pow_right (by decide) (by omega)
  have hG' := gAdd_ok (nb := fun q => x.testBit q) hG h8
  refine Sp_in (al := [some (.ref c), some (.int (nI x)), none]) ?_
  simp only [s21_0, s21_1, s21_4, s21_6, s21_9, s21_10, s21_11, s21_13, s21_14, s21_17, s21_20, s21_21, s21_24, s21_25, s21_26, s21_27, s21_28, s21_29, s21_30, s21_31, s21_32, s21_33, s21_36, s21_37, s21_38, s21_39, s21_42, s21_45, s21_46, s21_49, s21_50, s21_53, s21_54, s21_58, s21_59, s21_60, s21_61, s21_62, s21_65, s21_66, s21_67, s21_70, ldi_0, ldi_s, ldl_0, ldl_s, ldd_0, ldd_s, lda_0, lda_s, st1_0, st1_1, st2_0, st2_1, sti_0, sti_1, stj_0, stj_1, st1_2, sti_2, st2_2, stj_2, st1_3, sti_3, st2_3, stj_3, st1_4, sti_4, st2_4, stj_4, st1_5, sti_5, st2_5, stj_5, st1_6, sti_6, st2_6, stj_6, st1_7, sti_7, st2_7, stj_7, st1_8, sti_8, st2_8, stj_8, st1_9, sti_9, st2_9, stj_9, kil_n, kil_i, kil_r, kil_l, kil_d, gl_0, gl_s, cat_i, cat_r, true_and, gf_ob hc.1]
  rw [br_1 (by rw [nI_lit9]; exact nI_lt h8 (by decide))]
  have loop : ∀ (j p : Nat), p + j = n → ∀ R : Nat → Nat, (∀ i, R i = if i < p then rowsN (gAdd n (fun q => x.testBit q) G) i else rowsN G i) → aW (Sp 1) 21 0 0 (RR none (chSet h c r (n + 1) (gAdd n (fun q => x.testBit q) G)) z) 12 [some (.ref c), some (.int (nI x)), some (.int (nI p))] [] (hup h r (na 9 R)) z 0 0 := by
    intro j
    induction j with
    | zero =>
      intro p hp R hR
      have e : p = n := by omega
      subst e
      have hc1 : hup h r (na 9 R) c = some (chO p r) := by rw [hup_ne hne]; exact hc.1
      have hc2 : hup h r (na 9 R) r = some (na 9 R) := hup_same
      rw [s21_12]
      simp only [s21_0, s21_1, s21_4, s21_6, s21_9, s21_10, s21_11, s21_13, s21_14, s21_17, s21_20, s21_21, s21_24, s21_25, s21_26, s21_27, s21_28, s21_29, s21_30, s21_31, s21_32, s21_33, s21_36, s21_37, s21_38, s21_39, s21_42, s21_45, s21_46, s21_49, s21_50, s21_53, s21_54, s21_58, s21_59, s21_60, s21_61, s21_62, s21_65, s21_66, s21_67, s21_70, ldi_0, ldi_s, ldl_0, ldl_s, ldd_0, ldd_s, lda_0, lda_s, st1_0, st1_1, st2_0, st2_1, sti_0, sti_1, stj_0, stj_1, st1_2, sti_2, st2_2, stj_2, st1_3, sti_3, st2_3, stj_3, st1_4, sti_4, st2_4, stj_4, st1_5, sti_5, st2_5, stj_5, st1_6, sti_6, st2_6, stj_6, st1_7, sti_7, st2_7, stj_7, st1_8, sti_8, st2_8, stj_8, st1_9, sti_9, st2_9, stj_9, kil_n, kil_i, kil_r, kil_l, kil_d, gl_0, gl_s, cat_i, cat_r, true_and, gf_ob hc1]
      rw [br_1 (nI_le (Nat.le_refl _) (by omega))]
      refine c21_55r hc1 (sp_all hc1 (by omega)) ?_
      simp only [s21_0, s21_1, s21_4, s21_6, s21_9, s21_10, s21_11, s21_13, s21_14, s21_17, s21_20, s21_21, s21_24, s21_25, s21_26, s21_27, s21_28, s21_29, s21_30, s21_31, s21_32, s21_33, s21_36, s21_37, s21_38, s21_39, s21_42, s21_45, s21_46, s21_49, s21_50, s21_53, s21_54, s21_58, s21_59, s21_60, s21_61, s21_62, s21_65, s21_66, s21_67, s21_70, ldi_0, ldi_s, ldl_0, ldl_s, ldd_0, ldd_s, lda_0, lda_s, st1_0, st1_1, st2_0, st2_1, sti_0, sti_1, stj_0, stj_1, st1_2, sti_2, st2_2, stj_2, st1_3, sti_3, st2_3, stj_3, st1_4, sti_4, st2_4, stj_4, st1_5, sti_5, st2_5, stj_5, st1_6, sti_6, st2_6, stj_6, st1_7, sti_7, st2_7, stj_7, st1_8, sti_8, st2_8, stj_8, st1_9, sti_9, st2_9, stj_9, kil_n, kil_i, kil_r, kil_l, kil_d, gl_0, gl_s, cat_i, cat_r, true_and, nI_and, ast_na hc2 (show p < 9 by omega), hup_hup]
      have hc3 : ∀ X, hup h r (na 9 X) c = some (chO p r) := fun X => by rw [hup_ne hne]; exact hc.1
      simp only [gf_ob (hc3 _), pf_ob (hc3 _) (show 0 < 2 by decide) (okv_i (x := nI p + 1)), s21_0, s21_1, s21_4, s21_6, s21_9, s21_10, s21_11, s21_13, s21_14, s21_17, s21_20, s21_21, s21_24, s21_25, s21_26, s21_27, s21_28, s21_29, s21_30, s21_31, s21_32, s21_33, s21_36, s21_37, s21_38, s21_39, s21_42, s21_45, s21_46, s21_49, s21_50, s21_53, s21_54, s21_58, s21_59, s21_60, s21_61, s21_62, s21_65, s21_66, s21_67, s21_70, ldi_0, ldi_s, ldl_0, ldl_s, ldd_0, ldd_s, lda_0, lda_s, st1_0, st1_1, st2_0, st2_1, sti_0, sti_1, stj_0, stj_1, st1_2, sti_2, st2_2, stj_2, st1_3, sti_3, st2_3, stj_3, st1_4, sti_4, st2_4, stj_4, st1_5, sti_5, st2_5, stj_5, st1_6, sti_6, st2_6, stj_6, st1_7, sti_7, st2_7, stj_7, st1_8, sti_8, st2_8, stj_8, st1_9, sti_9, st2_9, stj_9, kil_n, kil_i, kil_r, kil_l, kil_d, gl_0, gl_s, cat_i, cat_r, true_and]
      refine out_eq rfl ?_ rfl
      unfold chSet
      rw [nI_1]
      congr 2
      apply na_eq
      funext i
      unfold updN
      by_cases hi : i = p
      · subst hi
        rw [if_pos rfl]
        refine rows_ext hG' (fun q => ?_)
        rw [Nat.testBit_and, Nat.testBit_two_pow_sub_one]
        unfold gAdd
        rw [if_pos rfl]
        exact Bool.and_comm _ _
      · rw [if_neg hi, hR i]
        split
        · rfl
        · refine rows_ext hG' (fun q => ?_)
          rw [rows_bit hG]
          unfold gAdd
          rw [if_neg hi, hG.lt' (by omega)]
          split
          · simp
            omega
          · rfl
    | succ j ih =>
      intro p hp R hR
      have hc1 : hup h r (na 9 R) c = some (chO n r) := by rw [hup_ne hne]; exact hc.1
      have hc2 : hup h r (na 9 R) r = some (na 9 R) := hup_same
      rw [s21_12]
      simp only [s21_0, s21_1, s21_4, s21_6, s21_9, s21_10, s21_11, s21_13, s21_14, s21_17, s21_20, s21_21, s21_24, s21_25, s21_26, s21_27, s21_28, s21_29, s21_30, s21_31, s21_32, s21_33, s21_36, s21_37, s21_38, s21_39, s21_42, s21_45, s21_46, s21_49, s21_50, s21_53, s21_54, s21_58, s21_59, s21_60, s21_61, s21_62, s21_65, s21_66, s21_67, s21_70, ldi_0, ldi_s, ldl_0, ldl_s, ldd_0, ldd_s, lda_0, lda_s, st1_0, st1_1, st2_0, st2_1, sti_0, sti_1, stj_0, stj_1, st1_2, sti_2, st2_2, stj_2, st1_3, sti_3, st2_3, stj_3, st1_4, sti_4, st2_4, stj_4, st1_5, sti_5, st2_5, stj_5, st1_6, sti_6, st2_6, stj_6, st1_7, sti_7, st2_7, stj_7, st1_8, sti_8, st2_8, stj_8, st1_9, sti_9, st2_9, stj_9, kil_n, kil_i, kil_r, kil_l, kil_d, gl_0, gl_s, cat_i, cat_r, true_and, gf_ob hc1, ald_na hc2 (show p < 9 by omega)]
      rw [br_0 (nI_ge (show p < n by omega) (by omega)), nI_shr (by omega) (by omega), nI_lit1, nI_and, nI_shl (by omega) (by rw [bit_up]; split; exact h232; decide), nI_or, bit_up]
      simp only [ast_na hc2 (show p < 9 by omega), hup_hup, s21_0, s21_1, s21_4, s21_6, s21_9, s21_10, s21_11, s21_13, s21_14, s21_17, s21_20, s21_21, s21_24, s21_25, s21_26, s21_27, s21_28, s21_29, s21_30, s21_31, s21_32, s21_33, s21_36, s21_37, s21_38, s21_39, s21_42, s21_45, s21_46, s21_49, s21_50, s21_53, s21_54, s21_58, s21_59, s21_60, s21_61, s21_62, s21_65, s21_66, s21_67, s21_70, ldi_0, ldi_s, ldl_0, ldl_s, ldd_0, ldd_s, lda_0, lda_s, st1_0, st1_1, st2_0, st2_1, sti_0, sti_1, stj_0, stj_1, st1_2, sti_2, st2_2, stj_2, st1_3, sti_3, st2_3, stj_3, st1_4, sti_4, st2_4, stj_4, st1_5, sti_5, st2_5, stj_5, st1_6, sti_6, st2_6, stj_6, st1_7, sti_7, st2_7, stj_7, st1_8, sti_8, st2_8, stj_8, st1_9, sti_9, st2_9, stj_9, kil_n, kil_i, kil_r, kil_l, kil_d, gl_0, gl_s, cat_i, cat_r, true_and]
      rw [nI_add]
      refine ih (p + 1) (by omega) _ (fun i => ?_)
      unfold updN
      by_cases hi : i = p
      · subst hi
        rw [if_pos rfl, if_pos (show i < i + 1 by omega), hR i, if_neg (show ¬ i < i by omega)]
        refine rows_ext hG' (fun q => ?_)
        rw [Nat.testBit_or, rows_bit hG]
        unfold gAdd
        rw [if_neg (show ¬ i = n by omega)]
        by_cases hq : q = n
        · subst hq
          rw [if_pos rfl, hG.lt (Nat.le_refl _)]
          cases hb : x.testBit i <;> simp [hb] <;> omega
        · rw [if_neg hq]
          cases hb : x.testBit i <;> simp [hb, Nat.testBit_two_pow, Ne.symm hq]
      · rw [if_neg hi, hR i]
        by_cases h2 : i < p
        · rw [if_pos h2, if_pos (show i < p + 1 by omega)]
        · rw [if_neg h2, if_neg (show ¬ i < p + 1 by omega)]
  have := loop n 0 (by omega) (rowsN G) (fun i => by simp)
  rw [hup_id hc.2] at this
  exact this
end ChartW
