/-! Colourmap$Chart: a map (n, G) kept as a number and a mask a place -/
def GOK (n : Nat) (G : Nat → Nat → Bool) : Prop := n ≤ 9 ∧ ∀ p q, G p q = true → p < n ∧ q < n ∧ p ≠ q ∧ G q p = true
def rowsN (G : Nat → Nat → Bool) : Nat → Nat := fun p => mk (G p) 9
def chO (n r : Nat) : AC := ob 0 [.int (nI n), .ref r]
def ChAt (h : AH) (c r n : Nat) (G : Nat → Nat → Bool) : Prop := h c = some (chO n r) ∧ h r = some (na 9 (rowsN G))
theorem ChAt.ne {h : AH} {c r n : Nat} {G : Nat → Nat → Bool} (hc : ChAt h c r n G) : c ≠ r := kind_ne hc.1 hc.2
section Chart
variable {h : AH} {c r n z : Nat} {G : Nat → Nat → Bool}
theorem sp_size (hc : h c = some (chO n r)) : Sp 1 9 [.ref c] h z 0 0 (RR (some (.int (nI n))) h z) := by
  refine Sp_in (al := [some (.ref c)]) ?_
  simp only [s9_0, s9_1, s9_4, ldi_0, ldi_s, ldl_0, ldl_s, ldd_0, ldd_s, lda_0, lda_s, st1_0, st1_1, st2_0, st2_1, sti_0, sti_1, stj_0, stj_1, st1_2, sti_2, st2_2, stj_2, st1_3, sti_3, st2_3, stj_3, st1_4, sti_4, st2_4, stj_4, st1_5, sti_5, st2_5, stj_5, st1_6, sti_6, st2_6, stj_6, st1_7, sti_7, st2_7, stj_7, st1_8, sti_8, st2_8, stj_8, st1_9, sti_9, st2_9, stj_9, kil_n, kil_i, kil_r, kil_l, kil_d, gl_0, gl_s, cat_i, cat_r, true_and, gf_ob hc]
  exact out_RR
theorem sp_has (hc : h c = some (chO n r)) {p : Int32} : Sp 1 34 [.ref c, .int p] h z 0 0 (RR (some (.int (bI (decide (¬ p < 0 ∧ ¬ nI n ≤ p))))) h z) := by
  refine Sp_in (al := [some (.ref c), some (.int p)]) ?_
  simp only [s34_0, s34_1, s34_4, s34_5, s34_6, s34_9, s34_12, s34_13, s34_16, s34_17, ldi_0, ldi_s, ldl_0, ldl_s, ldd_0, ldd_s, lda_0, lda_s, st1_0, st1_1, st2_0, st2_1, sti_0, sti_1, stj_0, stj_1, st1_2, sti_2, st2_2, stj_2, st1_3, sti_3, st2_3, stj_3, st1_4, sti_4, st2_4, stj_4, st1_5, sti_5, st2_5, stj_5, st1_6, sti_6, st2_6, stj_6, st1_7, sti_7, st2_7, stj_7, st1_8, sti_8, st2_8, stj_8, st1_9, sti_9, st2_9, stj_9, kil_n, kil_i, kil_r, kil_l, kil_d, gl_0, gl_s, cat_i, cat_r, true_and, gf_ob hc]
  refine ⟨fun h1 => ?_, fun h1 => ⟨fun h2 => ?_, fun h2 => ?_⟩⟩
  · exact ⟨rfl, out_eq (by simp [h1, bI]) rfl rfl⟩
  · exact ⟨rfl, out_eq (by simp [h2, bI]) rfl rfl⟩
  · exact ⟨rfl, out_eq (by simp [h1, h2, bI]) rfl rfl⟩
theorem hasN {n p : Nat} (hn : n ≤ 9) (hp : p < n) : decide (¬ nI p < 0 ∧ ¬ nI n ≤ nI p) = true := by
  have h1 := nI_pos (n := p) (by omega)
  have h2 := nI_ge hp (by omega)
  simp [h1, h2]
theorem sp_hasN (hc : h c = some (chO n r)) (hn : n ≤ 9) {p : Nat} (hp : p < n) : Sp 1 34 [.ref c, .int (nI p)] h z 0 0 (RR (some (.int 1)) h z) := by
  have := sp_has (z := z) hc (p := nI p)
  rw [hasN hn hp] at this
  exact this
theorem sp_all (hc : h c = some (chO n r)) (hn : n ≤ 9) : Sp 1 22 [.ref c] h z 0 0 (RR (some (.int (nI (2 ^ n - 1)))) h z) := by
  refine Sp_in (al := [some (.ref c)]) ?_
  simp only [s22_0, s22_1, s22_2, s22_5, s22_6, s22_7, s22_8, ldi_0, ldi_s, ldl_0, ldl_s, ldd_0, ldd_s, lda_0, lda_s, st1_0, st1_1, st2_0, st2_1, sti_0, sti_1, stj_0, stj_1, st1_2, sti_2, st2_2, stj_2, st1_3, sti_3, st2_3, stj_3, st1_4, sti_4, st2_4, stj_4, st1_5, sti_5, st2_5, stj_5, st1_6, sti_6, st2_6, stj_6, st1_7, sti_7, st2_7, stj_7, st1_8, sti_8, st2_8, stj_8, st1_9, sti_9, st2_9, stj_9, kil_n, kil_i, kil_r, kil_l, kil_d, gl_0, gl_s, cat_i, cat_r, true_and, gf_ob hc]
  refine out_eq ?_ rfl rfl
  rw [one_shl (by omega), nI_lit1, pk_sub (Nat.one_le_two_pow)]
theorem sp_near (hc : ChAt h c r n G) (hG : GOK n G) {p : Nat} (hp : p < n) : Sp 2 35 [.ref c, .int (nI p)] h z 0 0 (RR (some (.int (nI (mk (G p) 9)))) h z) := by
  have hn := hG.1
  refine Sp_in (al := [some (.ref c), some (.int (nI p))]) ?_
  simp only [s35_0, s35_1, s35_5, s35_8, s35_9, s35_12, s35_13, s35_14, s35_17, s35_18, ldi_0, ldi_s, ldl_0, ldl_s, ldd_0, ldd_s, lda_0, lda_s, st1_0, st1_1, st2_0, st2_1, sti_0, sti_1, stj_0, stj_1, st1_2, sti_2, st2_2, stj_2, st1_3, sti_3, st2_3, stj_3, st1_4, sti_4, st2_4, stj_4, st1_5, sti_5, st2_5, stj_5, st1_6, sti_6, st2_6, stj_6, st1_7, sti_7, st2_7, stj_7, st1_8, sti_8, st2_8, stj_8, st1_9, sti_9, st2_9, stj_9, kil_n, kil_i, kil_r, kil_l, kil_d, gl_0, gl_s, cat_i, cat_r, true_and]
  refine c35_2r hc.1 (sp_hasN hc.1 hn hp) ?_
  simp only [s35_0, s35_1, s35_5, s35_8, s35_9, s35_12, s35_13, s35_14, s35_17, s35_18, ldi_0, ldi_s, ldl_0, ldl_s, ldd_0, ldd_s, lda_0, lda_s, st1_0, st1_1, st2_0, st2_1, sti_0, sti_1, stj_0, stj_1, st1_2, sti_2, st2_2, stj_2, st1_3, sti_3, st2_3, stj_3, st1_4, sti_4, st2_4, stj_4, st1_5, sti_5, st2_5, stj_5, st1_6, sti_6, st2_6, stj_6, st1_7, sti_7, st2_7, stj_7, st1_8, sti_8, st2_8, stj_8, st1_9, sti_9, st2_9, stj_9, kil_n, kil_i, kil_r, kil_l, kil_d, gl_0, gl_s, cat_i, cat_r, true_and]
  rw [br_0 (by decide)]
  simp only [s35_0, s35_1, s35_5, s35_8, s35_9, s35_12, s35_13, s35_14, s35_17, s35_18, ldi_0, ldi_s, ldl_0, ldl_s, ldd_0, ldd_s, lda_0, lda_s, st1_0, st1_1, st2_0, st2_1, sti_0, sti_1, stj_0, stj_1, st1_2, sti_2, st2_2, stj_2, st1_3, sti_3, st2_3, stj_3, st1_4, sti_4, st2_4, stj_4, st1_5, sti_5, st2_5, stj_5, st1_6, sti_6, st2_6, stj_6, st1_7, sti_7, st2_7, stj_7, st1_8, sti_8, st2_8, stj_8, st1_9, sti_9, st2_9, stj_9, kil_n, kil_i, kil_r, kil_l, kil_d, gl_0, gl_s, cat_i, cat_r, true_and, gf_ob hc.1, ald_na hc.2 (show p < 9 by omega)]
  exact out_RR
theorem and_bit {x b : Nat} (hb : b < 31) (hx : x < 2 ^ 31) : (nI x &&& (1 : Int32) <<< (nI b &&& 31) = 0) ↔ x.testBit b = false := by
  rw [one_shl hb, nI_and, nI_lit0, nI_eq (Nat.lt_of_le_of_lt Nat.and_le_left hx) (by decide)]
  constructor
  · intro h
    have h1 := congrArg (fun y => Nat.testBit y b) h
    simpa [Nat.testBit_and, Nat.testBit_two_pow] using h1
  · intro h
    apply Nat.eq_of_testBit_eq
    intro i
    rw [Nat.testBit_and, Nat.testBit_two_pow, Nat.zero_testBit]
    by_cases hb : b = i
    · subst hb
      rw [h]
      rfl
    · simp [hb]
theorem sp_joined (hc : ChAt h c r n G) (hG : GOK n G) {p q : Nat} (hp : p < n) (hq : q < n) : Sp 2 45 [.ref c, .int (nI p), .int (nI q)] h z 0 0 (RR (some (.int (bI (G p q)))) h z) := by
  have hn := hG.1
  refine Sp_in (al := [some (.ref c), some (.int (nI p)), some (.int (nI q))]) ?_
  simp only [s45_0, s45_1, s45_5, s45_8, s45_9, s45_13, s45_16, s45_17, s45_20, s45_21, s45_22, s45_23, s45_24, s45_25, s45_26, s45_29, s45_30, s45_33, s45_34, ldi_0, ldi_s, ldl_0, ldl_s, ldd_0, ldd_s, lda_0, lda_s, st1_0, st1_1, st2_0, st2_1, sti_0, sti_1, stj_0, stj_1, st1_2, sti_2, st2_2, stj_2, st1_3, sti_3, st2_3, stj_3, st1_4, sti_4, st2_4, stj_4, st1_5, sti_5, st2_5, stj_5, st1_6, sti_6, st2_6, stj_6, st1_7, sti_7, st2_7, stj_7, st1_8, sti_8, st2_8, stj_8, st1_9, sti_9, st2_9, stj_9, kil_n, kil_i, kil_r, kil_l, kil_d, gl_0, gl_s, cat_i, cat_r, true_and]
  refine c45_2r hc.1 (sp_hasN hc.1 hn hp) ?_
  simp only [s45_0, s45_1, s45_5, s45_8, s45_9, s45_13, s45_16, s45_17, s45_20, s45_21, s45_22, s45_23, s45_24, s45_25, s45_26, s45_29, s45_30, s45_33, s45_34, ldi_0, ldi_s, ldl_0, ldl_s, ldd_0, ldd_s, lda_0, lda_s, st1_0, st1_1, st2_0, st2_1, sti_0, sti_1, stj_0, stj_1, st1_2, sti_2, st2_2, stj_2, st1_3, sti_3, st2_3, stj_3, st1_4, sti_4, st2_4, stj_4, st1_5, sti_5, st2_5, stj_5, st1_6, sti_6, st2_6, stj_6, st1_7, sti_7, st2_7, stj_7, st1_8, sti_8, st2_8, stj_8, st1_9, sti_9, st2_9, stj_9, kil_n, kil_i, kil_r, kil_l, kil_d, gl_0, gl_s, cat_i, cat_r, true_and]
  rw [br_0 (by decide)]
  refine c45_10r hc.1 (sp_hasN hc.1 hn hq) ?_
  simp only [s45_0, s45_1, s45_5, s45_8, s45_9, s45_13, s45_16, s45_17, s45_20, s45_21, s45_22, s45_23, s45_24, s45_25, s45_26, s45_29, s45_30, s45_33, s45_34, ldi_0, ldi_s, ldl_0, ldl_s, ldd_0, ldd_s, lda_0, lda_s, st1_0, st1_1, st2_0, st2_1, sti_0, sti_1, stj_0, stj_1, st1_2, sti_2, st2_2, stj_2, st1_3, sti_3, st2_3, stj_3, st1_4, sti_4, st2_4, stj_4, st1_5, sti_5, st2_5, stj_5, st1_6, sti_6, st2_6, stj_6, st1_7, sti_7, st2_7, stj_7, st1_8, sti_8, st2_8, stj_8, st1_9, sti_9, st2_9, stj_9, kil_n, kil_i, kil_r, kil_l, kil_d, gl_0, gl_s, cat_i, cat_r, true_and]
  rw [br_0 (by decide)]
  simp only [gf_ob hc.1, ldi_0, ldi_s, ldl_0, ldl_s, ldd_0, ldd_s, lda_0, lda_s, st1_0, st1_1, st2_0, st2_1, sti_0, sti_1, stj_0, stj_1, st1_2, sti_2, st2_2, stj_2, st1_3, sti_3, st2_3, stj_3, st1_4, sti_4, st2_4, stj_4, st1_5, sti_5, st2_5, stj_5, st1_6, sti_6, st2_6, stj_6, st1_7, sti_7, st2_7, stj_7, st1_8, sti_8, st2_8, stj_8, st1_9, sti_9, st2_9, stj_9, kil_n, kil_i, kil_r, kil_l, kil_d, gl_0, gl_s, cat_i, cat_r, true_and, ald_na hc.2 (show p < 9 by omega), s45_0, s45_1, s45_5, s45_8, s45_9, s45_13, s45_16, s45_17, s45_20, s45_21, s45_22, s45_23, s45_24, s45_25, s45_26, s45_29, s45_30, s45_33, s45_34]
  have hb := and_bit (x := mk (G p) 9) (b := q) (by omega) (Nat.lt_trans (mk9 _) (by decide))
  rw [mk_bit, show (decide (q < 9) && G p q) = G p q by simp; omega] at hb
  refine ⟨fun h1 => ⟨rfl, out_eq ?_ rfl rfl⟩, fun h1 => ⟨rfl, out_eq ?_ rfl rfl⟩⟩
  · rw [hb.mp h1]; rfl
  · rw [show G p q = true by cases hh : G p q; exact absurd (hb.mpr hh) h1; rfl]; rfl
/-- ways counted from both ends -/
def ends (G : Nat → Nat → Bool) : Nat → Nat
  | 0 => 0
  | p + 1 => ends G p + cnt (G p) 9
theorem ends_le (G : Nat → Nat → Bool) (p : Nat) : ends G p ≤ 9 * p := by
  induction p with
  | zero => exact Nat.le_refl _
  | succ p ih =>
    have := cnt_le (G p) 9
    unfold ends
    omega
theorem sp_wayCount (hc : ChAt h c r n G) (hG : GOK n G) : Sp 2 26 [.ref c] h z 0 0 (RR (some (.int (nI (ends G n / 2)))) h z) := by
  have hn := hG.1
  refine Sp_in (al := [some (.ref c), none, none]) ?_
  simp only [s26_0, s26_1, s26_2, s26_3, s26_5, s26_6, s26_9, s26_12, s26_13, s26_14, s26_17, s26_18, s26_22, s26_23, s26_24, s26_27, s26_30, s26_31, s26_32, s26_33, ldi_0, ldi_s, ldl_0, ldl_s, ldd_0, ldd_s, lda_0, lda_s, st1_0, st1_1, st2_0, st2_1, sti_0, sti_1, stj_0, stj_1, st1_2, sti_2, st2_2, stj_2, st1_3, sti_3, st2_3, stj_3, st1_4, sti_4, st2_4, stj_4, st1_5, sti_5, st2_5, stj_5, st1_6, sti_6, st2_6, stj_6, st1_7, sti_7, st2_7, stj_7, st1_8, sti_8, st2_8, stj_8, st1_9, sti_9, st2_9, stj_9, kil_n, kil_i, kil_r, kil_l, kil_d, gl_0, gl_s, cat_i, cat_r, true_and]
  have loop : ∀ (j p : Nat), p + j = n → aW (Sp 1) 26 0 0 (RR (some (.int (nI (ends G n / 2)))) h z) 4 [some (.ref c), some (.int (nI (ends G p))), some (.int (nI p))] [] h z 0 0 := by
    intro j
    induction j with
    | zero =>
      intro p hp
      have e : p = n := by omega
      subst e
      have h9 := ends_le G p
      rw [s26_4]
      simp only [s26_0, s26_1, s26_2, s26_3, s26_5, s26_6, s26_9, s26_12, s26_13, s26_14, s26_17, s26_18, s26_22, s26_23, s26_24, s26_27, s26_30, s26_31, s26_32, s26_33, ldi_0, ldi_s, ldl_0, ldl_s, ldd_0, ldd_s, lda_0, lda_s, st1_0, st1_1, st2_0, st2_1, sti_0, sti_1, stj_0, stj_1, st1_2, sti_2, st2_2, stj_2, st1_3, sti_3, st2_3, stj_3, st1_4, sti_4, st2_4, stj_4, st1_5, sti_5, st2_5, stj_5, st1_6, sti_6, st2_6, stj_6, st1_7, sti_7, st2_7, stj_7, st1_8, sti_8, st2_8, stj_8, st1_9, sti_9, st2_9, stj_9, kil_n, kil_i, kil_r, kil_l, kil_d, gl_0, gl_s, cat_i, cat_r, true_and, gf_ob hc.1]
      rw [br_1 (nI_le (Nat.le_refl _) (by omega))]
      refine ⟨by decide, out_eq ?_ rfl rfl⟩
      rw [nI_lit2, pk_div (by omega) (by decide) (by decide)]
    | succ j ih =>
      intro p hp
      have h9 := ends_le G p
      rw [s26_4]
      simp only [s26_0, s26_1, s26_2, s26_3, s26_5, s26_6, s26_9, s26_12, s26_13, s26_14, s26_17, s26_18, s26_22, s26_23, s26_24, s26_27, s26_30, s26_31, s26_32, s26_33, ldi_0, ldi_s, ldl_0, ldl_s, ldd_0, ldd_s, lda_0, lda_s, st1_0, st1_1, st2_0, st2_1, sti_0, sti_1, stj_0, stj_1, st1_2, sti_2, st2_2, stj_2, st1_3, sti_3, st2_3, stj_3, st1_4, sti_4, st2_4, stj_4, st1_5, sti_5, st2_5, stj_5, st1_6, sti_6, st2_6, stj_6, st1_7, sti_7, st2_7, stj_7, st1_8, sti_8, st2_8, stj_8, st1_9, sti_9, st2_9, stj_9, kil_n, kil_i, kil_r, kil_l, kil_d, gl_0, gl_s, cat_i, cat_r, true_and, gf_ob hc.1, ald_na hc.2 (show p < 9 by omega)]
      rw [br_0 (nI_ge (show p < n by omega) (by omega))]
      refine c26_19r (sp_bitCount (mk9 _)) ?_
      simp only [s26_0, s26_1, s26_2, s26_3, s26_5, s26_6, s26_9, s26_12, s26_13, s26_14, s26_17, s26_18, s26_22, s26_23, s26_24, s26_27, s26_30, s26_31, s26_32, s26_33, ldi_0, ldi_s, ldl_0, ldl_s, ldd_0, ldd_s, lda_0, lda_s, st1_0, st1_1, st2_0, st2_1, sti_0, sti_1, stj_0, stj_1, st1_2, sti_2, st2_2, stj_2, st1_3, sti_3, st2_3, stj_3, st1_4, sti_4, st2_4, stj_4, st1_5, sti_5, st2_5, stj_5, st1_6, sti_6, st2_6, stj_6, st1_7, sti_7, st2_7, stj_7, st1_8, sti_8, st2_8, stj_8, st1_9, sti_9, st2_9, stj_9, kil_n, kil_i, kil_r, kil_l, kil_d, gl_0, gl_s, cat_i, cat_r, true_and]
      rw [nI_add, nI_1, ones_mk]
      exact ih (p + 1) (by omega)
  exact loop n 0 (by omega)
end Chart
