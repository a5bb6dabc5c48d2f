/-! Colourmap$Chart: a map (n, G) kept as a number and a mask a place -/
def GOK (n : Nat) (G : Nat → Nat → Bool) : Prop := n ≤ 9 ∧ ∀ p q, G p q = true → p < n ∧ q < n ∧ p ≠ q ∧ G q p = true
def rowsN (G : Nat → Nat → Bool) : Nat → Nat := fun p => mk (G p) 9
def chO (n r : Nat) : AC := ob 0 [.int (nI n), .ref r]
def ChAt (h : AH) (c r n : Nat) (G : Nat → Nat → Bool) : Prop := h c = some (chO n r) ∧ h r = some (na 9 (rowsN G))
theorem ChAt.ne {h : AH} {c r n : Nat} {G : Nat → Nat → Bool} (hc : ChAt h c r n G) : c ≠ r := kind_ne hc.1 hc.2
section Chart
variable {h : AH} {c r n z : Nat} {G : Nat → Nat → Bool}
theorem sp_size (hc : ChAt h c r n G) : Sp 1 9 [.ref c] h z 0 0 (RR (some (.int (nI n))) h z) := by
  refine Sp_in (al := [some (.ref c)]) ?_
  simp only [s9_0, s9_1, s9_4, ldi_0, ldi_s, ldl_0, ldl_s, ldd_0, ldd_s, lda_0, lda_s, st1_0, st1_1, st1_s, st2_0, st2_1, st2_s, sti_0, sti_1, sti_s, stj_0, stj_1, stj_s, kil_n, kil_i, kil_r, kil_l, kil_d, gl_0, gl_s, gf_ob hc.1]
  exact out_RR
theorem sp_has (hc : ChAt h c r n G) (hG : GOK n G) {p : Int32} : Sp 1 34 [.ref c, .int p] h z 0 0 (RR (some (.int (bI (decide (¬ p < 0 ∧ ¬ nI n ≤ p))))) h z) := by
  refine Sp_in (al := [some (.ref c), some (.int p)]) ?_
  simp only [s34_0, s34_1, s34_4, s34_5, s34_6, s34_9, s34_12, s34_13, s34_16, s34_17, ldi_0, ldi_s, ldl_0, ldl_s, ldd_0, ldd_s, lda_0, lda_s, st1_0, st1_1, st1_s, st2_0, st2_1, st2_s, sti_0, sti_1, sti_s, stj_0, stj_1, stj_s, kil_n, kil_i, kil_r, kil_l, kil_d, gl_0, gl_s, gf_ob hc.1]
  refine ⟨fun h1 => ?_, fun h1 => ⟨fun h2 => ?_, fun h2 => ?_⟩⟩
  · exact ⟨rfl, out_eq (by simp [h1, bI]) rfl rfl⟩
  · exact ⟨rfl, out_eq (by simp [h2, bI]) rfl rfl⟩
  · exact ⟨rfl, out_eq (by simp [h1, h2, bI]) rfl rfl⟩
theorem hasN {n p : Nat} (hn : n ≤ 9) (hp : p < n) : decide (¬ nI p < 0 ∧ ¬ nI n ≤ nI p) = true := by
  have h1 := nI_pos (n := p) (by omega)
  have h2 := nI_ge hp (by omega)
  simp [h1, h2]
theorem sp_hasN (hc : ChAt h c r n G) (hG : GOK n G) {p : Nat} (hp : p < n) : Sp 1 34 [.ref c, .int (nI p)] h z 0 0 (RR (some (.int 1)) h z) := by
  have := sp_has (z := z) hc hG (p := nI p)
  rw [hasN hG.1 hp] at this
  exact this
theorem sp_all (hc : ChAt h c r n G) (hG : GOK n G) : Sp 1 22 [.ref c] h z 0 0 (RR (some (.int (nI (2 ^ n - 1)))) h z) := by
  refine Sp_in (al := [some (.ref c)]) ?_
  simp only [s22_0, s22_1, s22_2, s22_5, s22_6, s22_7, s22_8, ldi_0, ldi_s, ldl_0, ldl_s, ldd_0, ldd_s, lda_0, lda_s, st1_0, st1_1, st1_s, st2_0, st2_1, st2_s, sti_0, sti_1, sti_s, stj_0, stj_1, stj_s, kil_n, kil_i, kil_r, kil_l, kil_d, gl_0, gl_s, gf_ob hc.1]
  refine out_eq ?_ rfl rfl
  rw [one_shl (by have := hG.1; omega), nI_lit1, pk_sub (Nat.one_le_two_pow)]
theorem sp_near (hc : ChAt h c r n G) (hG : GOK n G) {p : Nat} (hp : p < n) : Sp 2 35 [.ref c, .int (nI p)] h z 0 0 (RR (some (.int (nI (mk (G p) 9)))) h z) := by
  have hn := hG.1
  refine Sp_in (al := [some (.ref c), some (.int (nI p))]) ?_
  simp only [s35_0, s35_1, s35_5, s35_8, s35_9, s35_12, s35_13, s35_14, s35_17, s35_18, ldi_0, ldi_s, ldl_0, ldl_s, ldd_0, ldd_s, lda_0, lda_s, st1_0, st1_1, st1_s, st2_0, st2_1, st2_s, sti_0, sti_1, sti_s, stj_0, stj_1, stj_s, kil_n, kil_i, kil_r, kil_l, kil_d, gl_0, gl_s]
  refine c35_2r hc.1 (sp_hasN hc hG hp) ?_
  simp only [s35_0, s35_1, s35_5, s35_8, s35_9, s35_12, s35_13, s35_14, s35_17, s35_18, ldi_0, ldi_s, ldl_0, ldl_s, ldd_0, ldd_s, lda_0, lda_s, st1_0, st1_1, st1_s, st2_0, st2_1, st2_s, sti_0, sti_1, sti_s, stj_0, stj_1, stj_s, kil_n, kil_i, kil_r, kil_l, kil_d, gl_0, gl_s]
  rw [br_0 (by decide)]
  simp only [s35_0, s35_1, s35_5, s35_8, s35_9, s35_12, s35_13, s35_14, s35_17, s35_18, ldi_0, ldi_s, ldl_0, ldl_s, ldd_0, ldd_s, lda_0, lda_s, st1_0, st1_1, st1_s, st2_0, st2_1, st2_s, sti_0, sti_1, sti_s, stj_0, stj_1, stj_s, kil_n, kil_i, kil_r, kil_l, kil_d, gl_0, gl_s, gf_ob hc.1, ald_at hc.2 (show p < 9 by omega)]
  exact out_RR
theorem and_bit {x b : Nat} (hb : b < 31) : (nI x &&& (1 : Int32) <<< (nI b &&& 31) = 0) ↔ (x % 2 ^ 32).testBit b = false := by
  sorry
theorem sp_joined (hc : ChAt h c r n G) (hG : GOK n G) {p q : Nat} (hp : p < n) (hq : q < n) : Sp 2 45 [.ref c, .int (nI p), .int (nI q)] h z 0 0 (RR (some (.int (bI (G p q)))) h z) := by
  have hn := hG.1
  refine Sp_in (al := [some (.ref c), some (.int (nI p)), some (.int (nI q))]) ?_
  simp only [s45_0, s45_1, s45_5, s45_8, s45_9, s45_13, s45_16, s45_17, s45_20, s45_21, s45_22, s45_23, s45_24, s45_25, s45_26, s45_29, s45_30, s45_33, s45_34, ldi_0, ldi_s, ldl_0, ldl_s, ldd_0, ldd_s, lda_0, lda_s, st1_0, st1_1, st1_s, st2_0, st2_1, st2_s, sti_0, sti_1, sti_s, stj_0, stj_1, stj_s, kil_n, kil_i, kil_r, kil_l, kil_d, gl_0, gl_s]
  refine c45_2r hc.1 (sp_hasN hc hG hp) ?_
  simp only [s45_0, s45_1, s45_5, s45_8, s45_9, s45_13, s45_16, s45_17, s45_20, s45_21, s45_22, s45_23, s45_24, s45_25, s45_26, s45_29, s45_30, s45_33, s45_34, ldi_0, ldi_s, ldl_0, ldl_s, ldd_0, ldd_s, lda_0, lda_s, st1_0, st1_1, st1_s, st2_0, st2_1, st2_s, sti_0, sti_1, sti_s, stj_0, stj_1, stj_s, kil_n, kil_i, kil_r, kil_l, kil_d, gl_0, gl_s]
  rw [br_0 (by decide)]
  simp only [s45_0, s45_1, s45_5, s45_8, s45_9, s45_13, s45_16, s45_17, s45_20, s45_21, s45_22, s45_23, s45_24, s45_25, s45_26, s45_29, s45_30, s45_33, s45_34, ldi_0, ldi_s, ldl_0, ldl_s, ldd_0, ldd_s, lda_0, lda_s, st1_0, st1_1, st1_s, st2_0, st2_1, st2_s, sti_0, sti_1, sti_s, stj_0, stj_1, stj_s, kil_n, kil_i, kil_r, kil_l, kil_d, gl_0, gl_s]
  refine c45_10r hc.1 (sp_hasN hc hG hq) ?_
  simp only [s45_0, s45_1, s45_5, s45_8, s45_9, s45_13, s45_16, s45_17, s45_20, s45_21, s45_22, s45_23, s45_24, s45_25, s45_26, s45_29, s45_30, s45_33, s45_34, ldi_0, ldi_s, ldl_0, ldl_s, ldd_0, ldd_s, lda_0, lda_s, st1_0, st1_1, st1_s, st2_0, st2_1, st2_s, sti_0, sti_1, sti_s, stj_0, stj_1, stj_s, kil_n, kil_i, kil_r, kil_l, kil_d, gl_0, gl_s]
  rw [br_0 (by decide)]
  simp only [s45_0, s45_1, s45_5, s45_8, s45_9, s45_13, s45_16, s45_17, s45_20, s45_21, s45_22, s45_23, s45_24, s45_25, s45_26, s45_29, s45_30, s45_33, s45_34, ldi_0, ldi_s, ldl_0, ldl_s, ldd_0, ldd_s, lda_0, lda_s, st1_0, st1_1, st1_s, st2_0, st2_1, st2_s, sti_0, sti_1, sti_s, stj_0, stj_1, stj_s, kil_n, kil_i, kil_r, kil_l, kil_d, gl_0, gl_s, gf_ob hc.1, ald_at hc.2 (show p < 9 by omega)]
  refine ⟨fun h1 => ?_, fun h1 => ?_⟩
  · sorry
  · sorry
end Chart
