/-! Colourmap$Polynomial.factor, at; Math.floorMod; restAt -/
def hor (F : Nat → Int64) (k : Int64) : Nat → Int64 → Int64
  | 0, s => s
  | j + 1, s => hor F k j (s * k + F j)
section At
variable {h : AH} {c r n z po se pa fa : Nat} {G : Nat → Nat → Bool} {F : Nat → Int64} {b : Bool}
theorem sp_factor (ho : h po = some (poO b c se pa fa)) (hfa : h fa = some (la 10 F)) {m : Nat} (hm : m < 10) : Sp 1 143 [.ref po, .int (nI m)] h z 0 0 (RR (some (.long (F m))) h z) := by
  refine Sp_in (al := [some (.ref po), some (.int (nI m))]) ?_
  simp only [s143_0, s143_1, s143_4, s143_5, s143_7, s143_10, s143_11, s143_14, s143_15, s143_16, s143_19, s143_20, ldi_0, ldi_s, ldl_0, ldl_s, ldd_0, ldd_s, lda_0, lda_s, st1_0, st1_1, st2_0, st2_1, sti_0, sti_1, stj_0, stj_1, st1_2, sti_2, st2_2, stj_2, st1_3, sti_3, st2_3, stj_3, st1_4, sti_4, st2_4, stj_4, st1_5, sti_5, st2_5, stj_5, st1_6, sti_6, st2_6, stj_6, st1_7, sti_7, st2_7, stj_7, st1_8, sti_8, st2_8, stj_8, st1_9, sti_9, st2_9, stj_9, kil_n, kil_i, kil_r, kil_l, kil_d, gl_0, gl_s, cat_i, cat_r, true_and, gf_ob ho, ald_la hfa hm]
  rw [nI_lit0, nI_lit9, br_0 (nI_nlt (Nat.zero_le m) (by omega)), br_0 (nI_nlt (show m ≤ 9 by omega) (by decide))]
  exact out_RR
theorem sp_at (hc : ChAt h c r n G) (hG : GOK n G) (ho : h po = some (poO b c se pa fa)) (hfa : h fa = some (la 10 F)) {k : Int64} : Sp 2 186 [.ref po, .long k] h z 0 0 (RR (some (.long (hor F k (n + 1) 0))) h z) := by
  have hn := hG.1
  refine Sp_in (al := [some (.ref po), some (.long k), none, none, none, none]) ?_
  simp only [s186_0, s186_1, s186_2, s186_3, s186_9, s186_13, s186_16, s186_17, s186_18, s186_19, s186_20, s186_23, s186_25, s186_26, s186_27, s186_28, s186_31, s186_34, s186_35, ldi_0, ldi_s, ldl_0, ldl_s, ldd_0, ldd_s, lda_0, lda_s, st1_0, st1_1, st2_0, st2_1, sti_0, sti_1, stj_0, stj_1, st1_2, sti_2, st2_2, stj_2, st1_3, sti_3, st2_3, stj_3, st1_4, sti_4, st2_4, stj_4, st1_5, sti_5, st2_5, stj_5, st1_6, sti_6, st2_6, stj_6, st1_7, sti_7, st2_7, stj_7, st1_8, sti_8, st2_8, stj_8, st1_9, sti_9, st2_9, stj_9, kil_n, kil_i, kil_r, kil_l, kil_d, gl_0, gl_s, cat_i, cat_r, true_and, gf_ob ho]
  refine c186_6r hc.1 (sp_size hc.1) ?_
  simp only [s186_0, s186_1, s186_2, s186_3, s186_9, s186_13, s186_16, s186_17, s186_18, s186_19, s186_20, s186_23, s186_25, s186_26, s186_27, s186_28, s186_31, s186_34, s186_35, ldi_0, ldi_s, ldl_0, ldl_s, ldd_0, ldd_s, lda_0, lda_s, st1_0, st1_1, st2_0, st2_1, sti_0, sti_1, stj_0, stj_1, st1_2, sti_2, st2_2, stj_2, st1_3, sti_3, st2_3, stj_3, st1_4, sti_4, st2_4, stj_4, st1_5, sti_5, st2_5, stj_5, st1_6, sti_6, st2_6, stj_6, st1_7, sti_7, st2_7, stj_7, st1_8, sti_8, st2_8, stj_8, st1_9, sti_9, st2_9, stj_9, kil_n, kil_i, kil_r, kil_l, kil_d, gl_0, gl_s, cat_i, cat_r, true_and]
  have loop : ∀ (j : Nat) (s : Int64), j ≤ n + 1 → hor F k (n + 1) 0 = hor F k j s → aW (Sp 1) 186 0 0 (RR (some (.long (hor F k (n + 1) 0))) h z) 11 [some (.ref po), some (.long k), none, some (.long s), none, some (.int (nI j + (-1)))] [] h z 0 0 := by
    intro j
    induction j with
    | zero =>
      intro s hj e
      rw [s186_11]
      simp only [s186_0, s186_1, s186_2, s186_3, s186_9, s186_13, s186_16, s186_17, s186_18, s186_19, s186_20, s186_23, s186_25, s186_26, s186_27, s186_28, s186_31, s186_34, s186_35, ldi_0, ldi_s, ldl_0, ldl_s, ldd_0, ldd_s, lda_0, lda_s, st1_0, st1_1, st2_0, st2_1, sti_0, sti_1, stj_0, stj_1, st1_2, sti_2, st2_2, stj_2, st1_3, sti_3, st2_3, stj_3, st1_4, sti_4, st2_4, stj_4, st1_5, sti_5, st2_5, stj_5, st1_6, sti_6, st2_6, stj_6, st1_7, sti_7, st2_7, stj_7, st1_8, sti_8, st2_8, stj_8, st1_9, sti_9, st2_9, stj_9, kil_n, kil_i, kil_r, kil_l, kil_d, gl_0, gl_s, cat_i, cat_r, true_and]
      rw [br_1 (by decide), e]
      exact out_RR
    | succ j ih =>
      intro s hj e
      rw [nI_pm, s186_11]
      simp only [s186_0, s186_1, s186_2, s186_3, s186_9, s186_13, s186_16, s186_17, s186_18, s186_19, s186_20, s186_23, s186_25, s186_26, s186_27, s186_28, s186_31, s186_34, s186_35, ldi_0, ldi_s, ldl_0, ldl_s, ldd_0, ldd_s, lda_0, lda_s, st1_0, st1_1, st2_0, st2_1, sti_0, sti_1, stj_0, stj_1, st1_2, sti_2, st2_2, stj_2, st1_3, sti_3, st2_3, stj_3, st1_4, sti_4, st2_4, stj_4, st1_5, sti_5, st2_5, stj_5, st1_6, sti_6, st2_6, stj_6, st1_7, sti_7, st2_7, stj_7, st1_8, sti_8, st2_8, stj_8, st1_9, sti_9, st2_9, stj_9, kil_n, kil_i, kil_r, kil_l, kil_d, gl_0, gl_s, cat_i, cat_r, true_and, gf_ob ho, ald_la hfa (show j < 10 by omega)]
      rw [nI_lit0, br_0 (nI_nlt (Nat.zero_le j) (by omega))]
      exact ih _ (by omega) e
  have key := loop (n + 1) 0 (Nat.le_refl _) rfl
  rw [nI_pm] at key
  exact key
end At
