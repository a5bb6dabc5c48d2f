/-! Math.floorMod, Colourmap$Polynomial.restAt -/
def fmd (x y : Int64) : Int64 := if 0 ≤ lg_cmp (x ^^^ y) 0 then x - x / y * y else if lg_cmp (x - x / y * y) 0 = 0 then x - x / y * y else x - x / y * y + y
theorem sp_floorMod {h : AH} {z : Nat} {x y : Int64} (hy : y ≠ 0) : Sp 1 180 [.long x, .long y] h z 0 0 (RR (some (.long (fmd x y))) h z) := by
  refine Sp_in (al := [some (.long x), none, some (.long y), none, none, none]) ?_
  simp only [s180_0, s180_1, s180_2, s180_3, s180_5, s180_6, s180_7, s180_8, s180_9, s180_10, s180_13, s180_15, s180_16, s180_17, s180_20, s180_22, s180_23, s180_24, s180_25, s180_27, ldi_0, ldi_s, ldl_0, ldl_s, ldd_0, ldd_s, lda_0, lda_s, st1_0, st1_1, st2_0, st2_1, sti_0, sti_1, stj_0, stj_1, st1_2, sti_2, st2_2, stj_2, st1_3, sti_3, st2_3, stj_3, st1_4, sti_4, st2_4, stj_4, st1_5, sti_5, st2_5, stj_5, st1_6, sti_6, st2_6, stj_6, st1_7, sti_7, st2_7, stj_7, st1_8, sti_8, st2_8, stj_8, st1_9, sti_9, st2_9, stj_9, kil_n, kil_i, kil_r, kil_l, kil_d, gl_0, gl_s, cat_i, cat_r, true_and]
  refine ⟨hy, ?_⟩
  unfold fmd
  refine ⟨fun h1 => ?_, fun h1 => ?_⟩
  · rw [if_pos h1]
    exact out_RR
  · rw [if_neg h1]
    refine ⟨fun h2 => ?_, fun h2 => ?_⟩
    · rw [if_pos h2]
      exact out_RR
    · rw [if_neg h2]
      exact out_RR
/-- the value's rest, from the highest factor on -/
def hrm (F : Nat → Int64) (s y : Int64) : Nat → Int64 → Int64
  | 0, x => x
  | j + 1, x => hrm F s y j (fmd (x * s + F j) y)
section Rest
variable {h : AH} {c r n z po se pa fa : Nat} {G : Nat → Nat → Bool} {F : Nat → Int64} {b : Bool}
theorem sp_restAt0 {k y : Int32} (hy : y < 1) : Sp 1 179 [.ref po, .int k, .int y] h z 0 0 (RR (some (.int 0)) h z) := by
  refine Sp_in (al := [some (.ref po), some (.int k), some (.int y), none, none, none, none, none]) ?_
  simp only [s179_0, s179_1, s179_2, s179_5, s179_6, s179_7, s179_8, s179_9, s179_10, s179_14, s179_15, s179_16, s179_18, s179_19, s179_25, s179_29, s179_32, s179_34, s179_35, s179_36, s179_37, s179_40, s179_42, s179_43, s179_44, s179_45, s179_49, s179_51, s179_54, s179_57, s179_59, s179_60, ldi_0, ldi_s, ldl_0, ldl_s, ldd_0, ldd_s, lda_0, lda_s, st1_0, st1_1, st2_0, st2_1, sti_0, sti_1, stj_0, stj_1, st1_2, sti_2, st2_2, stj_2, st1_3, sti_3, st2_3, stj_3, st1_4, sti_4, st2_4, stj_4, st1_5, sti_5, st2_5, stj_5, st1_6, sti_6, st2_6, stj_6, st1_7, sti_7, st2_7, stj_7, st1_8, sti_8, st2_8, stj_8, st1_9, sti_9, st2_9, stj_9, kil_n, kil_i, kil_r, kil_l, kil_d, gl_0, gl_s, cat_i, cat_r, true_and]
  rw [br_0 (Int32.not_le.mpr hy)]
  exact out_RR
theorem sp_restAt (hc : ChAt h c r n G) (hG : GOK n G) (ho : h po = some (poO b c se pa fa)) (hfa : h fa = some (la 10 F)) {k y : Int32} (hy : 1 ≤ y) (hz : y.toInt64 ≠ 0) : Sp 2 179 [.ref po, .int k, .int y] h z 0 0 (RR (some (.int (hrm F (fmd k.toInt64 y.toInt64) y.toInt64 (n + 1) 0).toInt32)) h z) := by
  have hn := hG.1
  refine Sp_in (al := [some (.ref po), some (.int k), some (.int y), none, none, none, none, none]) ?_
  simp only [s179_0, s179_1, s179_2, s179_5, s179_6, s179_7, s179_8, s179_9, s179_10, s179_14, s179_15, s179_16, s179_18, s179_19, s179_25, s179_29, s179_32, s179_34, s179_35, s179_36, s179_37, s179_40, s179_42, s179_43, s179_44, s179_45, s179_49, s179_51, s179_54, s179_57, s179_59, s179_60, ldi_0, ldi_s, ldl_0, ldl_s, ldd_0, ldd_s, lda_0, lda_s, st1_0, st1_1, st2_0, st2_1, sti_0, sti_1, stj_0, stj_1, st1_2, sti_2, st2_2, stj_2, st1_3, sti_3, st2_3, stj_3, st1_4, sti_4, st2_4, stj_4, st1_5, sti_5, st2_5, stj_5, st1_6, sti_6, st2_6, stj_6, st1_7, sti_7, st2_7, stj_7, st1_8, sti_8, st2_8, stj_8, st1_9, sti_9, st2_9, stj_9, kil_n, kil_i, kil_r, kil_l, kil_d, gl_0, gl_s, cat_i, cat_r, true_and]
  rw [br_1 hy]
  refine c179_11r (sp_floorMod hz) ?_
  simp only [s179_0, s179_1, s179_2, s179_5, s179_6, s179_7, s179_8, s179_9, s179_10, s179_14, s179_15, s179_16, s179_18, s179_19, s179_25, s179_29, s179_32, s179_34, s179_35, s179_36, s179_37, s179_40, s179_42, s179_43, s179_44, s179_45, s179_49, s179_51, s179_54, s179_57, s179_59, s179_60, ldi_0, ldi_s, ldl_0, ldl_s, ldd_0, ldd_s, lda_0, lda_s, st1_0, st1_1, st2_0, st2_1, sti_0, sti_1, stj_0, stj_1, st1_2, sti_2, st2_2, stj_2, st1_3, sti_3, st2_3, stj_3, st1_4, sti_4, st2_4, stj_4, st1_5, sti_5, st2_5, stj_5, st1_6, sti_6, st2_6, stj_6, st1_7, sti_7, st2_7, stj_7, st1_8, sti_8, st2_8, stj_8, st1_9, sti_9, st2_9, stj_9, kil_n, kil_i, kil_r, kil_l, kil_d, gl_0, gl_s, cat_i, cat_r, true_and, gf_ob ho]
  refine c179_22r hc.1 (sp_size hc.1) ?_
  simp only [s179_0, s179_1, s179_2, s179_5, s179_6, s179_7, s179_8, s179_9, s179_10, s179_14, s179_15, s179_16, s179_18, s179_19, s179_25, s179_29, s179_32, s179_34, s179_35, s179_36, s179_37, s179_40, s179_42, s179_43, s179_44, s179_45, s179_49, s179_51, s179_54, s179_57, s179_59, s179_60, ldi_0, ldi_s, ldl_0, ldl_s, ldd_0, ldd_s, lda_0, lda_s, st1_0, st1_1, st2_0, st2_1, sti_0, sti_1, stj_0, stj_1, st1_2, sti_2, st2_2, stj_2, st1_3, sti_3, st2_3, stj_3, st1_4, sti_4, st2_4, stj_4, st1_5, sti_5, st2_5, stj_5, st1_6, sti_6, st2_6, stj_6, st1_7, sti_7, st2_7, stj_7, st1_8, sti_8, st2_8, stj_8, st1_9, sti_9, st2_9, stj_9, kil_n, kil_i, kil_r, kil_l, kil_d, gl_0, gl_s, cat_i, cat_r, true_and]
  have loop : ∀ (j : Nat) (s : Int64), j ≤ n + 1 → hrm F (fmd k.toInt64 y.toInt64) y.toInt64 (n + 1) 0 = hrm F (fmd k.toInt64 y.toInt64) y.toInt64 j s → aW (Sp 1) 179 0 0 (RR (some (.int (hrm F (fmd k.toInt64 y.toInt64) y.toInt64 (n + 1) 0).toInt32)) h z) 27 [some (.ref po), some (.int k), some (.int y), some (.long (fmd k.toInt64 y.toInt64)), none, some (.long s), none, some (.int (nI j + (-1)))] [] h z 0 0 := by
    intro j
    induction j with
    | zero =>
      intro s hj e
      rw [s179_27]
      simp only [s179_0, s179_1, s179_2, s179_5, s179_6, s179_7, s179_8, s179_9, s179_10, s179_14, s179_15, s179_16, s179_18, s179_19, s179_25, s179_29, s179_32, s179_34, s179_35, s179_36, s179_37, s179_40, s179_42, s179_43, s179_44, s179_45, s179_49, s179_51, s179_54, s179_57, s179_59, s179_60, ldi_0, ldi_s, ldl_0, ldl_s, ldd_0, ldd_s, lda_0, lda_s, st1_0, st1_1, st2_0, st2_1, sti_0, sti_1, stj_0, stj_1, st1_2, sti_2, st2_2, stj_2, st1_3, sti_3, st2_3, stj_3, st1_4, sti_4, st2_4, stj_4, st1_5, sti_5, st2_5, stj_5, st1_6, sti_6, st2_6, stj_6, st1_7, sti_7, st2_7, stj_7, st1_8, sti_8, st2_8, stj_8, st1_9, sti_9, st2_9, stj_9, kil_n, kil_i, kil_r, kil_l, kil_d, gl_0, gl_s, cat_i, cat_r, true_and]
      rw [br_1 (by decide), e]
      exact out_RR
    | succ j ih =>
      intro s hj e
      rw [nI_pm, s179_27]
      simp only [s179_0, s179_1, s179_2, s179_5, s179_6, s179_7, s179_8, s179_9, s179_10, s179_14, s179_15, s179_16, s179_18, s179_19, s179_25, s179_29, s179_32, s179_34, s179_35, s179_36, s179_37, s179_40, s179_42, s179_43, s179_44, s179_45, s179_49, s179_51, s179_54, s179_57, s179_59, s179_60, ldi_0, ldi_s, ldl_0, ldl_s, ldd_0, ldd_s, lda_0, lda_s, st1_0, st1_1, st2_0, st2_1, sti_0, sti_1, stj_0, stj_1, st1_2, sti_2, st2_2, stj_2, st1_3, sti_3, st2_3, stj_3, st1_4, sti_4, st2_4, stj_4, st1_5, sti_5, st2_5, stj_5, st1_6, sti_6, st2_6, stj_6, st1_7, sti_7, st2_7, stj_7, st1_8, sti_8, st2_8, stj_8, st1_9, sti_9, st2_9, stj_9, kil_n, kil_i, kil_r, kil_l, kil_d, gl_0, gl_s, cat_i, cat_r, true_and, gf_ob ho, ald_la hfa (show j < 10 by omega)]
      rw [nI_lit0, br_0 (nI_nlt (Nat.zero_le j) (by omega))]
      refine c179_46r (sp_floorMod hz) ?_
      simp only [s179_0, s179_1, s179_2, s179_5, s179_6, s179_7, s179_8, s179_9, s179_10, s179_14, s179_15, s179_16, s179_18, s179_19, s179_25, s179_29, s179_32, s179_34, s179_35, s179_36, s179_37, s179_40, s179_42, s179_43, s179_44, s179_45, s179_49, s179_51, s179_54, s179_57, s179_59, s179_60, ldi_0, ldi_s, ldl_0, ldl_s, ldd_0, ldd_s, lda_0, lda_s, st1_0, st1_1, st2_0, st2_1, sti_0, sti_1, stj_0, stj_1, st1_2, sti_2, st2_2, stj_2, st1_3, sti_3, st2_3, stj_3, st1_4, sti_4, st2_4, stj_4, st1_5, sti_5, st2_5, stj_5, st1_6, sti_6, st2_6, stj_6, st1_7, sti_7, st2_7, stj_7, st1_8, sti_8, st2_8, stj_8, st1_9, sti_9, st2_9, stj_9, kil_n, kil_i, kil_r, kil_l, kil_d, gl_0, gl_s, cat_i, cat_r, true_and]
      exact ih _ (by omega) e
  have key := loop (n + 1) 0 (Nat.le_refl _) rfl
  rw [nI_pm] at key
  exact key
end Rest
