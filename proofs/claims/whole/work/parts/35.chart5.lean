/-! Colourmap$Chart: exchange, invert, appendAll -/
def tr (a b q : Nat) : Nat := if q = a then b else if q = b then a else q
def wbx (x a b : Nat) : Nat := if x.testBit a = x.testBit b then x else x ^^^ (2 ^ a ||| 2 ^ b)
theorem wbx_bit {x a b q : Nat} : (wbx x a b).testBit q = x.testBit (tr a b q) := by
  unfold wbx tr
  by_cases h : x.testBit a = x.testBit b
  · rw [if_pos h]
    by_cases h1 : q = a
    · subst h1; simp [h]
    · by_cases h2 : q = b
      · subst h2; simp [h1, h]
      · simp [h1, h2]
  · rw [if_neg h, Nat.testBit_xor, Nat.testBit_or, Nat.testBit_two_pow, Nat.testBit_two_pow]
    by_cases h1 : q = a
    · subst h1
      cases h3 : x.testBit q <;> cases h4 : x.testBit b <;> simp_all
    · by_cases h2 : q = b
      · subst h2
        cases h3 : x.testBit q <;> cases h4 : x.testBit a <;> simp_all
      · simp [h1, h2, Ne.symm h1, Ne.symm h2]
theorem bit_int {x a : Nat} (hx : x < 512) (ha : a < 9) : nI x >>> (nI a &&& 31) &&& nI 1 = nI (if x.testBit a then 1 else 0) := by
  rw [nI_shr (by omega) (by omega), nI_and, shr_bit]
theorem sp_withBits {h : AH} {z x a b : Nat} (hx : x < 512) (ha : a < 9) (hb : b < 9) : Sp 1 60 [.int (nI x), .int (nI a), .int (nI b)] h z 0 0 (RR (some (.int (nI (wbx x a b)))) h z) := by
  refine Sp_in (al := [some (.int (nI x)), some (.int (nI a)), some (.int (nI b)), none]) ?_
  simp only [s60_0, s60_1, s60_2, s60_3, s60_4, s60_5, s60_6, s60_7, s60_8, s60_9, s60_10, s60_13, s60_14, s60_17, s60_18, s60_19, s60_20, s60_23, s60_24, s60_27, s60_28, s60_29, s60_30, s60_31, s60_32, s60_33, s60_34, s60_35, s60_36, ldi_0, ldi_s, ldl_0, ldl_s, ldd_0, ldd_s, lda_0, lda_s, st1_0, st1_1, st2_0, st2_1, sti_0, sti_1, stj_0, stj_1, st1_2, sti_2, st2_2, stj_2, st1_3, sti_3, st2_3, stj_3, st1_4, sti_4, st2_4, stj_4, st1_5, sti_5, st2_5, stj_5, st1_6, sti_6, st2_6, stj_6, st1_7, sti_7, st2_7, stj_7, st1_8, sti_8, st2_8, stj_8, st1_9, sti_9, st2_9, stj_9, kil_n, kil_i, kil_r, kil_l, kil_d, gl_0, gl_s, cat_i, cat_r, true_and]
  rw [nI_lit1, bit_int hx ha, bit_int hx hb, ← nI_lit1]
  have e : (¬ nI (if x.testBit a = true then 1 else 0) = nI (if x.testBit b = true then 1 else 0)) ↔ ¬ x.testBit a = x.testBit b := by
    cases x.testBit a <;> cases x.testBit b <;> decide
  refine ⟨fun h1 => ?_, fun h1 => ?_⟩
  · rw [e] at h1
    rw [br_1 trivial, one_shl (by omega), one_shl (by omega), nI_or, nI_xor]
    refine out_eq ?_ rfl rfl
    unfold wbx
    rw [if_neg h1]
  · rw [e, Decidable.not_not] at h1
    rw [br_0 (by decide)]
    refine out_eq ?_ rfl rfl
    unfold wbx
    rw [if_pos h1]
theorem not_any {x : Nat} : nI x ^^^ (-1) = nI (x ^^^ (2 ^ 32 - 1)) := by rw [nI_m1, nI_xor]
theorem rows9 {G : Nat → Nat → Bool} {p : Nat} : rowsN G p < 512 := mk9 _
section ChartZ
variable {h : AH} {c r n z : Nat} {G : Nat → Nat → Bool}
theorem tr_lt {a b n q : Nat} (ha : a < n) (hb : b < n) : tr a b q < n ↔ q < n := by
  unfold tr
  split
  · omega
  · split <;> omega
theorem tr_inj {a b p q : Nat} (h : tr a b p = tr a b q) : p = q := by
  unfold tr at h
  split at h <;> split at h <;> try split at h
  all_goals (try split at h)
  all_goals omega
def gSwap (a b : Nat) (G : Nat → Nat → Bool) : Nat → Nat → Bool := fun p q => G (tr a b p) (tr a b q)
theorem gSwap_ok (hG : GOK n G) {a b : Nat} (ha : a < n) (hb : b < n) : GOK n (gSwap a b G) := by
  refine ⟨hG.1, fun p q h => ?_⟩
  unfold gSwap at h ⊢
  obtain ⟨h1, h2, h3, h4⟩ := hG.2 _ _ h
  exact ⟨(tr_lt ha hb).mp h1, (tr_lt ha hb).mp h2, fun e => h3 (by rw [e]), h4⟩
def gDif (a b : Nat) (G : Nat → Nat → Bool) : Bool := (List.range 9).any (fun q => decide (q ≠ a) && decide (q ≠ b) && decide (G a q ≠ G b q))
theorem gDif_iff (hG : GOK n G) {a b : Nat} : gDif a b G = true ↔ ∃ q, q ≠ a ∧ q ≠ b ∧ G a q ≠ G b q := by
  unfold gDif
  rw [List.any_eq_true]
  constructor
  · rintro ⟨q, -, hq⟩
    simp only [Bool.and_eq_true, decide_eq_true_eq] at hq
    exact ⟨q, hq.1.1, hq.1.2, hq.2⟩
  · rintro ⟨q, h1, h2, h3⟩
    refine ⟨q, List.mem_range.mpr ?_, by simp [h1, h2, h3]⟩
    rcases Nat.lt_or_ge q 9 with h | h
    · exact h
    · have := hG.1
      exact absurd (by rw [hG.lt (by omega), hG.lt (by omega)]) h3
theorem noloop (hG : GOK n G) (a : Nat) : G a a = false := by
  cases hh : G a a
  · rfl
  · exact absurd rfl (hG.2 _ _ hh).2.2.1
theorem gDif_mask (hG : GOK n G) {a b : Nat} : (rowsN G a &&& (2 ^ b ^^^ (2 ^ 32 - 1)) = rowsN G b &&& (2 ^ a ^^^ (2 ^ 32 - 1))) ↔ gDif a b G = false := by
  rw [← Bool.not_eq_true, gDif_iff hG]
  constructor
  · rintro e ⟨q, h1, h2, h3⟩
    have := congrArg (fun x => Nat.testBit x q) e
    rw [tb_not rows9, tb_not rows9, rows_bit hG, rows_bit hG] at this
    simp [h1, h2] at this
    exact h3 this
  · intro h
    apply Nat.eq_of_testBit_eq
    intro q
    rw [tb_not rows9, tb_not rows9, rows_bit hG, rows_bit hG]
    by_cases h1 : q = a
    · subst h1; simp [noloop hG]
    · by_cases h2 : q = b
      · subst h2; simp [noloop hG]
      · simp [h1, h2]
        cases e1 : G a q <;> cases e2 : G b q
        · rfl
        · exact absurd ⟨q, h1, h2, by rw [e1, e2]; decide⟩ h
        · exact absurd ⟨q, h1, h2, by rw [e1, e2]; decide⟩ h
        · rfl
theorem sp_exchange (hc : ChAt h c r n G) (hG : GOK n G) {a b : Nat} (ha : a < n) (hb : b < n) : Sp 2 59 [.ref c, .int (nI a), .int (nI b)] h z 0 0 (RR (some (.int (bI (gDif a b G)))) (chSet h c r n (gSwap a b G)) z) := by
  have hne := hc.ne
  have hn := hG.1
  have hG' := gSwap_ok hG ha hb
  have hlt : ∀ k y, rowsN G k &&& y < 2 ^ 31 := fun k y => Nat.lt_of_le_of_lt Nat.and_le_left (Nat.lt_trans (mk9 _) (by decide))
  refine Sp_in (al := [some (.ref c), some (.int (nI a)), some (.int (nI b)), none, none, none]) ?_
  simp only [s59_0, s59_1, s59_5, s59_8, s59_9, s59_13, s59_16, s59_17, s59_18, s59_19, s59_22, s59_23, s59_24, s59_25, s59_26, s59_27, s59_28, s59_29, s59_30, s59_31, s59_34, s59_35, s59_36, s59_37, s59_38, s59_39, s59_40, s59_41, s59_42, s59_45, s59_46, s59_49, s59_50, s59_51, s59_52, s59_55, s59_56, s59_57, s59_59, s59_60, s59_63, s59_64, s59_65, s59_68, s59_69, s59_70, s59_71, s59_72, s59_75, s59_76, s59_78, s59_79, s59_80, s59_84, s59_85, s59_88, s59_91, s59_92, s59_95, s59_97, s59_98, s59_101, s59_103, s59_104, s59_105, s59_109, s59_110, s59_113, s59_116, s59_117, ldi_0, ldi_s, ldl_0, ldl_s, ldd_0, ldd_s, lda_0, lda_s, st1_0, st1_1, st2_0, st2_1, sti_0, sti_1, stj_0, stj_1, st1_2, sti_2, st2_2, stj_2, st1_3, sti_3, st2_3, stj_3, st1_4, sti_4, st2_4, stj_4, st1_5, sti_5, st2_5, stj_5, st1_6, sti_6, st2_6, stj_6, st1_7, sti_7, st2_7, stj_7, st1_8, sti_8, st2_8, stj_8, st1_9, sti_9, st2_9, stj_9, kil_n, kil_i, kil_r, kil_l, kil_d, gl_0, gl_s, cat_i, cat_r, true_and]
  refine c59_2r hc.1 (sp_hasN hc.1 hn ha) ?_
  simp only [s59_0, s59_1, s59_5, s59_8, s59_9, s59_13, s59_16, s59_17, s59_18, s59_19, s59_22, s59_23, s59_24, s59_25, s59_26, s59_27, s59_28, s59_29, s59_30, s59_31, s59_34, s59_35, s59_36, s59_37, s59_38, s59_39, s59_40, s59_41, s59_42, s59_45, s59_46, s59_49, s59_50, s59_51, s59_52, s59_55, s59_56, s59_57, s59_59, s59_60, s59_63, s59_64, s59_65, s59_68, s59_69, s59_70, s59_71, s59_72, s59_75, s59_76, s59_78, s59_79, s59_80, s59_84, s59_85, s59_88, s59_91, s59_92, s59_95, s59_97, s59_98, s59_101, s59_103, s59_104, s59_105, s59_109, s59_110, s59_113, s59_116, s59_117, ldi_0, ldi_s, ldl_0, ldl_s, ldd_0, ldd_s, lda_0, lda_s, st1_0, st1_1, st2_0, st2_1, sti_0, sti_1, stj_0, stj_1, st1_2, sti_2, st2_2, stj_2, st1_3, sti_3, st2_3, stj_3, st1_4, sti_4, st2_4, stj_4, st1_5, sti_5, st2_5, stj_5, st1_6, sti_6, st2_6, stj_6, st1_7, sti_7, st2_7, stj_7, st1_8, sti_8, st2_8, stj_8, st1_9, sti_9, st2_9, stj_9, kil_n, kil_i, kil_r, kil_l, kil_d, gl_0, gl_s, cat_i, cat_r, true_and]
  rw [br_0 (by decide)]
  refine c59_10r hc.1 (sp_hasN hc.1 hn hb) ?_
  simp only [s59_0, s59_1, s59_5, s59_8, s59_9, s59_13, s59_16, s59_17, s59_18, s59_19, s59_22, s59_23, s59_24, s59_25, s59_26, s59_27, s59_28, s59_29, s59_30, s59_31, s59_34, s59_35, s59_36, s59_37, s59_38, s59_39, s59_40, s59_41, s59_42, s59_45, s59_46, s59_49, s59_50, s59_51, s59_52, s59_55, s59_56, s59_57, s59_59, s59_60, s59_63, s59_64, s59_65, s59_68, s59_69, s59_70, s59_71, s59_72, s59_75, s59_76, s59_78, s59_79, s59_80, s59_84, s59_85, s59_88, s59_91, s59_92, s59_95, s59_97, s59_98, s59_101, s59_103, s59_104, s59_105, s59_109, s59_110, s59_113, s59_116, s59_117, ldi_0, ldi_s, ldl_0, ldl_s, ldd_0, ldd_s, lda_0, lda_s, st1_0, st1_1, st2_0, st2_1, sti_0, sti_1, stj_0, stj_1, st1_2, sti_2, st2_2, stj_2, st1_3, sti_3, st2_3, stj_3, st1_4, sti_4, st2_4, stj_4, st1_5, sti_5, st2_5, stj_5, st1_6, sti_6, st2_6, stj_6, st1_7, sti_7, st2_7, stj_7, st1_8, sti_8, st2_8, stj_8, st1_9, sti_9, st2_9, stj_9, kil_n, kil_i, kil_r, kil_l, kil_d, gl_0, gl_s, cat_i, cat_r, true_and]
  rw [br_1 (by decide)]
  simp only [gf_ob hc.1, gf_hn hc.1 hne, ldi_0, ldi_s, ldl_0, ldl_s, ldd_0, ldd_s, lda_0, lda_s, st1_0, st1_1, st2_0, st2_1, sti_0, sti_1, stj_0, stj_1, st1_2, sti_2, st2_2, stj_2, st1_3, sti_3, st2_3, stj_3, st1_4, sti_4, st2_4, stj_4, st1_5, sti_5, st2_5, stj_5, st1_6, sti_6, st2_6, stj_6, st1_7, sti_7, st2_7, stj_7, st1_8, sti_8, st2_8, stj_8, st1_9, sti_9, st2_9, stj_9, kil_n, kil_i, kil_r, kil_l, kil_d, gl_0, gl_s, cat_i, cat_r, true_and, s59_0, s59_1, s59_5, s59_8, s59_9, s59_13, s59_16, s59_17, s59_18, s59_19, s59_22, s59_23, s59_24, s59_25, s59_26, s59_27, s59_28, s59_29, s59_30, s59_31, s59_34, s59_35, s59_36, s59_37, s59_38, s59_39, s59_40, s59_41, s59_42, s59_45, s59_46, s59_49, s59_50, s59_51, s59_52, s59_55, s59_56, s59_57, s59_59, s59_60, s59_63, s59_64, s59_65, s59_68, s59_69, s59_70, s59_71, s59_72, s59_75, s59_76, s59_78, s59_79, s59_80, s59_84, s59_85, s59_88, s59_91, s59_92, s59_95, s59_97, s59_98, s59_101, s59_103, s59_104, s59_105, s59_109, s59_110, s59_113, s59_116, s59_117, ald_na hc.2 (show a < 9 by omega), ald_na hc.2 (show b < 9 by omega), not_bit (show b < 31 by omega), not_bit (show a < 31 by omega), nI_and, ast_na hc.2 (show a < 9 by omega), ast_hn (show b < 9 by omega), nI_eq (hlt _ _) (hlt _ _), gDif_mask hG]
  have loop : ∀ (x : Int32), x = bI (gDif a b G) → ∀ (j p : Nat), p + j = n → ∀ R : Nat → Nat, (∀ i, R i = if i < p then rowsN (gSwap a b G) i else rowsN G (tr a b i)) → aW (Sp 1) 59 0 0 (RR (some (.int (bI (gDif a b G)))) (chSet h c r n (gSwap a b G)) z) 82 [some (.ref c), some (.int (nI a)), some (.int (nI b)), some (.int x), some (.int (nI (rowsN G a))), some (.int (nI p))] [] (hup h r (na 9 R)) z 0 0 := by
    intro x hx j
    induction j with
    | zero =>
      intro p hp R hR
      rw [s59_82]
      simp only [s59_0, s59_1, s59_5, s59_8, s59_9, s59_13, s59_16, s59_17, s59_18, s59_19, s59_22, s59_23, s59_24, s59_25, s59_26, s59_27, s59_28, s59_29, s59_30, s59_31, s59_34, s59_35, s59_36, s59_37, s59_38, s59_39, s59_40, s59_41, s59_42, s59_45, s59_46, s59_49, s59_50, s59_51, s59_52, s59_55, s59_56, s59_57, s59_59, s59_60, s59_63, s59_64, s59_65, s59_68, s59_69, s59_70, s59_71, s59_72, s59_75, s59_76, s59_78, s59_79, s59_80, s59_84, s59_85, s59_88, s59_91, s59_92, s59_95, s59_97, s59_98, s59_101, s59_103, s59_104, s59_105, s59_109, s59_110, s59_113, s59_116, s59_117, ldi_0, ldi_s, ldl_0, ldl_s, ldd_0, ldd_s, lda_0, lda_s, st1_0, st1_1, st2_0, st2_1, sti_0, sti_1, stj_0, stj_1, st1_2, sti_2, st2_2, stj_2, st1_3, sti_3, st2_3, stj_3, st1_4, sti_4, st2_4, stj_4, st1_5, sti_5, st2_5, stj_5, st1_6, sti_6, st2_6, stj_6, st1_7, sti_7, st2_7, stj_7, st1_8, sti_8, st2_8, stj_8, st1_9, sti_9, st2_9, stj_9, kil_n, kil_i, kil_r, kil_l, kil_d, gl_0, gl_s, cat_i, cat_r, true_and, gf_hn hc.1 hne]
      rw [br_1 (nI_le (show n ≤ p by omega) (by omega))]
      refine ⟨by rw [hx]; exact nar_bI _, out_eq (by rw [hx]) ?_ rfl⟩
      refine chSet_rows hc ?_
      funext i
      rw [hR i]
      split
      · rfl
      · have e : tr a b i = i := by unfold tr; rw [if_neg (by omega), if_neg (by omega)]
        rw [e, rows_0 hG (by omega), rows_0 hG' (by omega)]
    | succ j ih =>
      intro p hp R hR
      rw [s59_82]
      simp only [s59_0, s59_1, s59_5, s59_8, s59_9, s59_13, s59_16, s59_17, s59_18, s59_19, s59_22, s59_23, s59_24, s59_25, s59_26, s59_27, s59_28, s59_29, s59_30, s59_31, s59_34, s59_35, s59_36, s59_37, s59_38, s59_39, s59_40, s59_41, s59_42, s59_45, s59_46, s59_49, s59_50, s59_51, s59_52, s59_55, s59_56, s59_57, s59_59, s59_60, s59_63, s59_64, s59_65, s59_68, s59_69, s59_70, s59_71, s59_72, s59_75, s59_76, s59_78, s59_79, s59_80, s59_84, s59_85, s59_88, s59_91, s59_92, s59_95, s59_97, s59_98, s59_101, s59_103, s59_104, s59_105, s59_109, s59_110, s59_113, s59_116, s59_117, ldi_0, ldi_s, ldl_0, ldl_s, ldd_0, ldd_s, lda_0, lda_s, st1_0, st1_1, st2_0, st2_1, sti_0, sti_1, stj_0, stj_1, st1_2, sti_2, st2_2, stj_2, st1_3, sti_3, st2_3, stj_3, st1_4, sti_4, st2_4, stj_4, st1_5, sti_5, st2_5, stj_5, st1_6, sti_6, st2_6, stj_6, st1_7, sti_7, st2_7, stj_7, st1_8, sti_8, st2_8, stj_8, st1_9, sti_9, st2_9, stj_9, kil_n, kil_i, kil_r, kil_l, kil_d, gl_0, gl_s, cat_i, cat_r, true_and, gf_hn hc.1 hne, ald_hn (show p < 9 by omega)]
      rw [br_0 (nI_ge (show p < n by omega) (by omega)), hR p, if_neg (by omega)]
      refine c59_106r (sp_withBits (mk9 _) (show a < 9 by omega) (show b < 9 by omega)) ?_
      simp only [s59_0, s59_1, s59_5, s59_8, s59_9, s59_13, s59_16, s59_17, s59_18, s59_19, s59_22, s59_23, s59_24, s59_25, s59_26, s59_27, s59_28, s59_29, s59_30, s59_31, s59_34, s59_35, s59_36, s59_37, s59_38, s59_39, s59_40, s59_41, s59_42, s59_45, s59_46, s59_49, s59_50, s59_51, s59_52, s59_55, s59_56, s59_57, s59_59, s59_60, s59_63, s59_64, s59_65, s59_68, s59_69, s59_70, s59_71, s59_72, s59_75, s59_76, s59_78, s59_79, s59_80, s59_84, s59_85, s59_88, s59_91, s59_92, s59_95, s59_97, s59_98, s59_101, s59_103, s59_104, s59_105, s59_109, s59_110, s59_113, s59_116, s59_117, ldi_0, ldi_s, ldl_0, ldl_s, ldd_0, ldd_s, lda_0, lda_s, st1_0, st1_1, st2_0, st2_1, sti_0, sti_1, stj_0, stj_1, st1_2, sti_2, st2_2, stj_2, st1_3, sti_3, st2_3, stj_3, st1_4, sti_4, st2_4, stj_4, st1_5, sti_5, st2_5, stj_5, st1_6, sti_6, st2_6, stj_6, st1_7, sti_7, st2_7, stj_7, st1_8, sti_8, st2_8, stj_8, st1_9, sti_9, st2_9, stj_9, kil_n, kil_i, kil_r, kil_l, kil_d, gl_0, gl_s, cat_i, cat_r, true_and, ast_hn (show p < 9 by omega)]
      rw [nI_1]
      refine ih (p + 1) (by omega) _ (fun i => ?_)
      unfold updN
      by_cases hi : i = p
      · subst hi
        rw [if_pos rfl, if_pos (show i < i + 1 by omega)]
        refine rows_ext hG' (fun q => ?_)
        rw [wbx_bit]
        exact rows_bit hG
      · rw [if_neg hi, hR i]
        by_cases h2 : i < p
        · rw [if_pos h2, if_pos (show i < p + 1 by omega)]
        · rw [if_neg h2, if_neg (show ¬ i < p + 1 by omega)]
  have hR0 : ∀ i, updN (updN (rowsN G) a (rowsN G b)) b (rowsN G a) i = if i < 0 then rowsN (gSwap a b G) i else rowsN G (tr a b i) := by
    intro i
    rw [if_neg (by omega)]
    unfold updN tr
    by_cases h1 : i = b
    · subst h1
      by_cases h2 : i = a
      · subst h2; simp
      · simp [h2]
    · by_cases h2 : i = a
      · subst h2; simp [h1]
      · simp [h1, h2]
  refine ⟨fun h1 => ?_, fun h1 => ?_⟩
  · exact loop 0 (by rw [h1]; rfl) n 0 (by omega) _ hR0
  · refine loop 1 ?_ n 0 (by omega) _ hR0
    cases hh : gDif a b G
    · exact absurd hh h1
    · rfl
def gInv (n : Nat) (G : Nat → Nat → Bool) : Nat → Nat → Bool := fun p q => decide (p < n) && decide (q < n) && decide (p ≠ q) && !G p q
theorem gInv_ok (hG : GOK n G) : GOK n (gInv n G) := by
  refine ⟨hG.1, fun p q h => ?_⟩
  unfold gInv at h ⊢
  simp only [Bool.and_eq_true, decide_eq_true_eq, Bool.not_eq_true'] at h ⊢
  obtain ⟨⟨⟨h1, h2⟩, h3⟩, h4⟩ := h
  refine ⟨h1, h2, h3, ⟨⟨h2, h1⟩, Ne.symm h3⟩, ?_⟩
  cases hh : G q p
  · rfl
  · rw [(hG.2 _ _ hh).2.2.2] at h4
    cases h4
theorem sp_invert (hc : ChAt h c r n G) (hG : GOK n G) : Sp 2 63 [.ref c] h z 0 0 (RR none (chSet h c r n (gInv n G)) z) := by
  have hne := hc.ne
  have hn := hG.1
  have hG' := gInv_ok hG
  refine Sp_in (al := [some (.ref c), none]) ?_
  simp only [s63_0, s63_1, s63_3, s63_4, s63_7, s63_10, s63_11, s63_14, s63_15, s63_19, s63_20, s63_23, s63_24, s63_25, s63_26, s63_27, s63_28, s63_29, s63_30, s63_31, s63_32, s63_33, s63_34, s63_35, s63_38, s63_41, ldi_0, ldi_s, ldl_0, ldl_s, ldd_0, ldd_s, lda_0, lda_s, st1_0, st1_1, st2_0, st2_1, sti_0, sti_1, stj_0, stj_1, st1_2, sti_2, st2_2, stj_2, st1_3, sti_3, st2_3, stj_3, st1_4, sti_4, st2_4, stj_4, st1_5, sti_5, st2_5, stj_5, st1_6, sti_6, st2_6, stj_6, st1_7, sti_7, st2_7, stj_7, st1_8, sti_8, st2_8, stj_8, st1_9, sti_9, st2_9, stj_9, kil_n, kil_i, kil_r, kil_l, kil_d, gl_0, gl_s, cat_i, cat_r, true_and]
  have loop : ∀ (j p : Nat), p + j = n → ∀ R : Nat → Nat, (∀ i, R i = if i < p then rowsN (gInv n G) i else rowsN G i) → aW (Sp 1) 63 0 0 (RR none (chSet h c r n (gInv n G)) z) 2 [some (.ref c), some (.int (nI p))] [] (hup h r (na 9 R)) z 0 0 := by
    intro j
    induction j with
    | zero =>
      intro p hp R hR
      rw [s63_2]
      simp only [s63_0, s63_1, s63_3, s63_4, s63_7, s63_10, s63_11, s63_14, s63_15, s63_19, s63_20, s63_23, s63_24, s63_25, s63_26, s63_27, s63_28, s63_29, s63_30, s63_31, s63_32, s63_33, s63_34, s63_35, s63_38, s63_41, ldi_0, ldi_s, ldl_0, ldl_s, ldd_0, ldd_s, lda_0, lda_s, st1_0, st1_1, st2_0, st2_1, sti_0, sti_1, stj_0, stj_1, st1_2, sti_2, st2_2, stj_2, st1_3, sti_3, st2_3, stj_3, st1_4, sti_4, st2_4, stj_4, st1_5, sti_5, st2_5, stj_5, st1_6, sti_6, st2_6, stj_6, st1_7, sti_7, st2_7, stj_7, st1_8, sti_8, st2_8, stj_8, st1_9, sti_9, st2_9, stj_9, kil_n, kil_i, kil_r, kil_l, kil_d, gl_0, gl_s, cat_i, cat_r, true_and, gf_hn hc.1 hne]
      rw [br_1 (nI_le (show n ≤ p by omega) (by omega))]
      refine out_eq rfl (chSet_rows hc ?_) rfl
      funext i
      rw [hR i]
      split
      · rfl
      · rw [rows_0 hG (by omega), rows_0 hG' (by omega)]
    | succ j ih =>
      intro p hp R hR
      have hc1 : hup h r (na 9 R) c = some (chO n r) := by rw [hup_ne hne]; exact hc.1
      rw [s63_2]
      simp only [s63_0, s63_1, s63_3, s63_4, s63_7, s63_10, s63_11, s63_14, s63_15, s63_19, s63_20, s63_23, s63_24, s63_25, s63_26, s63_27, s63_28, s63_29, s63_30, s63_31, s63_32, s63_33, s63_34, s63_35, s63_38, s63_41, ldi_0, ldi_s, ldl_0, ldl_s, ldd_0, ldd_s, lda_0, lda_s, st1_0, st1_1, st2_0, st2_1, sti_0, sti_1, stj_0, stj_1, st1_2, sti_2, st2_2, stj_2, st1_3, sti_3, st2_3, stj_3, st1_4, sti_4, st2_4, stj_4, st1_5, sti_5, st2_5, stj_5, st1_6, sti_6, st2_6, stj_6, st1_7, sti_7, st2_7, stj_7, st1_8, sti_8, st2_8, stj_8, st1_9, sti_9, st2_9, stj_9, kil_n, kil_i, kil_r, kil_l, kil_d, gl_0, gl_s, cat_i, cat_r, true_and, gf_hn hc.1 hne]
      rw [br_0 (nI_ge (show p < n by omega) (by omega))]
      refine c63_16r hc1 (sp_all hc1 hn) ?_
      simp only [s63_0, s63_1, s63_3, s63_4, s63_7, s63_10, s63_11, s63_14, s63_15, s63_19, s63_20, s63_23, s63_24, s63_25, s63_26, s63_27, s63_28, s63_29, s63_30, s63_31, s63_32, s63_33, s63_34, s63_35, s63_38, s63_41, ldi_0, ldi_s, ldl_0, ldl_s, ldd_0, ldd_s, lda_0, lda_s, st1_0, st1_1, st2_0, st2_1, sti_0, sti_1, stj_0, stj_1, st1_2, sti_2, st2_2, stj_2, st1_3, sti_3, st2_3, stj_3, st1_4, sti_4, st2_4, stj_4, st1_5, sti_5, st2_5, stj_5, st1_6, sti_6, st2_6, stj_6, st1_7, sti_7, st2_7, stj_7, st1_8, sti_8, st2_8, stj_8, st1_9, sti_9, st2_9, stj_9, kil_n, kil_i, kil_r, kil_l, kil_d, gl_0, gl_s, cat_i, cat_r, true_and, gf_hn hc.1 hne, ald_hn (show p < 9 by omega), not_bit (show p < 31 by omega), not_any, nI_and, ast_hn (show p < 9 by omega)]
      rw [nI_1]
      refine ih (p + 1) (by omega) _ (fun i => ?_)
      unfold updN
      by_cases hi : i = p
      · subst hi
        rw [if_pos rfl, if_pos (show i < i + 1 by omega), hR i, if_neg (show ¬ i < i by omega)]
        refine rows_ext hG' (fun q => ?_)
        have h512 : (2 ^ n - 1) &&& (rowsN G i ^^^ (2 ^ 32 - 1)) < 512 := by
          refine Nat.lt_of_le_of_lt Nat.and_le_left ?_
          have := Nat.pow_le_pow_right (show 0 < 2 by decide) hn
          omega
        rw [tb_not h512, Nat.testBit_and, Nat.testBit_xor, Nat.testBit_two_pow_sub_one, Nat.testBit_two_pow_sub_one, rows_bit hG]
        unfold gInv
        by_cases hq : q < n
        · have h32 : q < 32 := by omega
          have hin : i < n := by omega
          simp [hq, h32, hin, eq_comm, Bool.and_comm]
        · simp [hq]
      · rw [if_neg hi, hR i]
        by_cases h2 : i < p
        · rw [if_pos h2, if_pos (show i < p + 1 by omega)]
        · rw [if_neg h2, if_neg (show ¬ i < p + 1 by omega)]
  have := loop n 0 (by omega) (rowsN G) (fun i => by simp)
  rw [hup_id hc.2] at this
  exact this
/-- the first k places of a second map behind those of the first -/
def gBes (n k : Nat) (G G2 : Nat → Nat → Bool) : Nat → Nat → Bool := fun p q => if p < n ∧ q < n then G p q else if n ≤ p ∧ n ≤ q then decide (p < n + k) && decide (q < n + k) && G2 (p - n) (q - n) else false
theorem gBes_0 (hG : GOK n G) {G2 : Nat → Nat → Bool} : gBes n 0 G G2 = G := by
  funext p q
  unfold gBes
  split
  · rfl
  · rename_i h1
    split
    · rename_i h2
      rw [hG.lt' h2.1]
      simp
      omega
    · rename_i h2
      rcases Nat.lt_or_ge p n with hp | hp
      · rw [hG.lt (by omega)]
      · rw [hG.lt' hp]
theorem gBes_ok (hG : GOK n G) {n2 k : Nat} {G2 : Nat → Nat → Bool} (hG2 : GOK n2 G2) (hk : n + k ≤ 9) : GOK (n + k) (gBes n k G G2) := by
  refine ⟨hk, fun p q h => ?_⟩
  unfold gBes at h ⊢
  split at h
  · rename_i h1
    obtain ⟨g1, g2, g3, g4⟩ := hG.2 _ _ h
    exact ⟨by omega, by omega, g3, by rw [if_pos ⟨h1.2, h1.1⟩]; exact g4⟩
  · rename_i h1
    split at h
    · rename_i h2
      simp only [Bool.and_eq_true, decide_eq_true_eq] at h
      obtain ⟨⟨g1, g2⟩, g3⟩ := h
      obtain ⟨e1, e2, e3, e4⟩ := hG2.2 _ _ g3
      refine ⟨g1, g2, fun e => e3 (by rw [e]), ?_⟩
      rw [if_neg (by omega), if_pos ⟨h2.2, h2.1⟩]
      simp [g1, g2, e4]
    · cases h
theorem gBes_s {n2 k : Nat} {G2 : Nat → Nat → Bool} (hG2 : GOK n2 G2) : gAdd (n + k) (fun q => ((rowsN G2 k &&& (2 ^ k - 1)) * 2 ^ n).testBit q) (gBes n k G G2) = gBes n (k + 1) G G2 := by
  funext p q
  unfold gAdd
  have hb : ∀ q, ((rowsN G2 k &&& (2 ^ k - 1)) * 2 ^ n).testBit q = (decide (n ≤ q) && (G2 k (q - n) && decide (q - n < k))) := by
    intro q
    rw [Nat.testBit_mul_two_pow, Nat.testBit_and, Nat.testBit_two_pow_sub_one, rows_bit hG2]
  have hsym : ∀ a b, G2 a b = G2 b a := by
    intro a b
    cases h1 : G2 a b <;> cases h2 : G2 b a
    · rfl
    · rw [(hG2.2 _ _ h2).2.2.2] at h1; cases h1
    · rw [(hG2.2 _ _ h1).2.2.2] at h2; cases h2
    · rfl
  split
  · rename_i hp
    subst hp
    dsimp only
    rw [hb]
    unfold gBes
    rw [if_neg (by omega)]
    by_cases hq : n ≤ q
    · rw [if_pos ⟨by omega, hq⟩, show n + k - n = k by omega]
      by_cases h1 : q < n + k
      · have : q - n < k := by omega
        have h2 : q < n + (k + 1) := by omega
        simp [h1, this, hq, h2]
      · have hqk : q - n = k ∨ ¬ q < n + (k + 1) := by omega
        rcases hqk with e | e
        · rw [e, noloop hG2]
          simp
        · simp [h1, e]
    · rw [if_neg (by omega)]
      simp [hq]
  · rename_i hp
    split
    · rename_i hq
      subst hq
      dsimp only
      rw [hb]
      unfold gBes
      rw [if_neg (by omega)]
      by_cases hp2 : n ≤ p
      · rw [if_pos ⟨hp2, by omega⟩, show n + k - n = k by omega, hsym]
        by_cases h1 : p < n + k
        · have : p - n < k := by omega
          have h2 : p < n + (k + 1) := by omega
          simp [h1, this, hp2, h2]
        · have h2 : ¬ p < n + (k + 1) := by omega
          simp [h1, h2]
      · rw [if_neg (by omega)]
        simp [hp2]
    · rename_i hq
      unfold gBes
      split
      · rfl
      · split
        · rw [show decide (p < n + k) = decide (p < n + (k + 1)) from decide_eq_decide.mpr (by omega), show decide (q < n + k) = decide (q < n + (k + 1)) from decide_eq_decide.mpr (by omega)]
        · rfl
theorem sp_appendAll (hc : ChAt h c r n G) (hG : GOK n G) {c2 r2 n2 : Nat} {G2 : Nat → Nat → Bool} (hd : ChAt h c2 r2 n2 G2) (hG2 : GOK n2 G2) (h1 : c2 ≠ c) (h2 : r2 ≠ r) (h9 : n + n2 ≤ 9) : Sp 3 73 [.ref c, .ref c2] h z 0 0 (RR none (chSet h c r (n + n2) (gBes n n2 G G2)) z) := by
  have hne := hc.ne
  have h3 : c2 ≠ r := kind_ne hd.1 hc.2
  have h4 : r2 ≠ c := (kind_ne hc.1 hd.2).symm
  refine Sp_in (al := [some (.ref c), some (.ref c2), none, none, none]) ?_
  simp only [s73_0, s73_1, s73_4, s73_5, s73_6, s73_8, s73_9, s73_12, s73_15, s73_16, s73_19, s73_20, s73_21, s73_22, s73_23, s73_24, s73_25, s73_26, s73_27, s73_29, s73_30, s73_32, s73_33, s73_37, s73_40, s73_43, ldi_0, ldi_s, ldl_0, ldl_s, ldd_0, ldd_s, lda_0, lda_s, st1_0, st1_1, st2_0, st2_1, sti_0, sti_1, stj_0, stj_1, st1_2, sti_2, st2_2, stj_2, st1_3, sti_3, st2_3, stj_3, st1_4, sti_4, st2_4, stj_4, st1_5, sti_5, st2_5, stj_5, st1_6, sti_6, st2_6, stj_6, st1_7, sti_7, st2_7, stj_7, st1_8, sti_8, st2_8, stj_8, st1_9, sti_9, st2_9, stj_9, kil_n, kil_i, kil_r, kil_l, kil_d, gl_0, gl_s, cat_i, cat_r, true_and, gf_ob hc.1]
  have loop : ∀ (j p : Nat), p + j = n2 → ∀ b : Option Value, kil b = b → aW (Sp 2) 73 0 0 (RR none (chSet h c r (n + n2) (gBes n n2 G G2)) z) 7 [some (.ref c), some (.ref c2), some (.int (nI n)), some (.int (nI p)), b] [] (chSet h c r (n + p) (gBes n p G G2)) z 0 0 := by
    intro j
    induction j with
    | zero =>
      intro p hp b hb
      have e : p = n2 := by omega
      subst e
      have hd1 : ChAt (chSet h c r (n + p) (gBes n p G G2)) c2 r2 p G2 := ⟨by rw [chSet_ne h1 h3]; exact hd.1, by rw [chSet_ne h4 h2]; exact hd.2⟩
      rw [s73_7]
      simp only [s73_0, s73_1, s73_4, s73_5, s73_6, s73_8, s73_9, s73_12, s73_15, s73_16, s73_19, s73_20, s73_21, s73_22, s73_23, s73_24, s73_25, s73_26, s73_27, s73_29, s73_30, s73_32, s73_33, s73_37, s73_40, s73_43, ldi_0, ldi_s, ldl_0, ldl_s, ldd_0, ldd_s, lda_0, lda_s, st1_0, st1_1, st2_0, st2_1, sti_0, sti_1, stj_0, stj_1, st1_2, sti_2, st2_2, stj_2, st1_3, sti_3, st2_3, stj_3, st1_4, sti_4, st2_4, stj_4, st1_5, sti_5, st2_5, stj_5, st1_6, sti_6, st2_6, stj_6, st1_7, sti_7, st2_7, stj_7, st1_8, sti_8, st2_8, stj_8, st1_9, sti_9, st2_9, stj_9, kil_n, kil_i, kil_r, kil_l, kil_d, gl_0, gl_s, cat_i, cat_r, true_and, gf_ob hd1.1]
      rw [br_1 (nI_le (Nat.le_refl _) (by omega))]
      exact out_RR
    | succ j ih =>
      intro p hp b hb
      have hd1 : ChAt (chSet h c r (n + p) (gBes n p G G2)) c2 r2 n2 G2 := ⟨by rw [chSet_ne h1 h3]; exact hd.1, by rw [chSet_ne h4 h2]; exact hd.2⟩
      have hc1 : ChAt (chSet h c r (n + p) (gBes n p G G2)) c r (n + p) (gBes n p G G2) := chSet_at hne
      have hlt : (rowsN G2 p &&& (2 ^ p - 1)) * 2 ^ n < 512 := by
        have h5 : rowsN G2 p &&& (2 ^ p - 1) < 2 ^ p := by
          have := Nat.and_le_right (n := rowsN G2 p) (m := 2 ^ p - 1)
          have := Nat.one_le_two_pow (n := p)
          omega
        have h6 : (rowsN G2 p &&& (2 ^ p - 1)) * 2 ^ n < 2 ^ p * 2 ^ n := Nat.mul_lt_mul_of_pos_right h5 Nat.one_le_two_pow
        rw [← Nat.pow_add] at h6
        exact Nat.lt_of_lt_of_le h6 (Nat.pow_le_pow_right (by decide) (show p + n ≤ 9 by omega))
      rw [s73_7]
      simp only [s73_0, s73_1, s73_4, s73_5, s73_6, s73_8, s73_9, s73_12, s73_15, s73_16, s73_19, s73_20, s73_21, s73_22, s73_23, s73_24, s73_25, s73_26, s73_27, s73_29, s73_30, s73_32, s73_33, s73_37, s73_40, s73_43, ldi_0, ldi_s, ldl_0, ldl_s, ldd_0, ldd_s, lda_0, lda_s, st1_0, st1_1, st2_0, st2_1, sti_0, sti_1, stj_0, stj_1, st1_2, sti_2, st2_2, stj_2, st1_3, sti_3, st2_3, stj_3, st1_4, sti_4, st2_4, stj_4, st1_5, sti_5, st2_5, stj_5, st1_6, sti_6, st2_6, stj_6, st1_7, sti_7, st2_7, stj_7, st1_8, sti_8, st2_8, stj_8, st1_9, sti_9, st2_9, stj_9, kil_n, kil_i, kil_r, kil_l, kil_d, gl_0, gl_s, cat_i, cat_r, true_and, gf_ob hd1.1, ald_na hd1.2 (show p < 9 by omega), one_shl (show p < 31 by omega)]
      rw [br_0 (nI_ge (show p < n2 by omega) (by omega)), nI_lit1, pk_sub Nat.one_le_two_pow, nI_and, nI_shl (by omega) (by omega)]
      refine c73_34r hc1.1 (sp_append hc1 (gBes_ok hG hG2 (by omega)) (by omega) hlt) ?_
      simp only [s73_0, s73_1, s73_4, s73_5, s73_6, s73_8, s73_9, s73_12, s73_15, s73_16, s73_19, s73_20, s73_21, s73_22, s73_23, s73_24, s73_25, s73_26, s73_27, s73_29, s73_30, s73_32, s73_33, s73_37, s73_40, s73_43, ldi_0, ldi_s, ldl_0, ldl_s, ldd_0, ldd_s, lda_0, lda_s, st1_0, st1_1, st2_0, st2_1, sti_0, sti_1, stj_0, stj_1, st1_2, sti_2, st2_2, stj_2, st1_3, sti_3, st2_3, stj_3, st1_4, sti_4, st2_4, stj_4, st1_5, sti_5, st2_5, stj_5, st1_6, sti_6, st2_6, stj_6, st1_7, sti_7, st2_7, stj_7, st1_8, sti_8, st2_8, stj_8, st1_9, sti_9, st2_9, stj_9, kil_n, kil_i, kil_r, kil_l, kil_d, gl_0, gl_s, cat_i, cat_r, true_and]
      rw [chSet_set hne, gBes_s hG2, nI_1]
      exact ih (p + 1) (by omega) _ rfl
  have := loop n2 0 (by omega) none rfl
  rw [gBes_0 hG, Nat.add_zero, chSet_id hc] at this
  exact this
end ChartZ
