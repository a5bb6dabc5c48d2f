/-! Colourmap$Chart: writes, continued -/
theorem ald_hn {h : AH} {a p : Nat} {R : Nat → Nat} {f : Value → Prop} (hp : p < 9) : ald (hup h a (na 9 R)) a 0 (nI p) f = f (.int (nI (R p))) := ald_na hup_same hp
theorem ast_hn {h : AH} {a p x : Nat} {R : Nat → Nat} {f : AH → Prop} (hp : p < 9) : ast (hup h a (na 9 R)) a 0 (nI p) (.int (nI x)) f = f (hup h a (na 9 (updN R p x))) := by
  rw [ast_na hup_same hp, hup_hup]
theorem gf_hn {h : AH} {c r cc k : Nat} {X : AC} {fs : List Value} {f : Value → Prop} (e : h c = some (ob cc fs)) (hn : c ≠ r) : gf (hup h r X) c cc k f = gl fs k f := gf_ob (by rw [hup_ne hn]; exact e)
theorem gf_hs {h : AH} {c cc k : Nat} {fs : List Value} {f : Value → Prop} : gf (hup h c (ob cc fs)) c cc k f = gl fs k f := gf_ob hup_same
theorem nI_m1 : (-1 : Int32) = nI (2 ^ 32 - 1) := by decide
theorem not_bit {b : Nat} (hb : b < 31) : ((1 : Int32) <<< (nI b &&& 31)) ^^^ (-1) = nI (2 ^ b ^^^ (2 ^ 32 - 1)) := by
  rw [one_shl hb, nI_m1, nI_xor]
theorem tb_not {x b q : Nat} (hx : x < 512) : (x &&& (2 ^ b ^^^ (2 ^ 32 - 1))).testBit q = (x.testBit q && decide (q ≠ b)) := by
  rw [Nat.testBit_and, Nat.testBit_xor, Nat.testBit_two_pow, Nat.testBit_two_pow_sub_one]
  by_cases hq : q < 32
  · by_cases h : b = q
    · subst h; simp [hq]
    · simp [h, hq, Ne.symm h]
  · have : x.testBit q = false := Nat.testBit_lt_two_pow (Nat.lt_of_lt_of_le hx (Nat.le_trans (show 512 ≤ 2 ^ 32 by decide) (Nat.pow_le_pow_right (by decide) (by omega))))
    simp [this]
theorem sp_min {h : AH} {z : Nat} {x y : Int32} : Sp 1 11 [.int x, .int y] h z 0 0 (RR (some (.int (if x ≤ y then x else y))) h z) := by
  refine Sp_in (al := [some (.int x), some (.int y)]) ?_
  simp only [s11_0, s11_1, s11_2, s11_5, s11_6, s11_9, s11_10, ldi_0, ldi_s, ldl_0, ldl_s, ldd_0, ldd_s, lda_0, lda_s, st1_0, st1_1, st2_0, st2_1, sti_0, sti_1, stj_0, stj_1, st1_2, sti_2, st2_2, stj_2, st1_3, sti_3, st2_3, stj_3, st1_4, sti_4, st2_4, stj_4, st1_5, sti_5, st2_5, stj_5, st1_6, sti_6, st2_6, stj_6, st1_7, sti_7, st2_7, stj_7, st1_8, sti_8, st2_8, stj_8, st1_9, sti_9, st2_9, stj_9, kil_n, kil_i, kil_r, kil_l, kil_d, gl_0, gl_s, cat_i, cat_r, true_and]
  refine ⟨fun h1 => ?_, fun h1 => ?_⟩
  · exact out_eq (by rw [if_neg (Int32.not_le.mpr h1)]) rfl rfl
  · exact out_eq (by rw [if_pos (Int32.not_lt.mp h1)]) rfl rfl
theorem sp_max {h : AH} {z : Nat} {x y : Int32} : Sp 1 12 [.int x, .int y] h z 0 0 (RR (some (.int (if y ≤ x then x else y))) h z) := by
  refine Sp_in (al := [some (.int x), some (.int y)]) ?_
  simp only [s12_0, s12_1, s12_2, s12_5, s12_6, s12_9, s12_10, ldi_0, ldi_s, ldl_0, ldl_s, ldd_0, ldd_s, lda_0, lda_s, st1_0, st1_1, st2_0, st2_1, sti_0, sti_1, stj_0, stj_1, st1_2, sti_2, st2_2, stj_2, st1_3, sti_3, st2_3, stj_3, st1_4, sti_4, st2_4, stj_4, st1_5, sti_5, st2_5, stj_5, st1_6, sti_6, st2_6, stj_6, st1_7, sti_7, st2_7, stj_7, st1_8, sti_8, st2_8, stj_8, st1_9, sti_9, st2_9, stj_9, kil_n, kil_i, kil_r, kil_l, kil_d, gl_0, gl_s, cat_i, cat_r, true_and]
  refine ⟨fun h1 => ?_, fun h1 => ?_⟩
  · exact out_eq (by rw [if_neg (Int32.not_le.mpr h1)]) rfl rfl
  · exact out_eq (by rw [if_pos (Int32.not_lt.mp h1)]) rfl rfl
def gE : Nat → Nat → Bool := fun _ _ => false
theorem gE_ok {n : Nat} (hn : n ≤ 9) : GOK n gE := ⟨hn, fun _ _ h => by cases h⟩
theorem rows_gE {p : Nat} : rowsN gE p = 0 := by
  apply Nat.eq_of_testBit_eq
  intro q
  rw [rows_bit (gE_ok (n := 0) (by decide)), Nat.zero_testBit]
  rfl
def wob (x g : Nat) : Nat := (x &&& (2 ^ g - 1)) ||| (x / 2 ^ (g + 1) * 2 ^ g)
def sk (g q : Nat) : Nat := if q < g then q else q + 1
theorem wob_bit {x g q : Nat} : (wob x g).testBit q = x.testBit (sk g q) := by
  unfold wob sk
  rw [Nat.testBit_or, Nat.testBit_and, Nat.testBit_two_pow_sub_one, Nat.testBit_mul_two_pow, Nat.testBit_div_two_pow]
  by_cases h : q < g
  · rw [if_pos h]
    have h2 : ¬ g ≤ q := by omega
    simp [h, h2]
  · rw [if_neg h]
    have h2 : g ≤ q := by omega
    rw [show q - g + (g + 1) = q + 1 by omega]
    simp [h, h2]
theorem wob_lt {x g : Nat} (hx : x < 512) (hg : g < 9) : x / 2 ^ (g + 1) * 2 ^ g < 512 := by
  have h1 : x / 2 ^ (g + 1) * 2 ^ (g + 1) ≤ x := Nat.div_mul_le_self _ _
  have h2 : x / 2 ^ (g + 1) * 2 ^ g ≤ x / 2 ^ (g + 1) * 2 ^ (g + 1) := Nat.mul_le_mul_left _ (Nat.pow_le_pow_right (by decide) (by omega))
  omega
theorem sp_withoutBit {h : AH} {z x g : Nat} (hx : x < 512) (hg : g < 9) : Sp 1 37 [.int (nI x), .int (nI g)] h z 0 0 (RR (some (.int (nI (wob x g)))) h z) := by
  refine Sp_in (al := [some (.int (nI x)), some (.int (nI g)), none, none]) ?_
  simp only [s37_0, s37_1, s37_2, s37_3, s37_4, s37_5, s37_6, s37_7, s37_8, s37_9, s37_10, s37_11, s37_12, s37_13, s37_14, s37_15, s37_16, s37_17, s37_18, s37_19, ldi_0, ldi_s, ldl_0, ldl_s, ldd_0, ldd_s, lda_0, lda_s, st1_0, st1_1, st2_0, st2_1, sti_0, sti_1, stj_0, stj_1, st1_2, sti_2, st2_2, stj_2, st1_3, sti_3, st2_3, stj_3, st1_4, sti_4, st2_4, stj_4, st1_5, sti_5, st2_5, stj_5, st1_6, sti_6, st2_6, stj_6, st1_7, sti_7, st2_7, stj_7, st1_8, sti_8, st2_8, stj_8, st1_9, sti_9, st2_9, stj_9, kil_n, kil_i, kil_r, kil_l, kil_d, gl_0, gl_s, cat_i, cat_r, true_and]
  refine out_eq ?_ rfl rfl
  have h3 := wob_lt hx hg
  rw [one_shl (by omega), nI_1, nI_shr (by omega) (by omega), nI_lit1, pk_sub Nat.one_le_two_pow, nI_and, nI_shl (by omega) (by omega), nI_or]
  rfl
theorem chSet_of {h : AH} {c r n : Nat} {G : Nat → Nat → Bool} {R : Nat → Nat} (e : R = rowsN G) : hup (hup h r (na 9 R)) c (chO n r) = chSet h c r n G := by
  rw [e]
  rfl
section ChartX
variable {h : AH} {c r n z : Nat} {G : Nat → Nat → Bool}
theorem rows_0 {n p : Nat} {G : Nat → Nat → Bool} (hG : GOK n G) (hp : n ≤ p) : rowsN G p = 0 := by
  apply Nat.eq_of_testBit_eq
  intro q
  rw [rows_bit hG, Nat.zero_testBit, hG.lt' hp]
theorem sp_reset (hc : ChAt h c r n G) (hG : GOK n G) {k : Nat} (hk : k ≤ 9) : Sp 2 10 [.ref c, .int (nI k)] h z 0 0 (RR none (chSet h c r k gE) z) := by
  have hne := hc.ne
  refine Sp_in (al := [some (.ref c), some (.int (nI k)), none]) ?_
  simp only [s10_0, s10_1, s10_2, s10_3, s10_11, s10_14, s10_15, s10_17, s10_19, s10_22, s10_23, s10_26, s10_27, s10_28, s10_29, s10_32, s10_35, ldi_0, ldi_s, ldl_0, ldl_s, ldd_0, ldd_s, lda_0, lda_s, st1_0, st1_1, st2_0, st2_1, sti_0, sti_1, stj_0, stj_1, st1_2, sti_2, st2_2, stj_2, st1_3, sti_3, st2_3, stj_3, st1_4, sti_4, st2_4, stj_4, st1_5, sti_5, st2_5, stj_5, st1_6, sti_6, st2_6, stj_6, st1_7, sti_7, st2_7, stj_7, st1_8, sti_8, st2_8, stj_8, st1_9, sti_9, st2_9, stj_9, kil_n, kil_i, kil_r, kil_l, kil_d, gl_0, gl_s, cat_i, cat_r, true_and]
  refine c10_5r sp_min ?_
  refine c10_8r sp_max ?_
  rw [nI_lit9, if_pos (nI_le hk (by decide)), nI_lit0]
  have hmx : (if nI k ≤ nI 0 then nI 0 else nI k) = nI k := by
    by_cases h0 : k = 0
    · subst h0; simp
    · rw [if_neg (nI_ge (by omega) (by omega))]
  rw [hmx]
  simp only [pf_ob hc.1 (show 0 < 2 by decide) (okv_i (x := nI k)), s10_0, s10_1, s10_2, s10_3, s10_11, s10_14, s10_15, s10_17, s10_19, s10_22, s10_23, s10_26, s10_27, s10_28, s10_29, s10_32, s10_35, ldi_0, ldi_s, ldl_0, ldl_s, ldd_0, ldd_s, lda_0, lda_s, st1_0, st1_1, st2_0, st2_1, sti_0, sti_1, stj_0, stj_1, st1_2, sti_2, st2_2, stj_2, st1_3, sti_3, st2_3, stj_3, st1_4, sti_4, st2_4, stj_4, st1_5, sti_5, st2_5, stj_5, st1_6, sti_6, st2_6, stj_6, st1_7, sti_7, st2_7, stj_7, st1_8, sti_8, st2_8, stj_8, st1_9, sti_9, st2_9, stj_9, kil_n, kil_i, kil_r, kil_l, kil_d, gl_0, gl_s, cat_i, cat_r, true_and]
  have loop : ∀ (j p : Nat), p + j = 9 → ∀ R : Nat → Nat, (∀ i, i < p → R i = 0) → (∀ i, 9 ≤ i → R i = 0) → aW (Sp 1) 10 0 0 (RR none (chSet h c r k gE) z) 16 [some (.ref c), some (.int (nI k)), some (.int (nI p))] [] (hup (hup h r (na 9 R)) c (chO k r)) z 0 0 := by
    intro j
    induction j with
    | zero =>
      intro p hp R hR hR9
      have e : p = 9 := by omega
      subst e
      rw [s10_16]
      simp only [s10_0, s10_1, s10_2, s10_3, s10_11, s10_14, s10_15, s10_17, s10_19, s10_22, s10_23, s10_26, s10_27, s10_28, s10_29, s10_32, s10_35, ldi_0, ldi_s, ldl_0, ldl_s, ldd_0, ldd_s, lda_0, lda_s, st1_0, st1_1, st2_0, st2_1, sti_0, sti_1, stj_0, stj_1, st1_2, sti_2, st2_2, stj_2, st1_3, sti_3, st2_3, stj_3, st1_4, sti_4, st2_4, stj_4, st1_5, sti_5, st2_5, stj_5, st1_6, sti_6, st2_6, stj_6, st1_7, sti_7, st2_7, stj_7, st1_8, sti_8, st2_8, stj_8, st1_9, sti_9, st2_9, stj_9, kil_n, kil_i, kil_r, kil_l, kil_d, gl_0, gl_s, cat_i, cat_r, true_and]
      rw [br_1 (by rw [nI_lit9]; exact nI_le (Nat.le_refl _) (by decide))]
      refine out_eq rfl ?_ rfl
      unfold chSet
      rw [na_eq (R' := rowsN gE)]
      funext i
      rw [rows_gE]
      rcases Nat.lt_or_ge i 9 with h9 | h9
      · exact hR i h9
      · exact hR9 i h9
    | succ j ih =>
      intro p hp R hR hR9
      rw [s10_16]
      simp only [s10_0, s10_1, s10_2, s10_3, s10_11, s10_14, s10_15, s10_17, s10_19, s10_22, s10_23, s10_26, s10_27, s10_28, s10_29, s10_32, s10_35, ldi_0, ldi_s, ldl_0, ldl_s, ldd_0, ldd_s, lda_0, lda_s, st1_0, st1_1, st2_0, st2_1, sti_0, sti_1, stj_0, stj_1, st1_2, sti_2, st2_2, stj_2, st1_3, sti_3, st2_3, stj_3, st1_4, sti_4, st2_4, stj_4, st1_5, sti_5, st2_5, stj_5, st1_6, sti_6, st2_6, stj_6, st1_7, sti_7, st2_7, stj_7, st1_8, sti_8, st2_8, stj_8, st1_9, sti_9, st2_9, stj_9, kil_n, kil_i, kil_r, kil_l, kil_d, gl_0, gl_s, cat_i, cat_r, true_and]
      rw [br_0 (by rw [nI_lit9]; exact nI_ge (show p < 9 by omega) (by decide))]
      have hc2 : hup (hup h r (na 9 R)) c (chO k r) r = some (na 9 R) := by rw [hup_ne hne.symm, hup_same]
      simp only [gf_ob (hup_same (h := hup h r (na 9 R)) (a := c) (c := ob 0 [.int (nI k), .ref r])), chO, s10_0, s10_1, s10_2, s10_3, s10_11, s10_14, s10_15, s10_17, s10_19, s10_22, s10_23, s10_26, s10_27, s10_28, s10_29, s10_32, s10_35, ldi_0, ldi_s, ldl_0, ldl_s, ldd_0, ldd_s, lda_0, lda_s, st1_0, st1_1, st2_0, st2_1, sti_0, sti_1, stj_0, stj_1, st1_2, sti_2, st2_2, stj_2, st1_3, sti_3, st2_3, stj_3, st1_4, sti_4, st2_4, stj_4, st1_5, sti_5, st2_5, stj_5, st1_6, sti_6, st2_6, stj_6, st1_7, sti_7, st2_7, stj_7, st1_8, sti_8, st2_8, stj_8, st1_9, sti_9, st2_9, stj_9, kil_n, kil_i, kil_r, kil_l, kil_d, gl_0, gl_s, cat_i, cat_r, true_and]
      rw [nI_lit0]
      rw [show ob 0 [Value.int (nI k), Value.ref r] = chO k r from rfl, ast_na hc2 (show p < 9 by omega), hup_comm (Ne.symm hne), hup_hup]
      rw [nI_1, hup_comm hne]
      refine ih (p + 1) (by omega) _ (fun i hi => ?_) (fun i hi => ?_)
      · unfold updN
        split
        · rfl
        · exact hR i (by omega)
      · unfold updN
        rw [if_neg (by omega)]
        exact hR9 i hi
  have h9 : ∀ i, 9 ≤ i → rowsN G i = 0 := fun i hi => rows_0 hG (by have := hG.1; omega)
  have := loop 9 0 (by omega) (rowsN G) (fun i hi => by omega) h9
  rw [hup_id (a := r) hc.2] at this
  exact this
def gDel (g : Nat) (G : Nat → Nat → Bool) : Nat → Nat → Bool := fun p q => G (sk g p) (sk g q)
theorem sk_inj {g p q : Nat} (h : sk g p = sk g q) : p = q := by
  unfold sk at h
  split at h <;> split at h <;> omega
theorem gDel_ok (hG : GOK n G) {g : Nat} (hg : g < n) : GOK (n - 1) (gDel g G) := by
  refine ⟨by have := hG.1; omega, fun p q h => ?_⟩
  unfold gDel at h ⊢
  obtain ⟨h1, h2, h3, h4⟩ := hG.2 _ _ h
  have e1 : p < n - 1 := by unfold sk at h1; split at h1 <;> omega
  have e2 : q < n - 1 := by unfold sk at h2; split at h2 <;> omega
  exact ⟨e1, e2, fun e => h3 (by rw [e]), h4⟩
theorem sp_remove (hc : ChAt h c r n G) (hG : GOK n G) {g : Nat} (hg : g < n) : Sp 2 36 [.ref c, .int (nI g)] h z 0 0 (RR none (chSet h c r (n - 1) (gDel g G)) z) := by
  have hne := hc.ne
  have hn := hG.1
  have hG' := gDel_ok hG hg
  obtain ⟨n, rfl⟩ : ∃ k, n = k + 1 := ⟨n - 1, by omega⟩
  rw [Nat.add_sub_cancel] at hG' ⊢
  refine Sp_in (al := [some (.ref c), some (.int (nI g)), none]) ?_
  simp only [s36_0, s36_1, s36_5, s36_8, s36_9, s36_10, s36_11, s36_14, s36_15, s36_16, s36_19, s36_20, s36_22, s36_23, s36_26, s36_29, s36_30, s36_33, s36_34, s36_35, s36_38, s36_39, s36_40, s36_43, s36_44, s36_47, s36_48, s36_49, s36_50, s36_51, s36_55, s36_56, s36_59, s36_62, s36_63, s36_66, s36_67, s36_70, s36_71, s36_72, ldi_0, ldi_s, ldl_0, ldl_s, ldd_0, ldd_s, lda_0, lda_s, st1_0, st1_1, st2_0, st2_1, sti_0, sti_1, stj_0, stj_1, st1_2, sti_2, st2_2, stj_2, st1_3, sti_3, st2_3, stj_3, st1_4, sti_4, st2_4, stj_4, st1_5, sti_5, st2_5, stj_5, st1_6, sti_6, st2_6, stj_6, st1_7, sti_7, st2_7, stj_7, st1_8, sti_8, st2_8, stj_8, st1_9, sti_9, st2_9, stj_9, kil_n, kil_i, kil_r, kil_l, kil_d, gl_0, gl_s, cat_i, cat_r, true_and]
  refine c36_2r hc.1 (sp_hasN hc.1 hn hg) ?_
  simp only [s36_0, s36_1, s36_5, s36_8, s36_9, s36_10, s36_11, s36_14, s36_15, s36_16, s36_19, s36_20, s36_22, s36_23, s36_26, s36_29, s36_30, s36_33, s36_34, s36_35, s36_38, s36_39, s36_40, s36_43, s36_44, s36_47, s36_48, s36_49, s36_50, s36_51, s36_55, s36_56, s36_59, s36_62, s36_63, s36_66, s36_67, s36_70, s36_71, s36_72, ldi_0, ldi_s, ldl_0, ldl_s, ldd_0, ldd_s, lda_0, lda_s, st1_0, st1_1, st2_0, st2_1, sti_0, sti_1, stj_0, stj_1, st1_2, sti_2, st2_2, stj_2, st1_3, sti_3, st2_3, stj_3, st1_4, sti_4, st2_4, stj_4, st1_5, sti_5, st2_5, stj_5, st1_6, sti_6, st2_6, stj_6, st1_7, sti_7, st2_7, stj_7, st1_8, sti_8, st2_8, stj_8, st1_9, sti_9, st2_9, stj_9, kil_n, kil_i, kil_r, kil_l, kil_d, gl_0, gl_s, cat_i, cat_r, true_and]
  rw [br_1 (by decide)]
  simp only [gf_ob hc.1, ldi_0, ldi_s, ldl_0, ldl_s, ldd_0, ldd_s, lda_0, lda_s, st1_0, st1_1, st2_0, st2_1, sti_0, sti_1, stj_0, stj_1, st1_2, sti_2, st2_2, stj_2, st1_3, sti_3, st2_3, stj_3, st1_4, sti_4, st2_4, stj_4, st1_5, sti_5, st2_5, stj_5, st1_6, sti_6, st2_6, stj_6, st1_7, sti_7, st2_7, stj_7, st1_8, sti_8, st2_8, stj_8, st1_9, sti_9, st2_9, stj_9, kil_n, kil_i, kil_r, kil_l, kil_d, gl_0, gl_s, cat_i, cat_r, true_and, s36_0, s36_1, s36_5, s36_8, s36_9, s36_10, s36_11, s36_14, s36_15, s36_16, s36_19, s36_20, s36_22, s36_23, s36_26, s36_29, s36_30, s36_33, s36_34, s36_35, s36_38, s36_39, s36_40, s36_43, s36_44, s36_47, s36_48, s36_49, s36_50, s36_51, s36_55, s36_56, s36_59, s36_62, s36_63, s36_66, s36_67, s36_70, s36_71, s36_72, pf_ob hc.1 (show 0 < 2 by decide) okv_i]
  rw [nI_pred]
  have loop : ∀ (j p : Nat), p + j = n → ∀ R : Nat → Nat, (∀ i, R i = if i < p then rowsN (gDel g G) i else rowsN G i) → aW (Sp 1) 36 0 0 (RR none (chSet h c r n (gDel g G)) z) 21 [some (.ref c), some (.int (nI g)), some (.int (nI p))] [] (hup (hup h r (na 9 R)) c (chO n r)) z 0 0 := by
    intro j
    induction j with
    | zero =>
      intro p hp R hR
      have e : p = n := by omega
      subst e
      have hc1 : hup (hup h r (na 9 R)) c (chO p r) c = some (chO p r) := hup_same
      have hc2 : hup (hup h r (na 9 R)) c (chO p r) r = some (na 9 R) := by rw [hup_ne hne.symm, hup_same]
      rw [s36_21]
      simp only [s36_0, s36_1, s36_5, s36_8, s36_9, s36_10, s36_11, s36_14, s36_15, s36_16, s36_19, s36_20, s36_22, s36_23, s36_26, s36_29, s36_30, s36_33, s36_34, s36_35, s36_38, s36_39, s36_40, s36_43, s36_44, s36_47, s36_48, s36_49, s36_50, s36_51, s36_55, s36_56, s36_59, s36_62, s36_63, s36_66, s36_67, s36_70, s36_71, s36_72, ldi_0, ldi_s, ldl_0, ldl_s, ldd_0, ldd_s, lda_0, lda_s, st1_0, st1_1, st2_0, st2_1, sti_0, sti_1, stj_0, stj_1, st1_2, sti_2, st2_2, stj_2, st1_3, sti_3, st2_3, stj_3, st1_4, sti_4, st2_4, stj_4, st1_5, sti_5, st2_5, stj_5, st1_6, sti_6, st2_6, stj_6, st1_7, sti_7, st2_7, stj_7, st1_8, sti_8, st2_8, stj_8, st1_9, sti_9, st2_9, stj_9, kil_n, kil_i, kil_r, kil_l, kil_d, gl_0, gl_s, cat_i, cat_r, true_and, gf_ob hc1]
      rw [br_1 (nI_le (Nat.le_refl _) (by omega)), nI_lit0, ast_na hc2 (show p < 9 by omega)]
      refine out_eq rfl ?_ rfl
      rw [hup_comm (Ne.symm hne), hup_hup, hup_comm hne]
      refine chSet_of ?_
      funext i
      unfold updN
      by_cases hi : i = p
      · rw [if_pos hi, hi]
        exact (rows_0 hG' (Nat.le_refl _)).symm
      · rw [if_neg hi, hR i]
        split
        · rfl
        · rw [rows_0 hG' (by omega), rows_0 hG (by omega)]
    | succ j ih =>
      intro p hp R hR
      have hc1 : hup (hup h r (na 9 R)) c (chO n r) c = some (chO n r) := hup_same
      have hc2 : hup (hup h r (na 9 R)) c (chO n r) r = some (na 9 R) := by rw [hup_ne hne.symm, hup_same]
      have fin : aW (Sp 1) 36 0 0 (RR none (chSet h c r n (gDel g G)) z) 55 [some (.ref c), some (.int (nI g)), some (.int (nI p))] [.int (nI (wob (rowsN G (sk g p)) g)), .int (nI p), .ref r] (hup (hup h r (na 9 R)) c (chO n r)) z 0 0 := by
        simp only [s36_0, s36_1, s36_5, s36_8, s36_9, s36_10, s36_11, s36_14, s36_15, s36_16, s36_19, s36_20, s36_22, s36_23, s36_26, s36_29, s36_30, s36_33, s36_34, s36_35, s36_38, s36_39, s36_40, s36_43, s36_44, s36_47, s36_48, s36_49, s36_50, s36_51, s36_55, s36_56, s36_59, s36_62, s36_63, s36_66, s36_67, s36_70, s36_71, s36_72, ldi_0, ldi_s, ldl_0, ldl_s, ldd_0, ldd_s, lda_0, lda_s, st1_0, st1_1, st2_0, st2_1, sti_0, sti_1, stj_0, stj_1, st1_2, sti_2, st2_2, stj_2, st1_3, sti_3, st2_3, stj_3, st1_4, sti_4, st2_4, stj_4, st1_5, sti_5, st2_5, stj_5, st1_6, sti_6, st2_6, stj_6, st1_7, sti_7, st2_7, stj_7, st1_8, sti_8, st2_8, stj_8, st1_9, sti_9, st2_9, stj_9, kil_n, kil_i, kil_r, kil_l, kil_d, gl_0, gl_s, cat_i, cat_r, true_and, ast_na hc2 (show p < 9 by omega)]
        rw [nI_1, hup_comm (Ne.symm hne), hup_hup, hup_comm hne]
        refine ih (p + 1) (by omega) _ (fun i => ?_)
        unfold updN
        by_cases hi : i = p
        · subst hi
          rw [if_pos rfl, if_pos (show i < i + 1 by omega)]
          refine rows_ext hG' (fun q => ?_)
          rw [wob_bit, rows_bit hG]
          rfl
        · rw [if_neg hi, hR i]
          by_cases h2 : i < p
          · rw [if_pos h2, if_pos (show i < p + 1 by omega)]
          · rw [if_neg h2, if_neg (show ¬ i < p + 1 by omega)]
      rw [s36_21]
      simp only [s36_0, s36_1, s36_5, s36_8, s36_9, s36_10, s36_11, s36_14, s36_15, s36_16, s36_19, s36_20, s36_22, s36_23, s36_26, s36_29, s36_30, s36_33, s36_34, s36_35, s36_38, s36_39, s36_40, s36_43, s36_44, s36_47, s36_48, s36_49, s36_50, s36_51, s36_55, s36_56, s36_59, s36_62, s36_63, s36_66, s36_67, s36_70, s36_71, s36_72, ldi_0, ldi_s, ldl_0, ldl_s, ldd_0, ldd_s, lda_0, lda_s, st1_0, st1_1, st2_0, st2_1, sti_0, sti_1, stj_0, stj_1, st1_2, sti_2, st2_2, stj_2, st1_3, sti_3, st2_3, stj_3, st1_4, sti_4, st2_4, stj_4, st1_5, sti_5, st2_5, stj_5, st1_6, sti_6, st2_6, stj_6, st1_7, sti_7, st2_7, stj_7, st1_8, sti_8, st2_8, stj_8, st1_9, sti_9, st2_9, stj_9, kil_n, kil_i, kil_r, kil_l, kil_d, gl_0, gl_s, cat_i, cat_r, true_and, gf_ob hc1]
      rw [br_0 (nI_ge (show p < n by omega) (by omega))]
      refine ⟨fun h1 => ?_, fun h1 => ?_⟩
      · have h2 : g ≤ p := (nI_leI (by omega) (by omega)).mp h1
        rw [nI_1]
        simp only [ald_na hc2 (show p + 1 < 9 by omega)]
        rw [hR (p + 1), if_neg (by omega)]
        refine c36_52r (sp_withoutBit (mk9 _) (by omega)) ?_
        have e : sk g p = p + 1 := by unfold sk; rw [if_neg (by omega)]
        rw [e] at fin
        exact fin
      · have h2 : p < g := by
          rcases Nat.lt_or_ge p g with q | q
          · exact q
          · exact absurd (nI_le q (by omega)) h1
        simp only [ald_na hc2 (show p < 9 by omega)]
        rw [hR p, if_neg (by omega)]
        refine c36_52r (sp_withoutBit (mk9 _) (by omega)) ?_
        have e : sk g p = p := by unfold sk; rw [if_pos h2]
        rw [e] at fin
        exact fin
  have := loop n 0 (by omega) (rowsN G) (fun i => by simp)
  rw [hup_id (a := r) hc.2] at this
  exact this
def gJoin (a b : Nat) (G : Nat → Nat → Bool) : Nat → Nat → Bool := fun p q => G p q || (decide (a ≠ b) && (decide (p = a ∧ q = b) || decide (p = b ∧ q = a)))
theorem gJoin_ok (hG : GOK n G) {a b : Nat} (ha : a < n) (hb : b < n) : GOK n (gJoin a b G) := by
  refine ⟨hG.1, fun p q h => ?_⟩
  unfold gJoin at h ⊢
  rw [Bool.or_eq_true] at h
  rcases h with h | h
  · obtain ⟨h1, h2, h3, h4⟩ := hG.2 _ _ h
    exact ⟨h1, h2, h3, by rw [h4]; rfl⟩
  · simp at h
    obtain ⟨h1, h2⟩ := h
    rcases h2 with ⟨rfl, rfl⟩ | ⟨rfl, rfl⟩
    · exact ⟨ha, hb, h1, by simp [h1]⟩
    · exact ⟨hb, ha, Ne.symm h1, by simp [h1]⟩
theorem gJoin_same {a : Nat} : gJoin a a G = G := by
  funext p q
  unfold gJoin
  simp
theorem sp_join (hc : ChAt h c r n G) (hG : GOK n G) {a b : Nat} (ha : a < n) (hb : b < n) : Sp 2 46 [.ref c, .int (nI a), .int (nI b)] h z 0 0 (RR none (chSet h c r n (gJoin a b G)) z) := by
  have hne := hc.ne
  have hn := hG.1
  have hG' := gJoin_ok hG ha hb
  have h232 : ∀ k, k < 9 → 2 ^ k < 2 ^ 31 := fun k hk => Nat.pow_lt_pow_right (by decide) (by omega)
  refine Sp_in (al := [some (.ref c), some (.int (nI a)), some (.int (nI b))]) ?_
  simp only [s46_0, s46_1, s46_5, s46_8, s46_9, s46_13, s46_16, s46_17, s46_18, s46_21, s46_22, s46_25, s46_26, s46_27, s46_28, s46_29, s46_30, s46_31, s46_32, s46_33, s46_34, s46_37, s46_38, s46_39, s46_40, s46_41, s46_42, s46_43, s46_44, s46_45, ldi_0, ldi_s, ldl_0, ldl_s, ldd_0, ldd_s, lda_0, lda_s, st1_0, st1_1, st2_0, st2_1, sti_0, sti_1, stj_0, stj_1, st1_2, sti_2, st2_2, stj_2, st1_3, sti_3, st2_3, stj_3, st1_4, sti_4, st2_4, stj_4, st1_5, sti_5, st2_5, stj_5, st1_6, sti_6, st2_6, stj_6, st1_7, sti_7, st2_7, stj_7, st1_8, sti_8, st2_8, stj_8, st1_9, sti_9, st2_9, stj_9, kil_n, kil_i, kil_r, kil_l, kil_d, gl_0, gl_s, cat_i, cat_r, true_and]
  refine c46_2r hc.1 (sp_hasN hc.1 hn ha) ?_
  simp only [s46_0, s46_1, s46_5, s46_8, s46_9, s46_13, s46_16, s46_17, s46_18, s46_21, s46_22, s46_25, s46_26, s46_27, s46_28, s46_29, s46_30, s46_31, s46_32, s46_33, s46_34, s46_37, s46_38, s46_39, s46_40, s46_41, s46_42, s46_43, s46_44, s46_45, ldi_0, ldi_s, ldl_0, ldl_s, ldd_0, ldd_s, lda_0, lda_s, st1_0, st1_1, st2_0, st2_1, sti_0, sti_1, stj_0, stj_1, st1_2, sti_2, st2_2, stj_2, st1_3, sti_3, st2_3, stj_3, st1_4, sti_4, st2_4, stj_4, st1_5, sti_5, st2_5, stj_5, st1_6, sti_6, st2_6, stj_6, st1_7, sti_7, st2_7, stj_7, st1_8, sti_8, st2_8, stj_8, st1_9, sti_9, st2_9, stj_9, kil_n, kil_i, kil_r, kil_l, kil_d, gl_0, gl_s, cat_i, cat_r, true_and]
  rw [br_0 (by decide)]
  refine c46_10r hc.1 (sp_hasN hc.1 hn hb) ?_
  simp only [s46_0, s46_1, s46_5, s46_8, s46_9, s46_13, s46_16, s46_17, s46_18, s46_21, s46_22, s46_25, s46_26, s46_27, s46_28, s46_29, s46_30, s46_31, s46_32, s46_33, s46_34, s46_37, s46_38, s46_39, s46_40, s46_41, s46_42, s46_43, s46_44, s46_45, ldi_0, ldi_s, ldl_0, ldl_s, ldd_0, ldd_s, lda_0, lda_s, st1_0, st1_1, st2_0, st2_1, sti_0, sti_1, stj_0, stj_1, st1_2, sti_2, st2_2, stj_2, st1_3, sti_3, st2_3, stj_3, st1_4, sti_4, st2_4, stj_4, st1_5, sti_5, st2_5, stj_5, st1_6, sti_6, st2_6, stj_6, st1_7, sti_7, st2_7, stj_7, st1_8, sti_8, st2_8, stj_8, st1_9, sti_9, st2_9, stj_9, kil_n, kil_i, kil_r, kil_l, kil_d, gl_0, gl_s, cat_i, cat_r, true_and]
  rw [br_0 (by decide)]
  refine ⟨fun h1 => ?_, fun h1 => ?_⟩
  · have e : a = b := (nI_eq (by omega) (by omega)).mp h1
    subst e
    refine out_eq rfl ?_ rfl
    rw [gJoin_same, chSet_id hc]
  · have e : a ≠ b := fun q => h1 (by rw [q])
    simp only [gf_ob hc.1, gf_hn hc.1 hne, ldi_0, ldi_s, ldl_0, ldl_s, ldd_0, ldd_s, lda_0, lda_s, st1_0, st1_1, st2_0, st2_1, sti_0, sti_1, stj_0, stj_1, st1_2, sti_2, st2_2, stj_2, st1_3, sti_3, st2_3, stj_3, st1_4, sti_4, st2_4, stj_4, st1_5, sti_5, st2_5, stj_5, st1_6, sti_6, st2_6, stj_6, st1_7, sti_7, st2_7, stj_7, st1_8, sti_8, st2_8, stj_8, st1_9, sti_9, st2_9, stj_9, kil_n, kil_i, kil_r, kil_l, kil_d, gl_0, gl_s, cat_i, cat_r, true_and, s46_0, s46_1, s46_5, s46_8, s46_9, s46_13, s46_16, s46_17, s46_18, s46_21, s46_22, s46_25, s46_26, s46_27, s46_28, s46_29, s46_30, s46_31, s46_32, s46_33, s46_34, s46_37, s46_38, s46_39, s46_40, s46_41, s46_42, s46_43, s46_44, s46_45, ald_na hc.2 (show a < 9 by omega), one_shl (show b < 31 by omega), one_shl (show a < 31 by omega), nI_or, ast_na hc.2 (show a < 9 by omega), ald_hn (show b < 9 by omega), ast_hn (show b < 9 by omega)]
    refine out_eq rfl ?_ rfl
    refine chSet_rows hc ?_
    funext i
    refine rows_ext hG' (fun q => ?_)
    unfold updN gJoin
    by_cases hib : i = b
    · subst hib
      rw [if_pos rfl, if_neg (Ne.symm e), Nat.testBit_or, rows_bit hG, Nat.testBit_two_pow]
      simp [e, Ne.symm e, eq_comm]
    · rw [if_neg hib]
      by_cases hia : i = a
      · subst hia
        rw [if_pos rfl, Nat.testBit_or, rows_bit hG, Nat.testBit_two_pow]
        simp [e, eq_comm]
      · rw [if_neg hia, rows_bit hG]
        simp [hia, hib]
def gCut (a b : Nat) (G : Nat → Nat → Bool) : Nat → Nat → Bool := fun p q => G p q && !(decide (p = a ∧ q = b) || decide (p = b ∧ q = a))
theorem gCut_ok (hG : GOK n G) {a b : Nat} : GOK n (gCut a b G) := by
  refine ⟨hG.1, fun p q h => ?_⟩
  unfold gCut at h ⊢
  rw [Bool.and_eq_true] at h
  obtain ⟨h1, h2, h3, h4⟩ := hG.2 _ _ h.1
  refine ⟨h1, h2, h3, ?_⟩
  have h5 := h.2
  simp at h5
  simp [h4]
  exact ⟨h5.2.symm, h5.1.symm⟩
theorem sp_cut (hc : ChAt h c r n G) (hG : GOK n G) {a b : Nat} (ha : a < n) (hb : b < n) : Sp 2 50 [.ref c, .int (nI a), .int (nI b)] h z 0 0 (RR none (chSet h c r n (gCut a b G)) z) := by
  have hne := hc.ne
  have hn := hG.1
  have hG' : GOK n (gCut a b G) := gCut_ok hG
  refine Sp_in (al := [some (.ref c), some (.int (nI a)), some (.int (nI b))]) ?_
  simp only [s50_0, s50_1, s50_5, s50_8, s50_9, s50_13, s50_16, s50_17, s50_20, s50_21, s50_22, s50_23, s50_24, s50_25, s50_26, s50_27, s50_28, s50_29, s50_30, s50_31, s50_34, s50_35, s50_36, s50_37, s50_38, s50_39, s50_40, s50_41, s50_42, s50_43, s50_44, ldi_0, ldi_s, ldl_0, ldl_s, ldd_0, ldd_s, lda_0, lda_s, st1_0, st1_1, st2_0, st2_1, sti_0, sti_1, stj_0, stj_1, st1_2, sti_2, st2_2, stj_2, st1_3, sti_3, st2_3, stj_3, st1_4, sti_4, st2_4, stj_4, st1_5, sti_5, st2_5, stj_5, st1_6, sti_6, st2_6, stj_6, st1_7, sti_7, st2_7, stj_7, st1_8, sti_8, st2_8, stj_8, st1_9, sti_9, st2_9, stj_9, kil_n, kil_i, kil_r, kil_l, kil_d, gl_0, gl_s, cat_i, cat_r, true_and]
  refine c50_2r hc.1 (sp_hasN hc.1 hn ha) ?_
  simp only [s50_0, s50_1, s50_5, s50_8, s50_9, s50_13, s50_16, s50_17, s50_20, s50_21, s50_22, s50_23, s50_24, s50_25, s50_26, s50_27, s50_28, s50_29, s50_30, s50_31, s50_34, s50_35, s50_36, s50_37, s50_38, s50_39, s50_40, s50_41, s50_42, s50_43, s50_44, ldi_0, ldi_s, ldl_0, ldl_s, ldd_0, ldd_s, lda_0, lda_s, st1_0, st1_1, st2_0, st2_1, sti_0, sti_1, stj_0, stj_1, st1_2, sti_2, st2_2, stj_2, st1_3, sti_3, st2_3, stj_3, st1_4, sti_4, st2_4, stj_4, st1_5, sti_5, st2_5, stj_5, st1_6, sti_6, st2_6, stj_6, st1_7, sti_7, st2_7, stj_7, st1_8, sti_8, st2_8, stj_8, st1_9, sti_9, st2_9, stj_9, kil_n, kil_i, kil_r, kil_l, kil_d, gl_0, gl_s, cat_i, cat_r, true_and]
  rw [br_0 (by decide)]
  refine c50_10r hc.1 (sp_hasN hc.1 hn hb) ?_
  simp only [s50_0, s50_1, s50_5, s50_8, s50_9, s50_13, s50_16, s50_17, s50_20, s50_21, s50_22, s50_23, s50_24, s50_25, s50_26, s50_27, s50_28, s50_29, s50_30, s50_31, s50_34, s50_35, s50_36, s50_37, s50_38, s50_39, s50_40, s50_41, s50_42, s50_43, s50_44, ldi_0, ldi_s, ldl_0, ldl_s, ldd_0, ldd_s, lda_0, lda_s, st1_0, st1_1, st2_0, st2_1, sti_0, sti_1, stj_0, stj_1, st1_2, sti_2, st2_2, stj_2, st1_3, sti_3, st2_3, stj_3, st1_4, sti_4, st2_4, stj_4, st1_5, sti_5, st2_5, stj_5, st1_6, sti_6, st2_6, stj_6, st1_7, sti_7, st2_7, stj_7, st1_8, sti_8, st2_8, stj_8, st1_9, sti_9, st2_9, stj_9, kil_n, kil_i, kil_r, kil_l, kil_d, gl_0, gl_s, cat_i, cat_r, true_and]
  rw [br_0 (by decide)]
  simp only [gf_ob hc.1, gf_hn hc.1 hne, ldi_0, ldi_s, ldl_0, ldl_s, ldd_0, ldd_s, lda_0, lda_s, st1_0, st1_1, st2_0, st2_1, sti_0, sti_1, stj_0, stj_1, st1_2, sti_2, st2_2, stj_2, st1_3, sti_3, st2_3, stj_3, st1_4, sti_4, st2_4, stj_4, st1_5, sti_5, st2_5, stj_5, st1_6, sti_6, st2_6, stj_6, st1_7, sti_7, st2_7, stj_7, st1_8, sti_8, st2_8, stj_8, st1_9, sti_9, st2_9, stj_9, kil_n, kil_i, kil_r, kil_l, kil_d, gl_0, gl_s, cat_i, cat_r, true_and, s50_0, s50_1, s50_5, s50_8, s50_9, s50_13, s50_16, s50_17, s50_20, s50_21, s50_22, s50_23, s50_24, s50_25, s50_26, s50_27, s50_28, s50_29, s50_30, s50_31, s50_34, s50_35, s50_36, s50_37, s50_38, s50_39, s50_40, s50_41, s50_42, s50_43, s50_44, ald_na hc.2 (show a < 9 by omega), not_bit (show b < 31 by omega), not_bit (show a < 31 by omega), nI_and, ast_na hc.2 (show a < 9 by omega), ald_hn (show b < 9 by omega), ast_hn (show b < 9 by omega)]
  refine out_eq rfl ?_ rfl
  refine chSet_rows hc ?_
  funext i
  refine rows_ext hG' (fun q => ?_)
  have hlt : ∀ k, rowsN G k < 512 := fun k => mk9 _
  have hlt2 : ∀ k y, rowsN G k &&& y < 512 := fun k y => Nat.lt_of_le_of_lt Nat.and_le_left (hlt k)
  unfold updN gCut
  by_cases hib : i = b
  · subst hib
    rw [if_pos rfl]
    by_cases e : i = a
    · subst e
      rw [if_pos rfl, tb_not (hlt2 _ _), tb_not (hlt _), rows_bit hG]
      by_cases hq : q = i <;> simp [hq]
    · rw [if_neg e, tb_not (hlt _), rows_bit hG]
      simp [e]
  · rw [if_neg hib]
    by_cases hia : i = a
    · subst hia
      rw [if_pos rfl, tb_not (hlt _), rows_bit hG]
      simp [hib]
    · rw [if_neg hia, rows_bit hG]
      simp [hia, hib]
end ChartX
