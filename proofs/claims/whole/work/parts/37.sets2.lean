/-! Colourmap$Sets, sets apart and together, odd rings -/
def apF (n : Nat) (G : Nat → Nat → Bool) (S : Nat) : Bool := decide (nbN n G S &&& S = 0)
def tg (G : Nat → Nat → Bool) (S q : Nat) : Bool := !S.testBit q || decide (S &&& (rowsN G q ^^^ (2 ^ 32 - 1)) = 2 ^ q)
def togF (n : Nat) (G : Nat → Nat → Bool) (S : Nat) : Bool := (List.range n).all (tg G S)
/-- the most bits of a set below k that f holds of -/
def mxF (f : Nat → Bool) : Nat → Nat
  | 0 => 0
  | k + 1 => if mxF f k < ones k ∧ f k = true then ones k else mxF f k
theorem ones_le {x : Nat} : ones x ≤ 9 := cnt_le _ 9
theorem mxF_le {f : Nat → Bool} (k : Nat) : mxF f k ≤ 9 := by
  induction k with
  | zero => exact Nat.zero_le _
  | succ k ih =>
    unfold mxF
    split
    · exact ones_le
    · exact ih
/-- rounds of walks: even and odd -/
def eo (n : Nat) (G : Nat → Nat → Bool) : Nat → Nat × Nat → Nat × Nat
  | 0, s => s
  | k + 1, s => eo n G k (s.1 ||| nbN n G (s.2 ||| nbN n G s.1), s.2 ||| nbN n G s.1)
def norF (n : Nat) (G : Nat → Nat → Bool) : Nat → Nat × Nat
  | 0 => (0, 0)
  | p + 1 => if ((norF n G p).1 ||| (norF n G p).2).testBit p then norF n G p else eo n G n ((norF n G p).1 ||| 2 ^ p, (norF n G p).2)
theorem or512 {x y : Nat} (hx : x < 512) (hy : y < 512) : x ||| y < 512 := Nat.or_lt_two_pow (n := 9) hx hy
theorem eo_lt {n : Nat} {G : Nat → Nat → Bool} (k : Nat) : ∀ s : Nat × Nat, s.1 < 512 → s.2 < 512 → (eo n G k s).1 < 512 ∧ (eo n G k s).2 < 512 := by
  induction k with
  | zero => exact fun s h1 h2 => ⟨h1, h2⟩
  | succ k ih => exact fun s h1 h2 => ih _ (or512 h1 nb_lt) (or512 h2 nb_lt)
theorem p2_lt {p : Nat} (hp : p < 9) : 2 ^ p < 512 := Nat.pow_lt_pow_right (show 1 < 2 by decide) hp
theorem norF_lt {n : Nat} {G : Nat → Nat → Bool} (p : Nat) (hp : p ≤ 9) : (norF n G p).1 < 512 ∧ (norF n G p).2 < 512 := by
  induction p with
  | zero => exact ⟨by show 0 < 512; decide, by show 0 < 512; decide⟩
  | succ p ih =>
    have ih := ih (by omega)
    unfold norF
    split
    · exact ih
    · exact eo_lt n _ (or512 ih.1 (p2_lt (by omega))) ih.2
section Sets2
variable {h : AH} {c r n z : Nat} {G : Nat → Nat → Bool}
theorem nI_z {x : Nat} (hx : x < 2 ^ 31) : (nI x = 0) ↔ x = 0 := by
  rw [nI_lit0]
  exact nI_eq hx (by decide)
theorem sp_areApart (hc : ChAt h c r n G) (hG : GOK n G) {S : Nat} (hS : S < 512) : Sp 4 105 [.ref c, .int (nI S)] h z 0 0 (RR (some (.int (bI (apF n G S)))) h z) := by
  refine Sp_in (al := [some (.ref c), some (.int (nI S))]) ?_
  simp only [s105_0, s105_1, s105_5, s105_6, s105_7, s105_10, s105_11, s105_14, s105_15, ldi_0, ldi_s, ldl_0, ldl_s, ldd_0, ldd_s, lda_0, lda_s, st1_0, st1_1, st2_0, st2_1, sti_0, sti_1, stj_0, stj_1, st1_2, sti_2, st2_2, stj_2, st1_3, sti_3, st2_3, stj_3, st1_4, sti_4, st2_4, stj_4, st1_5, sti_5, st2_5, stj_5, st1_6, sti_6, st2_6, stj_6, st1_7, sti_7, st2_7, stj_7, st1_8, sti_8, st2_8, stj_8, st1_9, sti_9, st2_9, stj_9, kil_n, kil_i, kil_r, kil_l, kil_d, gl_0, gl_s, cat_i, cat_r, true_and]
  refine c105_2r (sp_nb hc hG hS) ?_
  simp only [s105_0, s105_1, s105_5, s105_6, s105_7, s105_10, s105_11, s105_14, s105_15, ldi_0, ldi_s, ldl_0, ldl_s, ldd_0, ldd_s, lda_0, lda_s, st1_0, st1_1, st2_0, st2_1, sti_0, sti_1, stj_0, stj_1, st1_2, sti_2, st2_2, stj_2, st1_3, sti_3, st2_3, stj_3, st1_4, sti_4, st2_4, stj_4, st1_5, sti_5, st2_5, stj_5, st1_6, sti_6, st2_6, stj_6, st1_7, sti_7, st2_7, stj_7, st1_8, sti_8, st2_8, stj_8, st1_9, sti_9, st2_9, stj_9, kil_n, kil_i, kil_r, kil_l, kil_d, gl_0, gl_s, cat_i, cat_r, true_and]
  rw [nI_and]
  have hb : nbN n G S &&& S < 2 ^ 31 := Nat.lt_of_le_of_lt Nat.and_le_left (Nat.lt_trans nb_lt (by decide))
  unfold apF
  refine ⟨fun h1 => ?_, fun h1 => ?_⟩
  · rw [nI_z hb] at h1
    refine ⟨rfl, out_eq ?_ rfl rfl⟩
    rw [show decide (nbN n G S &&& S = 0) = false by simpa using h1]
    rfl
  · have h2 : nbN n G S &&& S = 0 := (nI_z hb).mp (Decidable.not_not.mp h1)
    refine ⟨rfl, out_eq ?_ rfl rfl⟩
    rw [show decide (nbN n G S &&& S = 0) = true by simpa using h2]
    rfl
theorem sp_areTogether (hc : ChAt h c r n G) (hG : GOK n G) {S : Nat} (hS : S < 512) : Sp 3 110 [.ref c, .int (nI S)] h z 0 0 (RR (some (.int (bI (togF n G S)))) h z) := by
  have hn := hG.1
  refine Sp_in (al := [some (.ref c), some (.int (nI S)), none, none]) ?_
  simp only [s110_0, s110_1, s110_3, s110_7, s110_10, s110_11, s110_12, s110_13, s110_14, s110_15, s110_18, s110_19, s110_22, s110_23, s110_24, s110_25, s110_28, s110_29, s110_30, s110_34, s110_35, s110_36, s110_37, s110_38, s110_39, s110_40, s110_43, s110_44, s110_45, s110_48, s110_51, s110_52, ldi_0, ldi_s, ldl_0, ldl_s, ldd_0, ldd_s, lda_0, lda_s, st1_0, st1_1, st2_0, st2_1, sti_0, sti_1, stj_0, stj_1, st1_2, sti_2, st2_2, stj_2, st1_3, sti_3, st2_3, stj_3, st1_4, sti_4, st2_4, stj_4, st1_5, sti_5, st2_5, stj_5, st1_6, sti_6, st2_6, stj_6, st1_7, sti_7, st2_7, stj_7, st1_8, sti_8, st2_8, stj_8, st1_9, sti_9, st2_9, stj_9, kil_n, kil_i, kil_r, kil_l, kil_d, gl_0, gl_s, cat_i, cat_r, true_and]
  have loop : ∀ (j p : Nat) (b : Option Value), p + j = n → (∀ q, q < p → tg G S q = true) → aW (Sp 2) 110 0 0 (RR (some (.int (bI (togF n G S)))) h z) 2 [some (.ref c), some (.int (nI S)), some (.int (nI p)), b] [] h z 0 0 := by
    intro j
    induction j with
    | zero =>
      intro p b hp hq
      have e : p = n := by omega
      subst e
      rw [s110_2]
      simp only [s110_0, s110_1, s110_3, s110_7, s110_10, s110_11, s110_12, s110_13, s110_14, s110_15, s110_18, s110_19, s110_22, s110_23, s110_24, s110_25, s110_28, s110_29, s110_30, s110_34, s110_35, s110_36, s110_37, s110_38, s110_39, s110_40, s110_43, s110_44, s110_45, s110_48, s110_51, s110_52, ldi_0, ldi_s, ldl_0, ldl_s, ldd_0, ldd_s, lda_0, lda_s, st1_0, st1_1, st2_0, st2_1, sti_0, sti_1, stj_0, stj_1, st1_2, sti_2, st2_2, stj_2, st1_3, sti_3, st2_3, stj_3, st1_4, sti_4, st2_4, stj_4, st1_5, sti_5, st2_5, stj_5, st1_6, sti_6, st2_6, stj_6, st1_7, sti_7, st2_7, stj_7, st1_8, sti_8, st2_8, stj_8, st1_9, sti_9, st2_9, stj_9, kil_n, kil_i, kil_r, kil_l, kil_d, gl_0, gl_s, cat_i, cat_r, true_and]
      refine c110_4r hc.1 (sp_size hc.1) ?_
      simp only [s110_0, s110_1, s110_3, s110_7, s110_10, s110_11, s110_12, s110_13, s110_14, s110_15, s110_18, s110_19, s110_22, s110_23, s110_24, s110_25, s110_28, s110_29, s110_30, s110_34, s110_35, s110_36, s110_37, s110_38, s110_39, s110_40, s110_43, s110_44, s110_45, s110_48, s110_51, s110_52, ldi_0, ldi_s, ldl_0, ldl_s, ldd_0, ldd_s, lda_0, lda_s, st1_0, st1_1, st2_0, st2_1, sti_0, sti_1, stj_0, stj_1, st1_2, sti_2, st2_2, stj_2, st1_3, sti_3, st2_3, stj_3, st1_4, sti_4, st2_4, stj_4, st1_5, sti_5, st2_5, stj_5, st1_6, sti_6, st2_6, stj_6, st1_7, sti_7, st2_7, stj_7, st1_8, sti_8, st2_8, stj_8, st1_9, sti_9, st2_9, stj_9, kil_n, kil_i, kil_r, kil_l, kil_d, gl_0, gl_s, cat_i, cat_r, true_and]
      rw [br_1 (nI_le (Nat.le_refl _) (by omega))]
      refine ⟨rfl, out_eq ?_ rfl rfl⟩
      rw [show togF p G S = true by unfold togF; rw [List.all_eq_true]; exact fun q hq' => hq q (List.mem_range.mp hq')]
      rfl
    | succ j ih =>
      intro p b hp hq
      rw [s110_2]
      simp only [s110_0, s110_1, s110_3, s110_7, s110_10, s110_11, s110_12, s110_13, s110_14, s110_15, s110_18, s110_19, s110_22, s110_23, s110_24, s110_25, s110_28, s110_29, s110_30, s110_34, s110_35, s110_36, s110_37, s110_38, s110_39, s110_40, s110_43, s110_44, s110_45, s110_48, s110_51, s110_52, ldi_0, ldi_s, ldl_0, ldl_s, ldd_0, ldd_s, lda_0, lda_s, st1_0, st1_1, st2_0, st2_1, sti_0, sti_1, stj_0, stj_1, st1_2, sti_2, st2_2, stj_2, st1_3, sti_3, st2_3, stj_3, st1_4, sti_4, st2_4, stj_4, st1_5, sti_5, st2_5, stj_5, st1_6, sti_6, st2_6, stj_6, st1_7, sti_7, st2_7, stj_7, st1_8, sti_8, st2_8, stj_8, st1_9, sti_9, st2_9, stj_9, kil_n, kil_i, kil_r, kil_l, kil_d, gl_0, gl_s, cat_i, cat_r, true_and]
      refine c110_4r hc.1 (sp_size hc.1) ?_
      simp only [s110_0, s110_1, s110_3, s110_7, s110_10, s110_11, s110_12, s110_13, s110_14, s110_15, s110_18, s110_19, s110_22, s110_23, s110_24, s110_25, s110_28, s110_29, s110_30, s110_34, s110_35, s110_36, s110_37, s110_38, s110_39, s110_40, s110_43, s110_44, s110_45, s110_48, s110_51, s110_52, ldi_0, ldi_s, ldl_0, ldl_s, ldd_0, ldd_s, lda_0, lda_s, st1_0, st1_1, st2_0, st2_1, sti_0, sti_1, stj_0, stj_1, st1_2, sti_2, st2_2, stj_2, st1_3, sti_3, st2_3, stj_3, st1_4, sti_4, st2_4, stj_4, st1_5, sti_5, st2_5, stj_5, st1_6, sti_6, st2_6, stj_6, st1_7, sti_7, st2_7, stj_7, st1_8, sti_8, st2_8, stj_8, st1_9, sti_9, st2_9, stj_9, kil_n, kil_i, kil_r, kil_l, kil_d, gl_0, gl_s, cat_i, cat_r, true_and]
      rw [br_0 (nI_ge (show p < n by omega) (by omega)), bit_int0 hS (by omega)]
      have next : tg G S p = true → ∀ q, q < p + 1 → tg G S q = true := by
        intro ht q hq1
        by_cases e : q = p
        · rw [e]
          exact ht
        · exact hq q (by omega)
      refine ⟨fun h1 => ?_, fun h1 => ?_⟩
      · rw [bit_e0] at h1
        rw [br_1 trivial, nI_1]
        exact ih (p + 1) _ (by omega) (next (by unfold tg; rw [h1]; rfl))
      · rw [bit_e0, Bool.not_eq_false] at h1
        rw [br_0 (by decide)]
        refine c110_31r hc.1 (sp_near hc hG (show p < n by omega)) ?_
        simp only [s110_0, s110_1, s110_3, s110_7, s110_10, s110_11, s110_12, s110_13, s110_14, s110_15, s110_18, s110_19, s110_22, s110_23, s110_24, s110_25, s110_28, s110_29, s110_30, s110_34, s110_35, s110_36, s110_37, s110_38, s110_39, s110_40, s110_43, s110_44, s110_45, s110_48, s110_51, s110_52, ldi_0, ldi_s, ldl_0, ldl_s, ldd_0, ldd_s, lda_0, lda_s, st1_0, st1_1, st2_0, st2_1, sti_0, sti_1, stj_0, stj_1, st1_2, sti_2, st2_2, stj_2, st1_3, sti_3, st2_3, stj_3, st1_4, sti_4, st2_4, stj_4, st1_5, sti_5, st2_5, stj_5, st1_6, sti_6, st2_6, stj_6, st1_7, sti_7, st2_7, stj_7, st1_8, sti_8, st2_8, stj_8, st1_9, sti_9, st2_9, stj_9, kil_n, kil_i, kil_r, kil_l, kil_d, gl_0, gl_s, cat_i, cat_r, true_and]
        rw [not_any, nI_and, one_shl (by omega)]
        have hb : S &&& (rowsN G p ^^^ (2 ^ 32 - 1)) < 2 ^ 31 := Nat.lt_of_le_of_lt Nat.and_le_left (Nat.lt_trans hS (by decide))
        refine ⟨fun h2 => ?_, fun h2 => ?_⟩
        · have h3 : S &&& (rowsN G p ^^^ (2 ^ 32 - 1)) = 2 ^ p := (nI_eq hb (Nat.lt_trans (p2_lt (by omega)) (by decide))).mp h2
          rw [nI_1]
          exact ih (p + 1) _ (by omega) (next (by unfold tg; rw [h3]; simp))
        · have h3 : ¬ S &&& (rowsN G p ^^^ (2 ^ 32 - 1)) = 2 ^ p := fun e => h2 (by unfold rowsN at e; rw [e])
          refine ⟨rfl, out_eq ?_ rfl rfl⟩
          have ht : tg G S p = false := by unfold tg; rw [h1]; simpa using h3
          rw [show togF n G S = false by
            cases hh : togF n G S
            · rfl
            · unfold togF at hh
              rw [List.all_eq_true] at hh
              have := hh p (List.mem_range.mpr (by omega))
              rw [ht] at this
              exact absurd this (by decide)]
          rfl
  exact loop n 0 _ (by omega) (fun q hq => absurd hq (Nat.not_lt_zero q))
theorem sp_mostApart (hc : ChAt h c r n G) (hG : GOK n G) : Sp 5 104 [.ref c] h z 0 0 (RR (some (.int (nI (mxF (apF n G) (2 ^ n))))) h z) := by
  have hn := hG.1
  have hp : 2 ^ n ≤ 512 := Nat.pow_le_pow_right (show 0 < 2 by decide) hn
  have h1p : 1 ≤ 2 ^ n := Nat.one_le_two_pow
  refine Sp_in (al := [some (.ref c), none, none, none]) ?_
  simp only [s104_0, s104_1, s104_2, s104_3, s104_5, s104_9, s104_12, s104_16, s104_17, s104_18, s104_19, s104_22, s104_23, s104_27, s104_30, s104_31, s104_32, s104_35, s104_38, s104_39, ldi_0, ldi_s, ldl_0, ldl_s, ldd_0, ldd_s, lda_0, lda_s, st1_0, st1_1, st2_0, st2_1, sti_0, sti_1, stj_0, stj_1, st1_2, sti_2, st2_2, stj_2, st1_3, sti_3, st2_3, stj_3, st1_4, sti_4, st2_4, stj_4, st1_5, sti_5, st2_5, stj_5, st1_6, sti_6, st2_6, stj_6, st1_7, sti_7, st2_7, stj_7, st1_8, sti_8, st2_8, stj_8, st1_9, sti_9, st2_9, stj_9, kil_n, kil_i, kil_r, kil_l, kil_d, gl_0, gl_s, cat_i, cat_r, true_and]
  have loop : ∀ (j p : Nat) (b : Option Value), p + j = 2 ^ n → aW (Sp 4) 104 0 0 (RR (some (.int (nI (mxF (apF n G) (2 ^ n))))) h z) 4 [some (.ref c), some (.int (nI (mxF (apF n G) p))), some (.int (nI p)), b] [] h z 0 0 := by
    intro j
    induction j with
    | zero =>
      intro p b hp
      have e : p = 2 ^ n := by omega
      subst e
      rw [s104_4]
      simp only [s104_0, s104_1, s104_2, s104_3, s104_5, s104_9, s104_12, s104_16, s104_17, s104_18, s104_19, s104_22, s104_23, s104_27, s104_30, s104_31, s104_32, s104_35, s104_38, s104_39, ldi_0, ldi_s, ldl_0, ldl_s, ldd_0, ldd_s, lda_0, lda_s, st1_0, st1_1, st2_0, st2_1, sti_0, sti_1, stj_0, stj_1, st1_2, sti_2, st2_2, stj_2, st1_3, sti_3, st2_3, stj_3, st1_4, sti_4, st2_4, stj_4, st1_5, sti_5, st2_5, stj_5, st1_6, sti_6, st2_6, stj_6, st1_7, sti_7, st2_7, stj_7, st1_8, sti_8, st2_8, stj_8, st1_9, sti_9, st2_9, stj_9, kil_n, kil_i, kil_r, kil_l, kil_d, gl_0, gl_s, cat_i, cat_r, true_and]
      refine c104_6r hc.1 (sp_all hc.1 hn) ?_
      simp only [s104_0, s104_1, s104_2, s104_3, s104_5, s104_9, s104_12, s104_16, s104_17, s104_18, s104_19, s104_22, s104_23, s104_27, s104_30, s104_31, s104_32, s104_35, s104_38, s104_39, ldi_0, ldi_s, ldl_0, ldl_s, ldd_0, ldd_s, lda_0, lda_s, st1_0, st1_1, st2_0, st2_1, sti_0, sti_1, stj_0, stj_1, st1_2, sti_2, st2_2, stj_2, st1_3, sti_3, st2_3, stj_3, st1_4, sti_4, st2_4, stj_4, st1_5, sti_5, st2_5, stj_5, st1_6, sti_6, st2_6, stj_6, st1_7, sti_7, st2_7, stj_7, st1_8, sti_8, st2_8, stj_8, st1_9, sti_9, st2_9, stj_9, kil_n, kil_i, kil_r, kil_l, kil_d, gl_0, gl_s, cat_i, cat_r, true_and]
      rw [br_1 (nI_lt (show 2 ^ n - 1 < 2 ^ n by omega) (by omega))]
      exact out_RR
    | succ j ih =>
      intro p b hp
      rw [s104_4]
      simp only [s104_0, s104_1, s104_2, s104_3, s104_5, s104_9, s104_12, s104_16, s104_17, s104_18, s104_19, s104_22, s104_23, s104_27, s104_30, s104_31, s104_32, s104_35, s104_38, s104_39, ldi_0, ldi_s, ldl_0, ldl_s, ldd_0, ldd_s, lda_0, lda_s, st1_0, st1_1, st2_0, st2_1, sti_0, sti_1, stj_0, stj_1, st1_2, sti_2, st2_2, stj_2, st1_3, sti_3, st2_3, stj_3, st1_4, sti_4, st2_4, stj_4, st1_5, sti_5, st2_5, stj_5, st1_6, sti_6, st2_6, stj_6, st1_7, sti_7, st2_7, stj_7, st1_8, sti_8, st2_8, stj_8, st1_9, sti_9, st2_9, stj_9, kil_n, kil_i, kil_r, kil_l, kil_d, gl_0, gl_s, cat_i, cat_r, true_and]
      refine c104_6r hc.1 (sp_all hc.1 hn) ?_
      simp only [s104_0, s104_1, s104_2, s104_3, s104_5, s104_9, s104_12, s104_16, s104_17, s104_18, s104_19, s104_22, s104_23, s104_27, s104_30, s104_31, s104_32, s104_35, s104_38, s104_39, ldi_0, ldi_s, ldl_0, ldl_s, ldd_0, ldd_s, lda_0, lda_s, st1_0, st1_1, st2_0, st2_1, sti_0, sti_1, stj_0, stj_1, st1_2, sti_2, st2_2, stj_2, st1_3, sti_3, st2_3, stj_3, st1_4, sti_4, st2_4, stj_4, st1_5, sti_5, st2_5, stj_5, st1_6, sti_6, st2_6, stj_6, st1_7, sti_7, st2_7, stj_7, st1_8, sti_8, st2_8, stj_8, st1_9, sti_9, st2_9, stj_9, kil_n, kil_i, kil_r, kil_l, kil_d, gl_0, gl_s, cat_i, cat_r, true_and]
      rw [br_0 (nI_nlt (show p ≤ 2 ^ n - 1 by omega) (by omega))]
      refine c104_13r (sp_bitCount (show p < 512 by omega)) ?_
      simp only [s104_0, s104_1, s104_2, s104_3, s104_5, s104_9, s104_12, s104_16, s104_17, s104_18, s104_19, s104_22, s104_23, s104_27, s104_30, s104_31, s104_32, s104_35, s104_38, s104_39, ldi_0, ldi_s, ldl_0, ldl_s, ldd_0, ldd_s, lda_0, lda_s, st1_0, st1_1, st2_0, st2_1, sti_0, sti_1, stj_0, stj_1, st1_2, sti_2, st2_2, stj_2, st1_3, sti_3, st2_3, stj_3, st1_4, sti_4, st2_4, stj_4, st1_5, sti_5, st2_5, stj_5, st1_6, sti_6, st2_6, stj_6, st1_7, sti_7, st2_7, stj_7, st1_8, sti_8, st2_8, stj_8, st1_9, sti_9, st2_9, stj_9, kil_n, kil_i, kil_r, kil_l, kil_d, gl_0, gl_s, cat_i, cat_r, true_and]
      have hm := mxF_le (f := apF n G) p
      have ho := ones_le (x := p)
      have key := ih (p + 1)
      have ep : mxF (apF n G) (p + 1) = if mxF (apF n G) p < ones p ∧ apF n G p = true then ones p else mxF (apF n G) p := rfl
      rw [ep] at key
      refine ⟨fun h1 => ?_, fun h1 => ?_⟩
      · rw [nI_1]
        rw [if_neg (fun q => nI_ge q.1 (by omega) h1)] at key
        exact key _ (by omega)
      · have h2 : mxF (apF n G) p < ones p := Nat.lt_of_not_le fun q => h1 (nI_le q (by omega))
        refine c104_24r (sp_areApart hc hG (show p < 512 by omega)) ?_
        simp only [s104_0, s104_1, s104_2, s104_3, s104_5, s104_9, s104_12, s104_16, s104_17, s104_18, s104_19, s104_22, s104_23, s104_27, s104_30, s104_31, s104_32, s104_35, s104_38, s104_39, ldi_0, ldi_s, ldl_0, ldl_s, ldd_0, ldd_s, lda_0, lda_s, st1_0, st1_1, st2_0, st2_1, sti_0, sti_1, stj_0, stj_1, st1_2, sti_2, st2_2, stj_2, st1_3, sti_3, st2_3, stj_3, st1_4, sti_4, st2_4, stj_4, st1_5, sti_5, st2_5, stj_5, st1_6, sti_6, st2_6, stj_6, st1_7, sti_7, st2_7, stj_7, st1_8, sti_8, st2_8, stj_8, st1_9, sti_9, st2_9, stj_9, kil_n, kil_i, kil_r, kil_l, kil_d, gl_0, gl_s, cat_i, cat_r, true_and]
        refine ⟨fun h3 => ?_, fun h3 => ?_⟩
        · rw [bI_0] at h3
          rw [nI_1]
          rw [if_neg (fun q => by rw [h3] at q; exact absurd q.2 (by decide))] at key
          exact key _ (by omega)
        · rw [bI_0, Bool.not_eq_false] at h3
          rw [nI_1]
          rw [if_pos ⟨h2, h3⟩] at key
          exact key _ (by omega)
  exact loop (2 ^ n) 0 _ (by omega)
theorem sp_mostTogether (hc : ChAt h c r n G) (hG : GOK n G) : Sp 4 109 [.ref c] h z 0 0 (RR (some (.int (nI (mxF (togF n G) (2 ^ n))))) h z) := by
  have hn := hG.1
  have hp : 2 ^ n ≤ 512 := Nat.pow_le_pow_right (show 0 < 2 by decide) hn
  have h1p : 1 ≤ 2 ^ n := Nat.one_le_two_pow
  refine Sp_in (al := [some (.ref c), none, none, none]) ?_
  simp only [s109_0, s109_1, s109_2, s109_3, s109_5, s109_9, s109_12, s109_16, s109_17, s109_18, s109_19, s109_22, s109_23, s109_27, s109_30, s109_31, s109_32, s109_35, s109_38, s109_39, ldi_0, ldi_s, ldl_0, ldl_s, ldd_0, ldd_s, lda_0, lda_s, st1_0, st1_1, st2_0, st2_1, sti_0, sti_1, stj_0, stj_1, st1_2, sti_2, st2_2, stj_2, st1_3, sti_3, st2_3, stj_3, st1_4, sti_4, st2_4, stj_4, st1_5, sti_5, st2_5, stj_5, st1_6, sti_6, st2_6, stj_6, st1_7, sti_7, st2_7, stj_7, st1_8, sti_8, st2_8, stj_8, st1_9, sti_9, st2_9, stj_9, kil_n, kil_i, kil_r, kil_l, kil_d, gl_0, gl_s, cat_i, cat_r, true_and]
  have loop : ∀ (j p : Nat) (b : Option Value), p + j = 2 ^ n → aW (Sp 3) 109 0 0 (RR (some (.int (nI (mxF (togF n G) (2 ^ n))))) h z) 4 [some (.ref c), some (.int (nI (mxF (togF n G) p))), some (.int (nI p)), b] [] h z 0 0 := by
    intro j
    induction j with
    | zero =>
      intro p b hp
      have e : p = 2 ^ n := by omega
      subst e
      rw [s109_4]
      simp only [s109_0, s109_1, s109_2, s109_3, s109_5, s109_9, s109_12, s109_16, s109_17, s109_18, s109_19, s109_22, s109_23, s109_27, s109_30, s109_31, s109_32, s109_35, s109_38, s109_39, ldi_0, ldi_s, ldl_0, ldl_s, ldd_0, ldd_s, lda_0, lda_s, st1_0, st1_1, st2_0, st2_1, sti_0, sti_1, stj_0, stj_1, st1_2, sti_2, st2_2, stj_2, st1_3, sti_3, st2_3, stj_3, st1_4, sti_4, st2_4, stj_4, st1_5, sti_5, st2_5, stj_5, st1_6, sti_6, st2_6, stj_6, st1_7, sti_7, st2_7, stj_7, st1_8, sti_8, st2_8, stj_8, st1_9, sti_9, st2_9, stj_9, kil_n, kil_i, kil_r, kil_l, kil_d, gl_0, gl_s, cat_i, cat_r, true_and]
      refine c109_6r hc.1 (sp_all hc.1 hn) ?_
      simp only [s109_0, s109_1, s109_2, s109_3, s109_5, s109_9, s109_12, s109_16, s109_17, s109_18, s109_19, s109_22, s109_23, s109_27, s109_30, s109_31, s109_32, s109_35, s109_38, s109_39, ldi_0, ldi_s, ldl_0, ldl_s, ldd_0, ldd_s, lda_0, lda_s, st1_0, st1_1, st2_0, st2_1, sti_0, sti_1, stj_0, stj_1, st1_2, sti_2, st2_2, stj_2, st1_3, sti_3, st2_3, stj_3, st1_4, sti_4, st2_4, stj_4, st1_5, sti_5, st2_5, stj_5, st1_6, sti_6, st2_6, stj_6, st1_7, sti_7, st2_7, stj_7, st1_8, sti_8, st2_8, stj_8, st1_9, sti_9, st2_9, stj_9, kil_n, kil_i, kil_r, kil_l, kil_d, gl_0, gl_s, cat_i, cat_r, true_and]
      rw [br_1 (nI_lt (show 2 ^ n - 1 < 2 ^ n by omega) (by omega))]
      exact out_RR
    | succ j ih =>
      intro p b hp
      rw [s109_4]
      simp only [s109_0, s109_1, s109_2, s109_3, s109_5, s109_9, s109_12, s109_16, s109_17, s109_18, s109_19, s109_22, s109_23, s109_27, s109_30, s109_31, s109_32, s109_35, s109_38, s109_39, ldi_0, ldi_s, ldl_0, ldl_s, ldd_0, ldd_s, lda_0, lda_s, st1_0, st1_1, st2_0, st2_1, sti_0, sti_1, stj_0, stj_1, st1_2, sti_2, st2_2, stj_2, st1_3, sti_3, st2_3, stj_3, st1_4, sti_4, st2_4, stj_4, st1_5, sti_5, st2_5, stj_5, st1_6, sti_6, st2_6, stj_6, st1_7, sti_7, st2_7, stj_7, st1_8, sti_8, st2_8, stj_8, st1_9, sti_9, st2_9, stj_9, kil_n, kil_i, kil_r, kil_l, kil_d, gl_0, gl_s, cat_i, cat_r, true_and]
      refine c109_6r hc.1 (sp_all hc.1 hn) ?_
      simp only [s109_0, s109_1, s109_2, s109_3, s109_5, s109_9, s109_12, s109_16, s109_17, s109_18, s109_19, s109_22, s109_23, s109_27, s109_30, s109_31, s109_32, s109_35, s109_38, s109_39, ldi_0, ldi_s, ldl_0, ldl_s, ldd_0, ldd_s, lda_0, lda_s, st1_0, st1_1, st2_0, st2_1, sti_0, sti_1, stj_0, stj_1, st1_2, sti_2, st2_2, stj_2, st1_3, sti_3, st2_3, stj_3, st1_4, sti_4, st2_4, stj_4, st1_5, sti_5, st2_5, stj_5, st1_6, sti_6, st2_6, stj_6, st1_7, sti_7, st2_7, stj_7, st1_8, sti_8, st2_8, stj_8, st1_9, sti_9, st2_9, stj_9, kil_n, kil_i, kil_r, kil_l, kil_d, gl_0, gl_s, cat_i, cat_r, true_and]
      rw [br_0 (nI_nlt (show p ≤ 2 ^ n - 1 by omega) (by omega))]
      refine c109_13r (sp_bitCount (show p < 512 by omega)) ?_
      simp only [s109_0, s109_1, s109_2, s109_3, s109_5, s109_9, s109_12, s109_16, s109_17, s109_18, s109_19, s109_22, s109_23, s109_27, s109_30, s109_31, s109_32, s109_35, s109_38, s109_39, ldi_0, ldi_s, ldl_0, ldl_s, ldd_0, ldd_s, lda_0, lda_s, st1_0, st1_1, st2_0, st2_1, sti_0, sti_1, stj_0, stj_1, st1_2, sti_2, st2_2, stj_2, st1_3, sti_3, st2_3, stj_3, st1_4, sti_4, st2_4, stj_4, st1_5, sti_5, st2_5, stj_5, st1_6, sti_6, st2_6, stj_6, st1_7, sti_7, st2_7, stj_7, st1_8, sti_8, st2_8, stj_8, st1_9, sti_9, st2_9, stj_9, kil_n, kil_i, kil_r, kil_l, kil_d, gl_0, gl_s, cat_i, cat_r, true_and]
      have hm := mxF_le (f := togF n G) p
      have ho := ones_le (x := p)
      have key := ih (p + 1)
      have ep : mxF (togF n G) (p + 1) = if mxF (togF n G) p < ones p ∧ togF n G p = true then ones p else mxF (togF n G) p := rfl
      rw [ep] at key
      refine ⟨fun h1 => ?_, fun h1 => ?_⟩
      · rw [nI_1]
        rw [if_neg (fun q => nI_ge q.1 (by omega) h1)] at key
        exact key _ (by omega)
      · have h2 : mxF (togF n G) p < ones p := Nat.lt_of_not_le fun q => h1 (nI_le q (by omega))
        refine c109_24r (sp_areTogether hc hG (show p < 512 by omega)) ?_
        simp only [s109_0, s109_1, s109_2, s109_3, s109_5, s109_9, s109_12, s109_16, s109_17, s109_18, s109_19, s109_22, s109_23, s109_27, s109_30, s109_31, s109_32, s109_35, s109_38, s109_39, ldi_0, ldi_s, ldl_0, ldl_s, ldd_0, ldd_s, lda_0, lda_s, st1_0, st1_1, st2_0, st2_1, sti_0, sti_1, stj_0, stj_1, st1_2, sti_2, st2_2, stj_2, st1_3, sti_3, st2_3, stj_3, st1_4, sti_4, st2_4, stj_4, st1_5, sti_5, st2_5, stj_5, st1_6, sti_6, st2_6, stj_6, st1_7, sti_7, st2_7, stj_7, st1_8, sti_8, st2_8, stj_8, st1_9, sti_9, st2_9, stj_9, kil_n, kil_i, kil_r, kil_l, kil_d, gl_0, gl_s, cat_i, cat_r, true_and]
        refine ⟨fun h3 => ?_, fun h3 => ?_⟩
        · rw [bI_0] at h3
          rw [nI_1]
          rw [if_neg (fun q => by rw [h3] at q; exact absurd q.2 (by decide))] at key
          exact key _ (by omega)
        · rw [bI_0, Bool.not_eq_false] at h3
          rw [nI_1]
          rw [if_pos ⟨h2, h3⟩] at key
          exact key _ (by omega)
  exact loop (2 ^ n) 0 _ (by omega)
theorem sp_noOddRing (hc : ChAt h c r n G) (hG : GOK n G) : Sp 4 123 [.ref c] h z 0 0 (RR (some (.int (bI (decide ((norF n G n).1 &&& (norF n G n).2 = 0))))) h z) := by
  have hn := hG.1
  refine Sp_in (al := [some (.ref c), none, none, none, none]) ?_
  simp only [s123_0, s123_1, s123_2, s123_3, s123_4, s123_5, s123_7, s123_11, s123_14, s123_15, s123_16, s123_17, s123_18, s123_19, s123_20, s123_21, s123_24, s123_25, s123_26, s123_27, s123_28, s123_29, s123_30, s123_31, s123_35, s123_39, s123_42, s123_43, s123_44, s123_48, s123_49, s123_50, s123_51, s123_52, s123_56, s123_57, s123_58, s123_61, s123_64, s123_67, s123_70, s123_71, s123_72, s123_73, s123_76, s123_77, s123_80, s123_81, ldi_0, ldi_s, ldl_0, ldl_s, ldd_0, ldd_s, lda_0, lda_s, st1_0, st1_1, st2_0, st2_1, sti_0, sti_1, stj_0, stj_1, st1_2, sti_2, st2_2, stj_2, st1_3, sti_3, st2_3, stj_3, st1_4, sti_4, st2_4, stj_4, st1_5, sti_5, st2_5, stj_5, st1_6, sti_6, st2_6, stj_6, st1_7, sti_7, st2_7, stj_7, st1_8, sti_8, st2_8, stj_8, st1_9, sti_9, st2_9, stj_9, kil_n, kil_i, kil_r, kil_l, kil_d, gl_0, gl_s, cat_i, cat_r, true_and]
  have loop : ∀ (j p : Nat) (b : Option Value), p + j = n → aW (Sp 3) 123 0 0 (RR (some (.int (bI (decide ((norF n G n).1 &&& (norF n G n).2 = 0))))) h z) 6 [some (.ref c), some (.int (nI (norF n G p).1)), some (.int (nI (norF n G p).2)), some (.int (nI p)), b] [] h z 0 0 := by
    intro j
    induction j with
    | zero =>
      intro p b hp
      have e : p = n := by omega
      subst e
      rw [s123_6]
      simp only [s123_0, s123_1, s123_2, s123_3, s123_4, s123_5, s123_7, s123_11, s123_14, s123_15, s123_16, s123_17, s123_18, s123_19, s123_20, s123_21, s123_24, s123_25, s123_26, s123_27, s123_28, s123_29, s123_30, s123_31, s123_35, s123_39, s123_42, s123_43, s123_44, s123_48, s123_49, s123_50, s123_51, s123_52, s123_56, s123_57, s123_58, s123_61, s123_64, s123_67, s123_70, s123_71, s123_72, s123_73, s123_76, s123_77, s123_80, s123_81, ldi_0, ldi_s, ldl_0, ldl_s, ldd_0, ldd_s, lda_0, lda_s, st1_0, st1_1, st2_0, st2_1, sti_0, sti_1, stj_0, stj_1, st1_2, sti_2, st2_2, stj_2, st1_3, sti_3, st2_3, stj_3, st1_4, sti_4, st2_4, stj_4, st1_5, sti_5, st2_5, stj_5, st1_6, sti_6, st2_6, stj_6, st1_7, sti_7, st2_7, stj_7, st1_8, sti_8, st2_8, stj_8, st1_9, sti_9, st2_9, stj_9, kil_n, kil_i, kil_r, kil_l, kil_d, gl_0, gl_s, cat_i, cat_r, true_and]
      refine c123_8r hc.1 (sp_size hc.1) ?_
      simp only [s123_0, s123_1, s123_2, s123_3, s123_4, s123_5, s123_7, s123_11, s123_14, s123_15, s123_16, s123_17, s123_18, s123_19, s123_20, s123_21, s123_24, s123_25, s123_26, s123_27, s123_28, s123_29, s123_30, s123_31, s123_35, s123_39, s123_42, s123_43, s123_44, s123_48, s123_49, s123_50, s123_51, s123_52, s123_56, s123_57, s123_58, s123_61, s123_64, s123_67, s123_70, s123_71, s123_72, s123_73, s123_76, s123_77, s123_80, s123_81, ldi_0, ldi_s, ldl_0, ldl_s, ldd_0, ldd_s, lda_0, lda_s, st1_0, st1_1, st2_0, st2_1, sti_0, sti_1, stj_0, stj_1, st1_2, sti_2, st2_2, stj_2, st1_3, sti_3, st2_3, stj_3, st1_4, sti_4, st2_4, stj_4, st1_5, sti_5, st2_5, stj_5, st1_6, sti_6, st2_6, stj_6, st1_7, sti_7, st2_7, stj_7, st1_8, sti_8, st2_8, stj_8, st1_9, sti_9, st2_9, stj_9, kil_n, kil_i, kil_r, kil_l, kil_d, gl_0, gl_s, cat_i, cat_r, true_and]
      rw [br_1 (nI_le (Nat.le_refl _) (by omega)), nI_and]
      have hl := norF_lt (n := p) (G := G) p hn
      have hb : (norF p G p).1 &&& (norF p G p).2 < 2 ^ 31 := Nat.lt_of_le_of_lt Nat.and_le_left (Nat.lt_trans hl.1 (by decide))
      refine ⟨fun h1 => ?_, fun h1 => ?_⟩
      · rw [nI_z hb] at h1
        refine ⟨rfl, out_eq ?_ rfl rfl⟩
        rw [show decide ((norF p G p).1 &&& (norF p G p).2 = 0) = false by simpa using h1]
        rfl
      · have h2 := (nI_z hb).mp (Decidable.not_not.mp h1)
        refine ⟨rfl, out_eq ?_ rfl rfl⟩
        rw [show decide ((norF p G p).1 &&& (norF p G p).2 = 0) = true by simpa using h2]
        rfl
    | succ j ih =>
      intro p b hp
      rw [s123_6]
      simp only [s123_0, s123_1, s123_2, s123_3, s123_4, s123_5, s123_7, s123_11, s123_14, s123_15, s123_16, s123_17, s123_18, s123_19, s123_20, s123_21, s123_24, s123_25, s123_26, s123_27, s123_28, s123_29, s123_30, s123_31, s123_35, s123_39, s123_42, s123_43, s123_44, s123_48, s123_49, s123_50, s123_51, s123_52, s123_56, s123_57, s123_58, s123_61, s123_64, s123_67, s123_70, s123_71, s123_72, s123_73, s123_76, s123_77, s123_80, s123_81, ldi_0, ldi_s, ldl_0, ldl_s, ldd_0, ldd_s, lda_0, lda_s, st1_0, st1_1, st2_0, st2_1, sti_0, sti_1, stj_0, stj_1, st1_2, sti_2, st2_2, stj_2, st1_3, sti_3, st2_3, stj_3, st1_4, sti_4, st2_4, stj_4, st1_5, sti_5, st2_5, stj_5, st1_6, sti_6, st2_6, stj_6, st1_7, sti_7, st2_7, stj_7, st1_8, sti_8, st2_8, stj_8, st1_9, sti_9, st2_9, stj_9, kil_n, kil_i, kil_r, kil_l, kil_d, gl_0, gl_s, cat_i, cat_r, true_and]
      refine c123_8r hc.1 (sp_size hc.1) ?_
      simp only [s123_0, s123_1, s123_2, s123_3, s123_4, s123_5, s123_7, s123_11, s123_14, s123_15, s123_16, s123_17, s123_18, s123_19, s123_20, s123_21, s123_24, s123_25, s123_26, s123_27, s123_28, s123_29, s123_30, s123_31, s123_35, s123_39, s123_42, s123_43, s123_44, s123_48, s123_49, s123_50, s123_51, s123_52, s123_56, s123_57, s123_58, s123_61, s123_64, s123_67, s123_70, s123_71, s123_72, s123_73, s123_76, s123_77, s123_80, s123_81, ldi_0, ldi_s, ldl_0, ldl_s, ldd_0, ldd_s, lda_0, lda_s, st1_0, st1_1, st2_0, st2_1, sti_0, sti_1, stj_0, stj_1, st1_2, sti_2, st2_2, stj_2, st1_3, sti_3, st2_3, stj_3, st1_4, sti_4, st2_4, stj_4, st1_5, sti_5, st2_5, stj_5, st1_6, sti_6, st2_6, stj_6, st1_7, sti_7, st2_7, stj_7, st1_8, sti_8, st2_8, stj_8, st1_9, sti_9, st2_9, stj_9, kil_n, kil_i, kil_r, kil_l, kil_d, gl_0, gl_s, cat_i, cat_r, true_and]
      have hl := norF_lt (n := n) (G := G) p (by omega)
      rw [br_0 (nI_ge (show p < n by omega) (by omega)), nI_or, bit_int0 (or512 hl.1 hl.2) (by omega)]
      have key := ih (p + 1)
      have ep : norF n G (p + 1) = if ((norF n G p).1 ||| (norF n G p).2).testBit p then norF n G p else eo n G n ((norF n G p).1 ||| 2 ^ p, (norF n G p).2) := rfl
      rw [ep] at key
      refine ⟨fun h1 => ?_, fun h1 => ?_⟩
      · rw [bit_e0, Bool.not_eq_false] at h1
        rw [nI_1]
        rw [if_pos h1] at key
        exact key _ (by omega)
      · have h1 := bit_e0.mp (Decidable.not_not.mp h1)
        rw [if_neg (by rw [h1]; decide)] at key
        rw [one_shl (by omega), nI_or]
        have inner : ∀ (i k : Nat) (s : Nat × Nat), k + i = n → s.1 < 512 → s.2 < 512 → eo n G i s = eo n G n ((norF n G p).1 ||| 2 ^ p, (norF n G p).2) → aW (Sp 3) 123 0 0 (RR (some (.int (bI (decide ((norF n G n).1 &&& (norF n G n).2 = 0))))) h z) 33 [some (.ref c), some (.int (nI s.1)), some (.int (nI s.2)), some (.int (nI p)), some (.int (nI k))] [] h z 0 0 := by
          intro i
          induction i with
          | zero =>
            intro k s hk h1 h2 e
            have e1 : k = n := by omega
            subst e1
            rw [s123_33]
            simp only [s123_0, s123_1, s123_2, s123_3, s123_4, s123_5, s123_7, s123_11, s123_14, s123_15, s123_16, s123_17, s123_18, s123_19, s123_20, s123_21, s123_24, s123_25, s123_26, s123_27, s123_28, s123_29, s123_30, s123_31, s123_35, s123_39, s123_42, s123_43, s123_44, s123_48, s123_49, s123_50, s123_51, s123_52, s123_56, s123_57, s123_58, s123_61, s123_64, s123_67, s123_70, s123_71, s123_72, s123_73, s123_76, s123_77, s123_80, s123_81, ldi_0, ldi_s, ldl_0, ldl_s, ldd_0, ldd_s, lda_0, lda_s, st1_0, st1_1, st2_0, st2_1, sti_0, sti_1, stj_0, stj_1, st1_2, sti_2, st2_2, stj_2, st1_3, sti_3, st2_3, stj_3, st1_4, sti_4, st2_4, stj_4, st1_5, sti_5, st2_5, stj_5, st1_6, sti_6, st2_6, stj_6, st1_7, sti_7, st2_7, stj_7, st1_8, sti_8, st2_8, stj_8, st1_9, sti_9, st2_9, stj_9, kil_n, kil_i, kil_r, kil_l, kil_d, gl_0, gl_s, cat_i, cat_r, true_and]
            refine c123_36r hc.1 (sp_size hc.1) ?_
            simp only [s123_0, s123_1, s123_2, s123_3, s123_4, s123_5, s123_7, s123_11, s123_14, s123_15, s123_16, s123_17, s123_18, s123_19, s123_20, s123_21, s123_24, s123_25, s123_26, s123_27, s123_28, s123_29, s123_30, s123_31, s123_35, s123_39, s123_42, s123_43, s123_44, s123_48, s123_49, s123_50, s123_51, s123_52, s123_56, s123_57, s123_58, s123_61, s123_64, s123_67, s123_70, s123_71, s123_72, s123_73, s123_76, s123_77, s123_80, s123_81, ldi_0, ldi_s, ldl_0, ldl_s, ldd_0, ldd_s, lda_0, lda_s, st1_0, st1_1, st2_0, st2_1, sti_0, sti_1, stj_0, stj_1, st1_2, sti_2, st2_2, stj_2, st1_3, sti_3, st2_3, stj_3, st1_4, sti_4, st2_4, stj_4, st1_5, sti_5, st2_5, stj_5, st1_6, sti_6, st2_6, stj_6, st1_7, sti_7, st2_7, stj_7, st1_8, sti_8, st2_8, stj_8, st1_9, sti_9, st2_9, stj_9, kil_n, kil_i, kil_r, kil_l, kil_d, gl_0, gl_s, cat_i, cat_r, true_and]
            rw [br_1 (nI_le (Nat.le_refl _) (by omega)), nI_1]
            have key := key (some (.int (nI k))) (by omega)
            rw [← e] at key
            exact key
          | succ i ih2 =>
            intro k s hk h1 h2 e
            rw [s123_33]
            simp only [s123_0, s123_1, s123_2, s123_3, s123_4, s123_5, s123_7, s123_11, s123_14, s123_15, s123_16, s123_17, s123_18, s123_19, s123_20, s123_21, s123_24, s123_25, s123_26, s123_27, s123_28, s123_29, s123_30, s123_31, s123_35, s123_39, s123_42, s123_43, s123_44, s123_48, s123_49, s123_50, s123_51, s123_52, s123_56, s123_57, s123_58, s123_61, s123_64, s123_67, s123_70, s123_71, s123_72, s123_73, s123_76, s123_77, s123_80, s123_81, ldi_0, ldi_s, ldl_0, ldl_s, ldd_0, ldd_s, lda_0, lda_s, st1_0, st1_1, st2_0, st2_1, sti_0, sti_1, stj_0, stj_1, st1_2, sti_2, st2_2, stj_2, st1_3, sti_3, st2_3, stj_3, st1_4, sti_4, st2_4, stj_4, st1_5, sti_5, st2_5, stj_5, st1_6, sti_6, st2_6, stj_6, st1_7, sti_7, st2_7, stj_7, st1_8, sti_8, st2_8, stj_8, st1_9, sti_9, st2_9, stj_9, kil_n, kil_i, kil_r, kil_l, kil_d, gl_0, gl_s, cat_i, cat_r, true_and]
            refine c123_36r hc.1 (sp_size hc.1) ?_
            simp only [s123_0, s123_1, s123_2, s123_3, s123_4, s123_5, s123_7, s123_11, s123_14, s123_15, s123_16, s123_17, s123_18, s123_19, s123_20, s123_21, s123_24, s123_25, s123_26, s123_27, s123_28, s123_29, s123_30, s123_31, s123_35, s123_39, s123_42, s123_43, s123_44, s123_48, s123_49, s123_50, s123_51, s123_52, s123_56, s123_57, s123_58, s123_61, s123_64, s123_67, s123_70, s123_71, s123_72, s123_73, s123_76, s123_77, s123_80, s123_81, ldi_0, ldi_s, ldl_0, ldl_s, ldd_0, ldd_s, lda_0, lda_s, st1_0, st1_1, st2_0, st2_1, sti_0, sti_1, stj_0, stj_1, st1_2, sti_2, st2_2, stj_2, st1_3, sti_3, st2_3, stj_3, st1_4, sti_4, st2_4, stj_4, st1_5, sti_5, st2_5, stj_5, st1_6, sti_6, st2_6, stj_6, st1_7, sti_7, st2_7, stj_7, st1_8, sti_8, st2_8, stj_8, st1_9, sti_9, st2_9, stj_9, kil_n, kil_i, kil_r, kil_l, kil_d, gl_0, gl_s, cat_i, cat_r, true_and]
            rw [br_0 (nI_ge (show k < n by omega) (by omega))]
            refine c123_45r (sp_nb hc hG h1) ?_
            simp only [s123_0, s123_1, s123_2, s123_3, s123_4, s123_5, s123_7, s123_11, s123_14, s123_15, s123_16, s123_17, s123_18, s123_19, s123_20, s123_21, s123_24, s123_25, s123_26, s123_27, s123_28, s123_29, s123_30, s123_31, s123_35, s123_39, s123_42, s123_43, s123_44, s123_48, s123_49, s123_50, s123_51, s123_52, s123_56, s123_57, s123_58, s123_61, s123_64, s123_67, s123_70, s123_71, s123_72, s123_73, s123_76, s123_77, s123_80, s123_81, ldi_0, ldi_s, ldl_0, ldl_s, ldd_0, ldd_s, lda_0, lda_s, st1_0, st1_1, st2_0, st2_1, sti_0, sti_1, stj_0, stj_1, st1_2, sti_2, st2_2, stj_2, st1_3, sti_3, st2_3, stj_3, st1_4, sti_4, st2_4, stj_4, st1_5, sti_5, st2_5, stj_5, st1_6, sti_6, st2_6, stj_6, st1_7, sti_7, st2_7, stj_7, st1_8, sti_8, st2_8, stj_8, st1_9, sti_9, st2_9, stj_9, kil_n, kil_i, kil_r, kil_l, kil_d, gl_0, gl_s, cat_i, cat_r, true_and]
            rw [nI_or]
            refine c123_53r (sp_nb hc hG (or512 h2 nb_lt)) ?_
            simp only [s123_0, s123_1, s123_2, s123_3, s123_4, s123_5, s123_7, s123_11, s123_14, s123_15, s123_16, s123_17, s123_18, s123_19, s123_20, s123_21, s123_24, s123_25, s123_26, s123_27, s123_28, s123_29, s123_30, s123_31, s123_35, s123_39, s123_42, s123_43, s123_44, s123_48, s123_49, s123_50, s123_51, s123_52, s123_56, s123_57, s123_58, s123_61, s123_64, s123_67, s123_70, s123_71, s123_72, s123_73, s123_76, s123_77, s123_80, s123_81, ldi_0, ldi_s, ldl_0, ldl_s, ldd_0, ldd_s, lda_0, lda_s, st1_0, st1_1, st2_0, st2_1, sti_0, sti_1, stj_0, stj_1, st1_2, sti_2, st2_2, stj_2, st1_3, sti_3, st2_3, stj_3, st1_4, sti_4, st2_4, stj_4, st1_5, sti_5, st2_5, stj_5, st1_6, sti_6, st2_6, stj_6, st1_7, sti_7, st2_7, stj_7, st1_8, sti_8, st2_8, stj_8, st1_9, sti_9, st2_9, stj_9, kil_n, kil_i, kil_r, kil_l, kil_d, gl_0, gl_s, cat_i, cat_r, true_and]
            rw [nI_or, nI_1]
            exact ih2 (k + 1) _ (by omega) (or512 h1 nb_lt) (or512 h2 nb_lt) e
        exact inner n 0 ((norF n G p).1 ||| 2 ^ p, (norF n G p).2) (by omega) (or512 hl.1 (p2_lt (by omega))) hl.2 rfl
  exact loop n 0 _ (by omega)
end Sets2
