/-! Colourmap$Sets -/
/-- the neighbours of a set, of its places below k -/
def nbF (G : Nat → Nat → Bool) (S : Nat) : Nat → Nat
  | 0 => 0
  | k + 1 => nbF G S k ||| (if S.testBit k then rowsN G k else 0)
theorem nbF_lt {G : Nat → Nat → Bool} {S : Nat} (k : Nat) : nbF G S k < 512 := by
  induction k with
  | zero => show 0 < 512; decide
  | succ k ih =>
    unfold nbF
    refine Nat.or_lt_two_pow (n := 9) ih ?_
    split
    · exact rows9
    · decide
theorem nbF_bit {n : Nat} {G : Nat → Nat → Bool} (hG : GOK n G) {S q : Nat} (k : Nat) : (nbF G S k).testBit q = true ↔ ∃ p, p < k ∧ S.testBit p = true ∧ G p q = true := by
  induction k with
  | zero => simp [nbF]
  | succ k ih =>
    unfold nbF
    rw [Nat.testBit_or, Bool.or_eq_true, ih]
    constructor
    · rintro (⟨p, h1, h2, h3⟩ | h)
      · exact ⟨p, by omega, h2, h3⟩
      · split at h
        · rename_i hk
          rw [rows_bit hG] at h
          exact ⟨k, by omega, hk, h⟩
        · simp at h
    · rintro ⟨p, h1, h2, h3⟩
      by_cases hp : p = k
      · subst hp
        right
        rw [if_pos h2, rows_bit hG]
        exact h3
      · exact Or.inl ⟨p, by omega, h2, h3⟩
def nbN (n : Nat) (G : Nat → Nat → Bool) (S : Nat) : Nat := nbF G S n
section Sets
variable {h : AH} {c r n z : Nat} {G : Nat → Nat → Bool}
theorem bit_int0 {x a : Nat} (hx : x < 512) (ha : a < 9) : nI x >>> (nI a &&& 31) &&& 1 = nI (if x.testBit a then 1 else 0) := by
  rw [nI_lit1]
  exact bit_int hx ha
theorem bit_e0 {b : Bool} : (nI (if b then 1 else 0) = 0) ↔ b = false := by cases b <;> decide
theorem sp_nb (hc : ChAt h c r n G) (hG : GOK n G) {S : Nat} (hS : S < 512) : Sp 3 97 [.ref c, .int (nI S)] h z 0 0 (RR (some (.int (nI (nbN n G S)))) h z) := by
  have hn := hG.1
  refine Sp_in (al := [some (.ref c), some (.int (nI S)), none, none]) ?_
  simp only [s97_0, s97_1, s97_2, s97_3, s97_5, s97_9, s97_12, s97_13, s97_14, s97_15, s97_16, s97_17, s97_20, s97_21, s97_22, s97_26, s97_27, s97_28, s97_31, s97_34, s97_35, ldi_0, ldi_s, ldl_0, ldl_s, ldd_0, ldd_s, lda_0, lda_s, st1_0, st1_1, st2_0, st2_1, sti_0, sti_1, stj_0, stj_1, st1_2, sti_2, st2_2, stj_2, st1_3, sti_3, st2_3, stj_3, st1_4, sti_4, st2_4, stj_4, st1_5, sti_5, st2_5, stj_5, st1_6, sti_6, st2_6, stj_6, st1_7, sti_7, st2_7, stj_7, st1_8, sti_8, st2_8, stj_8, st1_9, sti_9, st2_9, stj_9, kil_n, kil_i, kil_r, kil_l, kil_d, gl_0, gl_s, cat_i, cat_r, true_and]
  have loop : ∀ (j p : Nat), p + j = n → aW (Sp 2) 97 0 0 (RR (some (.int (nI (nbN n G S)))) h z) 4 [some (.ref c), some (.int (nI S)), some (.int (nI (nbF G S p))), some (.int (nI p))] [] h z 0 0 := by
    intro j
    induction j with
    | zero =>
      intro p hp
      have e : p = n := by omega
      subst e
      rw [s97_4]
      simp only [s97_0, s97_1, s97_2, s97_3, s97_5, s97_9, s97_12, s97_13, s97_14, s97_15, s97_16, s97_17, s97_20, s97_21, s97_22, s97_26, s97_27, s97_28, s97_31, s97_34, s97_35, ldi_0, ldi_s, ldl_0, ldl_s, ldd_0, ldd_s, lda_0, lda_s, st1_0, st1_1, st2_0, st2_1, sti_0, sti_1, stj_0, stj_1, st1_2, sti_2, st2_2, stj_2, st1_3, sti_3, st2_3, stj_3, st1_4, sti_4, st2_4, stj_4, st1_5, sti_5, st2_5, stj_5, st1_6, sti_6, st2_6, stj_6, st1_7, sti_7, st2_7, stj_7, st1_8, sti_8, st2_8, stj_8, st1_9, sti_9, st2_9, stj_9, kil_n, kil_i, kil_r, kil_l, kil_d, gl_0, gl_s, cat_i, cat_r, true_and]
      refine c97_6r hc.1 (sp_size hc.1) ?_
      simp only [s97_0, s97_1, s97_2, s97_3, s97_5, s97_9, s97_12, s97_13, s97_14, s97_15, s97_16, s97_17, s97_20, s97_21, s97_22, s97_26, s97_27, s97_28, s97_31, s97_34, s97_35, ldi_0, ldi_s, ldl_0, ldl_s, ldd_0, ldd_s, lda_0, lda_s, st1_0, st1_1, st2_0, st2_1, sti_0, sti_1, stj_0, stj_1, st1_2, sti_2, st2_2, stj_2, st1_3, sti_3, st2_3, stj_3, st1_4, sti_4, st2_4, stj_4, st1_5, sti_5, st2_5, stj_5, st1_6, sti_6, st2_6, stj_6, st1_7, sti_7, st2_7, stj_7, st1_8, sti_8, st2_8, stj_8, st1_9, sti_9, st2_9, stj_9, kil_n, kil_i, kil_r, kil_l, kil_d, gl_0, gl_s, cat_i, cat_r, true_and]
      rw [br_1 (nI_le (Nat.le_refl _) (by omega))]
      exact out_RR
    | succ j ih =>
      intro p hp
      rw [s97_4]
      simp only [s97_0, s97_1, s97_2, s97_3, s97_5, s97_9, s97_12, s97_13, s97_14, s97_15, s97_16, s97_17, s97_20, s97_21, s97_22, s97_26, s97_27, s97_28, s97_31, s97_34, s97_35, ldi_0, ldi_s, ldl_0, ldl_s, ldd_0, ldd_s, lda_0, lda_s, st1_0, st1_1, st2_0, st2_1, sti_0, sti_1, stj_0, stj_1, st1_2, sti_2, st2_2, stj_2, st1_3, sti_3, st2_3, stj_3, st1_4, sti_4, st2_4, stj_4, st1_5, sti_5, st2_5, stj_5, st1_6, sti_6, st2_6, stj_6, st1_7, sti_7, st2_7, stj_7, st1_8, sti_8, st2_8, stj_8, st1_9, sti_9, st2_9, stj_9, kil_n, kil_i, kil_r, kil_l, kil_d, gl_0, gl_s, cat_i, cat_r, true_and]
      refine c97_6r hc.1 (sp_size hc.1) ?_
      simp only [s97_0, s97_1, s97_2, s97_3, s97_5, s97_9, s97_12, s97_13, s97_14, s97_15, s97_16, s97_17, s97_20, s97_21, s97_22, s97_26, s97_27, s97_28, s97_31, s97_34, s97_35, ldi_0, ldi_s, ldl_0, ldl_s, ldd_0, ldd_s, lda_0, lda_s, st1_0, st1_1, st2_0, st2_1, sti_0, sti_1, stj_0, stj_1, st1_2, sti_2, st2_2, stj_2, st1_3, sti_3, st2_3, stj_3, st1_4, sti_4, st2_4, stj_4, st1_5, sti_5, st2_5, stj_5, st1_6, sti_6, st2_6, stj_6, st1_7, sti_7, st2_7, stj_7, st1_8, sti_8, st2_8, stj_8, st1_9, sti_9, st2_9, stj_9, kil_n, kil_i, kil_r, kil_l, kil_d, gl_0, gl_s, cat_i, cat_r, true_and]
      rw [br_0 (nI_ge (show p < n by omega) (by omega)), bit_int0 hS (by omega)]
      have key := ih (p + 1) (by omega)
      unfold nbF at key
      refine ⟨fun h1 => ?_, fun h1 => ?_⟩
      · rw [bit_e0] at h1
        rw [h1, if_neg (by decide), Nat.or_zero] at key
        rw [nI_1]
        exact key
      · rw [bit_e0, Bool.not_eq_false] at h1
        rw [if_pos h1] at key
        refine c97_23r hc.1 (sp_near hc hG (show p < n by omega)) ?_
        simp only [s97_0, s97_1, s97_2, s97_3, s97_5, s97_9, s97_12, s97_13, s97_14, s97_15, s97_16, s97_17, s97_20, s97_21, s97_22, s97_26, s97_27, s97_28, s97_31, s97_34, s97_35, ldi_0, ldi_s, ldl_0, ldl_s, ldd_0, ldd_s, lda_0, lda_s, st1_0, st1_1, st2_0, st2_1, sti_0, sti_1, stj_0, stj_1, st1_2, sti_2, st2_2, stj_2, st1_3, sti_3, st2_3, stj_3, st1_4, sti_4, st2_4, stj_4, st1_5, sti_5, st2_5, stj_5, st1_6, sti_6, st2_6, stj_6, st1_7, sti_7, st2_7, stj_7, st1_8, sti_8, st2_8, stj_8, st1_9, sti_9, st2_9, stj_9, kil_n, kil_i, kil_r, kil_l, kil_d, gl_0, gl_s, cat_i, cat_r, true_and]
        rw [nI_1, nI_or]
        exact key
  exact loop n 0 (by omega)
theorem nb_lt {S : Nat} : nbN n G S < 512 := nbF_lt n
/-- reached from p in k rounds -/
def rch (n : Nat) (G : Nat → Nat → Bool) (p : Nat) : Nat → Nat
  | 0 => 2 ^ p
  | k + 1 => rch n G p k ||| nbN n G (rch n G p k)
theorem rch_lt {p : Nat} (hp : p < 9) (k : Nat) : rch n G p k < 512 := by
  induction k with
  | zero => exact Nat.pow_lt_pow_right (show 1 < 2 by decide) hp
  | succ k ih => exact Nat.or_lt_two_pow (n := 9) ih nb_lt
/-- the least place of a set, but p if none below it -/
def lst (S p : Nat) : Nat → Nat
  | 0 => p
  | k + 1 => if S.testBit (p - (k + 1)) then p - (k + 1) else lst S p k
def lop (n : Nat) (G : Nat → Nat → Bool) (p : Nat) : Nat := lst (rch n G p n) p p
theorem sp_leastOfPiece (hc : ChAt h c r n G) (hG : GOK n G) {p : Nat} (hp : p < n) : Sp 4 96 [.ref c, .int (nI p)] h z 0 0 (RR (some (.int (nI (lop n G p)))) h z) := by
  have hn := hG.1
  refine Sp_in (al := [some (.ref c), some (.int (nI p)), none, none]) ?_
  simp only [s96_0, s96_1, s96_2, s96_3, s96_4, s96_5, s96_7, s96_11, s96_14, s96_15, s96_16, s96_20, s96_21, s96_22, s96_25, s96_28, s96_29, s96_31, s96_32, s96_35, s96_36, s96_37, s96_38, s96_39, s96_40, s96_43, s96_44, s96_45, s96_48, s96_51, s96_52, ldi_0, ldi_s, ldl_0, ldl_s, ldd_0, ldd_s, lda_0, lda_s, st1_0, st1_1, st2_0, st2_1, sti_0, sti_1, stj_0, stj_1, st1_2, sti_2, st2_2, stj_2, st1_3, sti_3, st2_3, stj_3, st1_4, sti_4, st2_4, stj_4, st1_5, sti_5, st2_5, stj_5, st1_6, sti_6, st2_6, stj_6, st1_7, sti_7, st2_7, stj_7, st1_8, sti_8, st2_8, stj_8, st1_9, sti_9, st2_9, stj_9, kil_n, kil_i, kil_r, kil_l, kil_d, gl_0, gl_s, cat_i, cat_r, true_and, one_shl (show p < 31 by omega)]
  have loop2 : ∀ (j q : Nat), q + j = p → lop n G p = lst (rch n G p n) p j → aW (Sp 3) 96 0 0 (RR (some (.int (nI (lop n G p)))) h z) 30 [some (.ref c), some (.int (nI p)), some (.int (nI (rch n G p n))), some (.int (nI q))] [] h z 0 0 := by
    intro j
    induction j with
    | zero =>
      intro q hq e
      rw [s96_30]
      simp only [s96_0, s96_1, s96_2, s96_3, s96_4, s96_5, s96_7, s96_11, s96_14, s96_15, s96_16, s96_20, s96_21, s96_22, s96_25, s96_28, s96_29, s96_31, s96_32, s96_35, s96_36, s96_37, s96_38, s96_39, s96_40, s96_43, s96_44, s96_45, s96_48, s96_51, s96_52, ldi_0, ldi_s, ldl_0, ldl_s, ldd_0, ldd_s, lda_0, lda_s, st1_0, st1_1, st2_0, st2_1, sti_0, sti_1, stj_0, stj_1, st1_2, sti_2, st2_2, stj_2, st1_3, sti_3, st2_3, stj_3, st1_4, sti_4, st2_4, stj_4, st1_5, sti_5, st2_5, stj_5, st1_6, sti_6, st2_6, stj_6, st1_7, sti_7, st2_7, stj_7, st1_8, sti_8, st2_8, stj_8, st1_9, sti_9, st2_9, stj_9, kil_n, kil_i, kil_r, kil_l, kil_d, gl_0, gl_s, cat_i, cat_r, true_and]
      rw [br_1 (nI_le (show p ≤ q by omega) (by omega)), e]
      exact out_RR
    | succ j ih =>
      intro q hq e
      rw [s96_30]
      simp only [s96_0, s96_1, s96_2, s96_3, s96_4, s96_5, s96_7, s96_11, s96_14, s96_15, s96_16, s96_20, s96_21, s96_22, s96_25, s96_28, s96_29, s96_31, s96_32, s96_35, s96_36, s96_37, s96_38, s96_39, s96_40, s96_43, s96_44, s96_45, s96_48, s96_51, s96_52, ldi_0, ldi_s, ldl_0, ldl_s, ldd_0, ldd_s, lda_0, lda_s, st1_0, st1_1, st2_0, st2_1, sti_0, sti_1, stj_0, stj_1, st1_2, sti_2, st2_2, stj_2, st1_3, sti_3, st2_3, stj_3, st1_4, sti_4, st2_4, stj_4, st1_5, sti_5, st2_5, stj_5, st1_6, sti_6, st2_6, stj_6, st1_7, sti_7, st2_7, stj_7, st1_8, sti_8, st2_8, stj_8, st1_9, sti_9, st2_9, stj_9, kil_n, kil_i, kil_r, kil_l, kil_d, gl_0, gl_s, cat_i, cat_r, true_and]
      rw [br_0 (nI_ge (show q < p by omega) (by omega)), bit_int0 (rch_lt (by omega) _) (by omega)]
      unfold lst at e
      rw [show p - (j + 1) = q by omega] at e
      refine ⟨fun h1 => ?_, fun h1 => ?_⟩
      · rw [bit_e0] at h1
        rw [h1, if_neg (by decide)] at e
        rw [nI_1]
        exact ih (q + 1) (by omega) e
      · rw [bit_e0, Bool.not_eq_false] at h1
        rw [if_pos h1] at e
        rw [e]
        exact out_RR
  have loop : ∀ (j k : Nat), k + j = n → aW (Sp 3) 96 0 0 (RR (some (.int (nI (lop n G p)))) h z) 6 [some (.ref c), some (.int (nI p)), some (.int (nI (rch n G p k))), some (.int (nI k))] [] h z 0 0 := by
    intro j
    induction j with
    | zero =>
      intro k hk
      have e : k = n := by omega
      subst e
      rw [s96_6]
      simp only [s96_0, s96_1, s96_2, s96_3, s96_4, s96_5, s96_7, s96_11, s96_14, s96_15, s96_16, s96_20, s96_21, s96_22, s96_25, s96_28, s96_29, s96_31, s96_32, s96_35, s96_36, s96_37, s96_38, s96_39, s96_40, s96_43, s96_44, s96_45, s96_48, s96_51, s96_52, ldi_0, ldi_s, ldl_0, ldl_s, ldd_0, ldd_s, lda_0, lda_s, st1_0, st1_1, st2_0, st2_1, sti_0, sti_1, stj_0, stj_1, st1_2, sti_2, st2_2, stj_2, st1_3, sti_3, st2_3, stj_3, st1_4, sti_4, st2_4, stj_4, st1_5, sti_5, st2_5, stj_5, st1_6, sti_6, st2_6, stj_6, st1_7, sti_7, st2_7, stj_7, st1_8, sti_8, st2_8, stj_8, st1_9, sti_9, st2_9, stj_9, kil_n, kil_i, kil_r, kil_l, kil_d, gl_0, gl_s, cat_i, cat_r, true_and]
      refine c96_8r hc.1 (sp_size hc.1) ?_
      simp only [s96_0, s96_1, s96_2, s96_3, s96_4, s96_5, s96_7, s96_11, s96_14, s96_15, s96_16, s96_20, s96_21, s96_22, s96_25, s96_28, s96_29, s96_31, s96_32, s96_35, s96_36, s96_37, s96_38, s96_39, s96_40, s96_43, s96_44, s96_45, s96_48, s96_51, s96_52, ldi_0, ldi_s, ldl_0, ldl_s, ldd_0, ldd_s, lda_0, lda_s, st1_0, st1_1, st2_0, st2_1, sti_0, sti_1, stj_0, stj_1, st1_2, sti_2, st2_2, stj_2, st1_3, sti_3, st2_3, stj_3, st1_4, sti_4, st2_4, stj_4, st1_5, sti_5, st2_5, stj_5, st1_6, sti_6, st2_6, stj_6, st1_7, sti_7, st2_7, stj_7, st1_8, sti_8, st2_8, stj_8, st1_9, sti_9, st2_9, stj_9, kil_n, kil_i, kil_r, kil_l, kil_d, gl_0, gl_s, cat_i, cat_r, true_and]
      rw [br_1 (nI_le (Nat.le_refl _) (by omega))]
      exact loop2 p 0 (by omega) rfl
    | succ j ih =>
      intro k hk
      rw [s96_6]
      simp only [s96_0, s96_1, s96_2, s96_3, s96_4, s96_5, s96_7, s96_11, s96_14, s96_15, s96_16, s96_20, s96_21, s96_22, s96_25, s96_28, s96_29, s96_31, s96_32, s96_35, s96_36, s96_37, s96_38, s96_39, s96_40, s96_43, s96_44, s96_45, s96_48, s96_51, s96_52, ldi_0, ldi_s, ldl_0, ldl_s, ldd_0, ldd_s, lda_0, lda_s, st1_0, st1_1, st2_0, st2_1, sti_0, sti_1, stj_0, stj_1, st1_2, sti_2, st2_2, stj_2, st1_3, sti_3, st2_3, stj_3, st1_4, sti_4, st2_4, stj_4, st1_5, sti_5, st2_5, stj_5, st1_6, sti_6, st2_6, stj_6, st1_7, sti_7, st2_7, stj_7, st1_8, sti_8, st2_8, stj_8, st1_9, sti_9, st2_9, stj_9, kil_n, kil_i, kil_r, kil_l, kil_d, gl_0, gl_s, cat_i, cat_r, true_and]
      refine c96_8r hc.1 (sp_size hc.1) ?_
      simp only [s96_0, s96_1, s96_2, s96_3, s96_4, s96_5, s96_7, s96_11, s96_14, s96_15, s96_16, s96_20, s96_21, s96_22, s96_25, s96_28, s96_29, s96_31, s96_32, s96_35, s96_36, s96_37, s96_38, s96_39, s96_40, s96_43, s96_44, s96_45, s96_48, s96_51, s96_52, ldi_0, ldi_s, ldl_0, ldl_s, ldd_0, ldd_s, lda_0, lda_s, st1_0, st1_1, st2_0, st2_1, sti_0, sti_1, stj_0, stj_1, st1_2, sti_2, st2_2, stj_2, st1_3, sti_3, st2_3, stj_3, st1_4, sti_4, st2_4, stj_4, st1_5, sti_5, st2_5, stj_5, st1_6, sti_6, st2_6, stj_6, st1_7, sti_7, st2_7, stj_7, st1_8, sti_8, st2_8, stj_8, st1_9, sti_9, st2_9, stj_9, kil_n, kil_i, kil_r, kil_l, kil_d, gl_0, gl_s, cat_i, cat_r, true_and]
      rw [br_0 (nI_ge (show k < n by omega) (by omega))]
      refine c96_17r (sp_nb hc hG (rch_lt (by omega) _)) ?_
      simp only [s96_0, s96_1, s96_2, s96_3, s96_4, s96_5, s96_7, s96_11, s96_14, s96_15, s96_16, s96_20, s96_21, s96_22, s96_25, s96_28, s96_29, s96_31, s96_32, s96_35, s96_36, s96_37, s96_38, s96_39, s96_40, s96_43, s96_44, s96_45, s96_48, s96_51, s96_52, ldi_0, ldi_s, ldl_0, ldl_s, ldd_0, ldd_s, lda_0, lda_s, st1_0, st1_1, st2_0, st2_1, sti_0, sti_1, stj_0, stj_1, st1_2, sti_2, st2_2, stj_2, st1_3, sti_3, st2_3, stj_3, st1_4, sti_4, st2_4, stj_4, st1_5, sti_5, st2_5, stj_5, st1_6, sti_6, st2_6, stj_6, st1_7, sti_7, st2_7, stj_7, st1_8, sti_8, st2_8, stj_8, st1_9, sti_9, st2_9, stj_9, kil_n, kil_i, kil_r, kil_l, kil_d, gl_0, gl_s, cat_i, cat_r, true_and]
      rw [nI_or, nI_1]
      exact ih (k + 1) (by omega)
  exact loop n 0 (by omega)
theorem lst_le {S p : Nat} (k : Nat) : lst S p k ≤ p := by
  induction k with
  | zero => exact Nat.le_refl _
  | succ k ih =>
    unfold lst
    split <;> omega
/-- how many places are the least of their piece -/
def pcs (n : Nat) (G : Nat → Nat → Bool) (k : Nat) : Nat := cnt (fun p => decide (lop n G p = p)) k
theorem sp_pieceCount (hc : ChAt h c r n G) (hG : GOK n G) : Sp 5 95 [.ref c] h z 0 0 (RR (some (.int (nI (pcs n G n)))) h z) := by
  have hn := hG.1
  refine Sp_in (al := [some (.ref c), none, none]) ?_
  simp only [s95_0, s95_1, s95_2, s95_3, s95_5, s95_9, s95_12, s95_13, s95_17, s95_18, s95_21, s95_24, s95_27, s95_30, s95_31, ldi_0, ldi_s, ldl_0, ldl_s, ldd_0, ldd_s, lda_0, lda_s, st1_0, st1_1, st2_0, st2_1, sti_0, sti_1, stj_0, stj_1, st1_2, sti_2, st2_2, stj_2, st1_3, sti_3, st2_3, stj_3, st1_4, sti_4, st2_4, stj_4, st1_5, sti_5, st2_5, stj_5, st1_6, sti_6, st2_6, stj_6, st1_7, sti_7, st2_7, stj_7, st1_8, sti_8, st2_8, stj_8, st1_9, sti_9, st2_9, stj_9, kil_n, kil_i, kil_r, kil_l, kil_d, gl_0, gl_s, cat_i, cat_r, true_and]
  have loop : ∀ (j p : Nat), p + j = n → aW (Sp 4) 95 0 0 (RR (some (.int (nI (pcs n G n)))) h z) 4 [some (.ref c), some (.int (nI (pcs n G p))), some (.int (nI p))] [] h z 0 0 := by
    intro j
    induction j with
    | zero =>
      intro p hp
      have e : p = n := by omega
      subst e
      rw [s95_4]
      simp only [s95_0, s95_1, s95_2, s95_3, s95_5, s95_9, s95_12, s95_13, s95_17, s95_18, s95_21, s95_24, s95_27, s95_30, s95_31, ldi_0, ldi_s, ldl_0, ldl_s, ldd_0, ldd_s, lda_0, lda_s, st1_0, st1_1, st2_0, st2_1, sti_0, sti_1, stj_0, stj_1, st1_2, sti_2, st2_2, stj_2, st1_3, sti_3, st2_3, stj_3, st1_4, sti_4, st2_4, stj_4, st1_5, sti_5, st2_5, stj_5, st1_6, sti_6, st2_6, stj_6, st1_7, sti_7, st2_7, stj_7, st1_8, sti_8, st2_8, stj_8, st1_9, sti_9, st2_9, stj_9, kil_n, kil_i, kil_r, kil_l, kil_d, gl_0, gl_s, cat_i, cat_r, true_and]
      refine c95_6r hc.1 (sp_size hc.1) ?_
      simp only [s95_0, s95_1, s95_2, s95_3, s95_5, s95_9, s95_12, s95_13, s95_17, s95_18, s95_21, s95_24, s95_27, s95_30, s95_31, ldi_0, ldi_s, ldl_0, ldl_s, ldd_0, ldd_s, lda_0, lda_s, st1_0, st1_1, st2_0, st2_1, sti_0, sti_1, stj_0, stj_1, st1_2, sti_2, st2_2, stj_2, st1_3, sti_3, st2_3, stj_3, st1_4, sti_4, st2_4, stj_4, st1_5, sti_5, st2_5, stj_5, st1_6, sti_6, st2_6, stj_6, st1_7, sti_7, st2_7, stj_7, st1_8, sti_8, st2_8, stj_8, st1_9, sti_9, st2_9, stj_9, kil_n, kil_i, kil_r, kil_l, kil_d, gl_0, gl_s, cat_i, cat_r, true_and]
      rw [br_1 (nI_le (Nat.le_refl _) (by omega))]
      exact out_RR
    | succ j ih =>
      intro p hp
      rw [s95_4]
      simp only [s95_0, s95_1, s95_2, s95_3, s95_5, s95_9, s95_12, s95_13, s95_17, s95_18, s95_21, s95_24, s95_27, s95_30, s95_31, ldi_0, ldi_s, ldl_0, ldl_s, ldd_0, ldd_s, lda_0, lda_s, st1_0, st1_1, st2_0, st2_1, sti_0, sti_1, stj_0, stj_1, st1_2, sti_2, st2_2, stj_2, st1_3, sti_3, st2_3, stj_3, st1_4, sti_4, st2_4, stj_4, st1_5, sti_5, st2_5, stj_5, st1_6, sti_6, st2_6, stj_6, st1_7, sti_7, st2_7, stj_7, st1_8, sti_8, st2_8, stj_8, st1_9, sti_9, st2_9, stj_9, kil_n, kil_i, kil_r, kil_l, kil_d, gl_0, gl_s, cat_i, cat_r, true_and]
      refine c95_6r hc.1 (sp_size hc.1) ?_
      simp only [s95_0, s95_1, s95_2, s95_3, s95_5, s95_9, s95_12, s95_13, s95_17, s95_18, s95_21, s95_24, s95_27, s95_30, s95_31, ldi_0, ldi_s, ldl_0, ldl_s, ldd_0, ldd_s, lda_0, lda_s, st1_0, st1_1, st2_0, st2_1, sti_0, sti_1, stj_0, stj_1, st1_2, sti_2, st2_2, stj_2, st1_3, sti_3, st2_3, stj_3, st1_4, sti_4, st2_4, stj_4, st1_5, sti_5, st2_5, stj_5, st1_6, sti_6, st2_6, stj_6, st1_7, sti_7, st2_7, stj_7, st1_8, sti_8, st2_8, stj_8, st1_9, sti_9, st2_9, stj_9, kil_n, kil_i, kil_r, kil_l, kil_d, gl_0, gl_s, cat_i, cat_r, true_and]
      rw [br_0 (nI_ge (show p < n by omega) (by omega))]
      refine c95_14r (sp_leastOfPiece hc hG (show p < n by omega)) ?_
      simp only [s95_0, s95_1, s95_2, s95_3, s95_5, s95_9, s95_12, s95_13, s95_17, s95_18, s95_21, s95_24, s95_27, s95_30, s95_31, ldi_0, ldi_s, ldl_0, ldl_s, ldd_0, ldd_s, lda_0, lda_s, st1_0, st1_1, st2_0, st2_1, sti_0, sti_1, stj_0, stj_1, st1_2, sti_2, st2_2, stj_2, st1_3, sti_3, st2_3, stj_3, st1_4, sti_4, st2_4, stj_4, st1_5, sti_5, st2_5, stj_5, st1_6, sti_6, st2_6, stj_6, st1_7, sti_7, st2_7, stj_7, st1_8, sti_8, st2_8, stj_8, st1_9, sti_9, st2_9, stj_9, kil_n, kil_i, kil_r, kil_l, kil_d, gl_0, gl_s, cat_i, cat_r, true_and]
      have hl : lop n G p ≤ p := lst_le _
      have key := ih (p + 1) (by omega)
      have ep : pcs n G (p + 1) = pcs n G p + (if decide (lop n G p = p) = true then 1 else 0) := rfl
      rw [ep] at key
      refine ⟨fun h1 => ?_, fun h1 => ?_⟩
      · have h2 : ¬ lop n G p = p := fun q => h1 (by rw [q])
        rw [if_neg (by simpa using h2)] at key
        rw [nI_1]
        exact key
      · have h2 : lop n G p = p := (nI_eq (by omega) (by omega)).mp (Decidable.not_not.mp h1)
        rw [if_pos (by simpa using h2)] at key
        rw [nI_1, nI_1]
        exact key
  exact loop n 0 (by omega)
end Sets
