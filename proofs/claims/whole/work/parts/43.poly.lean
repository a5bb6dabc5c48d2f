/-! Colourmap$Polynomial: partings -/
def clr (R : Nat → Nat) (p : Nat) : Nat → Nat := fun q => if q < p then 0 else R q
theorem clr_0 {R : Nat → Nat} : clr R 0 = R := by
  funext q
  unfold clr
  rw [if_neg (Nat.not_lt_zero q)]
theorem clr_s {R : Nat → Nat} {p : Nat} : updN (clr R p) p 0 = clr R (p + 1) := by
  funext q
  unfold updN clr
  by_cases h : q = p
  · rw [if_pos h, if_pos (by omega)]
  · rw [if_neg h]
    by_cases h2 : q < p
    · rw [if_pos h2, if_pos (by omega)]
    · rw [if_neg h2, if_neg (by omega)]
theorem clr_e {R : Nat → Nat} {n : Nat} (h : ∀ q, n ≤ q → R q = 0) : clr R n = fun _ => 0 := by
  funext q
  unfold clr
  split
  · rfl
  · exact h q (by omega)
theorem sumV_z {f : Nat → Nat → Nat} {m : Nat} (u : Nat) (h : ∀ s, s < u → f s m = 0) : sumV f u m = 0 := by
  induction u with
  | zero => rfl
  | succ u ih =>
    show sumV f u m + f u m = 0
    rw [ih fun s hs => h s (by omega), h u (by omega)]
theorem prt_big {G : Nat → Nat → Bool} (j : Nat) : ∀ (p u : Nat) (P : Nat → Nat) (m : Nat), u + j < m → prt G j p u P m = 0 := by
  induction j with
  | zero =>
    intro p u P m h
    show (if m = u then 1 else 0) = 0
    rw [if_neg (by omega)]
  | succ j ih =>
    intro p u P m h
    show sumV _ u m + _ = 0
    rw [ih _ _ _ _ (by omega), sumV_z]
    intro s hs
    show (if _ then _ else 0) = 0
    split
    · exact ih _ _ _ _ (by omega)
    · rfl
/-- partings of the map by how many sets -/
def ptn (n : Nat) (G : Nat → Nat → Bool) : Nat → Nat := prt G n 0 0 (fun _ => 0)
theorem ptn_big {n m : Nat} {G : Nat → Nat → Bool} (h : n < m) : ptn n G m = 0 := prt_big n 0 0 _ m (by omega)
def poO (b : Bool) (c se pa fa : Nat) : AC := ob 3 [.int (bI b), .ref c, .ref se, .ref pa, .ref fa]
section Poly
variable {h : AH} {c r n z po se pa fa : Nat} {G : Nat → Nat → Bool} {R : Nat → Nat} {b : Bool}
theorem sp_countPartings (hc : ChAt h c r n G) (hG : GOK n G) (ho : h po = some (poO b c se pa fa)) (hse : h se = some (na 9 (fun _ => 0))) (hpa : h pa = some (na 10 R)) (hR : ∀ q, 10 ≤ q → R q = 0) (r1 : r ≠ pa) (r2 : r ≠ se) (n1 : se ≠ pa) : Sp 12 115 [.ref po] h z 0 0 (RR none (hup h pa (na 10 (ptn n G))) z) := by
  have hn := hG.1
  have dp : po ≠ pa := kind_ne ho hpa
  have ds : ∀ X, hup h pa X po = some (poO b c se pa fa) := fun X => by rw [hup_ne dp, ho]
  have hcs : ∀ X, ChAt (hup h pa X) c r n G := fun X => ⟨by rw [hup_ne (kind_ne hc.1 hpa), hc.1], by rw [hup_ne r1, hc.2]⟩
  refine Sp_in (al := [some (.ref po), none]) ?_
  simp only [s115_0, s115_1, s115_3, s115_5, s115_8, s115_9, s115_12, s115_13, s115_14, s115_15, s115_18, s115_21, s115_22, s115_28, s115_31, s115_32, s115_35, s115_36, s115_37, s115_38, s115_41, s115_42, s115_45, s115_46, s115_49, s115_50, s115_51, s115_52, s115_58, ldi_0, ldi_s, ldl_0, ldl_s, ldd_0, ldd_s, lda_0, lda_s, st1_0, st1_1, st2_0, st2_1, sti_0, sti_1, stj_0, stj_1, st1_2, sti_2, st2_2, stj_2, st1_3, sti_3, st2_3, stj_3, st1_4, sti_4, st2_4, stj_4, st1_5, sti_5, st2_5, stj_5, st1_6, sti_6, st2_6, stj_6, st1_7, sti_7, st2_7, stj_7, st1_8, sti_8, st2_8, stj_8, st1_9, sti_9, st2_9, stj_9, kil_n, kil_i, kil_r, kil_l, kil_d, gl_0, gl_s, cat_i, cat_r, true_and]
  have loop : ∀ (j p : Nat), p + j = 10 → aW (Sp 11) 115 0 0 (RR none (hup h pa (na 10 (ptn n G))) z) 2 [some (.ref po), some (.int (nI p))] [] (hup h pa (na 10 (clr R p))) z 0 0 := by
    intro j
    induction j with
    | zero =>
      intro p hp
      have e : p = 10 := by omega
      subst e
      rw [clr_e hR]
      rw [s115_2]
      simp only [s115_0, s115_1, s115_3, s115_5, s115_8, s115_9, s115_12, s115_13, s115_14, s115_15, s115_18, s115_21, s115_22, s115_28, s115_31, s115_32, s115_35, s115_36, s115_37, s115_38, s115_41, s115_42, s115_45, s115_46, s115_49, s115_50, s115_51, s115_52, s115_58, ldi_0, ldi_s, ldl_0, ldl_s, ldd_0, ldd_s, lda_0, lda_s, st1_0, st1_1, st2_0, st2_1, sti_0, sti_1, stj_0, stj_1, st1_2, sti_2, st2_2, stj_2, st1_3, sti_3, st2_3, stj_3, st1_4, sti_4, st2_4, stj_4, st1_5, sti_5, st2_5, stj_5, st1_6, sti_6, st2_6, stj_6, st1_7, sti_7, st2_7, stj_7, st1_8, sti_8, st2_8, stj_8, st1_9, sti_9, st2_9, stj_9, kil_n, kil_i, kil_r, kil_l, kil_d, gl_0, gl_s, cat_i, cat_r, true_and, gf_ob (ds _)]
      rw [br_1 (by decide)]
      refine c115_25r (hcs _).1 (sp_size (hcs _).1) ?_
      simp only [s115_0, s115_1, s115_3, s115_5, s115_8, s115_9, s115_12, s115_13, s115_14, s115_15, s115_18, s115_21, s115_22, s115_28, s115_31, s115_32, s115_35, s115_36, s115_37, s115_38, s115_41, s115_42, s115_45, s115_46, s115_49, s115_50, s115_51, s115_52, s115_58, ldi_0, ldi_s, ldl_0, ldl_s, ldd_0, ldd_s, lda_0, lda_s, st1_0, st1_1, st2_0, st2_1, sti_0, sti_1, stj_0, stj_1, st1_2, sti_2, st2_2, stj_2, st1_3, sti_3, st2_3, stj_3, st1_4, sti_4, st2_4, stj_4, st1_5, sti_5, st2_5, stj_5, st1_6, sti_6, st2_6, stj_6, st1_7, sti_7, st2_7, stj_7, st1_8, sti_8, st2_8, stj_8, st1_9, sti_9, st2_9, stj_9, kil_n, kil_i, kil_r, kil_l, kil_d, gl_0, gl_s, cat_i, cat_r, true_and, gf_ob (ds _)]
      rw [nI_lit0]
      by_cases h0 : n = 0
      · subst h0
        rw [br_0 (by decide), nI_lit1]
        simp only [ast_na hup_same (show 0 < 10 by decide), s115_0, s115_1, s115_3, s115_5, s115_8, s115_9, s115_12, s115_13, s115_14, s115_15, s115_18, s115_21, s115_22, s115_28, s115_31, s115_32, s115_35, s115_36, s115_37, s115_38, s115_41, s115_42, s115_45, s115_46, s115_49, s115_50, s115_51, s115_52, s115_58, ldi_0, ldi_s, ldl_0, ldl_s, ldd_0, ldd_s, lda_0, lda_s, st1_0, st1_1, st2_0, st2_1, sti_0, sti_1, stj_0, stj_1, st1_2, sti_2, st2_2, stj_2, st1_3, sti_3, st2_3, stj_3, st1_4, sti_4, st2_4, stj_4, st1_5, sti_5, st2_5, stj_5, st1_6, sti_6, st2_6, stj_6, st1_7, sti_7, st2_7, stj_7, st1_8, sti_8, st2_8, stj_8, st1_9, sti_9, st2_9, stj_9, kil_n, kil_i, kil_r, kil_l, kil_d, gl_0, gl_s, cat_i, cat_r, true_and]
        refine out_eq rfl ?_ rfl
        rw [hup_hup]
        congr 2
      · rw [br_1 (by rw [nI_eq (by omega) (by omega)]; exact h0)]
        obtain ⟨k, rfl⟩ : ∃ k, n = k + 1 := ⟨n - 1, by omega⟩
        refine c115_55r (Sp_le (show 3 + k ≤ 11 by omega) (sp_part hG r1 r2 n1 k 0 0 (fun _ => 0) (fun _ => 0) _ (by omega) (by omega) (fun q _ => by decide) (fun q _ _ => rfl) (hcs _) (by rw [hup_ne n1, hse]) hup_same)) ?_
        simp only [s115_0, s115_1, s115_3, s115_5, s115_8, s115_9, s115_12, s115_13, s115_14, s115_15, s115_18, s115_21, s115_22, s115_28, s115_31, s115_32, s115_35, s115_36, s115_37, s115_38, s115_41, s115_42, s115_45, s115_46, s115_49, s115_50, s115_51, s115_52, s115_58, ldi_0, ldi_s, ldl_0, ldl_s, ldd_0, ldd_s, lda_0, lda_s, st1_0, st1_1, st2_0, st2_1, sti_0, sti_1, stj_0, stj_1, st1_2, sti_2, st2_2, stj_2, st1_3, sti_3, st2_3, stj_3, st1_4, sti_4, st2_4, stj_4, st1_5, sti_5, st2_5, stj_5, st1_6, sti_6, st2_6, stj_6, st1_7, sti_7, st2_7, stj_7, st1_8, sti_8, st2_8, stj_8, st1_9, sti_9, st2_9, stj_9, kil_n, kil_i, kil_r, kil_l, kil_d, gl_0, gl_s, cat_i, cat_r, true_and]
        refine out_eq rfl ?_ rfl
        rw [hup_hup]
        congr 2
        funext m
        unfold addV ptn
        rw [Nat.zero_add]
    | succ j ih =>
      intro p hp
      rw [s115_2]
      simp only [s115_0, s115_1, s115_3, s115_5, s115_8, s115_9, s115_12, s115_13, s115_14, s115_15, s115_18, s115_21, s115_22, s115_28, s115_31, s115_32, s115_35, s115_36, s115_37, s115_38, s115_41, s115_42, s115_45, s115_46, s115_49, s115_50, s115_51, s115_52, s115_58, ldi_0, ldi_s, ldl_0, ldl_s, ldd_0, ldd_s, lda_0, lda_s, st1_0, st1_1, st2_0, st2_1, sti_0, sti_1, stj_0, stj_1, st1_2, sti_2, st2_2, stj_2, st1_3, sti_3, st2_3, stj_3, st1_4, sti_4, st2_4, stj_4, st1_5, sti_5, st2_5, stj_5, st1_6, sti_6, st2_6, stj_6, st1_7, sti_7, st2_7, stj_7, st1_8, sti_8, st2_8, stj_8, st1_9, sti_9, st2_9, stj_9, kil_n, kil_i, kil_r, kil_l, kil_d, gl_0, gl_s, cat_i, cat_r, true_and, gf_ob (ds _), ast_na0 hup_same (show p < 10 by omega)]
      rw [nI_lit9, br_0 (nI_nlt (show p ≤ 9 by omega) (by decide)), nI_1, hup_hup, clr_s]
      exact ih (p + 1) (by omega)
  have key := loop 10 0 (by omega)
  rw [clr_0, hup_id hpa] at key
  exact key
theorem sp_partingsInto (ho : h po = some (poO b c se pa fa)) (hpa : h pa = some (na 10 R)) {m : Nat} (hm : m < 10) : Sp 1 118 [.ref po, .int (nI m)] h z 0 0 (RR (some (.int (nI (R m)))) h z) := by
  refine Sp_in (al := [some (.ref po), some (.int (nI m))]) ?_
  simp only [s118_0, s118_1, s118_4, s118_5, s118_7, s118_10, s118_11, s118_14, s118_15, s118_16, s118_19, s118_20, ldi_0, ldi_s, ldl_0, ldl_s, ldd_0, ldd_s, lda_0, lda_s, st1_0, st1_1, st2_0, st2_1, sti_0, sti_1, stj_0, stj_1, st1_2, sti_2, st2_2, stj_2, st1_3, sti_3, st2_3, stj_3, st1_4, sti_4, st2_4, stj_4, st1_5, sti_5, st2_5, stj_5, st1_6, sti_6, st2_6, stj_6, st1_7, sti_7, st2_7, stj_7, st1_8, sti_8, st2_8, stj_8, st1_9, sti_9, st2_9, stj_9, kil_n, kil_i, kil_r, kil_l, kil_d, gl_0, gl_s, cat_i, cat_r, true_and, gf_ob ho, ald_na hpa hm]
  rw [nI_lit0, nI_lit9, br_0 (nI_nlt (Nat.zero_le m) (by omega)), br_0 (nI_nlt (show m ≤ 9 by omega) (by decide))]
  exact out_RR
/-- the least k below n that f is above 0 at, or n -/
def fsp (f : Nat → Nat) (n : Nat) : Nat → Nat
  | 0 => n
  | j + 1 => if f (n - (j + 1)) = 0 then fsp f n j else n - (j + 1)
theorem sp_leastSets (hc : ChAt h c r n G) (hG : GOK n G) (ho : h po = some (poO b c se pa fa)) (hpa : h pa = some (na 10 R)) (hR : ∀ q, R q < 2 ^ 31) : Sp 2 127 [.ref po] h z 0 0 (RR (some (.int (nI (fsp R n n)))) h z) := by
  have hn := hG.1
  refine Sp_in (al := [some (.ref po), none]) ?_
  simp only [s127_0, s127_1, s127_3, s127_4, s127_10, s127_13, s127_14, s127_17, s127_18, s127_19, s127_22, s127_23, s127_24, s127_27, s127_30, s127_31, s127_37, ldi_0, ldi_s, ldl_0, ldl_s, ldd_0, ldd_s, lda_0, lda_s, st1_0, st1_1, st2_0, st2_1, sti_0, sti_1, stj_0, stj_1, st1_2, sti_2, st2_2, stj_2, st1_3, sti_3, st2_3, stj_3, st1_4, sti_4, st2_4, stj_4, st1_5, sti_5, st2_5, stj_5, st1_6, sti_6, st2_6, stj_6, st1_7, sti_7, st2_7, stj_7, st1_8, sti_8, st2_8, stj_8, st1_9, sti_9, st2_9, stj_9, kil_n, kil_i, kil_r, kil_l, kil_d, gl_0, gl_s, cat_i, cat_r, true_and]
  have loop : ∀ (j p : Nat), p + j = n → fsp R n n = fsp R n j → aW (Sp 1) 127 0 0 (RR (some (.int (nI (fsp R n n)))) h z) 2 [some (.ref po), some (.int (nI p))] [] h z 0 0 := by
    intro j
    induction j with
    | zero =>
      intro p hp e
      have e1 : p = n := by omega
      subst e1
      rw [s127_2]
      simp only [s127_0, s127_1, s127_3, s127_4, s127_10, s127_13, s127_14, s127_17, s127_18, s127_19, s127_22, s127_23, s127_24, s127_27, s127_30, s127_31, s127_37, ldi_0, ldi_s, ldl_0, ldl_s, ldd_0, ldd_s, lda_0, lda_s, st1_0, st1_1, st2_0, st2_1, sti_0, sti_1, stj_0, stj_1, st1_2, sti_2, st2_2, stj_2, st1_3, sti_3, st2_3, stj_3, st1_4, sti_4, st2_4, stj_4, st1_5, sti_5, st2_5, stj_5, st1_6, sti_6, st2_6, stj_6, st1_7, sti_7, st2_7, stj_7, st1_8, sti_8, st2_8, stj_8, st1_9, sti_9, st2_9, stj_9, kil_n, kil_i, kil_r, kil_l, kil_d, gl_0, gl_s, cat_i, cat_r, true_and, gf_ob ho]
      refine c127_7r hc.1 (sp_size hc.1) ?_
      simp only [s127_0, s127_1, s127_3, s127_4, s127_10, s127_13, s127_14, s127_17, s127_18, s127_19, s127_22, s127_23, s127_24, s127_27, s127_30, s127_31, s127_37, ldi_0, ldi_s, ldl_0, ldl_s, ldd_0, ldd_s, lda_0, lda_s, st1_0, st1_1, st2_0, st2_1, sti_0, sti_1, stj_0, stj_1, st1_2, sti_2, st2_2, stj_2, st1_3, sti_3, st2_3, stj_3, st1_4, sti_4, st2_4, stj_4, st1_5, sti_5, st2_5, stj_5, st1_6, sti_6, st2_6, stj_6, st1_7, sti_7, st2_7, stj_7, st1_8, sti_8, st2_8, stj_8, st1_9, sti_9, st2_9, stj_9, kil_n, kil_i, kil_r, kil_l, kil_d, gl_0, gl_s, cat_i, cat_r, true_and, gf_ob ho]
      rw [br_1 (nI_le (Nat.le_refl _) (by omega))]
      refine c127_34r hc.1 (sp_size hc.1) ?_
      simp only [s127_0, s127_1, s127_3, s127_4, s127_10, s127_13, s127_14, s127_17, s127_18, s127_19, s127_22, s127_23, s127_24, s127_27, s127_30, s127_31, s127_37, ldi_0, ldi_s, ldl_0, ldl_s, ldd_0, ldd_s, lda_0, lda_s, st1_0, st1_1, st2_0, st2_1, sti_0, sti_1, stj_0, stj_1, st1_2, sti_2, st2_2, stj_2, st1_3, sti_3, st2_3, stj_3, st1_4, sti_4, st2_4, stj_4, st1_5, sti_5, st2_5, stj_5, st1_6, sti_6, st2_6, stj_6, st1_7, sti_7, st2_7, stj_7, st1_8, sti_8, st2_8, stj_8, st1_9, sti_9, st2_9, stj_9, kil_n, kil_i, kil_r, kil_l, kil_d, gl_0, gl_s, cat_i, cat_r, true_and]
      rw [e]
      exact out_RR
    | succ j ih =>
      intro p hp e
      rw [s127_2]
      simp only [s127_0, s127_1, s127_3, s127_4, s127_10, s127_13, s127_14, s127_17, s127_18, s127_19, s127_22, s127_23, s127_24, s127_27, s127_30, s127_31, s127_37, ldi_0, ldi_s, ldl_0, ldl_s, ldd_0, ldd_s, lda_0, lda_s, st1_0, st1_1, st2_0, st2_1, sti_0, sti_1, stj_0, stj_1, st1_2, sti_2, st2_2, stj_2, st1_3, sti_3, st2_3, stj_3, st1_4, sti_4, st2_4, stj_4, st1_5, sti_5, st2_5, stj_5, st1_6, sti_6, st2_6, stj_6, st1_7, sti_7, st2_7, stj_7, st1_8, sti_8, st2_8, stj_8, st1_9, sti_9, st2_9, stj_9, kil_n, kil_i, kil_r, kil_l, kil_d, gl_0, gl_s, cat_i, cat_r, true_and, gf_ob ho]
      refine c127_7r hc.1 (sp_size hc.1) ?_
      simp only [s127_0, s127_1, s127_3, s127_4, s127_10, s127_13, s127_14, s127_17, s127_18, s127_19, s127_22, s127_23, s127_24, s127_27, s127_30, s127_31, s127_37, ldi_0, ldi_s, ldl_0, ldl_s, ldd_0, ldd_s, lda_0, lda_s, st1_0, st1_1, st2_0, st2_1, sti_0, sti_1, stj_0, stj_1, st1_2, sti_2, st2_2, stj_2, st1_3, sti_3, st2_3, stj_3, st1_4, sti_4, st2_4, stj_4, st1_5, sti_5, st2_5, stj_5, st1_6, sti_6, st2_6, stj_6, st1_7, sti_7, st2_7, stj_7, st1_8, sti_8, st2_8, stj_8, st1_9, sti_9, st2_9, stj_9, kil_n, kil_i, kil_r, kil_l, kil_d, gl_0, gl_s, cat_i, cat_r, true_and, gf_ob ho, ald_na hpa (show p < 10 by omega)]
      rw [br_0 (nI_ge (show p < n by omega) (by omega))]
      have ef : fsp R n (j + 1) = if R (n - (j + 1)) = 0 then fsp R n j else n - (j + 1) := rfl
      rw [ef, show n - (j + 1) = p by omega] at e
      rw [nI_lit0]
      refine ⟨fun h1 => ?_, fun h1 => ?_⟩
      · have h2 : R p = 0 := Nat.le_zero.mp (Nat.le_of_not_lt fun w => nI_ge w (hR p) h1)
        rw [if_pos h2] at e
        rw [nI_1]
        exact ih (p + 1) (by omega) e
      · have h2 : ¬ R p = 0 := fun w => h1 (by rw [w]; exact Int32.le_refl _)
        rw [if_neg h2] at e
        rw [e]
        exact out_RR
  exact loop n 0 (by omega) rfl
end Poly
