/-! Colourmap$Chart: the rest -/
section ChartY
variable {h : AH} {c r n z : Nat} {G : Nat → Nat → Bool}
/-- a has ways to the neighbours of b below k -/
def gMrg (a b k : Nat) (G : Nat → Nat → Bool) : Nat → Nat → Bool := fun p q => G p q || (decide (p = a ∧ q ≠ a ∧ q < k) && G b q) || (decide (q = a ∧ p ≠ a ∧ p < k) && G b p)
theorem gMrg_ok (hG : GOK n G) {a b k : Nat} (ha : a < n) : GOK n (gMrg a b k G) := by
  refine ⟨hG.1, fun p q h => ?_⟩
  unfold gMrg at h ⊢
  simp only [Bool.or_eq_true, Bool.and_eq_true, decide_eq_true_eq] at h ⊢
  rcases h with (h | ⟨⟨rfl, h2, h3⟩, h4⟩) | ⟨⟨rfl, h2, h3⟩, h4⟩
  · obtain ⟨h1, h2, h3, h4⟩ := hG.2 _ _ h
    exact ⟨h1, h2, h3, Or.inl (Or.inl h4)⟩
  · obtain ⟨g1, g2, g3, g4⟩ := hG.2 _ _ h4
    exact ⟨ha, g2, Ne.symm h2, Or.inr ⟨⟨rfl, h2, h3⟩, h4⟩⟩
  · obtain ⟨g1, g2, g3, g4⟩ := hG.2 _ _ h4
    exact ⟨g2, ha, h2, Or.inl (Or.inr ⟨⟨rfl, h2, h3⟩, h4⟩)⟩
theorem gMrg_0 {a b : Nat} : gMrg a b 0 G = G := by
  funext p q
  unfold gMrg
  simp
theorem gMrg_s {a b k : Nat} : gMrg a b (k + 1) G = if G b k = true then gJoin a k (gMrg a b k G) else gMrg a b k G := by
  funext p q
  split
  · rename_i hk
    unfold gMrg gJoin
    rw [Bool.eq_iff_iff]
    simp only [Bool.or_eq_true, Bool.and_eq_true, decide_eq_true_eq, Nat.lt_succ_iff_lt_or_eq]
    constructor
    · rintro ((h | ⟨⟨rfl, h2, h3 | rfl⟩, h4⟩) | ⟨⟨rfl, h2, h3 | rfl⟩, h4⟩)
      · exact Or.inl (Or.inl (Or.inl h))
      · exact Or.inl (Or.inl (Or.inr ⟨⟨rfl, h2, h3⟩, h4⟩))
      · exact Or.inr ⟨Ne.symm h2, Or.inl ⟨rfl, rfl⟩⟩
      · exact Or.inl (Or.inr ⟨⟨rfl, h2, h3⟩, h4⟩)
      · exact Or.inr ⟨Ne.symm h2, Or.inr ⟨rfl, rfl⟩⟩
    · rintro (((h | ⟨⟨rfl, h2, h3⟩, h4⟩) | ⟨⟨rfl, h2, h3⟩, h4⟩) | ⟨h1, ⟨rfl, rfl⟩ | ⟨rfl, rfl⟩⟩)
      · exact Or.inl (Or.inl h)
      · exact Or.inl (Or.inr ⟨⟨rfl, h2, Or.inl h3⟩, h4⟩)
      · exact Or.inr ⟨⟨rfl, h2, Or.inl h3⟩, h4⟩
      · exact Or.inl (Or.inr ⟨⟨rfl, Ne.symm h1, Or.inr rfl⟩, hk⟩)
      · exact Or.inr ⟨⟨rfl, Ne.symm h1, Or.inr rfl⟩, hk⟩
  · rename_i hk
    unfold gMrg
    rw [Bool.eq_iff_iff]
    simp only [Bool.or_eq_true, Bool.and_eq_true, decide_eq_true_eq, Nat.lt_succ_iff_lt_or_eq]
    constructor
    · rintro ((h | ⟨⟨rfl, h2, h3 | rfl⟩, h4⟩) | ⟨⟨rfl, h2, h3 | rfl⟩, h4⟩)
      · exact Or.inl (Or.inl h)
      · exact Or.inl (Or.inr ⟨⟨rfl, h2, h3⟩, h4⟩)
      · exact absurd h4 hk
      · exact Or.inr ⟨⟨rfl, h2, h3⟩, h4⟩
      · exact absurd h4 hk
    · rintro ((h | ⟨⟨rfl, h2, h3⟩, h4⟩) | ⟨⟨rfl, h2, h3⟩, h4⟩)
      · exact Or.inl (Or.inl h)
      · exact Or.inl (Or.inr ⟨⟨rfl, h2, Or.inl h3⟩, h4⟩)
      · exact Or.inr ⟨⟨rfl, h2, Or.inl h3⟩, h4⟩
theorem gMrg_b (hG : GOK n G) {a b k p : Nat} (hab : a ≠ b) : gMrg a b k G b p = G b p := by
  unfold gMrg
  rw [show decide (b = a ∧ p ≠ a ∧ p < k) = false by simp [Ne.symm hab]]
  have : G b b = false := by
    cases hh : G b b
    · rfl
    · exact absurd rfl (hG.2 _ _ hh).2.2.1
  simp [this]
theorem sp_merge (hc : ChAt h c r n G) (hG : GOK n G) {a b : Nat} (ha : a < n) (hb : b < n) (hab : a ≠ b) : Sp 3 54 [.ref c, .int (nI a), .int (nI b)] h z 0 0 (RR none (chSet h c r (n - 1) (gDel b (gMrg a b n G))) z) := by
  have hne := hc.ne
  have hn := hG.1
  refine Sp_in (al := [some (.ref c), some (.int (nI a)), some (.int (nI b)), none]) ?_
  simp only [s54_0, s54_1, s54_3, s54_4, s54_7, s54_10, s54_11, s54_12, s54_16, s54_19, s54_20, s54_21, s54_25, s54_28, s54_31, s54_32, s54_36, ldi_0, ldi_s, ldl_0, ldl_s, ldd_0, ldd_s, lda_0, lda_s, st1_0, st1_1, st2_0, st2_1, sti_0, sti_1, stj_0, stj_1, st1_2, sti_2, st2_2, stj_2, st1_3, sti_3, st2_3, stj_3, st1_4, sti_4, st2_4, stj_4, st1_5, sti_5, st2_5, stj_5, st1_6, sti_6, st2_6, stj_6, st1_7, sti_7, st2_7, stj_7, st1_8, sti_8, st2_8, stj_8, st1_9, sti_9, st2_9, stj_9, kil_n, kil_i, kil_r, kil_l, kil_d, gl_0, gl_s, cat_i, cat_r, true_and]
  have loop : ∀ (j p : Nat), p + j = n → aW (Sp 2) 54 0 0 (RR none (chSet h c r (n - 1) (gDel b (gMrg a b n G))) z) 2 [some (.ref c), some (.int (nI a)), some (.int (nI b)), some (.int (nI p))] [] (chSet h c r n (gMrg a b p G)) z 0 0 := by
    intro j
    induction j with
    | zero =>
      intro p hp
      have e : p = n := by omega
      subst e
      have hc' : ChAt (chSet h c r p (gMrg a b p G)) c r p (gMrg a b p G) := chSet_at hne
      rw [s54_2]
      simp only [s54_0, s54_1, s54_3, s54_4, s54_7, s54_10, s54_11, s54_12, s54_16, s54_19, s54_20, s54_21, s54_25, s54_28, s54_31, s54_32, s54_36, ldi_0, ldi_s, ldl_0, ldl_s, ldd_0, ldd_s, lda_0, lda_s, st1_0, st1_1, st2_0, st2_1, sti_0, sti_1, stj_0, stj_1, st1_2, sti_2, st2_2, stj_2, st1_3, sti_3, st2_3, stj_3, st1_4, sti_4, st2_4, stj_4, st1_5, sti_5, st2_5, stj_5, st1_6, sti_6, st2_6, stj_6, st1_7, sti_7, st2_7, stj_7, st1_8, sti_8, st2_8, stj_8, st1_9, sti_9, st2_9, stj_9, kil_n, kil_i, kil_r, kil_l, kil_d, gl_0, gl_s, cat_i, cat_r, true_and, gf_ob hc'.1]
      rw [br_1 (nI_le (Nat.le_refl _) (by omega))]
      refine c54_33r hc'.1 (sp_remove hc' (gMrg_ok hG ha) hb) ?_
      rw [chSet_set hne]
      simp only [s54_0, s54_1, s54_3, s54_4, s54_7, s54_10, s54_11, s54_12, s54_16, s54_19, s54_20, s54_21, s54_25, s54_28, s54_31, s54_32, s54_36, ldi_0, ldi_s, ldl_0, ldl_s, ldd_0, ldd_s, lda_0, lda_s, st1_0, st1_1, st2_0, st2_1, sti_0, sti_1, stj_0, stj_1, st1_2, sti_2, st2_2, stj_2, st1_3, sti_3, st2_3, stj_3, st1_4, sti_4, st2_4, stj_4, st1_5, sti_5, st2_5, stj_5, st1_6, sti_6, st2_6, stj_6, st1_7, sti_7, st2_7, stj_7, st1_8, sti_8, st2_8, stj_8, st1_9, sti_9, st2_9, stj_9, kil_n, kil_i, kil_r, kil_l, kil_d, gl_0, gl_s, cat_i, cat_r, true_and]
      exact out_RR
    | succ j ih =>
      intro p hp
      have hc' : ChAt (chSet h c r n (gMrg a b p G)) c r n (gMrg a b p G) := chSet_at hne
      rw [s54_2]
      simp only [s54_0, s54_1, s54_3, s54_4, s54_7, s54_10, s54_11, s54_12, s54_16, s54_19, s54_20, s54_21, s54_25, s54_28, s54_31, s54_32, s54_36, ldi_0, ldi_s, ldl_0, ldl_s, ldd_0, ldd_s, lda_0, lda_s, st1_0, st1_1, st2_0, st2_1, sti_0, sti_1, stj_0, stj_1, st1_2, sti_2, st2_2, stj_2, st1_3, sti_3, st2_3, stj_3, st1_4, sti_4, st2_4, stj_4, st1_5, sti_5, st2_5, stj_5, st1_6, sti_6, st2_6, stj_6, st1_7, sti_7, st2_7, stj_7, st1_8, sti_8, st2_8, stj_8, st1_9, sti_9, st2_9, stj_9, kil_n, kil_i, kil_r, kil_l, kil_d, gl_0, gl_s, cat_i, cat_r, true_and, gf_ob hc'.1]
      rw [br_0 (nI_ge (show p < n by omega) (by omega))]
      refine c54_13r hc'.1 (sp_joined hc' (gMrg_ok hG ha) hb (show p < n by omega)) ?_
      simp only [s54_0, s54_1, s54_3, s54_4, s54_7, s54_10, s54_11, s54_12, s54_16, s54_19, s54_20, s54_21, s54_25, s54_28, s54_31, s54_32, s54_36, ldi_0, ldi_s, ldl_0, ldl_s, ldd_0, ldd_s, lda_0, lda_s, st1_0, st1_1, st2_0, st2_1, sti_0, sti_1, stj_0, stj_1, st1_2, sti_2, st2_2, stj_2, st1_3, sti_3, st2_3, stj_3, st1_4, sti_4, st2_4, stj_4, st1_5, sti_5, st2_5, stj_5, st1_6, sti_6, st2_6, stj_6, st1_7, sti_7, st2_7, stj_7, st1_8, sti_8, st2_8, stj_8, st1_9, sti_9, st2_9, stj_9, kil_n, kil_i, kil_r, kil_l, kil_d, gl_0, gl_s, cat_i, cat_r, true_and]
      rw [gMrg_b hG hab]
      have hs := gMrg_s (G := G) (a := a) (b := b) (k := p)
      refine ⟨fun h1 => ?_, fun h1 => ?_⟩
      · rw [bI_0] at h1
        rw [h1, if_neg (by decide)] at hs
        rw [nI_1, ← hs]
        exact ih (p + 1) (by omega)
      · have h2 : G b p = true := by
          cases hh : G b p
          · exact absurd (bI_0.mpr hh) h1
          · rfl
        rw [h2, if_pos rfl] at hs
        refine c54_22r hc'.1 (sp_join hc' (gMrg_ok hG ha) ha (show p < n by omega)) ?_
        simp only [s54_0, s54_1, s54_3, s54_4, s54_7, s54_10, s54_11, s54_12, s54_16, s54_19, s54_20, s54_21, s54_25, s54_28, s54_31, s54_32, s54_36, ldi_0, ldi_s, ldl_0, ldl_s, ldd_0, ldd_s, lda_0, lda_s, st1_0, st1_1, st2_0, st2_1, sti_0, sti_1, stj_0, stj_1, st1_2, sti_2, st2_2, stj_2, st1_3, sti_3, st2_3, stj_3, st1_4, sti_4, st2_4, stj_4, st1_5, sti_5, st2_5, stj_5, st1_6, sti_6, st2_6, stj_6, st1_7, sti_7, st2_7, stj_7, st1_8, sti_8, st2_8, stj_8, st1_9, sti_9, st2_9, stj_9, kil_n, kil_i, kil_r, kil_l, kil_d, gl_0, gl_s, cat_i, cat_r, true_and]
        rw [chSet_set hne, nI_1, ← hs]
        exact ih (p + 1) (by omega)
  have := loop n 0 (by omega)
  rw [gMrg_0, chSet_id hc] at this
  exact this
theorem sp_copyFrom (hc : ChAt h c r n G) (hG : GOK n G) {c2 r2 n2 : Nat} {G2 : Nat → Nat → Bool} (hd : ChAt h c2 r2 n2 G2) (hG2 : GOK n2 G2) (h1 : c2 ≠ c) (h2 : r2 ≠ r) : Sp 1 66 [.ref c, .ref c2] h z 0 0 (RR none (chSet h c r n2 G2) z) := by
  have hne := hc.ne
  have h3 : c2 ≠ r := kind_ne hd.1 hc.2
  have h4 : r2 ≠ c := (kind_ne hc.1 hd.2).symm
  refine Sp_in (al := [some (.ref c), some (.ref c2), none]) ?_
  simp only [s66_0, s66_1, s66_2, s66_5, s66_8, s66_9, s66_11, s66_13, s66_16, s66_17, s66_20, s66_21, s66_22, s66_25, s66_26, s66_27, s66_28, s66_31, s66_34, ldi_0, ldi_s, ldl_0, ldl_s, ldd_0, ldd_s, lda_0, lda_s, st1_0, st1_1, st2_0, st2_1, sti_0, sti_1, stj_0, stj_1, st1_2, sti_2, st2_2, stj_2, st1_3, sti_3, st2_3, stj_3, st1_4, sti_4, st2_4, stj_4, st1_5, sti_5, st2_5, stj_5, st1_6, sti_6, st2_6, stj_6, st1_7, sti_7, st2_7, stj_7, st1_8, sti_8, st2_8, stj_8, st1_9, sti_9, st2_9, stj_9, kil_n, kil_i, kil_r, kil_l, kil_d, gl_0, gl_s, cat_i, cat_r, true_and, gf_ob hd.1, pf_ob hc.1 (show 0 < 2 by decide) okv_i]
  have loop : ∀ (j p : Nat), p + j = 9 → ∀ R : Nat → Nat, (∀ i, i < p → R i = rowsN G2 i) → (∀ i, 9 ≤ i → R i = rowsN G2 i) → aW (Sp 0) 66 0 0 (RR none (chSet h c r n2 G2) z) 10 [some (.ref c), some (.ref c2), some (.int (nI p))] [] (hup (hup h r (na 9 R)) c (chO n2 r)) z 0 0 := by
    intro j
    induction j with
    | zero =>
      intro p hp R hR hR9
      have e : p = 9 := by omega
      subst e
      rw [s66_10]
      simp only [s66_0, s66_1, s66_2, s66_5, s66_8, s66_9, s66_11, s66_13, s66_16, s66_17, s66_20, s66_21, s66_22, s66_25, s66_26, s66_27, s66_28, s66_31, s66_34, ldi_0, ldi_s, ldl_0, ldl_s, ldd_0, ldd_s, lda_0, lda_s, st1_0, st1_1, st2_0, st2_1, sti_0, sti_1, stj_0, stj_1, st1_2, sti_2, st2_2, stj_2, st1_3, sti_3, st2_3, stj_3, st1_4, sti_4, st2_4, stj_4, st1_5, sti_5, st2_5, stj_5, st1_6, sti_6, st2_6, stj_6, st1_7, sti_7, st2_7, stj_7, st1_8, sti_8, st2_8, stj_8, st1_9, sti_9, st2_9, stj_9, kil_n, kil_i, kil_r, kil_l, kil_d, gl_0, gl_s, cat_i, cat_r, true_and]
      rw [br_1 (by rw [nI_lit9]; exact nI_le (Nat.le_refl _) (by decide))]
      refine out_eq rfl ?_ rfl
      refine chSet_of ?_
      funext i
      rcases Nat.lt_or_ge i 9 with h9 | h9
      · exact hR i h9
      · exact hR9 i h9
    | succ j ih =>
      intro p hp R hR hR9
      have hc1 : hup (hup h r (na 9 R)) c (chO n2 r) c = some (chO n2 r) := hup_same
      have hc2 : hup (hup h r (na 9 R)) c (chO n2 r) r = some (na 9 R) := by rw [hup_ne hne.symm, hup_same]
      have hd1 : hup (hup h r (na 9 R)) c (chO n2 r) c2 = some (chO n2 r2) := by rw [hup_ne h1, hup_ne h3]; exact hd.1
      have hd2 : hup (hup h r (na 9 R)) c (chO n2 r) r2 = some (na 9 (rowsN G2)) := by rw [hup_ne h4, hup_ne h2]; exact hd.2
      rw [s66_10]
      simp only [s66_0, s66_1, s66_2, s66_5, s66_8, s66_9, s66_11, s66_13, s66_16, s66_17, s66_20, s66_21, s66_22, s66_25, s66_26, s66_27, s66_28, s66_31, s66_34, ldi_0, ldi_s, ldl_0, ldl_s, ldd_0, ldd_s, lda_0, lda_s, st1_0, st1_1, st2_0, st2_1, sti_0, sti_1, stj_0, stj_1, st1_2, sti_2, st2_2, stj_2, st1_3, sti_3, st2_3, stj_3, st1_4, sti_4, st2_4, stj_4, st1_5, sti_5, st2_5, stj_5, st1_6, sti_6, st2_6, stj_6, st1_7, sti_7, st2_7, stj_7, st1_8, sti_8, st2_8, stj_8, st1_9, sti_9, st2_9, stj_9, kil_n, kil_i, kil_r, kil_l, kil_d, gl_0, gl_s, cat_i, cat_r, true_and, gf_ob hc1, gf_ob hd1, ald_na hd2 (show p < 9 by omega), ast_na hc2 (show p < 9 by omega)]
      rw [br_0 (by rw [nI_lit9]; exact nI_ge (show p < 9 by omega) (by decide)), nI_1, hup_comm (Ne.symm hne), hup_hup, hup_comm hne]
      refine ih (p + 1) (by omega) _ (fun i hi => ?_) (fun i hi => ?_)
      · unfold updN
        split
        · rename_i e
          rw [e]
        · exact hR i (by omega)
      · unfold updN
        rw [if_neg (by omega)]
        exact hR9 i hi
  have := loop 9 0 (by omega) (rowsN G) (fun i hi => by omega) (fun i hi => by rw [rows_0 hG (by have := hG.1; omega), rows_0 hG2 (by have := hG2.1; omega)])
  rw [hup_id (a := r) hc.2] at this
  exact this
/-- two maps are the same -/
def gEq (n : Nat) (G : Nat → Nat → Bool) (n2 : Nat) (G2 : Nat → Nat → Bool) : Bool := decide (n = n2) && (List.range n).all (fun p => decide (rowsN G p = rowsN G2 p))
theorem rowsN_inj {n2 : Nat} {G2 : Nat → Nat → Bool} (hG : GOK n G) (hG2 : GOK n2 G2) (h : ∀ p, p < n → rowsN G p = rowsN G2 p) (e : n = n2) : G = G2 := by
  subst e
  funext p q
  rcases Nat.lt_or_ge p n with hp | hp
  · rw [← rows_bit hG, ← rows_bit hG2, h p hp]
  · rw [hG.lt' hp, hG2.lt' hp]
theorem gEq_iff {n2 : Nat} {G2 : Nat → Nat → Bool} (hG : GOK n G) (hG2 : GOK n2 G2) : gEq n G n2 G2 = true ↔ n = n2 ∧ G = G2 := by
  unfold gEq
  rw [Bool.and_eq_true, decide_eq_true_eq, List.all_eq_true]
  constructor
  · rintro ⟨e, h⟩
    exact ⟨e, rowsN_inj hG hG2 (fun p hp => of_decide_eq_true (h p (List.mem_range.mpr hp))) e⟩
  · rintro ⟨rfl, rfl⟩
    exact ⟨rfl, fun p _ => decide_eq_true rfl⟩
theorem sp_sameAs (hc : ChAt h c r n G) (hG : GOK n G) {c2 r2 n2 : Nat} {G2 : Nat → Nat → Bool} (hd : ChAt h c2 r2 n2 G2) (hG2 : GOK n2 G2) : Sp 1 69 [.ref c, .ref c2] h z 0 0 (RR (some (.int (bI (gEq n G n2 G2)))) h z) := by
  have hn := hG.1
  have hn2 := hG2.1
  refine Sp_in (al := [some (.ref c), some (.ref c2), none]) ?_
  simp only [s69_0, s69_1, s69_4, s69_5, s69_8, s69_11, s69_12, s69_13, s69_14, s69_16, s69_17, s69_20, s69_23, s69_24, s69_27, s69_28, s69_29, s69_30, s69_33, s69_34, s69_35, s69_38, s69_39, s69_40, s69_43, s69_46, s69_47, ldi_0, ldi_s, ldl_0, ldl_s, ldd_0, ldd_s, lda_0, lda_s, st1_0, st1_1, st2_0, st2_1, sti_0, sti_1, stj_0, stj_1, st1_2, sti_2, st2_2, stj_2, st1_3, sti_3, st2_3, stj_3, st1_4, sti_4, st2_4, stj_4, st1_5, sti_5, st2_5, stj_5, st1_6, sti_6, st2_6, stj_6, st1_7, sti_7, st2_7, stj_7, st1_8, sti_8, st2_8, stj_8, st1_9, sti_9, st2_9, stj_9, kil_n, kil_i, kil_r, kil_l, kil_d, gl_0, gl_s, cat_i, cat_r, true_and, gf_ob hc.1, gf_ob hd.1]
  refine ⟨fun h1 => ?_, fun h1 => ?_⟩
  · have e : n = n2 := (nI_eq (by omega) (by omega)).mp h1
    have loop : ∀ (j p : Nat), p + j = n → (∀ i, i < p → rowsN G i = rowsN G2 i) → aW (Sp 0) 69 0 0 (RR (some (.int (bI (gEq n G n2 G2)))) h z) 15 [some (.ref c), some (.ref c2), some (.int (nI p))] [] h z 0 0 := by
      intro j
      induction j with
      | zero =>
        intro p hp hR
        rw [s69_15]
        simp only [s69_0, s69_1, s69_4, s69_5, s69_8, s69_11, s69_12, s69_13, s69_14, s69_16, s69_17, s69_20, s69_23, s69_24, s69_27, s69_28, s69_29, s69_30, s69_33, s69_34, s69_35, s69_38, s69_39, s69_40, s69_43, s69_46, s69_47, ldi_0, ldi_s, ldl_0, ldl_s, ldd_0, ldd_s, lda_0, lda_s, st1_0, st1_1, st2_0, st2_1, sti_0, sti_1, stj_0, stj_1, st1_2, sti_2, st2_2, stj_2, st1_3, sti_3, st2_3, stj_3, st1_4, sti_4, st2_4, stj_4, st1_5, sti_5, st2_5, stj_5, st1_6, sti_6, st2_6, stj_6, st1_7, sti_7, st2_7, stj_7, st1_8, sti_8, st2_8, stj_8, st1_9, sti_9, st2_9, stj_9, kil_n, kil_i, kil_r, kil_l, kil_d, gl_0, gl_s, cat_i, cat_r, true_and, gf_ob hc.1]
        rw [br_1 (nI_le (show n ≤ p by omega) (by omega))]
        refine ⟨rfl, out_eq ?_ rfl rfl⟩
        have : gEq n G n2 G2 = true := (gEq_iff hG hG2).mpr ⟨e, rowsN_inj hG hG2 (fun i hi => hR i (by omega)) e⟩
        rw [this]
        rfl
      | succ j ih =>
        intro p hp hR
        rw [s69_15]
        simp only [s69_0, s69_1, s69_4, s69_5, s69_8, s69_11, s69_12, s69_13, s69_14, s69_16, s69_17, s69_20, s69_23, s69_24, s69_27, s69_28, s69_29, s69_30, s69_33, s69_34, s69_35, s69_38, s69_39, s69_40, s69_43, s69_46, s69_47, ldi_0, ldi_s, ldl_0, ldl_s, ldd_0, ldd_s, lda_0, lda_s, st1_0, st1_1, st2_0, st2_1, sti_0, sti_1, stj_0, stj_1, st1_2, sti_2, st2_2, stj_2, st1_3, sti_3, st2_3, stj_3, st1_4, sti_4, st2_4, stj_4, st1_5, sti_5, st2_5, stj_5, st1_6, sti_6, st2_6, stj_6, st1_7, sti_7, st2_7, stj_7, st1_8, sti_8, st2_8, stj_8, st1_9, sti_9, st2_9, stj_9, kil_n, kil_i, kil_r, kil_l, kil_d, gl_0, gl_s, cat_i, cat_r, true_and, gf_ob hc.1, gf_ob hd.1, ald_na hc.2 (show p < 9 by omega), ald_na hd.2 (show p < 9 by omega)]
        rw [br_0 (nI_ge (show p < n by omega) (by omega))]
        have hlt : ∀ K k, rowsN K k < 2 ^ 31 := fun K k => Nat.lt_trans (mk9 _) (by decide)
        refine ⟨fun h2 => ?_, fun h2 => ?_⟩
        · rw [nI_1]
          refine ih (p + 1) (by omega) (fun i hi => ?_)
          by_cases hip : i = p
          · subst hip
            exact (nI_eq (hlt _ _) (hlt _ _)).mp h2
          · exact hR i (by omega)
        · refine ⟨rfl, out_eq ?_ rfl rfl⟩
          have : gEq n G n2 G2 = false := by
            cases hh : gEq n G n2 G2
            · rfl
            · obtain ⟨-, rfl⟩ := (gEq_iff hG hG2).mp hh
              exact absurd rfl h2
          rw [this]
          rfl
    rw [show (0 : Int32) = nI 0 from rfl]
    exact loop n 0 (by omega) (fun i hi => by omega)
  · refine ⟨rfl, out_eq ?_ rfl rfl⟩
    have : gEq n G n2 G2 = false := by
      cases hh : gEq n G n2 G2
      · rfl
      · obtain ⟨rfl, -⟩ := (gEq_iff hG hG2).mp hh
        exact absurd rfl h1
    rw [this]
    rfl
end ChartY
