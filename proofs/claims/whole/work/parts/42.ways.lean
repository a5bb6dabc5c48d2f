/-! Colourmap$Directions, the list of the ways -/
theorem nI_lit10 : (10 : Int32) = nI 10 := rfl
def wyS (G : Nat → Nat → Bool) (a b : Nat) (s : (Nat × (Nat → Nat) × (Nat → Nat))) : (Nat × (Nat → Nat) × (Nat → Nat)) := if G a b = true ∧ s.1 < 10 then ⟨s.1 + 1, updN s.2.1 s.1 a, updN s.2.2 s.1 b⟩ else s
def wyB (G : Nat → Nat → Bool) (a : Nat) (s : (Nat × (Nat → Nat) × (Nat → Nat))) : Nat → (Nat × (Nat → Nat) × (Nat → Nat))
  | 0 => s
  | i + 1 => wyS G a (a + 1 + i) (wyB G a s i)
def wyA (G : Nat → Nat → Bool) (n : Nat) (s : (Nat × (Nat → Nat) × (Nat → Nat))) : Nat → (Nat × (Nat → Nat) × (Nat → Nat))
  | 0 => s
  | a + 1 => wyB G a (wyA G n s a) (n - (a + 1))
theorem wyS_le {G : Nat → Nat → Bool} {a b : Nat} {s : (Nat × (Nat → Nat) × (Nat → Nat))} (h : s.1 ≤ 10) : (wyS G a b s).1 ≤ 10 := by
  unfold wyS
  split
  · show s.1 + 1 ≤ 10
    omega
  · exact h
theorem wyB_le {G : Nat → Nat → Bool} {a : Nat} {s : (Nat × (Nat → Nat) × (Nat → Nat))} (h : s.1 ≤ 10) (i : Nat) : (wyB G a s i).1 ≤ 10 := by
  induction i with
  | zero => exact h
  | succ i ih => exact wyS_le ih
theorem wyA_le {G : Nat → Nat → Bool} {n : Nat} {s : (Nat × (Nat → Nat) × (Nat → Nat))} (h : s.1 ≤ 10) (a : Nat) : (wyA G n s a).1 ≤ 10 := by
  induction a with
  | zero => exact h
  | succ a ih => exact wyB_le ih _
def diO (fr to le m : Nat) : AC := ob 2 [.ref fr, .ref to, .ref le, .int (nI m)]
def wyH (h : AH) (di fr to le : Nat) (s : (Nat × (Nat → Nat) × (Nat → Nat))) : AH := hup (hup (hup h fr (na 10 s.2.1)) to (na 10 s.2.2)) di (diO fr to le s.1)
section Ways
variable {h : AH} {c r n z di fr to le : Nat} {G : Nat → Nat → Bool} {s : (Nat × (Nat → Nat) × (Nat → Nat))}
theorem wyH_di : wyH h di fr to le s di = some (diO fr to le s.1) := hup_same
theorem wyH_fr (h1 : di ≠ fr) (h3 : fr ≠ to) : wyH h di fr to le s fr = some (na 10 s.2.1) := by
  unfold wyH
  rw [hup_ne (Ne.symm h1), hup_ne h3, hup_same]
theorem wyH_to (h2 : di ≠ to) : wyH h di fr to le s to = some (na 10 s.2.2) := by
  unfold wyH
  rw [hup_ne (Ne.symm h2), hup_same]
theorem wyH_ne {x : Nat} (h1 : x ≠ di) (h2 : x ≠ fr) (h3 : x ≠ to) : wyH h di fr to le s x = h x := by
  unfold wyH
  rw [hup_ne h1, hup_ne h3, hup_ne h2]
theorem wyH_fr' {A : Nat → Nat} (h1 : di ≠ fr) (h3 : fr ≠ to) : hup (wyH h di fr to le s) fr (na 10 A) = wyH h di fr to le ⟨s.1, A, s.2.2⟩ := by
  unfold wyH
  rw [hup_comm h1, hup_comm (Ne.symm h3), hup_hup]
theorem wyH_to' {A : Nat → Nat} (h2 : di ≠ to) : hup (wyH h di fr to le s) to (na 10 A) = wyH h di fr to le ⟨s.1, s.2.1, A⟩ := by
  unfold wyH
  rw [hup_comm h2, hup_hup]
theorem wyH_m' {m : Nat} : hup (wyH h di fr to le s) di (ob 2 [.ref fr, .ref to, .ref le, .int (nI m)]) = wyH h di fr to le ⟨m, s.2.1, s.2.2⟩ := by
  unfold wyH
  rw [hup_hup]
  rfl
theorem wyH_0 {m : Nat} {A B : Nat → Nat} (e1 : h di = some (diO fr to le m)) (e2 : h fr = some (na 10 A)) (e3 : h to = some (na 10 B)) : wyH h di fr to le ⟨0, A, B⟩ = hup h di (diO fr to le 0) := by
  unfold wyH
  show hup (hup (hup h fr (na 10 A)) to (na 10 B)) di _ = _
  rw [hup_id e2, hup_id e3]
theorem sp_readWays (hc : ChAt h c r n G) (hG : GOK n G) {m : Nat} {A B : Nat → Nat} (e1 : h di = some (diO fr to le m)) (e2 : h fr = some (na 10 A)) (e3 : h to = some (na 10 B)) (h3 : fr ≠ to) (r1 : r ≠ fr) (r2 : r ≠ to) (cd : c ≠ di) : Sp 3 191 [.ref di, .ref c] h z 0 0 (RR none (wyH h di fr to le (wyA G n ⟨0, A, B⟩ n)) z) := by
  have hn := hG.1
  have d1 : di ≠ fr := kind_ne e1 e2
  have d2 : di ≠ to := kind_ne e1 e3
  have hcs : ∀ s : (Nat × (Nat → Nat) × (Nat → Nat)), ChAt (wyH h di fr to le s) c r n G := fun s => ⟨by rw [wyH_ne cd (kind_ne hc.1 e2) (kind_ne hc.1 e3), hc.1], by rw [wyH_ne (Ne.symm (kind_ne e1 hc.2)) r1 r2, hc.2]⟩
  refine Sp_in (al := [some (.ref di), some (.ref c), none, none]) ?_
  simp only [s191_0, s191_1, s191_2, s191_5, s191_6, s191_8, s191_12, s191_15, s191_16, s191_17, s191_18, s191_20, s191_24, s191_27, s191_28, s191_29, s191_33, s191_36, s191_37, s191_40, s191_42, s191_45, s191_46, s191_49, s191_50, s191_53, s191_54, s191_55, s191_56, s191_59, s191_60, s191_63, s191_64, s191_65, s191_66, s191_67, s191_70, s191_71, s191_72, s191_75, s191_78, s191_81, s191_84, s191_87, ldi_0, ldi_s, ldl_0, ldl_s, ldd_0, ldd_s, lda_0, lda_s, st1_0, st1_1, st2_0, st2_1, sti_0, sti_1, stj_0, stj_1, st1_2, sti_2, st2_2, stj_2, st1_3, sti_3, st2_3, stj_3, st1_4, sti_4, st2_4, stj_4, st1_5, sti_5, st2_5, stj_5, st1_6, sti_6, st2_6, stj_6, st1_7, sti_7, st2_7, stj_7, st1_8, sti_8, st2_8, stj_8, st1_9, sti_9, st2_9, stj_9, kil_n, kil_i, kil_r, kil_l, kil_d, gl_0, gl_s, cat_i, cat_r, true_and, pf_ob e1 (show 3 < 4 by decide) okv_i]
  have loop : ∀ (j a : Nat) (b : Option Value), a + j = n → aW (Sp 2) 191 0 0 (RR none (wyH h di fr to le (wyA G n ⟨0, A, B⟩ n)) z) 7 [some (.ref di), some (.ref c), some (.int (nI a)), b] [] (wyH h di fr to le (wyA G n ⟨0, A, B⟩ a)) z 0 0 := by
    intro j
    induction j with
    | zero =>
      intro a b ha
      have e : a = n := by omega
      subst e
      rw [s191_7]
      simp only [s191_0, s191_1, s191_2, s191_5, s191_6, s191_8, s191_12, s191_15, s191_16, s191_17, s191_18, s191_20, s191_24, s191_27, s191_28, s191_29, s191_33, s191_36, s191_37, s191_40, s191_42, s191_45, s191_46, s191_49, s191_50, s191_53, s191_54, s191_55, s191_56, s191_59, s191_60, s191_63, s191_64, s191_65, s191_66, s191_67, s191_70, s191_71, s191_72, s191_75, s191_78, s191_81, s191_84, s191_87, ldi_0, ldi_s, ldl_0, ldl_s, ldd_0, ldd_s, lda_0, lda_s, st1_0, st1_1, st2_0, st2_1, sti_0, sti_1, stj_0, stj_1, st1_2, sti_2, st2_2, stj_2, st1_3, sti_3, st2_3, stj_3, st1_4, sti_4, st2_4, stj_4, st1_5, sti_5, st2_5, stj_5, st1_6, sti_6, st2_6, stj_6, st1_7, sti_7, st2_7, stj_7, st1_8, sti_8, st2_8, stj_8, st1_9, sti_9, st2_9, stj_9, kil_n, kil_i, kil_r, kil_l, kil_d, gl_0, gl_s, cat_i, cat_r, true_and]
      refine c191_9r (hcs _).1 (sp_size (hcs _).1) ?_
      simp only [s191_0, s191_1, s191_2, s191_5, s191_6, s191_8, s191_12, s191_15, s191_16, s191_17, s191_18, s191_20, s191_24, s191_27, s191_28, s191_29, s191_33, s191_36, s191_37, s191_40, s191_42, s191_45, s191_46, s191_49, s191_50, s191_53, s191_54, s191_55, s191_56, s191_59, s191_60, s191_63, s191_64, s191_65, s191_66, s191_67, s191_70, s191_71, s191_72, s191_75, s191_78, s191_81, s191_84, s191_87, ldi_0, ldi_s, ldl_0, ldl_s, ldd_0, ldd_s, lda_0, lda_s, st1_0, st1_1, st2_0, st2_1, sti_0, sti_1, stj_0, stj_1, st1_2, sti_2, st2_2, stj_2, st1_3, sti_3, st2_3, stj_3, st1_4, sti_4, st2_4, stj_4, st1_5, sti_5, st2_5, stj_5, st1_6, sti_6, st2_6, stj_6, st1_7, sti_7, st2_7, stj_7, st1_8, sti_8, st2_8, stj_8, st1_9, sti_9, st2_9, stj_9, kil_n, kil_i, kil_r, kil_l, kil_d, gl_0, gl_s, cat_i, cat_r, true_and]
      rw [br_1 (nI_le (Nat.le_refl _) (by omega))]
      exact out_RR
    | succ j ih =>
      intro a b ha
      rw [s191_7]
      simp only [s191_0, s191_1, s191_2, s191_5, s191_6, s191_8, s191_12, s191_15, s191_16, s191_17, s191_18, s191_20, s191_24, s191_27, s191_28, s191_29, s191_33, s191_36, s191_37, s191_40, s191_42, s191_45, s191_46, s191_49, s191_50, s191_53, s191_54, s191_55, s191_56, s191_59, s191_60, s191_63, s191_64, s191_65, s191_66, s191_67, s191_70, s191_71, s191_72, s191_75, s191_78, s191_81, s191_84, s191_87, ldi_0, ldi_s, ldl_0, ldl_s, ldd_0, ldd_s, lda_0, lda_s, st1_0, st1_1, st2_0, st2_1, sti_0, sti_1, stj_0, stj_1, st1_2, sti_2, st2_2, stj_2, st1_3, sti_3, st2_3, stj_3, st1_4, sti_4, st2_4, stj_4, st1_5, sti_5, st2_5, stj_5, st1_6, sti_6, st2_6, stj_6, st1_7, sti_7, st2_7, stj_7, st1_8, sti_8, st2_8, stj_8, st1_9, sti_9, st2_9, stj_9, kil_n, kil_i, kil_r, kil_l, kil_d, gl_0, gl_s, cat_i, cat_r, true_and]
      refine c191_9r (hcs _).1 (sp_size (hcs _).1) ?_
      simp only [s191_0, s191_1, s191_2, s191_5, s191_6, s191_8, s191_12, s191_15, s191_16, s191_17, s191_18, s191_20, s191_24, s191_27, s191_28, s191_29, s191_33, s191_36, s191_37, s191_40, s191_42, s191_45, s191_46, s191_49, s191_50, s191_53, s191_54, s191_55, s191_56, s191_59, s191_60, s191_63, s191_64, s191_65, s191_66, s191_67, s191_70, s191_71, s191_72, s191_75, s191_78, s191_81, s191_84, s191_87, ldi_0, ldi_s, ldl_0, ldl_s, ldd_0, ldd_s, lda_0, lda_s, st1_0, st1_1, st2_0, st2_1, sti_0, sti_1, stj_0, stj_1, st1_2, sti_2, st2_2, stj_2, st1_3, sti_3, st2_3, stj_3, st1_4, sti_4, st2_4, stj_4, st1_5, sti_5, st2_5, stj_5, st1_6, sti_6, st2_6, stj_6, st1_7, sti_7, st2_7, stj_7, st1_8, sti_8, st2_8, stj_8, st1_9, sti_9, st2_9, stj_9, kil_n, kil_i, kil_r, kil_l, kil_d, gl_0, gl_s, cat_i, cat_r, true_and]
      rw [br_0 (nI_ge (show a < n by omega) (by omega)), nI_1]
      have inner : ∀ (i q : Nat), q + i = n - (a + 1) → aW (Sp 2) 191 0 0 (RR none (wyH h di fr to le (wyA G n ⟨0, A, B⟩ n)) z) 19 [some (.ref di), some (.ref c), some (.int (nI a)), some (.int (nI (a + 1 + q)))] [] (wyH h di fr to le (wyB G a (wyA G n ⟨0, A, B⟩ a) q)) z 0 0 := by
        intro i
        induction i with
        | zero =>
          intro q hq
          have e : q = n - (a + 1) := by omega
          subst e
          rw [s191_19]
          simp only [s191_0, s191_1, s191_2, s191_5, s191_6, s191_8, s191_12, s191_15, s191_16, s191_17, s191_18, s191_20, s191_24, s191_27, s191_28, s191_29, s191_33, s191_36, s191_37, s191_40, s191_42, s191_45, s191_46, s191_49, s191_50, s191_53, s191_54, s191_55, s191_56, s191_59, s191_60, s191_63, s191_64, s191_65, s191_66, s191_67, s191_70, s191_71, s191_72, s191_75, s191_78, s191_81, s191_84, s191_87, ldi_0, ldi_s, ldl_0, ldl_s, ldd_0, ldd_s, lda_0, lda_s, st1_0, st1_1, st2_0, st2_1, sti_0, sti_1, stj_0, stj_1, st1_2, sti_2, st2_2, stj_2, st1_3, sti_3, st2_3, stj_3, st1_4, sti_4, st2_4, stj_4, st1_5, sti_5, st2_5, stj_5, st1_6, sti_6, st2_6, stj_6, st1_7, sti_7, st2_7, stj_7, st1_8, sti_8, st2_8, stj_8, st1_9, sti_9, st2_9, stj_9, kil_n, kil_i, kil_r, kil_l, kil_d, gl_0, gl_s, cat_i, cat_r, true_and]
          refine c191_21r (hcs _).1 (sp_size (hcs _).1) ?_
          simp only [s191_0, s191_1, s191_2, s191_5, s191_6, s191_8, s191_12, s191_15, s191_16, s191_17, s191_18, s191_20, s191_24, s191_27, s191_28, s191_29, s191_33, s191_36, s191_37, s191_40, s191_42, s191_45, s191_46, s191_49, s191_50, s191_53, s191_54, s191_55, s191_56, s191_59, s191_60, s191_63, s191_64, s191_65, s191_66, s191_67, s191_70, s191_71, s191_72, s191_75, s191_78, s191_81, s191_84, s191_87, ldi_0, ldi_s, ldl_0, ldl_s, ldd_0, ldd_s, lda_0, lda_s, st1_0, st1_1, st2_0, st2_1, sti_0, sti_1, stj_0, stj_1, st1_2, sti_2, st2_2, stj_2, st1_3, sti_3, st2_3, stj_3, st1_4, sti_4, st2_4, stj_4, st1_5, sti_5, st2_5, stj_5, st1_6, sti_6, st2_6, stj_6, st1_7, sti_7, st2_7, stj_7, st1_8, sti_8, st2_8, stj_8, st1_9, sti_9, st2_9, stj_9, kil_n, kil_i, kil_r, kil_l, kil_d, gl_0, gl_s, cat_i, cat_r, true_and]
          rw [br_1 (nI_le (show n ≤ a + 1 + (n - (a + 1)) by omega) (by omega)), nI_1]
          exact ih (a + 1) _ (by omega)
        | succ i ih2 =>
          intro q hq
          have hsm : (wyB G a (wyA G n ⟨0, A, B⟩ a) q).1 ≤ 10 := wyB_le (wyA_le (Nat.zero_le _) a) q
          have key := ih2 (q + 1) (by omega)
          have es : wyB G a (wyA G n ⟨0, A, B⟩ a) (q + 1) = wyS G a (a + 1 + q) (wyB G a (wyA G n ⟨0, A, B⟩ a) q) := rfl
          rw [es] at key
          generalize wyB G a (wyA G n ⟨0, A, B⟩ a) q = s at hsm key ⊢
          rw [s191_19]
          simp only [s191_0, s191_1, s191_2, s191_5, s191_6, s191_8, s191_12, s191_15, s191_16, s191_17, s191_18, s191_20, s191_24, s191_27, s191_28, s191_29, s191_33, s191_36, s191_37, s191_40, s191_42, s191_45, s191_46, s191_49, s191_50, s191_53, s191_54, s191_55, s191_56, s191_59, s191_60, s191_63, s191_64, s191_65, s191_66, s191_67, s191_70, s191_71, s191_72, s191_75, s191_78, s191_81, s191_84, s191_87, ldi_0, ldi_s, ldl_0, ldl_s, ldd_0, ldd_s, lda_0, lda_s, st1_0, st1_1, st2_0, st2_1, sti_0, sti_1, stj_0, stj_1, st1_2, sti_2, st2_2, stj_2, st1_3, sti_3, st2_3, stj_3, st1_4, sti_4, st2_4, stj_4, st1_5, sti_5, st2_5, stj_5, st1_6, sti_6, st2_6, stj_6, st1_7, sti_7, st2_7, stj_7, st1_8, sti_8, st2_8, stj_8, st1_9, sti_9, st2_9, stj_9, kil_n, kil_i, kil_r, kil_l, kil_d, gl_0, gl_s, cat_i, cat_r, true_and]
          refine c191_21r (hcs _).1 (sp_size (hcs _).1) ?_
          simp only [s191_0, s191_1, s191_2, s191_5, s191_6, s191_8, s191_12, s191_15, s191_16, s191_17, s191_18, s191_20, s191_24, s191_27, s191_28, s191_29, s191_33, s191_36, s191_37, s191_40, s191_42, s191_45, s191_46, s191_49, s191_50, s191_53, s191_54, s191_55, s191_56, s191_59, s191_60, s191_63, s191_64, s191_65, s191_66, s191_67, s191_70, s191_71, s191_72, s191_75, s191_78, s191_81, s191_84, s191_87, ldi_0, ldi_s, ldl_0, ldl_s, ldd_0, ldd_s, lda_0, lda_s, st1_0, st1_1, st2_0, st2_1, sti_0, sti_1, stj_0, stj_1, st1_2, sti_2, st2_2, stj_2, st1_3, sti_3, st2_3, stj_3, st1_4, sti_4, st2_4, stj_4, st1_5, sti_5, st2_5, stj_5, st1_6, sti_6, st2_6, stj_6, st1_7, sti_7, st2_7, stj_7, st1_8, sti_8, st2_8, stj_8, st1_9, sti_9, st2_9, stj_9, kil_n, kil_i, kil_r, kil_l, kil_d, gl_0, gl_s, cat_i, cat_r, true_and]
          rw [br_0 (nI_ge (show a + 1 + q < n by omega) (by omega))]
          refine c191_30r (hcs _).1 (sp_joined (hcs _) hG (show a < n by omega) (show a + 1 + q < n by omega)) ?_
          simp only [s191_0, s191_1, s191_2, s191_5, s191_6, s191_8, s191_12, s191_15, s191_16, s191_17, s191_18, s191_20, s191_24, s191_27, s191_28, s191_29, s191_33, s191_36, s191_37, s191_40, s191_42, s191_45, s191_46, s191_49, s191_50, s191_53, s191_54, s191_55, s191_56, s191_59, s191_60, s191_63, s191_64, s191_65, s191_66, s191_67, s191_70, s191_71, s191_72, s191_75, s191_78, s191_81, s191_84, s191_87, ldi_0, ldi_s, ldl_0, ldl_s, ldd_0, ldd_s, lda_0, lda_s, st1_0, st1_1, st2_0, st2_1, sti_0, sti_1, stj_0, stj_1, st1_2, sti_2, st2_2, stj_2, st1_3, sti_3, st2_3, stj_3, st1_4, sti_4, st2_4, stj_4, st1_5, sti_5, st2_5, stj_5, st1_6, sti_6, st2_6, stj_6, st1_7, sti_7, st2_7, stj_7, st1_8, sti_8, st2_8, stj_8, st1_9, sti_9, st2_9, stj_9, kil_n, kil_i, kil_r, kil_l, kil_d, gl_0, gl_s, cat_i, cat_r, true_and, gf_ob (wyH_di (h := h) (s := s))]
          unfold wyS at key
          refine ⟨fun h1 => ?_, fun h1 => ?_⟩
          · rw [bI_0] at h1
            rw [h1, if_neg (fun w => absurd w.1 (by decide))] at key
            rw [nI_1]
            exact key
          · rw [bI_0, Bool.not_eq_false] at h1
            rw [nI_lit10]
            refine ⟨fun h2 => ?_, fun h2 => ?_⟩
            · rw [if_neg (fun w => nI_ge w.2 (by omega) h2)] at key
              rw [nI_1]
              exact key
            · have hs : s.1 < 10 := Nat.lt_of_not_le fun w => h2 (nI_le w (by omega))
              rw [if_pos ⟨h1, hs⟩] at key
              simp only [ast_na (wyH_fr d1 h3) hs, wyH_fr' d1 h3, s191_0, s191_1, s191_2, s191_5, s191_6, s191_8, s191_12, s191_15, s191_16, s191_17, s191_18, s191_20, s191_24, s191_27, s191_28, s191_29, s191_33, s191_36, s191_37, s191_40, s191_42, s191_45, s191_46, s191_49, s191_50, s191_53, s191_54, s191_55, s191_56, s191_59, s191_60, s191_63, s191_64, s191_65, s191_66, s191_67, s191_70, s191_71, s191_72, s191_75, s191_78, s191_81, s191_84, s191_87, ldi_0, ldi_s, ldl_0, ldl_s, ldd_0, ldd_s, lda_0, lda_s, st1_0, st1_1, st2_0, st2_1, sti_0, sti_1, stj_0, stj_1, st1_2, sti_2, st2_2, stj_2, st1_3, sti_3, st2_3, stj_3, st1_4, sti_4, st2_4, stj_4, st1_5, sti_5, st2_5, stj_5, st1_6, sti_6, st2_6, stj_6, st1_7, sti_7, st2_7, stj_7, st1_8, sti_8, st2_8, stj_8, st1_9, sti_9, st2_9, stj_9, kil_n, kil_i, kil_r, kil_l, kil_d, gl_0, gl_s, cat_i, cat_r, true_and, gf_ob (wyH_di (h := h)), ast_na (wyH_to d2) hs, wyH_to' d2, pf_ob (wyH_di (h := h)) (show 3 < 4 by decide) okv_i, nI_1]
              rw [show ([Value.ref fr, Value.ref to, Value.ref le, Value.int (nI s.1)].set 3 (Value.int (nI (s.1 + 1)))) = [Value.ref fr, Value.ref to, Value.ref le, Value.int (nI (s.1 + 1))] from rfl, wyH_m']
              exact key
      exact inner (n - (a + 1)) 0 (by omega)
  have key := loop n 0 none (by omega)
  rw [show wyA G n ⟨0, A, B⟩ 0 = ⟨0, A, B⟩ from rfl, wyH_0 e1 e2 e3] at key
  exact key
/-- every way stands in the list once, from the lower end to the higher -/
def wyOk (n : Nat) (a : Nat) (x : Nat) (s : Nat × (Nat → Nat) × (Nat → Nat)) : Prop := s.1 ≤ 10 ∧ (∀ w, w < s.1 → s.2.1 w < s.2.2 w ∧ s.2.2 w < n ∧ (s.2.1 w < a ∨ s.2.1 w = a ∧ s.2.2 w < x)) ∧ ∀ v w, v < w → w < s.1 → ¬ (s.2.1 w = s.2.1 v ∧ s.2.2 w = s.2.2 v)
theorem wyS_ok {a x : Nat} (hG : GOK n G) (ha : a < x) (hx : x < n) (h : wyOk n a x s) : wyOk n a (x + 1) (wyS G a x s) := by
  obtain ⟨h1, h2, h3⟩ := h
  unfold wyS
  split
  · rename_i hh
    have hs := hh.2
    refine ⟨hs, ?_, ?_⟩
    · intro w hw
      show updN s.2.1 s.1 a w < updN s.2.2 s.1 x w ∧ updN s.2.2 s.1 x w < n ∧ (updN s.2.1 s.1 a w < a ∨ updN s.2.1 s.1 a w = a ∧ updN s.2.2 s.1 x w < x + 1)
      by_cases e : w = s.1
      · subst e
        rw [updN_same, updN_same]
        exact ⟨ha, hx, Or.inr ⟨rfl, by omega⟩⟩
      · rw [updN_ne e, updN_ne e]
        obtain ⟨g1, g2, g3⟩ := h2 w (by have : w < s.1 + 1 := hw; omega)
        exact ⟨g1, g2, by omega⟩
    · intro v w hv hw
      show ¬ (updN s.2.1 s.1 a w = updN s.2.1 s.1 a v ∧ updN s.2.2 s.1 x w = updN s.2.2 s.1 x v)
      have hw' : w < s.1 + 1 := hw
      by_cases e : w = s.1
      · subst e
        rw [updN_same, updN_same, updN_ne (by omega), updN_ne (by omega)]
        obtain ⟨g1, g2, g3⟩ := h2 v hv
        omega
      · rw [updN_ne e, updN_ne e, updN_ne (by omega), updN_ne (by omega)]
        exact h3 v w hv (by omega)
  · refine ⟨h1, ?_, h3⟩
    intro w hw
    obtain ⟨g1, g2, g3⟩ := h2 w hw
    exact ⟨g1, g2, by omega⟩
theorem wyB_ok {a : Nat} (hG : GOK n G) (h : wyOk n a (a + 1) s) (i : Nat) (hi : a + 1 + i ≤ n) : wyOk n a (a + 1 + i) (wyB G a s i) := by
  induction i with
  | zero => exact h
  | succ i ih =>
    show wyOk n a (a + 1 + i + 1) (wyS G a (a + 1 + i) (wyB G a s i))
    exact wyS_ok hG (by omega) (by omega) (ih (by omega))
theorem wyA_ok {A B : Nat → Nat} (hG : GOK n G) (a : Nat) (ha : a ≤ n) : wyOk n a 0 (wyA G n (0, A, B) a) := by
  induction a with
  | zero => exact ⟨Nat.zero_le _, fun w hw => absurd hw (Nat.not_lt_zero w), fun v w hv hw => absurd hw (Nat.not_lt_zero w)⟩
  | succ a ih =>
    have h1 := ih (by omega)
    have h2 : wyOk n a (a + 1) (wyA G n (0, A, B) a) := ⟨h1.1, fun w hw => by
      obtain ⟨g1, g2, g3⟩ := h1.2.1 w hw
      exact ⟨g1, g2, by omega⟩, h1.2.2⟩
    have h3 := wyB_ok hG h2 (n - (a + 1)) (by omega)
    have e : wyA G n (0, A, B) (a + 1) = wyB G a (wyA G n (0, A, B) a) (n - (a + 1)) := rfl
    rw [e]
    exact ⟨h3.1, fun w hw => by
      obtain ⟨g1, g2, g3⟩ := h3.2.1 w hw
      exact ⟨g1, g2, by omega⟩, h3.2.2⟩
theorem updN_0 {p : Nat} : updN (fun _ => 0) p 0 = fun _ => 0 := by
  funext q
  unfold updN
  split <;> rfl
theorem sp_countRingless (hc : ChAt h c r n G) (hG : GOK n G) {m : Nat} {A B : Nat → Nat} (e1 : h di = some (diO fr to le m)) (e2 : h fr = some (na 10 A)) (e3 : h to = some (na 10 B)) (e4 : h le = some (na 9 (fun _ => 0))) (h3 : fr ≠ to) (h4 : fr ≠ le) (h5 : to ≠ le) (r1 : r ≠ fr) (r2 : r ≠ to) (cd : c ≠ di) : Sp 14 190 [.ref di, .ref c] h z 0 0 (RR (some (.int (nI (dir (wyA G n (0, A, B) n).2.1 (wyA G n (0, A, B) n).2.2 (wyA G n (0, A, B) n).1 0 (fun _ => 0))))) (wyH h di fr to le (wyA G n (0, A, B) n)) z) := by
  have hn := hG.1
  have d1 : di ≠ fr := kind_ne e1 e2
  have d2 : di ≠ to := kind_ne e1 e3
  have d3 : di ≠ le := kind_ne e1 e4
  refine Sp_in (al := [some (.ref di), some (.ref c), none]) ?_
  simp only [s190_0, s190_1, s190_5, s190_6, s190_8, s190_10, s190_13, s190_14, s190_17, s190_18, s190_19, s190_20, s190_23, s190_26, s190_27, s190_30, s190_31, s190_34, s190_35, s190_36, s190_39, s190_40, s190_46, ldi_0, ldi_s, ldl_0, ldl_s, ldd_0, ldd_s, lda_0, lda_s, st1_0, st1_1, st2_0, st2_1, sti_0, sti_1, stj_0, stj_1, st1_2, sti_2, st2_2, stj_2, st1_3, sti_3, st2_3, stj_3, st1_4, sti_4, st2_4, stj_4, st1_5, sti_5, st2_5, stj_5, st1_6, sti_6, st2_6, stj_6, st1_7, sti_7, st2_7, stj_7, st1_8, sti_8, st2_8, stj_8, st1_9, sti_9, st2_9, stj_9, kil_n, kil_i, kil_r, kil_l, kil_d, gl_0, gl_s, cat_i, cat_r, true_and]
  refine c190_2r e1 (sp_readWays hc hG e1 e2 e3 h3 r1 r2 cd) ?_
  simp only [s190_0, s190_1, s190_5, s190_6, s190_8, s190_10, s190_13, s190_14, s190_17, s190_18, s190_19, s190_20, s190_23, s190_26, s190_27, s190_30, s190_31, s190_34, s190_35, s190_36, s190_39, s190_40, s190_46, ldi_0, ldi_s, ldl_0, ldl_s, ldd_0, ldd_s, lda_0, lda_s, st1_0, st1_1, st2_0, st2_1, sti_0, sti_1, stj_0, stj_1, st1_2, sti_2, st2_2, stj_2, st1_3, sti_3, st2_3, stj_3, st1_4, sti_4, st2_4, stj_4, st1_5, sti_5, st2_5, stj_5, st1_6, sti_6, st2_6, stj_6, st1_7, sti_7, st2_7, stj_7, st1_8, sti_8, st2_8, stj_8, st1_9, sti_9, st2_9, stj_9, kil_n, kil_i, kil_r, kil_l, kil_d, gl_0, gl_s, cat_i, cat_r, true_and]
  have ok := wyA_ok (A := A) (B := B) hG n (Nat.le_refl _)
  generalize wyA G n (0, A, B) n = s at ok ⊢
  have hdi : wyH h di fr to le s di = some (diO fr to le s.1) := wyH_di
  have hl : wyH h di fr to le s le = some (na 9 (fun _ => 0)) := by rw [wyH_ne (Ne.symm d3) (Ne.symm h4) (Ne.symm h5), e4]
  have loop : ∀ (j p : Nat), p + j = 9 → aW (Sp 13) 190 0 0 (RR (some (.int (nI (dir s.2.1 s.2.2 s.1 0 (fun _ => 0))))) (wyH h di fr to le s) z) 7 [some (.ref di), some (.ref c), some (.int (nI p))] [] (wyH h di fr to le s) z 0 0 := by
    intro j
    induction j with
    | zero =>
      intro p hp
      rw [s190_7]
      simp only [s190_0, s190_1, s190_5, s190_6, s190_8, s190_10, s190_13, s190_14, s190_17, s190_18, s190_19, s190_20, s190_23, s190_26, s190_27, s190_30, s190_31, s190_34, s190_35, s190_36, s190_39, s190_40, s190_46, ldi_0, ldi_s, ldl_0, ldl_s, ldd_0, ldd_s, lda_0, lda_s, st1_0, st1_1, st2_0, st2_1, sti_0, sti_1, stj_0, stj_1, st1_2, sti_2, st2_2, stj_2, st1_3, sti_3, st2_3, stj_3, st1_4, sti_4, st2_4, stj_4, st1_5, sti_5, st2_5, stj_5, st1_6, sti_6, st2_6, stj_6, st1_7, sti_7, st2_7, stj_7, st1_8, sti_8, st2_8, stj_8, st1_9, sti_9, st2_9, stj_9, kil_n, kil_i, kil_r, kil_l, kil_d, gl_0, gl_s, cat_i, cat_r, true_and, gf_ob hdi]
      rw [nI_lit9, br_1 (nI_le (show 9 ≤ p by omega) (by omega)), nI_lit0]
      refine c190_43r (sp_direct (A := s.2.1) (B := s.2.2) ok.1 ?_ ?_ h4 h5 s.1 0 (fun _ => 0) _ (by omega) (fun q _ => by decide) (fun v _ _ => ⟨Nat.zero_testBit _, Nat.zero_testBit _⟩) (wyH_fr d1 h3) (wyH_to d2) hl) ?_ (by have := ok.1; omega)
      · intro w hw
        obtain ⟨g1, g2, g3⟩ := ok.2.1 w hw
        omega
      · intro v w hv hw
        refine ⟨fun q => ok.2.2 v w hv hw q, fun q => ?_⟩
        obtain ⟨g1, g2, g3⟩ := ok.2.1 w hw
        obtain ⟨g4, g5, g6⟩ := ok.2.1 v (by omega)
        omega
      · simp only [s190_0, s190_1, s190_5, s190_6, s190_8, s190_10, s190_13, s190_14, s190_17, s190_18, s190_19, s190_20, s190_23, s190_26, s190_27, s190_30, s190_31, s190_34, s190_35, s190_36, s190_39, s190_40, s190_46, ldi_0, ldi_s, ldl_0, ldl_s, ldd_0, ldd_s, lda_0, lda_s, st1_0, st1_1, st2_0, st2_1, sti_0, sti_1, stj_0, stj_1, st1_2, sti_2, st2_2, stj_2, st1_3, sti_3, st2_3, stj_3, st1_4, sti_4, st2_4, stj_4, st1_5, sti_5, st2_5, stj_5, st1_6, sti_6, st2_6, stj_6, st1_7, sti_7, st2_7, stj_7, st1_8, sti_8, st2_8, stj_8, st1_9, sti_9, st2_9, stj_9, kil_n, kil_i, kil_r, kil_l, kil_d, gl_0, gl_s, cat_i, cat_r, true_and]
        exact out_RR
    | succ j ih =>
      intro p hp
      rw [s190_7]
      simp only [s190_0, s190_1, s190_5, s190_6, s190_8, s190_10, s190_13, s190_14, s190_17, s190_18, s190_19, s190_20, s190_23, s190_26, s190_27, s190_30, s190_31, s190_34, s190_35, s190_36, s190_39, s190_40, s190_46, ldi_0, ldi_s, ldl_0, ldl_s, ldd_0, ldd_s, lda_0, lda_s, st1_0, st1_1, st2_0, st2_1, sti_0, sti_1, stj_0, stj_1, st1_2, sti_2, st2_2, stj_2, st1_3, sti_3, st2_3, stj_3, st1_4, sti_4, st2_4, stj_4, st1_5, sti_5, st2_5, stj_5, st1_6, sti_6, st2_6, stj_6, st1_7, sti_7, st2_7, stj_7, st1_8, sti_8, st2_8, stj_8, st1_9, sti_9, st2_9, stj_9, kil_n, kil_i, kil_r, kil_l, kil_d, gl_0, gl_s, cat_i, cat_r, true_and, gf_ob hdi, ast_na0 hl (show p < 9 by omega)]
      rw [nI_lit9, br_0 (nI_ge (show p < 9 by omega) (by omega)), nI_1, updN_0, hup_id hl]
      exact ih (p + 1) (by omega)
  exact loop 9 0 (by omega)
end Ways
