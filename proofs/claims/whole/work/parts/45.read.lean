/-! Colourmap$Polynomial.read, factor, at -/
theorem gEq_t {n n2 : Nat} {G G2 : Nat → Nat → Bool} (hG : GOK n G) (hG2 : GOK n2 G2) (h : gEq n G n2 G2 = true) : n = n2 ∧ G = G2 := by
  unfold gEq at h
  rw [Bool.and_eq_true, decide_eq_true_eq, List.all_eq_true] at h
  obtain ⟨h1, h2⟩ := h
  subst h1
  refine ⟨rfl, ?_⟩
  funext p q
  by_cases hp : p < n
  · have h3 := h2 p (List.mem_range.mpr hp)
    rw [decide_eq_true_eq] at h3
    rw [← rows_bit hG, ← rows_bit hG2, h3]
  · rw [hG.lt' (by omega), hG2.lt' (by omega)]
/-- the polynomial's object: its cells -/
def PoAt (h : AH) (po pc pr se pa fa : Nat) : Prop := ∃ (b : Bool) (n : Nat) (G : Nat → Nat → Bool) (R : Nat → Nat) (F : Nat → Int64), h po = some (poO b pc se pa fa) ∧ ChAt h pc pr n G ∧ GOK n G ∧ h se = some (na 9 (fun _ => 0)) ∧ h pa = some (na 10 R) ∧ h fa = some (la 10 F) ∧ (∀ q, 10 ≤ q → R q = 0) ∧ (∀ q, 10 ≤ q → F q = 0) ∧ (b = true → R = ptn n G ∧ F = mlt (ptn n G) n n)
def rdH (h : AH) (po pc pr se pa fa n : Nat) (G : Nat → Nat → Bool) : AH := hup (hup (chSet (hup h po (poO true pc se pa fa)) pc pr n G) pa (na 10 (ptn n G))) fa (la 10 (mlt (ptn n G) n n))
section Read
variable {h : AH} {c r n z po pc pr se pa fa : Nat} {G : Nat → Nat → Bool}
theorem sp_read (hc : ChAt h c r n G) (hG : GOK n G) (hp : PoAt h po pc pr se pa fa) (n1 : c ≠ pc) (n2 : r ≠ pr) (n3 : pr ≠ pa) (n4 : pr ≠ se) (n5 : se ≠ pa) (n6 : c ≠ po) (n7 : pc ≠ po) : Sp 13 114 [.ref po, .ref c] h z 0 0 (RR none (rdH h po pc pr se pa fa n G) z) := by
  have hn := hG.1
  obtain ⟨b, n0, G0, R, F, ho, hc0, hG0, hse, hpa, hfa, hR, hF, hb⟩ := hp
  refine Sp_in (al := [some (.ref po), some (.ref c)]) ?_
  simp only [s114_0, s114_1, s114_4, s114_7, s114_8, s114_11, s114_15, s114_18, s114_19, s114_20, s114_21, s114_24, s114_25, s114_28, s114_32, s114_36, s114_40, ldi_0, ldi_s, ldl_0, ldl_s, ldd_0, ldd_s, lda_0, lda_s, st1_0, st1_1, st2_0, st2_1, sti_0, sti_1, stj_0, stj_1, st1_2, sti_2, st2_2, stj_2, st1_3, sti_3, st2_3, stj_3, st1_4, sti_4, st2_4, stj_4, st1_5, sti_5, st2_5, stj_5, st1_6, sti_6, st2_6, stj_6, st1_7, sti_7, st2_7, stj_7, st1_8, sti_8, st2_8, stj_8, st1_9, sti_9, st2_9, stj_9, kil_n, kil_i, kil_r, kil_l, kil_d, gl_0, gl_s, cat_i, cat_r, true_and, gf_ob ho]
  have same : b = true → gEq n0 G0 n G = true → rdH h po pc pr se pa fa n G = h := by
    intro h1 h2
    obtain ⟨e1, e2⟩ := gEq_t hG0 hG h2
    subst e1
    subst e2
    subst h1
    obtain ⟨e3, e4⟩ := hb rfl
    subst e3
    subst e4
    unfold rdH
    rw [hup_id ho, chSet_id hc0, hup_id hpa, hup_id hfa]
  have npf : pa ≠ fa := by
    intro e
    rw [e, hfa] at hpa
    exact absurd hpa (by unfold la na; intro q; cases q)
  have nrf : pr ≠ fa := by
    intro e
    have := hc0.2
    rw [e, hfa] at this
    exact absurd this (by unfold la na; intro q; cases q)
  have nsf : se ≠ fa := by
    intro e
    rw [e, hfa] at hse
    exact absurd hse (by unfold la na; intro q; cases q)
  have redo : aW (Sp 12) 114 0 0 (RR none (rdH h po pc pr se pa fa n G) z) 19 [some (.ref po), some (.ref c)] [] h z 0 0 := by
    simp only [s114_0, s114_1, s114_4, s114_7, s114_8, s114_11, s114_15, s114_18, s114_19, s114_20, s114_21, s114_24, s114_25, s114_28, s114_32, s114_36, s114_40, ldi_0, ldi_s, ldl_0, ldl_s, ldd_0, ldd_s, lda_0, lda_s, st1_0, st1_1, st2_0, st2_1, sti_0, sti_1, stj_0, stj_1, st1_2, sti_2, st2_2, stj_2, st1_3, sti_3, st2_3, stj_3, st1_4, sti_4, st2_4, stj_4, st1_5, sti_5, st2_5, stj_5, st1_6, sti_6, st2_6, stj_6, st1_7, sti_7, st2_7, stj_7, st1_8, sti_8, st2_8, stj_8, st1_9, sti_9, st2_9, stj_9, kil_n, kil_i, kil_r, kil_l, kil_d, gl_0, gl_s, cat_i, cat_r, true_and, pf_ob ho (show 0 < 5 by decide) (show okv (aty 3 0) (.int 1) from ⟨rfl, by decide⟩)]
    have es : [Value.int (bI b), .ref pc, .ref se, .ref pa, .ref fa].set 0 (.int 1) = [.int (bI true), .ref pc, .ref se, .ref pa, .ref fa] := rfl
    rw [es]
    have ho1 : hup h po (poO true pc se pa fa) po = some (poO true pc se pa fa) := hup_same
    have hc1 : ChAt (hup h po (poO true pc se pa fa)) c r n G := ⟨by rw [hup_ne n6, hc.1], by rw [hup_ne (Ne.symm (kind_ne ho hc.2)), hc.2]⟩
    have hd1 : ChAt (hup h po (poO true pc se pa fa)) pc pr n0 G0 := ⟨by rw [hup_ne n7, hc0.1], by rw [hup_ne (Ne.symm (kind_ne ho hc0.2)), hc0.2]⟩
    rw [show (ob 3 [Value.int (bI true), .ref pc, .ref se, .ref pa, .ref fa] : AC) = poO true pc se pa fa from rfl]
    have opc : po ≠ pc := Ne.symm n7
    have opr : po ≠ pr := kind_ne ho hc0.2
    have ope : po ≠ se := kind_ne ho hse
    have opa : po ≠ pa := kind_ne ho hpa
    have opf : po ≠ fa := kind_ne ho hfa
    have cpe : pc ≠ se := kind_ne hc0.1 hse
    have cpa : pc ≠ pa := kind_ne hc0.1 hpa
    have cpf : pc ≠ fa := kind_ne hc0.1 hfa
    have hs1 : hup h po (poO true pc se pa fa) se = some (na 9 (fun _ => 0)) := by rw [hup_ne (Ne.symm ope), hse]
    have hp1 : hup h po (poO true pc se pa fa) pa = some (na 10 R) := by rw [hup_ne (Ne.symm opa), hpa]
    have hf1 : hup h po (poO true pc se pa fa) fa = some (la 10 F) := by rw [hup_ne (Ne.symm opf), hfa]
    unfold rdH
    generalize hup h po (poO true pc se pa fa) = H1 at ho1 hc1 hd1 hs1 hp1 hf1 ⊢
    simp only [gf_ob ho1, s114_0, s114_1, s114_4, s114_7, s114_8, s114_11, s114_15, s114_18, s114_19, s114_20, s114_21, s114_24, s114_25, s114_28, s114_32, s114_36, s114_40, ldi_0, ldi_s, ldl_0, ldl_s, ldd_0, ldd_s, lda_0, lda_s, st1_0, st1_1, st2_0, st2_1, sti_0, sti_1, stj_0, stj_1, st1_2, sti_2, st2_2, stj_2, st1_3, sti_3, st2_3, stj_3, st1_4, sti_4, st2_4, stj_4, st1_5, sti_5, st2_5, stj_5, st1_6, sti_6, st2_6, stj_6, st1_7, sti_7, st2_7, stj_7, st1_8, sti_8, st2_8, stj_8, st1_9, sti_9, st2_9, stj_9, kil_n, kil_i, kil_r, kil_l, kil_d, gl_0, gl_s, cat_i, cat_r, true_and]
    refine c114_29r hd1.1 (sp_copyFrom hd1 hG0 hc1 hG n1 n2) ?_
    have hne : pc ≠ pr := hd1.ne
    have ho2 : chSet H1 pc pr n G po = some (poO true pc se pa fa) := by rw [chSet_ne opc opr, ho1]
    have hs2 : chSet H1 pc pr n G se = some (na 9 (fun _ => 0)) := by rw [chSet_ne (Ne.symm cpe) (Ne.symm n4), hs1]
    have hp2 : chSet H1 pc pr n G pa = some (na 10 R) := by rw [chSet_ne (Ne.symm cpa) (Ne.symm n3), hp1]
    have hf2 : chSet H1 pc pr n G fa = some (la 10 F) := by rw [chSet_ne (Ne.symm cpf) (Ne.symm nrf), hf1]
    have hc2 : ChAt (chSet H1 pc pr n G) pc pr n G := chSet_at hne
    generalize chSet H1 pc pr n G = H2 at ho2 hs2 hp2 hf2 hc2 ⊢
    simp only [s114_0, s114_1, s114_4, s114_7, s114_8, s114_11, s114_15, s114_18, s114_19, s114_20, s114_21, s114_24, s114_25, s114_28, s114_32, s114_36, s114_40, ldi_0, ldi_s, ldl_0, ldl_s, ldd_0, ldd_s, lda_0, lda_s, st1_0, st1_1, st2_0, st2_1, sti_0, sti_1, stj_0, stj_1, st1_2, sti_2, st2_2, stj_2, st1_3, sti_3, st2_3, stj_3, st1_4, sti_4, st2_4, stj_4, st1_5, sti_5, st2_5, stj_5, st1_6, sti_6, st2_6, stj_6, st1_7, sti_7, st2_7, stj_7, st1_8, sti_8, st2_8, stj_8, st1_9, sti_9, st2_9, stj_9, kil_n, kil_i, kil_r, kil_l, kil_d, gl_0, gl_s, cat_i, cat_r, true_and]
    refine c114_33r ho2 (sp_countPartings hc2 hG ho2 hs2 hp2 hR n3 n4 n5) ?_
    have ho3 : hup H2 pa (na 10 (ptn n G)) po = some (poO true pc se pa fa) := by rw [hup_ne opa, ho2]
    have hf3 : hup H2 pa (na 10 (ptn n G)) fa = some (la 10 F) := by rw [hup_ne (Ne.symm npf), hf2]
    have hp3 : hup H2 pa (na 10 (ptn n G)) pa = some (na 10 (ptn n G)) := hup_same
    have hc3 : ChAt (hup H2 pa (na 10 (ptn n G))) pc pr n G := ⟨by rw [hup_ne cpa, hc2.1], by rw [hup_ne n3, hc2.2]⟩
    simp only [s114_0, s114_1, s114_4, s114_7, s114_8, s114_11, s114_15, s114_18, s114_19, s114_20, s114_21, s114_24, s114_25, s114_28, s114_32, s114_36, s114_40, ldi_0, ldi_s, ldl_0, ldl_s, ldd_0, ldd_s, lda_0, lda_s, st1_0, st1_1, st2_0, st2_1, sti_0, sti_1, stj_0, stj_1, st1_2, sti_2, st2_2, stj_2, st1_3, sti_3, st2_3, stj_3, st1_4, sti_4, st2_4, stj_4, st1_5, sti_5, st2_5, stj_5, st1_6, sti_6, st2_6, stj_6, st1_7, sti_7, st2_7, stj_7, st1_8, sti_8, st2_8, stj_8, st1_9, sti_9, st2_9, stj_9, kil_n, kil_i, kil_r, kil_l, kil_d, gl_0, gl_s, cat_i, cat_r, true_and]
    refine c114_37r ho3 (sp_multiplyOut hc3 hG ho3 hp3 hf3 hF) ?_
    simp only [s114_0, s114_1, s114_4, s114_7, s114_8, s114_11, s114_15, s114_18, s114_19, s114_20, s114_21, s114_24, s114_25, s114_28, s114_32, s114_36, s114_40, ldi_0, ldi_s, ldl_0, ldl_s, ldd_0, ldd_s, lda_0, lda_s, st1_0, st1_1, st2_0, st2_1, sti_0, sti_1, stj_0, stj_1, st1_2, sti_2, st2_2, stj_2, st1_3, sti_3, st2_3, stj_3, st1_4, sti_4, st2_4, stj_4, st1_5, sti_5, st2_5, stj_5, st1_6, sti_6, st2_6, stj_6, st1_7, sti_7, st2_7, stj_7, st1_8, sti_8, st2_8, stj_8, st1_9, sti_9, st2_9, stj_9, kil_n, kil_i, kil_r, kil_l, kil_d, gl_0, gl_s, cat_i, cat_r, true_and]
    exact out_RR
  simp only [s114_0, s114_1, s114_4, s114_7, s114_8, s114_11, s114_15, s114_18, s114_19, s114_20, s114_21, s114_24, s114_25, s114_28, s114_32, s114_36, s114_40, ldi_0, ldi_s, ldl_0, ldl_s, ldd_0, ldd_s, lda_0, lda_s, st1_0, st1_1, st2_0, st2_1, sti_0, sti_1, stj_0, stj_1, st1_2, sti_2, st2_2, stj_2, st1_3, sti_3, st2_3, stj_3, st1_4, sti_4, st2_4, stj_4, st1_5, sti_5, st2_5, stj_5, st1_6, sti_6, st2_6, stj_6, st1_7, sti_7, st2_7, stj_7, st1_8, sti_8, st2_8, stj_8, st1_9, sti_9, st2_9, stj_9, kil_n, kil_i, kil_r, kil_l, kil_d, gl_0, gl_s, cat_i, cat_r, true_and] at redo
  refine ⟨fun h1 => redo, fun h1 => ?_⟩
  rw [bI_0, Bool.not_eq_false] at h1
  refine c114_12r hc0.1 (sp_sameAs hc0 hG0 hc hG) ?_
  simp only [s114_0, s114_1, s114_4, s114_7, s114_8, s114_11, s114_15, s114_18, s114_19, s114_20, s114_21, s114_24, s114_25, s114_28, s114_32, s114_36, s114_40, ldi_0, ldi_s, ldl_0, ldl_s, ldd_0, ldd_s, lda_0, lda_s, st1_0, st1_1, st2_0, st2_1, sti_0, sti_1, stj_0, stj_1, st1_2, sti_2, st2_2, stj_2, st1_3, sti_3, st2_3, stj_3, st1_4, sti_4, st2_4, stj_4, st1_5, sti_5, st2_5, stj_5, st1_6, sti_6, st2_6, stj_6, st1_7, sti_7, st2_7, stj_7, st1_8, sti_8, st2_8, stj_8, st1_9, sti_9, st2_9, stj_9, kil_n, kil_i, kil_r, kil_l, kil_d, gl_0, gl_s, cat_i, cat_r, true_and]
  refine ⟨fun h2 => redo, fun h2 => ?_⟩
  rw [bI_0, Bool.not_eq_false] at h2
  exact out_eq rfl (same h1 h2).symm rfl
end Read
