/-! Colourmap$Colours, the counts -/
def mxR (R : Nat → Nat) : Nat → Nat
  | 0 => 0
  | p + 1 => max (mxR R p) (R p + 1)
theorem mxR_le {R : Nat → Nat} (p : Nat) (hR : ∀ q, q < p → R q ≤ 9) : mxR R p ≤ 10 := by
  induction p with
  | zero => exact Nat.zero_le _
  | succ p ih =>
    unfold mxR
    have := ih fun q hq => hR q (by omega)
    have := hR p (by omega)
    omega
theorem aln_na {h : AH} {a n : Nat} {R : Nat → Nat} {f : Int32 → Prop} (e : h a = some (na n R)) : aln h a f = f (nI n) := aln_ra (k := 0) e
theorem ast_na0 {h : AH} {a n p : Nat} {R : Nat → Nat} {f : AH → Prop} (e : h a = some (na n R)) (hp : p < n) (hn : n < 2 ^ 31 := by decide) : ast h a 0 (nI p) (.int 0) f = f (hup h a (na n (updN R p 0))) := ast_na (x := 0) e hp hn
def sumI (f : Nat → Int32) : Nat → Int32
  | 0 => 0
  | c + 1 => sumI f c + f c
/-- ways to go on painting from place p, u colours in use, the sets painted in P -/
def pnt (G : Nat → Nat → Bool) (k : Int32) : Nat → Nat → Nat → (Nat → Nat) → Int32
  | 0, _, _, _ => 1
  | j + 1, p, u, P => sumI (fun c => if P c &&& rowsN G p = 0 then pnt G k j (p + 1) u (updN P c (P c ||| 2 ^ p)) else 0) u + (if nI u < k ∧ u < 4 then (k - nI u) * pnt G k j (p + 1) (u + 1) (updN P u (2 ^ p)) else 0)
theorem or_off {x p : Nat} (hx : x < 2 ^ p) (hp : p < 9) : (x ||| 2 ^ p) &&& (2 ^ p ^^^ (2 ^ 32 - 1)) = x := by
  have h512 : x ||| 2 ^ p < 512 := or512 (Nat.lt_trans hx (p2_lt hp)) (p2_lt hp)
  apply Nat.eq_of_testBit_eq
  intro q
  rw [tb_not h512, Nat.testBit_or, Nat.testBit_two_pow]
  by_cases hq : q = p
  · subst hq
    rw [Nat.testBit_lt_two_pow hx]
    simp
  · have : ¬ p = q := fun e => hq e.symm
    simp [hq, this]
theorem updN_same {f : Nat → Nat} {i x : Nat} : updN f i x i = x := if_pos rfl
theorem updN_ne {f : Nat → Nat} {i j x : Nat} (hn : j ≠ i) : updN f i x j = f j := if_neg hn
theorem updN_upd {f : Nat → Nat} {i x y : Nat} (e : f i = y) : updN (updN f i x) i y = f := by
  funext j
  unfold updN
  by_cases h : j = i
  · rw [if_pos h, h, e]
  · rw [if_neg h, if_neg h]
section Paint
variable {h : AH} {c r n z co rw pt : Nat} {G : Nat → Nat → Bool} {R : Nat → Nat}
theorem sp_inRow (hc : ChAt h c r n G) (hG : GOK n G) (ho : h co = some (coO rw pt)) (h2 : h rw = some (na 9 R)) (hr : r ≠ rw) {p : Nat} (hp : p < 9) : Sp 4 131 [.ref co, .ref c, .int (nI p)] h z 0 0 (RR (some (.int (nI (grR G R n p)))) (grH h rw G R n) z) := by
  refine Sp_in (al := [some (.ref co), some (.ref c), some (.int (nI p))]) ?_
  simp only [s131_0, s131_1, s131_5, s131_6, s131_9, s131_10, s131_12, s131_15, s131_16, s131_19, s131_20, s131_21, s131_24, s131_25, ldi_0, ldi_s, ldl_0, ldl_s, ldd_0, ldd_s, lda_0, lda_s, st1_0, st1_1, st2_0, st2_1, sti_0, sti_1, stj_0, stj_1, st1_2, sti_2, st2_2, stj_2, st1_3, sti_3, st2_3, stj_3, st1_4, sti_4, st2_4, stj_4, st1_5, sti_5, st2_5, stj_5, st1_6, sti_6, st2_6, stj_6, st1_7, sti_7, st2_7, stj_7, st1_8, sti_8, st2_8, stj_8, st1_9, sti_9, st2_9, stj_9, kil_n, kil_i, kil_r, kil_l, kil_d, gl_0, gl_s, cat_i, cat_r, true_and]
  refine c131_2r ho (sp_paintRow hc hG ho h2 hr) ?_
  have hop := grH_ob (G := G) (p := n) ho h2
  have hrp : grH h rw G R n rw = some (na 9 (grR G R n)) := hup_same
  simp only [s131_0, s131_1, s131_5, s131_6, s131_9, s131_10, s131_12, s131_15, s131_16, s131_19, s131_20, s131_21, s131_24, s131_25, ldi_0, ldi_s, ldl_0, ldl_s, ldd_0, ldd_s, lda_0, lda_s, st1_0, st1_1, st2_0, st2_1, sti_0, sti_1, stj_0, stj_1, st1_2, sti_2, st2_2, stj_2, st1_3, sti_3, st2_3, stj_3, st1_4, sti_4, st2_4, stj_4, st1_5, sti_5, st2_5, stj_5, st1_6, sti_6, st2_6, stj_6, st1_7, sti_7, st2_7, stj_7, st1_8, sti_8, st2_8, stj_8, st1_9, sti_9, st2_9, stj_9, kil_n, kil_i, kil_r, kil_l, kil_d, gl_0, gl_s, cat_i, cat_r, true_and, gf_ob hop, ald_na hrp hp]
  rw [br_0 (by rw [nI_lit0]; exact nI_nlt (Nat.zero_le p) (by omega)), nI_lit9, br_0 (nI_ge hp (by omega))]
  exact out_RR
theorem sp_countInRow (hc : ChAt h c r n G) (hG : GOK n G) (ho : h co = some (coO rw pt)) (h2 : h rw = some (na 9 R)) (hr : r ≠ rw) : Sp 4 205 [.ref co, .ref c] h z 0 0 (RR (some (.int (nI (mxR (grR G R n) n)))) (grH h rw G R n) z) := by
  have hn := hG.1
  refine Sp_in (al := [some (.ref co), some (.ref c), none, none]) ?_
  simp only [s205_0, s205_1, s205_5, s205_6, s205_7, s205_8, s205_10, s205_14, s205_17, s205_18, s205_19, s205_22, s205_23, s205_24, s205_25, s205_29, s205_30, s205_33, s205_36, s205_37, ldi_0, ldi_s, ldl_0, ldl_s, ldd_0, ldd_s, lda_0, lda_s, st1_0, st1_1, st2_0, st2_1, sti_0, sti_1, stj_0, stj_1, st1_2, sti_2, st2_2, stj_2, st1_3, sti_3, st2_3, stj_3, st1_4, sti_4, st2_4, stj_4, st1_5, sti_5, st2_5, stj_5, st1_6, sti_6, st2_6, stj_6, st1_7, sti_7, st2_7, stj_7, st1_8, sti_8, st2_8, stj_8, st1_9, sti_9, st2_9, stj_9, kil_n, kil_i, kil_r, kil_l, kil_d, gl_0, gl_s, cat_i, cat_r, true_and]
  refine c205_2r ho (sp_paintRow hc hG ho h2 hr) ?_
  have hop := grH_ob (G := G) (p := n) ho h2
  have hcp := grH_ch (p := n) hc h2 hr
  have hrp : grH h rw G R n rw = some (na 9 (grR G R n)) := hup_same
  simp only [s205_0, s205_1, s205_5, s205_6, s205_7, s205_8, s205_10, s205_14, s205_17, s205_18, s205_19, s205_22, s205_23, s205_24, s205_25, s205_29, s205_30, s205_33, s205_36, s205_37, ldi_0, ldi_s, ldl_0, ldl_s, ldd_0, ldd_s, lda_0, lda_s, st1_0, st1_1, st2_0, st2_1, sti_0, sti_1, stj_0, stj_1, st1_2, sti_2, st2_2, stj_2, st1_3, sti_3, st2_3, stj_3, st1_4, sti_4, st2_4, stj_4, st1_5, sti_5, st2_5, stj_5, st1_6, sti_6, st2_6, stj_6, st1_7, sti_7, st2_7, stj_7, st1_8, sti_8, st2_8, stj_8, st1_9, sti_9, st2_9, stj_9, kil_n, kil_i, kil_r, kil_l, kil_d, gl_0, gl_s, cat_i, cat_r, true_and]
  have loop : ∀ (j p : Nat), p + j = n → aW (Sp 3) 205 0 0 (RR (some (.int (nI (mxR (grR G R n) n)))) (grH h rw G R n) z) 9 [some (.ref co), some (.ref c), some (.int (nI (mxR (grR G R n) p))), some (.int (nI p))] [] (grH h rw G R n) z 0 0 := by
    intro j
    induction j with
    | zero =>
      intro p hp
      have e1 : p = n := by omega
      subst e1
      rw [s205_9]
      simp only [s205_0, s205_1, s205_5, s205_6, s205_7, s205_8, s205_10, s205_14, s205_17, s205_18, s205_19, s205_22, s205_23, s205_24, s205_25, s205_29, s205_30, s205_33, s205_36, s205_37, ldi_0, ldi_s, ldl_0, ldl_s, ldd_0, ldd_s, lda_0, lda_s, st1_0, st1_1, st2_0, st2_1, sti_0, sti_1, stj_0, stj_1, st1_2, sti_2, st2_2, stj_2, st1_3, sti_3, st2_3, stj_3, st1_4, sti_4, st2_4, stj_4, st1_5, sti_5, st2_5, stj_5, st1_6, sti_6, st2_6, stj_6, st1_7, sti_7, st2_7, stj_7, st1_8, sti_8, st2_8, stj_8, st1_9, sti_9, st2_9, stj_9, kil_n, kil_i, kil_r, kil_l, kil_d, gl_0, gl_s, cat_i, cat_r, true_and]
      refine c205_11r hcp.1 (sp_size hcp.1) ?_
      simp only [s205_0, s205_1, s205_5, s205_6, s205_7, s205_8, s205_10, s205_14, s205_17, s205_18, s205_19, s205_22, s205_23, s205_24, s205_25, s205_29, s205_30, s205_33, s205_36, s205_37, ldi_0, ldi_s, ldl_0, ldl_s, ldd_0, ldd_s, lda_0, lda_s, st1_0, st1_1, st2_0, st2_1, sti_0, sti_1, stj_0, stj_1, st1_2, sti_2, st2_2, stj_2, st1_3, sti_3, st2_3, stj_3, st1_4, sti_4, st2_4, stj_4, st1_5, sti_5, st2_5, stj_5, st1_6, sti_6, st2_6, stj_6, st1_7, sti_7, st2_7, stj_7, st1_8, sti_8, st2_8, stj_8, st1_9, sti_9, st2_9, stj_9, kil_n, kil_i, kil_r, kil_l, kil_d, gl_0, gl_s, cat_i, cat_r, true_and, gf_ob hop]
      rw [br_1 (nI_le (Nat.le_refl _) (by omega))]
      exact out_RR
    | succ j ih =>
      intro p hp
      rw [s205_9]
      simp only [s205_0, s205_1, s205_5, s205_6, s205_7, s205_8, s205_10, s205_14, s205_17, s205_18, s205_19, s205_22, s205_23, s205_24, s205_25, s205_29, s205_30, s205_33, s205_36, s205_37, ldi_0, ldi_s, ldl_0, ldl_s, ldd_0, ldd_s, lda_0, lda_s, st1_0, st1_1, st2_0, st2_1, sti_0, sti_1, stj_0, stj_1, st1_2, sti_2, st2_2, stj_2, st1_3, sti_3, st2_3, stj_3, st1_4, sti_4, st2_4, stj_4, st1_5, sti_5, st2_5, stj_5, st1_6, sti_6, st2_6, stj_6, st1_7, sti_7, st2_7, stj_7, st1_8, sti_8, st2_8, stj_8, st1_9, sti_9, st2_9, stj_9, kil_n, kil_i, kil_r, kil_l, kil_d, gl_0, gl_s, cat_i, cat_r, true_and]
      refine c205_11r hcp.1 (sp_size hcp.1) ?_
      simp only [s205_0, s205_1, s205_5, s205_6, s205_7, s205_8, s205_10, s205_14, s205_17, s205_18, s205_19, s205_22, s205_23, s205_24, s205_25, s205_29, s205_30, s205_33, s205_36, s205_37, ldi_0, ldi_s, ldl_0, ldl_s, ldd_0, ldd_s, lda_0, lda_s, st1_0, st1_1, st2_0, st2_1, sti_0, sti_1, stj_0, stj_1, st1_2, sti_2, st2_2, stj_2, st1_3, sti_3, st2_3, stj_3, st1_4, sti_4, st2_4, stj_4, st1_5, sti_5, st2_5, stj_5, st1_6, sti_6, st2_6, stj_6, st1_7, sti_7, st2_7, stj_7, st1_8, sti_8, st2_8, stj_8, st1_9, sti_9, st2_9, stj_9, kil_n, kil_i, kil_r, kil_l, kil_d, gl_0, gl_s, cat_i, cat_r, true_and, gf_ob hop, ald_na hrp (show p < 9 by omega)]
      rw [br_0 (nI_ge (show p < n by omega) (by omega))]
      refine c205_26r sp_max ?_
      simp only [s205_0, s205_1, s205_5, s205_6, s205_7, s205_8, s205_10, s205_14, s205_17, s205_18, s205_19, s205_22, s205_23, s205_24, s205_25, s205_29, s205_30, s205_33, s205_36, s205_37, ldi_0, ldi_s, ldl_0, ldl_s, ldd_0, ldd_s, lda_0, lda_s, st1_0, st1_1, st2_0, st2_1, sti_0, sti_1, stj_0, stj_1, st1_2, sti_2, st2_2, stj_2, st1_3, sti_3, st2_3, stj_3, st1_4, sti_4, st2_4, stj_4, st1_5, sti_5, st2_5, stj_5, st1_6, sti_6, st2_6, stj_6, st1_7, sti_7, st2_7, stj_7, st1_8, sti_8, st2_8, stj_8, st1_9, sti_9, st2_9, stj_9, kil_n, kil_i, kil_r, kil_l, kil_d, gl_0, gl_s, cat_i, cat_r, true_and]
      rw [nI_1, nI_1]
      have key := ih (p + 1) (by omega)
      have hm := mxR_le (R := grR G R n) p fun q hq => grR_le n q (by omega)
      have hx := grR_le (G := G) (R := R) n p (by omega)
      have e : (if nI (grR G R n p + 1) ≤ nI (mxR (grR G R n) p) then nI (mxR (grR G R n) p) else nI (grR G R n p + 1)) = nI (mxR (grR G R n) (p + 1)) := by
        have em : mxR (grR G R n) (p + 1) = max (mxR (grR G R n) p) (grR G R n p + 1) := rfl
        rw [em]
        by_cases hh : grR G R n p + 1 ≤ mxR (grR G R n) p
        · rw [if_pos (nI_le hh (by omega)), Nat.max_eq_left hh]
        · rw [if_neg (nI_ge (by omega) (by omega)), Nat.max_eq_right (by omega)]
      rw [e]
      exact key
  exact loop n 0 (by omega)
theorem sp_paint (hG : GOK n G) {k : Int32} (hr : r ≠ pt) : ∀ (j p u : Nat) (P : Nat → Nat) (h : AH), p + j = n → u ≤ 4 → (∀ q, q < 4 → P q < 2 ^ p) → (∀ q, u ≤ q → q < 4 → P q = 0) → ChAt h c r n G → h pt = some (na 4 P) → Sp (3 + j) 139 [.ref c, .ref pt, .int (nI p), .int (nI u), .int k] h z 0 0 (RR (some (.int (pnt G k j p u P))) h z) := by
  have hn := hG.1
  intro j
  induction j with
  | zero =>
    intro p u P h hp hu hP hP0 hc hpt
    refine Sp_in (al := [some (.ref c), some (.ref pt), some (.int (nI p)), some (.int (nI u)), some (.int k), none, none, none, none]) ?_
    simp only [s139_0, s139_1, s139_5, s139_8, s139_9, s139_10, s139_11, s139_15, s139_17, s139_18, s139_19, s139_20, s139_22, s139_23, s139_25, s139_26, s139_30, s139_31, s139_34, s139_36, s139_37, s139_38, s139_41, s139_42, s139_44, s139_45, s139_47, s139_48, s139_51, s139_52, s139_54, s139_55, s139_56, s139_58, s139_59, s139_60, s139_62, s139_63, s139_64, s139_65, s139_66, s139_67, s139_68, s139_73, s139_74, s139_76, s139_77, s139_79, s139_80, s139_81, s139_83, s139_84, s139_85, s139_86, s139_87, s139_90, s139_93, s139_94, s139_96, s139_99, s139_100, s139_101, s139_102, s139_105, s139_106, s139_107, s139_109, s139_110, s139_112, s139_114, s139_115, s139_116, s139_117, s139_118, s139_119, s139_120, s139_121, s139_122, s139_123, s139_124, s139_129, s139_130, s139_131, s139_133, s139_134, s139_135, s139_136, s139_137, s139_139, ldi_0, ldi_s, ldl_0, ldl_s, ldd_0, ldd_s, lda_0, lda_s, st1_0, st1_1, st2_0, st2_1, sti_0, sti_1, stj_0, stj_1, st1_2, sti_2, st2_2, stj_2, st1_3, sti_3, st2_3, stj_3, st1_4, sti_4, st2_4, stj_4, st1_5, sti_5, st2_5, stj_5, st1_6, sti_6, st2_6, stj_6, st1_7, sti_7, st2_7, stj_7, st1_8, sti_8, st2_8, stj_8, st1_9, sti_9, st2_9, stj_9, kil_n, kil_i, kil_r, kil_l, kil_d, gl_0, gl_s, cat_i, cat_r, true_and]
    refine c139_2r hc.1 (sp_size hc.1) ?_
    simp only [s139_0, s139_1, s139_5, s139_8, s139_9, s139_10, s139_11, s139_15, s139_17, s139_18, s139_19, s139_20, s139_22, s139_23, s139_25, s139_26, s139_30, s139_31, s139_34, s139_36, s139_37, s139_38, s139_41, s139_42, s139_44, s139_45, s139_47, s139_48, s139_51, s139_52, s139_54, s139_55, s139_56, s139_58, s139_59, s139_60, s139_62, s139_63, s139_64, s139_65, s139_66, s139_67, s139_68, s139_73, s139_74, s139_76, s139_77, s139_79, s139_80, s139_81, s139_83, s139_84, s139_85, s139_86, s139_87, s139_90, s139_93, s139_94, s139_96, s139_99, s139_100, s139_101, s139_102, s139_105, s139_106, s139_107, s139_109, s139_110, s139_112, s139_114, s139_115, s139_116, s139_117, s139_118, s139_119, s139_120, s139_121, s139_122, s139_123, s139_124, s139_129, s139_130, s139_131, s139_133, s139_134, s139_135, s139_136, s139_137, s139_139, ldi_0, ldi_s, ldl_0, ldl_s, ldd_0, ldd_s, lda_0, lda_s, st1_0, st1_1, st2_0, st2_1, sti_0, sti_1, stj_0, stj_1, st1_2, sti_2, st2_2, stj_2, st1_3, sti_3, st2_3, stj_3, st1_4, sti_4, st2_4, stj_4, st1_5, sti_5, st2_5, stj_5, st1_6, sti_6, st2_6, stj_6, st1_7, sti_7, st2_7, stj_7, st1_8, sti_8, st2_8, stj_8, st1_9, sti_9, st2_9, stj_9, kil_n, kil_i, kil_r, kil_l, kil_d, gl_0, gl_s, cat_i, cat_r, true_and]
    rw [br_0 (nI_nlt (show n ≤ p by omega) (by omega))]
    exact out_RR
  | succ j ih =>
    intro p u P h hp hu hP hP0 hc hpt
    show Sp (3 + j + 1) _ _ _ _ _ _ _
    refine Sp_in (al := [some (.ref c), some (.ref pt), some (.int (nI p)), some (.int (nI u)), some (.int k), none, none, none, none]) ?_
    simp only [s139_0, s139_1, s139_5, s139_8, s139_9, s139_10, s139_11, s139_15, s139_17, s139_18, s139_19, s139_20, s139_22, s139_23, s139_25, s139_26, s139_30, s139_31, s139_34, s139_36, s139_37, s139_38, s139_41, s139_42, s139_44, s139_45, s139_47, s139_48, s139_51, s139_52, s139_54, s139_55, s139_56, s139_58, s139_59, s139_60, s139_62, s139_63, s139_64, s139_65, s139_66, s139_67, s139_68, s139_73, s139_74, s139_76, s139_77, s139_79, s139_80, s139_81, s139_83, s139_84, s139_85, s139_86, s139_87, s139_90, s139_93, s139_94, s139_96, s139_99, s139_100, s139_101, s139_102, s139_105, s139_106, s139_107, s139_109, s139_110, s139_112, s139_114, s139_115, s139_116, s139_117, s139_118, s139_119, s139_120, s139_121, s139_122, s139_123, s139_124, s139_129, s139_130, s139_131, s139_133, s139_134, s139_135, s139_136, s139_137, s139_139, ldi_0, ldi_s, ldl_0, ldl_s, ldd_0, ldd_s, lda_0, lda_s, st1_0, st1_1, st2_0, st2_1, sti_0, sti_1, stj_0, stj_1, st1_2, sti_2, st2_2, stj_2, st1_3, sti_3, st2_3, stj_3, st1_4, sti_4, st2_4, stj_4, st1_5, sti_5, st2_5, stj_5, st1_6, sti_6, st2_6, stj_6, st1_7, sti_7, st2_7, stj_7, st1_8, sti_8, st2_8, stj_8, st1_9, sti_9, st2_9, stj_9, kil_n, kil_i, kil_r, kil_l, kil_d, gl_0, gl_s, cat_i, cat_r, true_and]
    refine c139_2r hc.1 (sp_size hc.1) ?_
    simp only [s139_0, s139_1, s139_5, s139_8, s139_9, s139_10, s139_11, s139_15, s139_17, s139_18, s139_19, s139_20, s139_22, s139_23, s139_25, s139_26, s139_30, s139_31, s139_34, s139_36, s139_37, s139_38, s139_41, s139_42, s139_44, s139_45, s139_47, s139_48, s139_51, s139_52, s139_54, s139_55, s139_56, s139_58, s139_59, s139_60, s139_62, s139_63, s139_64, s139_65, s139_66, s139_67, s139_68, s139_73, s139_74, s139_76, s139_77, s139_79, s139_80, s139_81, s139_83, s139_84, s139_85, s139_86, s139_87, s139_90, s139_93, s139_94, s139_96, s139_99, s139_100, s139_101, s139_102, s139_105, s139_106, s139_107, s139_109, s139_110, s139_112, s139_114, s139_115, s139_116, s139_117, s139_118, s139_119, s139_120, s139_121, s139_122, s139_123, s139_124, s139_129, s139_130, s139_131, s139_133, s139_134, s139_135, s139_136, s139_137, s139_139, ldi_0, ldi_s, ldl_0, ldl_s, ldd_0, ldd_s, lda_0, lda_s, st1_0, st1_1, st2_0, st2_1, sti_0, sti_1, stj_0, stj_1, st1_2, sti_2, st2_2, stj_2, st1_3, sti_3, st2_3, stj_3, st1_4, sti_4, st2_4, stj_4, st1_5, sti_5, st2_5, stj_5, st1_6, sti_6, st2_6, stj_6, st1_7, sti_7, st2_7, stj_7, st1_8, sti_8, st2_8, stj_8, st1_9, sti_9, st2_9, stj_9, kil_n, kil_i, kil_r, kil_l, kil_d, gl_0, gl_s, cat_i, cat_r, true_and]
    rw [br_1 (nI_lt (show p < n by omega) (by omega))]
    refine c139_12r hc.1 (sp_near hc hG (show p < n by omega)) ?_
    simp only [s139_0, s139_1, s139_5, s139_8, s139_9, s139_10, s139_11, s139_15, s139_17, s139_18, s139_19, s139_20, s139_22, s139_23, s139_25, s139_26, s139_30, s139_31, s139_34, s139_36, s139_37, s139_38, s139_41, s139_42, s139_44, s139_45, s139_47, s139_48, s139_51, s139_52, s139_54, s139_55, s139_56, s139_58, s139_59, s139_60, s139_62, s139_63, s139_64, s139_65, s139_66, s139_67, s139_68, s139_73, s139_74, s139_76, s139_77, s139_79, s139_80, s139_81, s139_83, s139_84, s139_85, s139_86, s139_87, s139_90, s139_93, s139_94, s139_96, s139_99, s139_100, s139_101, s139_102, s139_105, s139_106, s139_107, s139_109, s139_110, s139_112, s139_114, s139_115, s139_116, s139_117, s139_118, s139_119, s139_120, s139_121, s139_122, s139_123, s139_124, s139_129, s139_130, s139_131, s139_133, s139_134, s139_135, s139_136, s139_137, s139_139, ldi_0, ldi_s, ldl_0, ldl_s, ldd_0, ldd_s, lda_0, lda_s, st1_0, st1_1, st2_0, st2_1, sti_0, sti_1, stj_0, stj_1, st1_2, sti_2, st2_2, stj_2, st1_3, sti_3, st2_3, stj_3, st1_4, sti_4, st2_4, stj_4, st1_5, sti_5, st2_5, stj_5, st1_6, sti_6, st2_6, stj_6, st1_7, sti_7, st2_7, stj_7, st1_8, sti_8, st2_8, stj_8, st1_9, sti_9, st2_9, stj_9, kil_n, kil_i, kil_r, kil_l, kil_d, gl_0, gl_s, cat_i, cat_r, true_and, one_shl (show p < 31 by omega)]
    have hcP : ∀ (x : AC), ChAt (hup h pt x) c r n G := fun x => ⟨by rw [hup_ne (kind_ne hc.1 hpt), hc.1], by rw [hup_ne hr, hc.2]⟩
    have back : ∀ (Q : Nat → Nat), hup (hup h pt (na 4 Q)) pt (na 4 P) = h := fun Q => by rw [hup_hup, hup_id hpt]
    have hp9 : p < 9 := by omega
    have loop : ∀ (i q : Nat), q + i = u → aW (Sp (3 + j)) 139 0 0 (RR (some (.int (pnt G k (j + 1) p u P))) h z) 28 [some (.ref c), some (.ref pt), some (.int (nI p)), some (.int (nI u)), some (.int k), some (.int (nI (mk (G p) 9))), some (.int (nI (2 ^ p))), some (.int (sumI (fun c => if P c &&& rowsN G p = 0 then pnt G k j (p + 1) u (updN P c (P c ||| 2 ^ p)) else 0) q)), some (.int (nI q))] [] h z 0 0 := by
      intro i
      induction i with
      | zero =>
        intro q hq
        have e1 : q = u := by omega
        subst e1
        rw [s139_28]
        simp only [s139_0, s139_1, s139_5, s139_8, s139_9, s139_10, s139_11, s139_15, s139_17, s139_18, s139_19, s139_20, s139_22, s139_23, s139_25, s139_26, s139_30, s139_31, s139_34, s139_36, s139_37, s139_38, s139_41, s139_42, s139_44, s139_45, s139_47, s139_48, s139_51, s139_52, s139_54, s139_55, s139_56, s139_58, s139_59, s139_60, s139_62, s139_63, s139_64, s139_65, s139_66, s139_67, s139_68, s139_73, s139_74, s139_76, s139_77, s139_79, s139_80, s139_81, s139_83, s139_84, s139_85, s139_86, s139_87, s139_90, s139_93, s139_94, s139_96, s139_99, s139_100, s139_101, s139_102, s139_105, s139_106, s139_107, s139_109, s139_110, s139_112, s139_114, s139_115, s139_116, s139_117, s139_118, s139_119, s139_120, s139_121, s139_122, s139_123, s139_124, s139_129, s139_130, s139_131, s139_133, s139_134, s139_135, s139_136, s139_137, s139_139, ldi_0, ldi_s, ldl_0, ldl_s, ldd_0, ldd_s, lda_0, lda_s, st1_0, st1_1, st2_0, st2_1, sti_0, sti_1, stj_0, stj_1, st1_2, sti_2, st2_2, stj_2, st1_3, sti_3, st2_3, stj_3, st1_4, sti_4, st2_4, stj_4, st1_5, sti_5, st2_5, stj_5, st1_6, sti_6, st2_6, stj_6, st1_7, sti_7, st2_7, stj_7, st1_8, sti_8, st2_8, stj_8, st1_9, sti_9, st2_9, stj_9, kil_n, kil_i, kil_r, kil_l, kil_d, gl_0, gl_s, cat_i, cat_r, true_and, aln_na hpt]
        rw [br_1 (nI_le (Nat.le_refl _) (by omega))]
        have ev : pnt G k (j + 1) p q P = sumI (fun c => if P c &&& rowsN G p = 0 then pnt G k j (p + 1) q (updN P c (P c ||| 2 ^ p)) else 0) q + (if nI q < k ∧ q < 4 then (k - nI q) * pnt G k j (p + 1) (q + 1) (updN P q (2 ^ p)) else 0) := rfl
        rw [ev]
        refine ⟨fun h1 => ?_, fun h1 => ?_⟩
        · rw [if_neg (fun w => Int32.not_le.mpr w.1 h1), Int32.add_zero]
          exact out_RR
        · refine ⟨fun h2 => ?_, fun h2 => ?_⟩
          · rw [if_neg (fun w => nI_ge w.2 (by omega) h2), Int32.add_zero]
            exact out_RR
          · have h3 : q < 4 := Nat.lt_of_not_le fun w => h2 (nI_le w (by omega))
            simp only [ast_na hpt h3]
            rw [if_pos ⟨Int32.not_le.mp h1, h3⟩, nI_1, nI_1]
            refine c139_126r (ih (p + 1) (q + 1) (updN P q (2 ^ p)) _ (by omega) (by omega) ?_ ?_ (hcP _) hup_same) ?_
            · intro s hs
              unfold updN
              split
              · exact Nat.pow_lt_pow_right (show 1 < 2 by decide) (by omega)
              · exact Nat.lt_trans (hP s hs) (Nat.pow_lt_pow_right (show 1 < 2 by decide) (by omega))
            · intro s hs hs4
              rw [updN_ne (by omega)]
              exact hP0 s (by omega) hs4
            · simp only [s139_0, s139_1, s139_5, s139_8, s139_9, s139_10, s139_11, s139_15, s139_17, s139_18, s139_19, s139_20, s139_22, s139_23, s139_25, s139_26, s139_30, s139_31, s139_34, s139_36, s139_37, s139_38, s139_41, s139_42, s139_44, s139_45, s139_47, s139_48, s139_51, s139_52, s139_54, s139_55, s139_56, s139_58, s139_59, s139_60, s139_62, s139_63, s139_64, s139_65, s139_66, s139_67, s139_68, s139_73, s139_74, s139_76, s139_77, s139_79, s139_80, s139_81, s139_83, s139_84, s139_85, s139_86, s139_87, s139_90, s139_93, s139_94, s139_96, s139_99, s139_100, s139_101, s139_102, s139_105, s139_106, s139_107, s139_109, s139_110, s139_112, s139_114, s139_115, s139_116, s139_117, s139_118, s139_119, s139_120, s139_121, s139_122, s139_123, s139_124, s139_129, s139_130, s139_131, s139_133, s139_134, s139_135, s139_136, s139_137, s139_139, ldi_0, ldi_s, ldl_0, ldl_s, ldd_0, ldd_s, lda_0, lda_s, st1_0, st1_1, st2_0, st2_1, sti_0, sti_1, stj_0, stj_1, st1_2, sti_2, st2_2, stj_2, st1_3, sti_3, st2_3, stj_3, st1_4, sti_4, st2_4, stj_4, st1_5, sti_5, st2_5, stj_5, st1_6, sti_6, st2_6, stj_6, st1_7, sti_7, st2_7, stj_7, st1_8, sti_8, st2_8, stj_8, st1_9, sti_9, st2_9, stj_9, kil_n, kil_i, kil_r, kil_l, kil_d, gl_0, gl_s, cat_i, cat_r, true_and, ast_na0 hup_same h3]
              rw [updN_upd (hP0 q (Nat.le_refl _) h3), back]
              exact out_RR
      | succ i ih2 =>
        intro q hq
        rw [s139_28]
        simp only [s139_0, s139_1, s139_5, s139_8, s139_9, s139_10, s139_11, s139_15, s139_17, s139_18, s139_19, s139_20, s139_22, s139_23, s139_25, s139_26, s139_30, s139_31, s139_34, s139_36, s139_37, s139_38, s139_41, s139_42, s139_44, s139_45, s139_47, s139_48, s139_51, s139_52, s139_54, s139_55, s139_56, s139_58, s139_59, s139_60, s139_62, s139_63, s139_64, s139_65, s139_66, s139_67, s139_68, s139_73, s139_74, s139_76, s139_77, s139_79, s139_80, s139_81, s139_83, s139_84, s139_85, s139_86, s139_87, s139_90, s139_93, s139_94, s139_96, s139_99, s139_100, s139_101, s139_102, s139_105, s139_106, s139_107, s139_109, s139_110, s139_112, s139_114, s139_115, s139_116, s139_117, s139_118, s139_119, s139_120, s139_121, s139_122, s139_123, s139_124, s139_129, s139_130, s139_131, s139_133, s139_134, s139_135, s139_136, s139_137, s139_139, ldi_0, ldi_s, ldl_0, ldl_s, ldd_0, ldd_s, lda_0, lda_s, st1_0, st1_1, st2_0, st2_1, sti_0, sti_1, stj_0, stj_1, st1_2, sti_2, st2_2, stj_2, st1_3, sti_3, st2_3, stj_3, st1_4, sti_4, st2_4, stj_4, st1_5, sti_5, st2_5, stj_5, st1_6, sti_6, st2_6, stj_6, st1_7, sti_7, st2_7, stj_7, st1_8, sti_8, st2_8, stj_8, st1_9, sti_9, st2_9, stj_9, kil_n, kil_i, kil_r, kil_l, kil_d, gl_0, gl_s, cat_i, cat_r, true_and, aln_na hpt]
        have h3 : q < 4 := by omega
        rw [br_0 (nI_ge (show q < u by omega) (by omega)), br_0 (nI_ge h3 (by omega))]
        simp only [ald_na hpt h3, s139_0, s139_1, s139_5, s139_8, s139_9, s139_10, s139_11, s139_15, s139_17, s139_18, s139_19, s139_20, s139_22, s139_23, s139_25, s139_26, s139_30, s139_31, s139_34, s139_36, s139_37, s139_38, s139_41, s139_42, s139_44, s139_45, s139_47, s139_48, s139_51, s139_52, s139_54, s139_55, s139_56, s139_58, s139_59, s139_60, s139_62, s139_63, s139_64, s139_65, s139_66, s139_67, s139_68, s139_73, s139_74, s139_76, s139_77, s139_79, s139_80, s139_81, s139_83, s139_84, s139_85, s139_86, s139_87, s139_90, s139_93, s139_94, s139_96, s139_99, s139_100, s139_101, s139_102, s139_105, s139_106, s139_107, s139_109, s139_110, s139_112, s139_114, s139_115, s139_116, s139_117, s139_118, s139_119, s139_120, s139_121, s139_122, s139_123, s139_124, s139_129, s139_130, s139_131, s139_133, s139_134, s139_135, s139_136, s139_137, s139_139, ldi_0, ldi_s, ldl_0, ldl_s, ldd_0, ldd_s, lda_0, lda_s, st1_0, st1_1, st2_0, st2_1, sti_0, sti_1, stj_0, stj_1, st1_2, sti_2, st2_2, stj_2, st1_3, sti_3, st2_3, stj_3, st1_4, sti_4, st2_4, stj_4, st1_5, sti_5, st2_5, stj_5, st1_6, sti_6, st2_6, stj_6, st1_7, sti_7, st2_7, stj_7, st1_8, sti_8, st2_8, stj_8, st1_9, sti_9, st2_9, stj_9, kil_n, kil_i, kil_r, kil_l, kil_d, gl_0, gl_s, cat_i, cat_r, true_and]
        have key := ih2 (q + 1) (by omega)
        have hq9 := hP q h3
        have h512 : P q < 512 := Nat.lt_trans hq9 (p2_lt hp9)
        rw [nI_and]
        have hb : P q &&& mk (G p) 9 < 2 ^ 31 := Nat.lt_of_le_of_lt Nat.and_le_left (Nat.lt_trans h512 (by decide))
        refine ⟨fun h1 => ?_, fun h1 => ?_⟩
        · rw [nI_z hb] at h1
          have es : ∀ g : Nat → Int32, sumI g (q + 1) = sumI g q + g q := fun g => rfl
          rw [es, if_neg (show ¬ P q &&& rowsN G p = 0 from h1), Int32.add_zero] at key
          rw [nI_1]
          exact key
        · have h2 : P q &&& rowsN G p = 0 := (nI_z hb).mp (Decidable.not_not.mp h1)
          have es : ∀ g : Nat → Int32, sumI g (q + 1) = sumI g q + g q := fun g => rfl
          rw [es, if_pos h2] at key
          simp only [s139_0, s139_1, s139_5, s139_8, s139_9, s139_10, s139_11, s139_15, s139_17, s139_18, s139_19, s139_20, s139_22, s139_23, s139_25, s139_26, s139_30, s139_31, s139_34, s139_36, s139_37, s139_38, s139_41, s139_42, s139_44, s139_45, s139_47, s139_48, s139_51, s139_52, s139_54, s139_55, s139_56, s139_58, s139_59, s139_60, s139_62, s139_63, s139_64, s139_65, s139_66, s139_67, s139_68, s139_73, s139_74, s139_76, s139_77, s139_79, s139_80, s139_81, s139_83, s139_84, s139_85, s139_86, s139_87, s139_90, s139_93, s139_94, s139_96, s139_99, s139_100, s139_101, s139_102, s139_105, s139_106, s139_107, s139_109, s139_110, s139_112, s139_114, s139_115, s139_116, s139_117, s139_118, s139_119, s139_120, s139_121, s139_122, s139_123, s139_124, s139_129, s139_130, s139_131, s139_133, s139_134, s139_135, s139_136, s139_137, s139_139, ldi_0, ldi_s, ldl_0, ldl_s, ldd_0, ldd_s, lda_0, lda_s, st1_0, st1_1, st2_0, st2_1, sti_0, sti_1, stj_0, stj_1, st1_2, sti_2, st2_2, stj_2, st1_3, sti_3, st2_3, stj_3, st1_4, sti_4, st2_4, stj_4, st1_5, sti_5, st2_5, stj_5, st1_6, sti_6, st2_6, stj_6, st1_7, sti_7, st2_7, stj_7, st1_8, sti_8, st2_8, stj_8, st1_9, sti_9, st2_9, stj_9, kil_n, kil_i, kil_r, kil_l, kil_d, gl_0, gl_s, cat_i, cat_r, true_and, nI_or, ast_na hpt h3]
          rw [nI_1]
          refine c139_70r (ih (p + 1) u (updN P q (P q ||| 2 ^ p)) _ (by omega) hu ?_ ?_ (hcP _) hup_same) ?_
          · intro s hs
            unfold updN
            split
            · exact Nat.or_lt_two_pow (Nat.lt_trans hq9 (Nat.pow_lt_pow_right (show 1 < 2 by decide) (by omega))) (Nat.pow_lt_pow_right (show 1 < 2 by decide) (by omega))
            · exact Nat.lt_trans (hP s hs) (Nat.pow_lt_pow_right (show 1 < 2 by decide) (by omega))
          · intro s hs hs4
            rw [updN_ne (by omega)]
            exact hP0 s hs hs4
          · simp only [s139_0, s139_1, s139_5, s139_8, s139_9, s139_10, s139_11, s139_15, s139_17, s139_18, s139_19, s139_20, s139_22, s139_23, s139_25, s139_26, s139_30, s139_31, s139_34, s139_36, s139_37, s139_38, s139_41, s139_42, s139_44, s139_45, s139_47, s139_48, s139_51, s139_52, s139_54, s139_55, s139_56, s139_58, s139_59, s139_60, s139_62, s139_63, s139_64, s139_65, s139_66, s139_67, s139_68, s139_73, s139_74, s139_76, s139_77, s139_79, s139_80, s139_81, s139_83, s139_84, s139_85, s139_86, s139_87, s139_90, s139_93, s139_94, s139_96, s139_99, s139_100, s139_101, s139_102, s139_105, s139_106, s139_107, s139_109, s139_110, s139_112, s139_114, s139_115, s139_116, s139_117, s139_118, s139_119, s139_120, s139_121, s139_122, s139_123, s139_124, s139_129, s139_130, s139_131, s139_133, s139_134, s139_135, s139_136, s139_137, s139_139, ldi_0, ldi_s, ldl_0, ldl_s, ldd_0, ldd_s, lda_0, lda_s, st1_0, st1_1, st2_0, st2_1, sti_0, sti_1, stj_0, stj_1, st1_2, sti_2, st2_2, stj_2, st1_3, sti_3, st2_3, stj_3, st1_4, sti_4, st2_4, stj_4, st1_5, sti_5, st2_5, stj_5, st1_6, sti_6, st2_6, stj_6, st1_7, sti_7, st2_7, stj_7, st1_8, sti_8, st2_8, stj_8, st1_9, sti_9, st2_9, stj_9, kil_n, kil_i, kil_r, kil_l, kil_d, gl_0, gl_s, cat_i, cat_r, true_and, ald_na hup_same h3, not_any, nI_and, ast_na hup_same h3, updN_same]
            rw [or_off hq9 hp9, updN_upd rfl, back, nI_1]
            exact key
    exact loop u 0 (by omega)
theorem sp_count (hc : ChAt h c r n G) (hG : GOK n G) (ho : h co = some (coO rw pt)) (hpt : h pt = some (na 4 (fun _ => 0))) (hr : r ≠ pt) {k : Int32} : Sp 13 138 [.ref co, .ref c, .int k] h z 0 0 (RR (some (.int (pnt G k n 0 0 (fun _ => 0)))) h z) := by
  have hn := hG.1
  refine Sp_in (al := [some (.ref co), some (.ref c), some (.int k)]) ?_
  simp only [s138_0, s138_1, s138_2, s138_5, s138_6, s138_7, s138_11, ldi_0, ldi_s, ldl_0, ldl_s, ldd_0, ldd_s, lda_0, lda_s, st1_0, st1_1, st2_0, st2_1, sti_0, sti_1, stj_0, stj_1, st1_2, sti_2, st2_2, stj_2, st1_3, sti_3, st2_3, stj_3, st1_4, sti_4, st2_4, stj_4, st1_5, sti_5, st2_5, stj_5, st1_6, sti_6, st2_6, stj_6, st1_7, sti_7, st2_7, stj_7, st1_8, sti_8, st2_8, stj_8, st1_9, sti_9, st2_9, stj_9, kil_n, kil_i, kil_r, kil_l, kil_d, gl_0, gl_s, cat_i, cat_r, true_and, gf_ob ho]
  rw [nI_lit0]
  refine c138_8r (sp_paint hG hr n 0 0 (fun _ => 0) h (by omega) (by omega) (fun q hq => by decide) (fun q _ hq => rfl) hc hpt) ?_
  simp only [s138_0, s138_1, s138_2, s138_5, s138_6, s138_7, s138_11, ldi_0, ldi_s, ldl_0, ldl_s, ldd_0, ldd_s, lda_0, lda_s, st1_0, st1_1, st2_0, st2_1, sti_0, sti_1, stj_0, stj_1, st1_2, sti_2, st2_2, stj_2, st1_3, sti_3, st2_3, stj_3, st1_4, sti_4, st2_4, stj_4, st1_5, sti_5, st2_5, stj_5, st1_6, sti_6, st2_6, stj_6, st1_7, sti_7, st2_7, stj_7, st1_8, sti_8, st2_8, stj_8, st1_9, sti_9, st2_9, stj_9, kil_n, kil_i, kil_r, kil_l, kil_d, gl_0, gl_s, cat_i, cat_r, true_and]
  exact out_RR
end Paint
