/-! Colourmap$Polynomial.part -/
def sumV (f : Nat → Nat → Nat) : Nat → Nat → Nat
  | 0, _ => 0
  | q + 1, m => sumV f q m + f q m
/-- partings that go on from place p, u sets in use, the sets in P, by how many sets they end with -/
def prt (G : Nat → Nat → Bool) : Nat → Nat → Nat → (Nat → Nat) → Nat → Nat
  | 0, _, u, _, m => if m = u then 1 else 0
  | j + 1, p, u, P, m => sumV (fun s m => if P s &&& rowsN G p = 0 then prt G j (p + 1) u (updN P s (P s ||| 2 ^ p)) m else 0) u m + prt G j (p + 1) (u + 1) (updN P u (2 ^ p)) m
def addV (F f : Nat → Nat) : Nat → Nat := fun m => F m + f m
theorem addV_0 {F : Nat → Nat} {f : Nat → Nat → Nat} : addV F (sumV f 0) = F := rfl
theorem addV_s {F : Nat → Nat} {f : Nat → Nat → Nat} {q : Nat} : addV (addV F (sumV f q)) (f q) = addV F (sumV f (q + 1)) := by
  funext m
  show F m + sumV f q m + f q m = F m + (sumV f q m + f q m)
  omega
theorem addV_z {F f : Nat → Nat} (h : ∀ m, f m = 0) : addV F f = F := by
  funext m
  unfold addV
  rw [h, Nat.add_zero]
theorem addV_1 {F : Nat → Nat} {u : Nat} : updN F u (F u + 1) = addV F (fun m => if m = u then 1 else 0) := by
  funext m
  unfold updN addV
  by_cases h : m = u
  · subst h
    simp
  · simp [h]
theorem back2 {h : AH} {se fo : Nat} {A B C D : AC} (hne : se ≠ fo) (hse : h se = some D) : hup (hup (hup (hup h fo A) se B) fo C) se D = hup h fo C := by
  funext x
  unfold hup
  by_cases h1 : x = se
  · rw [if_pos h1, if_neg (fun e => hne (h1.symm.trans e)), h1, hse]
  · by_cases h2 : x = fo
    · rw [if_neg h1, if_pos h2, if_pos h2]
    · rw [if_neg h1, if_neg h2, if_neg h1, if_neg h2, if_neg h2]
section Part
variable {c r n z se fo : Nat} {G : Nat → Nat → Bool}
theorem sp_part0 (hG : GOK n G) (hr : r ≠ fo) (hs : se ≠ fo) (p u : Nat) (P F : Nat → Nat) (h : AH) (hp : p + 1 = n) (hu : u ≤ p) (hc : ChAt h c r n G) (hse : h se = some (na 9 P)) (hfo : h fo = some (na 10 F)) : Sp 3 116 [.ref c, .ref se, .int (nI p), .int (nI u), .ref fo] h z 0 0 (RR none (hup h fo (na 10 (addV F (prt G 1 p u P)))) z) := by
  have hn := hG.1
  refine Sp_in (al := [some (.ref c), some (.ref se), some (.int (nI p)), some (.int (nI u)), some (.ref fo), none, none, none, none]) ?_
  simp only [s116_0, s116_1, s116_5, s116_8, s116_9, s116_10, s116_11, s116_14, s116_15, s116_16, s116_17, s116_19, s116_20, s116_23, s116_24, s116_25, s116_29, s116_31, s116_32, s116_33, s116_34, s116_36, s116_37, s116_41, s116_42, s116_43, s116_46, s116_47, s116_50, s116_51, s116_53, s116_54, s116_58, s116_59, s116_62, s116_63, s116_65, s116_66, s116_68, s116_69, s116_72, s116_74, s116_77, s116_79, s116_80, s116_81, s116_82, s116_83, s116_84, s116_85, s116_88, s116_89, s116_91, s116_92, s116_93, s116_95, s116_96, s116_97, s116_98, s116_99, s116_100, s116_101, s116_102, s116_103, s116_108, s116_109, s116_111, s116_112, s116_113, s116_115, s116_116, s116_117, s116_118, s116_119, s116_122, s116_125, s116_127, s116_130, s116_132, s116_133, s116_134, s116_135, s116_136, s116_137, s116_138, s116_139, s116_140, s116_143, s116_144, s116_145, s116_147, s116_148, s116_149, s116_150, s116_151, s116_152, s116_153, s116_154, s116_155, s116_156, s116_161, s116_162, s116_163, s116_164, s116_165, ldi_0, ldi_s, ldl_0, ldl_s, ldd_0, ldd_s, lda_0, lda_s, st1_0, st1_1, st2_0, st2_1, sti_0, sti_1, stj_0, stj_1, st1_2, sti_2, st2_2, stj_2, st1_3, sti_3, st2_3, stj_3, st1_4, sti_4, st2_4, stj_4, st1_5, sti_5, st2_5, stj_5, st1_6, sti_6, st2_6, stj_6, st1_7, sti_7, st2_7, stj_7, st1_8, sti_8, st2_8, stj_8, st1_9, sti_9, st2_9, stj_9, kil_n, kil_i, kil_r, kil_l, kil_d, gl_0, gl_s, cat_i, cat_r, true_and]
  refine c116_2r hc.1 (sp_size hc.1) ?_
  simp only [s116_0, s116_1, s116_5, s116_8, s116_9, s116_10, s116_11, s116_14, s116_15, s116_16, s116_17, s116_19, s116_20, s116_23, s116_24, s116_25, s116_29, s116_31, s116_32, s116_33, s116_34, s116_36, s116_37, s116_41, s116_42, s116_43, s116_46, s116_47, s116_50, s116_51, s116_53, s116_54, s116_58, s116_59, s116_62, s116_63, s116_65, s116_66, s116_68, s116_69, s116_72, s116_74, s116_77, s116_79, s116_80, s116_81, s116_82, s116_83, s116_84, s116_85, s116_88, s116_89, s116_91, s116_92, s116_93, s116_95, s116_96, s116_97, s116_98, s116_99, s116_100, s116_101, s116_102, s116_103, s116_108, s116_109, s116_111, s116_112, s116_113, s116_115, s116_116, s116_117, s116_118, s116_119, s116_122, s116_125, s116_127, s116_130, s116_132, s116_133, s116_134, s116_135, s116_136, s116_137, s116_138, s116_139, s116_140, s116_143, s116_144, s116_145, s116_147, s116_148, s116_149, s116_150, s116_151, s116_152, s116_153, s116_154, s116_155, s116_156, s116_161, s116_162, s116_163, s116_164, s116_165, ldi_0, ldi_s, ldl_0, ldl_s, ldd_0, ldd_s, lda_0, lda_s, st1_0, st1_1, st2_0, st2_1, sti_0, sti_1, stj_0, stj_1, st1_2, sti_2, st2_2, stj_2, st1_3, sti_3, st2_3, stj_3, st1_4, sti_4, st2_4, stj_4, st1_5, sti_5, st2_5, stj_5, st1_6, sti_6, st2_6, stj_6, st1_7, sti_7, st2_7, stj_7, st1_8, sti_8, st2_8, stj_8, st1_9, sti_9, st2_9, stj_9, kil_n, kil_i, kil_r, kil_l, kil_d, gl_0, gl_s, cat_i, cat_r, true_and, aln_na hse, aln_na hfo]
  rw [br_0 (nI_ge (show p < n by omega) (by omega)), br_0 (nI_ge (show u < 9 by omega) (by omega)), nI_1, br_1 (nI_lt (show u + 1 < 10 by omega) (by omega))]
  refine c116_26r hc.1 (sp_near hc hG (show p < n by omega)) ?_
  simp only [s116_0, s116_1, s116_5, s116_8, s116_9, s116_10, s116_11, s116_14, s116_15, s116_16, s116_17, s116_19, s116_20, s116_23, s116_24, s116_25, s116_29, s116_31, s116_32, s116_33, s116_34, s116_36, s116_37, s116_41, s116_42, s116_43, s116_46, s116_47, s116_50, s116_51, s116_53, s116_54, s116_58, s116_59, s116_62, s116_63, s116_65, s116_66, s116_68, s116_69, s116_72, s116_74, s116_77, s116_79, s116_80, s116_81, s116_82, s116_83, s116_84, s116_85, s116_88, s116_89, s116_91, s116_92, s116_93, s116_95, s116_96, s116_97, s116_98, s116_99, s116_100, s116_101, s116_102, s116_103, s116_108, s116_109, s116_111, s116_112, s116_113, s116_115, s116_116, s116_117, s116_118, s116_119, s116_122, s116_125, s116_127, s116_130, s116_132, s116_133, s116_134, s116_135, s116_136, s116_137, s116_138, s116_139, s116_140, s116_143, s116_144, s116_145, s116_147, s116_148, s116_149, s116_150, s116_151, s116_152, s116_153, s116_154, s116_155, s116_156, s116_161, s116_162, s116_163, s116_164, s116_165, ldi_0, ldi_s, ldl_0, ldl_s, ldd_0, ldd_s, lda_0, lda_s, st1_0, st1_1, st2_0, st2_1, sti_0, sti_1, stj_0, stj_1, st1_2, sti_2, st2_2, stj_2, st1_3, sti_3, st2_3, stj_3, st1_4, sti_4, st2_4, stj_4, st1_5, sti_5, st2_5, stj_5, st1_6, sti_6, st2_6, stj_6, st1_7, sti_7, st2_7, stj_7, st1_8, sti_8, st2_8, stj_8, st1_9, sti_9, st2_9, stj_9, kil_n, kil_i, kil_r, kil_l, kil_d, gl_0, gl_s, cat_i, cat_r, true_and, one_shl (show p < 31 by omega)]
  refine c116_38r hc.1 (sp_size hc.1) ?_
  simp only [s116_0, s116_1, s116_5, s116_8, s116_9, s116_10, s116_11, s116_14, s116_15, s116_16, s116_17, s116_19, s116_20, s116_23, s116_24, s116_25, s116_29, s116_31, s116_32, s116_33, s116_34, s116_36, s116_37, s116_41, s116_42, s116_43, s116_46, s116_47, s116_50, s116_51, s116_53, s116_54, s116_58, s116_59, s116_62, s116_63, s116_65, s116_66, s116_68, s116_69, s116_72, s116_74, s116_77, s116_79, s116_80, s116_81, s116_82, s116_83, s116_84, s116_85, s116_88, s116_89, s116_91, s116_92, s116_93, s116_95, s116_96, s116_97, s116_98, s116_99, s116_100, s116_101, s116_102, s116_103, s116_108, s116_109, s116_111, s116_112, s116_113, s116_115, s116_116, s116_117, s116_118, s116_119, s116_122, s116_125, s116_127, s116_130, s116_132, s116_133, s116_134, s116_135, s116_136, s116_137, s116_138, s116_139, s116_140, s116_143, s116_144, s116_145, s116_147, s116_148, s116_149, s116_150, s116_151, s116_152, s116_153, s116_154, s116_155, s116_156, s116_161, s116_162, s116_163, s116_164, s116_165, ldi_0, ldi_s, ldl_0, ldl_s, ldd_0, ldd_s, lda_0, lda_s, st1_0, st1_1, st2_0, st2_1, sti_0, sti_1, stj_0, stj_1, st1_2, sti_2, st2_2, stj_2, st1_3, sti_3, st2_3, stj_3, st1_4, sti_4, st2_4, stj_4, st1_5, sti_5, st2_5, stj_5, st1_6, sti_6, st2_6, stj_6, st1_7, sti_7, st2_7, stj_7, st1_8, sti_8, st2_8, stj_8, st1_9, sti_9, st2_9, stj_9, kil_n, kil_i, kil_r, kil_l, kil_d, gl_0, gl_s, cat_i, cat_r, true_and]
  rw [br_0 (by rw [nI_lit1, pk_sub (show 1 ≤ n by omega), show n - 1 = p by omega]; exact fun w => w rfl)]
  have loop : ∀ (i q : Nat), q + i = u → aW (Sp 2) 116 0 0 (RR none (hup h fo (na 10 (addV F (prt G 1 p u P)))) z) 56 [some (.ref c), some (.ref se), some (.int (nI p)), some (.int (nI u)), some (.ref fo), some (.int (nI (mk (G p) 9))), some (.int (nI (2 ^ p))), some (.int 1), some (.int (nI q))] [] (hup h fo (na 10 (addV F (sumV (fun s m => if P s &&& rowsN G p = 0 then prt G 0 (p + 1) u (updN P s (P s ||| 2 ^ p)) m else 0) q)))) z 0 0 := by
    intro i
    induction i with
    | zero =>
      intro q hq
      have e1 : q = u := by omega
      subst e1
      rw [s116_56]
      simp only [s116_0, s116_1, s116_5, s116_8, s116_9, s116_10, s116_11, s116_14, s116_15, s116_16, s116_17, s116_19, s116_20, s116_23, s116_24, s116_25, s116_29, s116_31, s116_32, s116_33, s116_34, s116_36, s116_37, s116_41, s116_42, s116_43, s116_46, s116_47, s116_50, s116_51, s116_53, s116_54, s116_58, s116_59, s116_62, s116_63, s116_65, s116_66, s116_68, s116_69, s116_72, s116_74, s116_77, s116_79, s116_80, s116_81, s116_82, s116_83, s116_84, s116_85, s116_88, s116_89, s116_91, s116_92, s116_93, s116_95, s116_96, s116_97, s116_98, s116_99, s116_100, s116_101, s116_102, s116_103, s116_108, s116_109, s116_111, s116_112, s116_113, s116_115, s116_116, s116_117, s116_118, s116_119, s116_122, s116_125, s116_127, s116_130, s116_132, s116_133, s116_134, s116_135, s116_136, s116_137, s116_138, s116_139, s116_140, s116_143, s116_144, s116_145, s116_147, s116_148, s116_149, s116_150, s116_151, s116_152, s116_153, s116_154, s116_155, s116_156, s116_161, s116_162, s116_163, s116_164, s116_165, ldi_0, ldi_s, ldl_0, ldl_s, ldd_0, ldd_s, lda_0, lda_s, st1_0, st1_1, st2_0, st2_1, sti_0, sti_1, stj_0, stj_1, st1_2, sti_2, st2_2, stj_2, st1_3, sti_3, st2_3, stj_3, st1_4, sti_4, st2_4, stj_4, st1_5, sti_5, st2_5, stj_5, st1_6, sti_6, st2_6, stj_6, st1_7, sti_7, st2_7, stj_7, st1_8, sti_8, st2_8, stj_8, st1_9, sti_9, st2_9, stj_9, kil_n, kil_i, kil_r, kil_l, kil_d, gl_0, gl_s, cat_i, cat_r, true_and]
      rw [br_1 (nI_le (Nat.le_refl _) (by omega)), br_0 (by decide)]
      rw [nI_1]
      simp only [ald_na hup_same (show q + 1 < 10 by omega), nI_1, s116_0, s116_1, s116_5, s116_8, s116_9, s116_10, s116_11, s116_14, s116_15, s116_16, s116_17, s116_19, s116_20, s116_23, s116_24, s116_25, s116_29, s116_31, s116_32, s116_33, s116_34, s116_36, s116_37, s116_41, s116_42, s116_43, s116_46, s116_47, s116_50, s116_51, s116_53, s116_54, s116_58, s116_59, s116_62, s116_63, s116_65, s116_66, s116_68, s116_69, s116_72, s116_74, s116_77, s116_79, s116_80, s116_81, s116_82, s116_83, s116_84, s116_85, s116_88, s116_89, s116_91, s116_92, s116_93, s116_95, s116_96, s116_97, s116_98, s116_99, s116_100, s116_101, s116_102, s116_103, s116_108, s116_109, s116_111, s116_112, s116_113, s116_115, s116_116, s116_117, s116_118, s116_119, s116_122, s116_125, s116_127, s116_130, s116_132, s116_133, s116_134, s116_135, s116_136, s116_137, s116_138, s116_139, s116_140, s116_143, s116_144, s116_145, s116_147, s116_148, s116_149, s116_150, s116_151, s116_152, s116_153, s116_154, s116_155, s116_156, s116_161, s116_162, s116_163, s116_164, s116_165, ldi_0, ldi_s, ldl_0, ldl_s, ldd_0, ldd_s, lda_0, lda_s, st1_0, st1_1, st2_0, st2_1, sti_0, sti_1, stj_0, stj_1, st1_2, sti_2, st2_2, stj_2, st1_3, sti_3, st2_3, stj_3, st1_4, sti_4, st2_4, stj_4, st1_5, sti_5, st2_5, stj_5, st1_6, sti_6, st2_6, stj_6, st1_7, sti_7, st2_7, stj_7, st1_8, sti_8, st2_8, stj_8, st1_9, sti_9, st2_9, stj_9, kil_n, kil_i, kil_r, kil_l, kil_d, gl_0, gl_s, cat_i, cat_r, true_and, ast_na hup_same (show q + 1 < 10 by omega)]
      refine out_eq rfl ?_ rfl
      rw [hup_hup, addV_1]
      congr 2
      funext m
      show F m + _ + _ = F m + (_ + _)
      rw [Nat.add_assoc]
      rfl
    | succ i ih2 =>
      intro q hq
      rw [s116_56]
      have hse2 : ∀ A, hup h fo A se = some (na 9 P) := fun A => by rw [hup_ne hs, hse]
      simp only [s116_0, s116_1, s116_5, s116_8, s116_9, s116_10, s116_11, s116_14, s116_15, s116_16, s116_17, s116_19, s116_20, s116_23, s116_24, s116_25, s116_29, s116_31, s116_32, s116_33, s116_34, s116_36, s116_37, s116_41, s116_42, s116_43, s116_46, s116_47, s116_50, s116_51, s116_53, s116_54, s116_58, s116_59, s116_62, s116_63, s116_65, s116_66, s116_68, s116_69, s116_72, s116_74, s116_77, s116_79, s116_80, s116_81, s116_82, s116_83, s116_84, s116_85, s116_88, s116_89, s116_91, s116_92, s116_93, s116_95, s116_96, s116_97, s116_98, s116_99, s116_100, s116_101, s116_102, s116_103, s116_108, s116_109, s116_111, s116_112, s116_113, s116_115, s116_116, s116_117, s116_118, s116_119, s116_122, s116_125, s116_127, s116_130, s116_132, s116_133, s116_134, s116_135, s116_136, s116_137, s116_138, s116_139, s116_140, s116_143, s116_144, s116_145, s116_147, s116_148, s116_149, s116_150, s116_151, s116_152, s116_153, s116_154, s116_155, s116_156, s116_161, s116_162, s116_163, s116_164, s116_165, ldi_0, ldi_s, ldl_0, ldl_s, ldd_0, ldd_s, lda_0, lda_s, st1_0, st1_1, st2_0, st2_1, sti_0, sti_1, stj_0, stj_1, st1_2, sti_2, st2_2, stj_2, st1_3, sti_3, st2_3, stj_3, st1_4, sti_4, st2_4, stj_4, st1_5, sti_5, st2_5, stj_5, st1_6, sti_6, st2_6, stj_6, st1_7, sti_7, st2_7, stj_7, st1_8, sti_8, st2_8, stj_8, st1_9, sti_9, st2_9, stj_9, kil_n, kil_i, kil_r, kil_l, kil_d, gl_0, gl_s, cat_i, cat_r, true_and, ald_na (hse2 _) (show q < 9 by omega)]
      rw [br_0 (nI_ge (show q < u by omega) (by omega)), nI_and]
      have key := ih2 (q + 1) (by omega)
      rw [← addV_s] at key
      have hb : P q &&& mk (G p) 9 < 2 ^ 31 := Nat.lt_of_le_of_lt Nat.and_le_right (Nat.lt_trans (mk9 _) (by decide))
      refine ⟨fun h1 => ?_, fun h1 => ?_⟩
      · rw [nI_z hb] at h1
        rw [addV_z (f := fun m => if P q &&& rowsN G p = 0 then prt G 0 (p + 1) u (updN P q (P q ||| 2 ^ p)) m else 0) (fun m => if_neg h1)] at key
        rw [nI_1]
        exact key
      · have h2 : P q &&& rowsN G p = 0 := (nI_z hb).mp (Decidable.not_not.mp h1)
        rw [br_0 (by decide)]
        simp only [ald_na hup_same (show u < 10 by omega), nI_1, s116_0, s116_1, s116_5, s116_8, s116_9, s116_10, s116_11, s116_14, s116_15, s116_16, s116_17, s116_19, s116_20, s116_23, s116_24, s116_25, s116_29, s116_31, s116_32, s116_33, s116_34, s116_36, s116_37, s116_41, s116_42, s116_43, s116_46, s116_47, s116_50, s116_51, s116_53, s116_54, s116_58, s116_59, s116_62, s116_63, s116_65, s116_66, s116_68, s116_69, s116_72, s116_74, s116_77, s116_79, s116_80, s116_81, s116_82, s116_83, s116_84, s116_85, s116_88, s116_89, s116_91, s116_92, s116_93, s116_95, s116_96, s116_97, s116_98, s116_99, s116_100, s116_101, s116_102, s116_103, s116_108, s116_109, s116_111, s116_112, s116_113, s116_115, s116_116, s116_117, s116_118, s116_119, s116_122, s116_125, s116_127, s116_130, s116_132, s116_133, s116_134, s116_135, s116_136, s116_137, s116_138, s116_139, s116_140, s116_143, s116_144, s116_145, s116_147, s116_148, s116_149, s116_150, s116_151, s116_152, s116_153, s116_154, s116_155, s116_156, s116_161, s116_162, s116_163, s116_164, s116_165, ldi_0, ldi_s, ldl_0, ldl_s, ldd_0, ldd_s, lda_0, lda_s, st1_0, st1_1, st2_0, st2_1, sti_0, sti_1, stj_0, stj_1, st1_2, sti_2, st2_2, stj_2, st1_3, sti_3, st2_3, stj_3, st1_4, sti_4, st2_4, stj_4, st1_5, sti_5, st2_5, stj_5, st1_6, sti_6, st2_6, stj_6, st1_7, sti_7, st2_7, stj_7, st1_8, sti_8, st2_8, stj_8, st1_9, sti_9, st2_9, stj_9, kil_n, kil_i, kil_r, kil_l, kil_d, gl_0, gl_s, cat_i, cat_r, true_and, ast_na hup_same (show u < 10 by omega)]
        rw [hup_hup, addV_1]
        simp only [if_pos h2] at key
        exact key
  have key := loop u 0 (by omega)
  rw [addV_0, hup_id hfo] at key
  exact key
theorem sp_part (hG : GOK n G) (hr : r ≠ fo) (hr2 : r ≠ se) (hs : se ≠ fo) : ∀ (j p u : Nat) (P F : Nat → Nat) (h : AH), p + (j + 1) = n → u ≤ p → (∀ q, q < 9 → P q < 2 ^ p) → (∀ q, u ≤ q → q < 9 → P q = 0) → ChAt h c r n G → h se = some (na 9 P) → h fo = some (na 10 F) → Sp (3 + j) 116 [.ref c, .ref se, .int (nI p), .int (nI u), .ref fo] h z 0 0 (RR none (hup h fo (na 10 (addV F (prt G (j + 1) p u P)))) z) := by
  have hn := hG.1
  intro j
  induction j with
  | zero => exact fun p u P F h hp hu _ _ hc hse hfo => sp_part0 hG hr hs p u P F h hp hu hc hse hfo
  | succ j ih =>
    intro p u P F h hp hu hP hP0 hc hse hfo
    show Sp (3 + j + 1) _ _ _ _ _ _ _
    refine Sp_in (al := [some (.ref c), some (.ref se), some (.int (nI p)), some (.int (nI u)), some (.ref fo), none, none, none, none]) ?_
    simp only [s116_0, s116_1, s116_5, s116_8, s116_9, s116_10, s116_11, s116_14, s116_15, s116_16, s116_17, s116_19, s116_20, s116_23, s116_24, s116_25, s116_29, s116_31, s116_32, s116_33, s116_34, s116_36, s116_37, s116_41, s116_42, s116_43, s116_46, s116_47, s116_50, s116_51, s116_53, s116_54, s116_58, s116_59, s116_62, s116_63, s116_65, s116_66, s116_68, s116_69, s116_72, s116_74, s116_77, s116_79, s116_80, s116_81, s116_82, s116_83, s116_84, s116_85, s116_88, s116_89, s116_91, s116_92, s116_93, s116_95, s116_96, s116_97, s116_98, s116_99, s116_100, s116_101, s116_102, s116_103, s116_108, s116_109, s116_111, s116_112, s116_113, s116_115, s116_116, s116_117, s116_118, s116_119, s116_122, s116_125, s116_127, s116_130, s116_132, s116_133, s116_134, s116_135, s116_136, s116_137, s116_138, s116_139, s116_140, s116_143, s116_144, s116_145, s116_147, s116_148, s116_149, s116_150, s116_151, s116_152, s116_153, s116_154, s116_155, s116_156, s116_161, s116_162, s116_163, s116_164, s116_165, ldi_0, ldi_s, ldl_0, ldl_s, ldd_0, ldd_s, lda_0, lda_s, st1_0, st1_1, st2_0, st2_1, sti_0, sti_1, stj_0, stj_1, st1_2, sti_2, st2_2, stj_2, st1_3, sti_3, st2_3, stj_3, st1_4, sti_4, st2_4, stj_4, st1_5, sti_5, st2_5, stj_5, st1_6, sti_6, st2_6, stj_6, st1_7, sti_7, st2_7, stj_7, st1_8, sti_8, st2_8, stj_8, st1_9, sti_9, st2_9, stj_9, kil_n, kil_i, kil_r, kil_l, kil_d, gl_0, gl_s, cat_i, cat_r, true_and]
    refine c116_2r hc.1 (sp_size hc.1) ?_
    simp only [s116_0, s116_1, s116_5, s116_8, s116_9, s116_10, s116_11, s116_14, s116_15, s116_16, s116_17, s116_19, s116_20, s116_23, s116_24, s116_25, s116_29, s116_31, s116_32, s116_33, s116_34, s116_36, s116_37, s116_41, s116_42, s116_43, s116_46, s116_47, s116_50, s116_51, s116_53, s116_54, s116_58, s116_59, s116_62, s116_63, s116_65, s116_66, s116_68, s116_69, s116_72, s116_74, s116_77, s116_79, s116_80, s116_81, s116_82, s116_83, s116_84, s116_85, s116_88, s116_89, s116_91, s116_92, s116_93, s116_95, s116_96, s116_97, s116_98, s116_99, s116_100, s116_101, s116_102, s116_103, s116_108, s116_109, s116_111, s116_112, s116_113, s116_115, s116_116, s116_117, s116_118, s116_119, s116_122, s116_125, s116_127, s116_130, s116_132, s116_133, s116_134, s116_135, s116_136, s116_137, s116_138, s116_139, s116_140, s116_143, s116_144, s116_145, s116_147, s116_148, s116_149, s116_150, s116_151, s116_152, s116_153, s116_154, s116_155, s116_156, s116_161, s116_162, s116_163, s116_164, s116_165, ldi_0, ldi_s, ldl_0, ldl_s, ldd_0, ldd_s, lda_0, lda_s, st1_0, st1_1, st2_0, st2_1, sti_0, sti_1, stj_0, stj_1, st1_2, sti_2, st2_2, stj_2, st1_3, sti_3, st2_3, stj_3, st1_4, sti_4, st2_4, stj_4, st1_5, sti_5, st2_5, stj_5, st1_6, sti_6, st2_6, stj_6, st1_7, sti_7, st2_7, stj_7, st1_8, sti_8, st2_8, stj_8, st1_9, sti_9, st2_9, stj_9, kil_n, kil_i, kil_r, kil_l, kil_d, gl_0, gl_s, cat_i, cat_r, true_and, aln_na hse, aln_na hfo]
    rw [br_0 (nI_ge (show p < n by omega) (by omega)), br_0 (nI_ge (show u < 9 by omega) (by omega)), nI_1, br_1 (nI_lt (show u + 1 < 10 by omega) (by omega))]
    refine c116_26r hc.1 (sp_near hc hG (show p < n by omega)) ?_
    simp only [s116_0, s116_1, s116_5, s116_8, s116_9, s116_10, s116_11, s116_14, s116_15, s116_16, s116_17, s116_19, s116_20, s116_23, s116_24, s116_25, s116_29, s116_31, s116_32, s116_33, s116_34, s116_36, s116_37, s116_41, s116_42, s116_43, s116_46, s116_47, s116_50, s116_51, s116_53, s116_54, s116_58, s116_59, s116_62, s116_63, s116_65, s116_66, s116_68, s116_69, s116_72, s116_74, s116_77, s116_79, s116_80, s116_81, s116_82, s116_83, s116_84, s116_85, s116_88, s116_89, s116_91, s116_92, s116_93, s116_95, s116_96, s116_97, s116_98, s116_99, s116_100, s116_101, s116_102, s116_103, s116_108, s116_109, s116_111, s116_112, s116_113, s116_115, s116_116, s116_117, s116_118, s116_119, s116_122, s116_125, s116_127, s116_130, s116_132, s116_133, s116_134, s116_135, s116_136, s116_137, s116_138, s116_139, s116_140, s116_143, s116_144, s116_145, s116_147, s116_148, s116_149, s116_150, s116_151, s116_152, s116_153, s116_154, s116_155, s116_156, s116_161, s116_162, s116_163, s116_164, s116_165, ldi_0, ldi_s, ldl_0, ldl_s, ldd_0, ldd_s, lda_0, lda_s, st1_0, st1_1, st2_0, st2_1, sti_0, sti_1, stj_0, stj_1, st1_2, sti_2, st2_2, stj_2, st1_3, sti_3, st2_3, stj_3, st1_4, sti_4, st2_4, stj_4, st1_5, sti_5, st2_5, stj_5, st1_6, sti_6, st2_6, stj_6, st1_7, sti_7, st2_7, stj_7, st1_8, sti_8, st2_8, stj_8, st1_9, sti_9, st2_9, stj_9, kil_n, kil_i, kil_r, kil_l, kil_d, gl_0, gl_s, cat_i, cat_r, true_and, one_shl (show p < 31 by omega)]
    refine c116_38r hc.1 (sp_size hc.1) ?_
    simp only [s116_0, s116_1, s116_5, s116_8, s116_9, s116_10, s116_11, s116_14, s116_15, s116_16, s116_17, s116_19, s116_20, s116_23, s116_24, s116_25, s116_29, s116_31, s116_32, s116_33, s116_34, s116_36, s116_37, s116_41, s116_42, s116_43, s116_46, s116_47, s116_50, s116_51, s116_53, s116_54, s116_58, s116_59, s116_62, s116_63, s116_65, s116_66, s116_68, s116_69, s116_72, s116_74, s116_77, s116_79, s116_80, s116_81, s116_82, s116_83, s116_84, s116_85, s116_88, s116_89, s116_91, s116_92, s116_93, s116_95, s116_96, s116_97, s116_98, s116_99, s116_100, s116_101, s116_102, s116_103, s116_108, s116_109, s116_111, s116_112, s116_113, s116_115, s116_116, s116_117, s116_118, s116_119, s116_122, s116_125, s116_127, s116_130, s116_132, s116_133, s116_134, s116_135, s116_136, s116_137, s116_138, s116_139, s116_140, s116_143, s116_144, s116_145, s116_147, s116_148, s116_149, s116_150, s116_151, s116_152, s116_153, s116_154, s116_155, s116_156, s116_161, s116_162, s116_163, s116_164, s116_165, ldi_0, ldi_s, ldl_0, ldl_s, ldd_0, ldd_s, lda_0, lda_s, st1_0, st1_1, st2_0, st2_1, sti_0, sti_1, stj_0, stj_1, st1_2, sti_2, st2_2, stj_2, st1_3, sti_3, st2_3, stj_3, st1_4, sti_4, st2_4, stj_4, st1_5, sti_5, st2_5, stj_5, st1_6, sti_6, st2_6, stj_6, st1_7, sti_7, st2_7, stj_7, st1_8, sti_8, st2_8, stj_8, st1_9, sti_9, st2_9, stj_9, kil_n, kil_i, kil_r, kil_l, kil_d, gl_0, gl_s, cat_i, cat_r, true_and]
    rw [br_1 (by rw [nI_lit1, pk_sub (show 1 ≤ n by omega), nI_eq (by omega) (by omega)]; omega)]
    have hp9 : p < 9 := by omega
    have hcP : ∀ (A B : AC), ChAt (hup (hup h fo A) se B) c r n G := fun A B => by
      have e : hup h fo A se = some (na 9 P) := by rw [hup_ne hs, hse]
      refine ⟨?_, ?_⟩
      · rw [hup_ne (kind_ne (h := h) hc.1 hse), hup_ne (kind_ne hc.1 hfo), hc.1]
      · rw [hup_ne hr2, hup_ne hr, hc.2]
    have hse2 : ∀ A, hup h fo A se = some (na 9 P) := fun A => by rw [hup_ne hs, hse]
    have hse3 : ∀ A B C, hup (hup (hup h fo A) se B) fo C se = some B := fun A B C => by rw [hup_ne hs, hup_same]
    have hfo3 : ∀ A B, hup (hup h fo A) se B fo = some A := fun A B => by rw [hup_ne (Ne.symm hs), hup_same]
    have loop : ∀ (i q : Nat), q + i = u → aW (Sp (3 + j)) 116 0 0 (RR none (hup h fo (na 10 (addV F (prt G (j + 1 + 1) p u P)))) z) 56 [some (.ref c), some (.ref se), some (.int (nI p)), some (.int (nI u)), some (.ref fo), some (.int (nI (mk (G p) 9))), some (.int (nI (2 ^ p))), some (.int 0), some (.int (nI q))] [] (hup h fo (na 10 (addV F (sumV (fun s m => if P s &&& rowsN G p = 0 then prt G (j + 1) (p + 1) u (updN P s (P s ||| 2 ^ p)) m else 0) q)))) z 0 0 := by
      intro i
      induction i with
      | zero =>
        intro q hq
        have e1 : q = u := by omega
        subst e1
        rw [s116_56]
        simp only [s116_0, s116_1, s116_5, s116_8, s116_9, s116_10, s116_11, s116_14, s116_15, s116_16, s116_17, s116_19, s116_20, s116_23, s116_24, s116_25, s116_29, s116_31, s116_32, s116_33, s116_34, s116_36, s116_37, s116_41, s116_42, s116_43, s116_46, s116_47, s116_50, s116_51, s116_53, s116_54, s116_58, s116_59, s116_62, s116_63, s116_65, s116_66, s116_68, s116_69, s116_72, s116_74, s116_77, s116_79, s116_80, s116_81, s116_82, s116_83, s116_84, s116_85, s116_88, s116_89, s116_91, s116_92, s116_93, s116_95, s116_96, s116_97, s116_98, s116_99, s116_100, s116_101, s116_102, s116_103, s116_108, s116_109, s116_111, s116_112, s116_113, s116_115, s116_116, s116_117, s116_118, s116_119, s116_122, s116_125, s116_127, s116_130, s116_132, s116_133, s116_134, s116_135, s116_136, s116_137, s116_138, s116_139, s116_140, s116_143, s116_144, s116_145, s116_147, s116_148, s116_149, s116_150, s116_151, s116_152, s116_153, s116_154, s116_155, s116_156, s116_161, s116_162, s116_163, s116_164, s116_165, ldi_0, ldi_s, ldl_0, ldl_s, ldd_0, ldd_s, lda_0, lda_s, st1_0, st1_1, st2_0, st2_1, sti_0, sti_1, stj_0, stj_1, st1_2, sti_2, st2_2, stj_2, st1_3, sti_3, st2_3, stj_3, st1_4, sti_4, st2_4, stj_4, st1_5, sti_5, st2_5, stj_5, st1_6, sti_6, st2_6, stj_6, st1_7, sti_7, st2_7, stj_7, st1_8, sti_8, st2_8, stj_8, st1_9, sti_9, st2_9, stj_9, kil_n, kil_i, kil_r, kil_l, kil_d, gl_0, gl_s, cat_i, cat_r, true_and]
        rw [br_1 (nI_le (Nat.le_refl _) (by omega)), br_1 trivial]
        have h3 : q < 9 := by omega
        simp only [ast_na (hse2 _) h3]
        rw [nI_1, nI_1]
        refine c116_158r (ih (p + 1) (q + 1) (updN P q (2 ^ p)) _ _ (by omega) (by omega) ?_ ?_ (hcP _ _) hup_same (hfo3 _ _)) ?_
        · intro s hs
          unfold updN
          split
          · exact Nat.pow_lt_pow_right (show 1 < 2 by decide) (by omega)
          · exact Nat.lt_trans (hP s hs) (Nat.pow_lt_pow_right (show 1 < 2 by decide) (by omega))
        · intro s hs hs4
          rw [updN_ne (by omega)]
          exact hP0 s (by omega) hs4
        · simp only [s116_0, s116_1, s116_5, s116_8, s116_9, s116_10, s116_11, s116_14, s116_15, s116_16, s116_17, s116_19, s116_20, s116_23, s116_24, s116_25, s116_29, s116_31, s116_32, s116_33, s116_34, s116_36, s116_37, s116_41, s116_42, s116_43, s116_46, s116_47, s116_50, s116_51, s116_53, s116_54, s116_58, s116_59, s116_62, s116_63, s116_65, s116_66, s116_68, s116_69, s116_72, s116_74, s116_77, s116_79, s116_80, s116_81, s116_82, s116_83, s116_84, s116_85, s116_88, s116_89, s116_91, s116_92, s116_93, s116_95, s116_96, s116_97, s116_98, s116_99, s116_100, s116_101, s116_102, s116_103, s116_108, s116_109, s116_111, s116_112, s116_113, s116_115, s116_116, s116_117, s116_118, s116_119, s116_122, s116_125, s116_127, s116_130, s116_132, s116_133, s116_134, s116_135, s116_136, s116_137, s116_138, s116_139, s116_140, s116_143, s116_144, s116_145, s116_147, s116_148, s116_149, s116_150, s116_151, s116_152, s116_153, s116_154, s116_155, s116_156, s116_161, s116_162, s116_163, s116_164, s116_165, ldi_0, ldi_s, ldl_0, ldl_s, ldd_0, ldd_s, lda_0, lda_s, st1_0, st1_1, st2_0, st2_1, sti_0, sti_1, stj_0, stj_1, st1_2, sti_2, st2_2, stj_2, st1_3, sti_3, st2_3, stj_3, st1_4, sti_4, st2_4, stj_4, st1_5, sti_5, st2_5, stj_5, st1_6, sti_6, st2_6, stj_6, st1_7, sti_7, st2_7, stj_7, st1_8, sti_8, st2_8, stj_8, st1_9, sti_9, st2_9, stj_9, kil_n, kil_i, kil_r, kil_l, kil_d, gl_0, gl_s, cat_i, cat_r, true_and, ast_na0 (hse3 _ _ _) h3]
          rw [updN_upd (hP0 q (Nat.le_refl _) h3), back2 hs hse]
          refine out_eq rfl ?_ rfl
          congr 2
          funext m
          show F m + _ + _ = F m + (_ + _)
          rw [Nat.add_assoc]
      | succ i ih2 =>
        intro q hq
        have h3 : q < 9 := by omega
        rw [s116_56]
        simp only [s116_0, s116_1, s116_5, s116_8, s116_9, s116_10, s116_11, s116_14, s116_15, s116_16, s116_17, s116_19, s116_20, s116_23, s116_24, s116_25, s116_29, s116_31, s116_32, s116_33, s116_34, s116_36, s116_37, s116_41, s116_42, s116_43, s116_46, s116_47, s116_50, s116_51, s116_53, s116_54, s116_58, s116_59, s116_62, s116_63, s116_65, s116_66, s116_68, s116_69, s116_72, s116_74, s116_77, s116_79, s116_80, s116_81, s116_82, s116_83, s116_84, s116_85, s116_88, s116_89, s116_91, s116_92, s116_93, s116_95, s116_96, s116_97, s116_98, s116_99, s116_100, s116_101, s116_102, s116_103, s116_108, s116_109, s116_111, s116_112, s116_113, s116_115, s116_116, s116_117, s116_118, s116_119, s116_122, s116_125, s116_127, s116_130, s116_132, s116_133, s116_134, s116_135, s116_136, s116_137, s116_138, s116_139, s116_140, s116_143, s116_144, s116_145, s116_147, s116_148, s116_149, s116_150, s116_151, s116_152, s116_153, s116_154, s116_155, s116_156, s116_161, s116_162, s116_163, s116_164, s116_165, ldi_0, ldi_s, ldl_0, ldl_s, ldd_0, ldd_s, lda_0, lda_s, st1_0, st1_1, st2_0, st2_1, sti_0, sti_1, stj_0, stj_1, st1_2, sti_2, st2_2, stj_2, st1_3, sti_3, st2_3, stj_3, st1_4, sti_4, st2_4, stj_4, st1_5, sti_5, st2_5, stj_5, st1_6, sti_6, st2_6, stj_6, st1_7, sti_7, st2_7, stj_7, st1_8, sti_8, st2_8, stj_8, st1_9, sti_9, st2_9, stj_9, kil_n, kil_i, kil_r, kil_l, kil_d, gl_0, gl_s, cat_i, cat_r, true_and, ald_na (hse2 _) h3]
        rw [br_0 (nI_ge (show q < u by omega) (by omega)), nI_and]
        have key := ih2 (q + 1) (by omega)
        rw [← addV_s] at key
        have hq9 := hP q h3
        have hb : P q &&& mk (G p) 9 < 2 ^ 31 := Nat.lt_of_le_of_lt Nat.and_le_right (Nat.lt_trans (mk9 _) (by decide))
        refine ⟨fun h1 => ?_, fun h1 => ?_⟩
        · rw [nI_z hb] at h1
          rw [addV_z (f := fun m => if P q &&& rowsN G p = 0 then prt G (j + 1) (p + 1) u (updN P q (P q ||| 2 ^ p)) m else 0) (fun m => if_neg h1)] at key
          rw [nI_1]
          exact key
        · have h2 : P q &&& rowsN G p = 0 := (nI_z hb).mp (Decidable.not_not.mp h1)
          rw [br_1 trivial]
          simp only [nI_or, ast_na (hse2 _) h3]
          simp only [if_pos h2] at key
          rw [nI_1]
          refine c116_105r (ih (p + 1) u (updN P q (P q ||| 2 ^ p)) _ _ (by omega) (by omega) ?_ ?_ (hcP _ _) hup_same (hfo3 _ _)) ?_
          · intro s hs
            unfold updN
            split
            · exact Nat.or_lt_two_pow (Nat.lt_trans hq9 (Nat.pow_lt_pow_right (show 1 < 2 by decide) (by omega))) (Nat.pow_lt_pow_right (show 1 < 2 by decide) (by omega))
            · exact Nat.lt_trans (hP s hs) (Nat.pow_lt_pow_right (show 1 < 2 by decide) (by omega))
          · intro s hs hs4
            rw [updN_ne (by omega)]
            exact hP0 s hs hs4
          · simp only [s116_0, s116_1, s116_5, s116_8, s116_9, s116_10, s116_11, s116_14, s116_15, s116_16, s116_17, s116_19, s116_20, s116_23, s116_24, s116_25, s116_29, s116_31, s116_32, s116_33, s116_34, s116_36, s116_37, s116_41, s116_42, s116_43, s116_46, s116_47, s116_50, s116_51, s116_53, s116_54, s116_58, s116_59, s116_62, s116_63, s116_65, s116_66, s116_68, s116_69, s116_72, s116_74, s116_77, s116_79, s116_80, s116_81, s116_82, s116_83, s116_84, s116_85, s116_88, s116_89, s116_91, s116_92, s116_93, s116_95, s116_96, s116_97, s116_98, s116_99, s116_100, s116_101, s116_102, s116_103, s116_108, s116_109, s116_111, s116_112, s116_113, s116_115, s116_116, s116_117, s116_118, s116_119, s116_122, s116_125, s116_127, s116_130, s116_132, s116_133, s116_134, s116_135, s116_136, s116_137, s116_138, s116_139, s116_140, s116_143, s116_144, s116_145, s116_147, s116_148, s116_149, s116_150, s116_151, s116_152, s116_153, s116_154, s116_155, s116_156, s116_161, s116_162, s116_163, s116_164, s116_165, ldi_0, ldi_s, ldl_0, ldl_s, ldd_0, ldd_s, lda_0, lda_s, st1_0, st1_1, st2_0, st2_1, sti_0, sti_1, stj_0, stj_1, st1_2, sti_2, st2_2, stj_2, st1_3, sti_3, st2_3, stj_3, st1_4, sti_4, st2_4, stj_4, st1_5, sti_5, st2_5, stj_5, st1_6, sti_6, st2_6, stj_6, st1_7, sti_7, st2_7, stj_7, st1_8, sti_8, st2_8, stj_8, st1_9, sti_9, st2_9, stj_9, kil_n, kil_i, kil_r, kil_l, kil_d, gl_0, gl_s, cat_i, cat_r, true_and, ald_na (hse3 _ _ _) h3, not_any, nI_and, ast_na (hse3 _ _ _) h3, updN_same]
            rw [or_off hq9 hp9, updN_upd rfl, back2 hs hse, nI_1]
            exact key
    have key := loop u 0 (by omega)
    rw [addV_0, hup_id hfo] at key
    exact key
end Part
