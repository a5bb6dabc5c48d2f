/-! ColourmapModel: the calls that change the map, the rest -/
section Mod3
variable {h : AH} {m t t2 ns n z : Nat} {G SG : Nat → Nat → Bool} {th : Int32}
theorem sp_mway_no (hn : n ≤ 9) {p q : Int32} (hp : pl n p = false ∨ pl n q = false) : Sp 20 47 [.ref m, .int p, .int q] (NF h m t t2 ns G th n) z 0 0 (RR (some (.int 0)) (NF h m t t2 ns G 1 n) z) := by
  refine Sp_in (al := [some (.ref m), some (.int p), some (.int q), none]) ?_
  simp only [s47_0, s47_1, s47_2, s47_5, s47_6, s47_7, s47_11, s47_14, s47_15, s47_19, s47_22, s47_23, s47_26, s47_27, s47_31, s47_34, s47_35, s47_36, s47_37, s47_40, s47_41, s47_44, s47_45, s47_49, s47_52, s47_53, s47_54, s47_55, s47_58, s47_59, s47_60, s47_61, s47_62, s47_65, s47_66, s47_69, s47_70, s47_71, s47_72, s47_75, s47_76, s47_77, s47_78, s47_79, s47_80, s47_81, s47_84, s47_85, s47_86, s47_87, s47_88, s47_89, s47_90, ldi_0, ldi_s, ldl_0, ldl_s, ldd_0, ldd_s, lda_0, lda_s, st1_0, st1_1, st2_0, st2_1, sti_0, sti_1, stj_0, stj_1, st1_2, sti_2, st2_2, stj_2, st1_3, sti_3, st2_3, stj_3, st1_4, sti_4, st2_4, stj_4, st1_5, sti_5, st2_5, stj_5, st1_6, sti_6, st2_6, stj_6, st1_7, sti_7, st2_7, stj_7, st1_8, sti_8, st2_8, stj_8, st1_9, sti_9, st2_9, stj_9, kil_n, kil_i, kil_r, kil_l, kil_d, gl_0, gl_s, cat_i, cat_r, true_and, NF_th]
  refine c47_8r NF_m (sp_is hn) ?_
  simp only [s47_0, s47_1, s47_2, s47_5, s47_6, s47_7, s47_11, s47_14, s47_15, s47_19, s47_22, s47_23, s47_26, s47_27, s47_31, s47_34, s47_35, s47_36, s47_37, s47_40, s47_41, s47_44, s47_45, s47_49, s47_52, s47_53, s47_54, s47_55, s47_58, s47_59, s47_60, s47_61, s47_62, s47_65, s47_66, s47_69, s47_70, s47_71, s47_72, s47_75, s47_76, s47_77, s47_78, s47_79, s47_80, s47_81, s47_84, s47_85, s47_86, s47_87, s47_88, s47_89, s47_90, ldi_0, ldi_s, ldl_0, ldl_s, ldd_0, ldd_s, lda_0, lda_s, st1_0, st1_1, st2_0, st2_1, sti_0, sti_1, stj_0, stj_1, st1_2, sti_2, st2_2, stj_2, st1_3, sti_3, st2_3, stj_3, st1_4, sti_4, st2_4, stj_4, st1_5, sti_5, st2_5, stj_5, st1_6, sti_6, st2_6, stj_6, st1_7, sti_7, st2_7, stj_7, st1_8, sti_8, st2_8, stj_8, st1_9, sti_9, st2_9, stj_9, kil_n, kil_i, kil_r, kil_l, kil_d, gl_0, gl_s, cat_i, cat_r, true_and]
  by_cases h1 : pl n p = false
  · rw [h1, br_1 (by decide)]
    refine c47_28r NF_m sp_throws_t ?_
    simp only [s47_0, s47_1, s47_2, s47_5, s47_6, s47_7, s47_11, s47_14, s47_15, s47_19, s47_22, s47_23, s47_26, s47_27, s47_31, s47_34, s47_35, s47_36, s47_37, s47_40, s47_41, s47_44, s47_45, s47_49, s47_52, s47_53, s47_54, s47_55, s47_58, s47_59, s47_60, s47_61, s47_62, s47_65, s47_66, s47_69, s47_70, s47_71, s47_72, s47_75, s47_76, s47_77, s47_78, s47_79, s47_80, s47_81, s47_84, s47_85, s47_86, s47_87, s47_88, s47_89, s47_90, ldi_0, ldi_s, ldl_0, ldl_s, ldd_0, ldd_s, lda_0, lda_s, st1_0, st1_1, st2_0, st2_1, sti_0, sti_1, stj_0, stj_1, st1_2, sti_2, st2_2, stj_2, st1_3, sti_3, st2_3, stj_3, st1_4, sti_4, st2_4, stj_4, st1_5, sti_5, st2_5, stj_5, st1_6, sti_6, st2_6, stj_6, st1_7, sti_7, st2_7, stj_7, st1_8, sti_8, st2_8, stj_8, st1_9, sti_9, st2_9, stj_9, kil_n, kil_i, kil_r, kil_l, kil_d, gl_0, gl_s, cat_i, cat_r, true_and]
    rw [br_1 (by decide)]
    exact ⟨by decide, out_RR⟩
  · rw [Bool.not_eq_false] at h1
    rw [h1, br_0 (by decide)]
    refine c47_16r NF_m (sp_is hn) ?_
    simp only [s47_0, s47_1, s47_2, s47_5, s47_6, s47_7, s47_11, s47_14, s47_15, s47_19, s47_22, s47_23, s47_26, s47_27, s47_31, s47_34, s47_35, s47_36, s47_37, s47_40, s47_41, s47_44, s47_45, s47_49, s47_52, s47_53, s47_54, s47_55, s47_58, s47_59, s47_60, s47_61, s47_62, s47_65, s47_66, s47_69, s47_70, s47_71, s47_72, s47_75, s47_76, s47_77, s47_78, s47_79, s47_80, s47_81, s47_84, s47_85, s47_86, s47_87, s47_88, s47_89, s47_90, ldi_0, ldi_s, ldl_0, ldl_s, ldd_0, ldd_s, lda_0, lda_s, st1_0, st1_1, st2_0, st2_1, sti_0, sti_1, stj_0, stj_1, st1_2, sti_2, st2_2, stj_2, st1_3, sti_3, st2_3, stj_3, st1_4, sti_4, st2_4, stj_4, st1_5, sti_5, st2_5, stj_5, st1_6, sti_6, st2_6, stj_6, st1_7, sti_7, st2_7, stj_7, st1_8, sti_8, st2_8, stj_8, st1_9, sti_9, st2_9, stj_9, kil_n, kil_i, kil_r, kil_l, kil_d, gl_0, gl_s, cat_i, cat_r, true_and]
    rw [hp.resolve_left (by rw [h1]; decide), br_0 (by decide)]
    refine c47_28r NF_m sp_throws_t ?_
    simp only [s47_0, s47_1, s47_2, s47_5, s47_6, s47_7, s47_11, s47_14, s47_15, s47_19, s47_22, s47_23, s47_26, s47_27, s47_31, s47_34, s47_35, s47_36, s47_37, s47_40, s47_41, s47_44, s47_45, s47_49, s47_52, s47_53, s47_54, s47_55, s47_58, s47_59, s47_60, s47_61, s47_62, s47_65, s47_66, s47_69, s47_70, s47_71, s47_72, s47_75, s47_76, s47_77, s47_78, s47_79, s47_80, s47_81, s47_84, s47_85, s47_86, s47_87, s47_88, s47_89, s47_90, ldi_0, ldi_s, ldl_0, ldl_s, ldd_0, ldd_s, lda_0, lda_s, st1_0, st1_1, st2_0, st2_1, sti_0, sti_1, stj_0, stj_1, st1_2, sti_2, st2_2, stj_2, st1_3, sti_3, st2_3, stj_3, st1_4, sti_4, st2_4, stj_4, st1_5, sti_5, st2_5, stj_5, st1_6, sti_6, st2_6, stj_6, st1_7, sti_7, st2_7, stj_7, st1_8, sti_8, st2_8, stj_8, st1_9, sti_9, st2_9, stj_9, kil_n, kil_i, kil_r, kil_l, kil_d, gl_0, gl_s, cat_i, cat_r, true_and]
    rw [br_1 (by decide)]
    exact ⟨by decide, out_RR⟩
theorem sp_mtear_no (hn : n ≤ 9) {p q : Int32} (hp : pl n p = false ∨ pl n q = false) : Sp 20 51 [.ref m, .int p, .int q] (NF h m t t2 ns G th n) z 0 0 (RR (some (.int 0)) (NF h m t t2 ns G 1 n) z) := by
  refine Sp_in (al := [some (.ref m), some (.int p), some (.int q)]) ?_
  simp only [s51_0, s51_1, s51_2, s51_5, s51_6, s51_7, s51_11, s51_14, s51_15, s51_19, s51_22, s51_23, s51_26, s51_27, s51_31, s51_34, s51_35, s51_36, s51_39, s51_40, s51_41, s51_42, s51_43, s51_46, s51_47, s51_50, s51_51, s51_55, s51_58, s51_59, s51_60, s51_61, s51_64, s51_65, s51_66, s51_67, s51_68, s51_69, s51_70, s51_73, s51_74, s51_75, s51_76, s51_77, s51_78, s51_82, ldi_0, ldi_s, ldl_0, ldl_s, ldd_0, ldd_s, lda_0, lda_s, st1_0, st1_1, st2_0, st2_1, sti_0, sti_1, stj_0, stj_1, st1_2, sti_2, st2_2, stj_2, st1_3, sti_3, st2_3, stj_3, st1_4, sti_4, st2_4, stj_4, st1_5, sti_5, st2_5, stj_5, st1_6, sti_6, st2_6, stj_6, st1_7, sti_7, st2_7, stj_7, st1_8, sti_8, st2_8, stj_8, st1_9, sti_9, st2_9, stj_9, kil_n, kil_i, kil_r, kil_l, kil_d, gl_0, gl_s, cat_i, cat_r, true_and, NF_th]
  refine c51_8r NF_m (sp_is hn) ?_
  simp only [s51_0, s51_1, s51_2, s51_5, s51_6, s51_7, s51_11, s51_14, s51_15, s51_19, s51_22, s51_23, s51_26, s51_27, s51_31, s51_34, s51_35, s51_36, s51_39, s51_40, s51_41, s51_42, s51_43, s51_46, s51_47, s51_50, s51_51, s51_55, s51_58, s51_59, s51_60, s51_61, s51_64, s51_65, s51_66, s51_67, s51_68, s51_69, s51_70, s51_73, s51_74, s51_75, s51_76, s51_77, s51_78, s51_82, ldi_0, ldi_s, ldl_0, ldl_s, ldd_0, ldd_s, lda_0, lda_s, st1_0, st1_1, st2_0, st2_1, sti_0, sti_1, stj_0, stj_1, st1_2, sti_2, st2_2, stj_2, st1_3, sti_3, st2_3, stj_3, st1_4, sti_4, st2_4, stj_4, st1_5, sti_5, st2_5, stj_5, st1_6, sti_6, st2_6, stj_6, st1_7, sti_7, st2_7, stj_7, st1_8, sti_8, st2_8, stj_8, st1_9, sti_9, st2_9, stj_9, kil_n, kil_i, kil_r, kil_l, kil_d, gl_0, gl_s, cat_i, cat_r, true_and]
  by_cases h1 : pl n p = false
  · rw [h1, br_1 (by decide)]
    refine c51_28r NF_m sp_throws_t ?_
    simp only [s51_0, s51_1, s51_2, s51_5, s51_6, s51_7, s51_11, s51_14, s51_15, s51_19, s51_22, s51_23, s51_26, s51_27, s51_31, s51_34, s51_35, s51_36, s51_39, s51_40, s51_41, s51_42, s51_43, s51_46, s51_47, s51_50, s51_51, s51_55, s51_58, s51_59, s51_60, s51_61, s51_64, s51_65, s51_66, s51_67, s51_68, s51_69, s51_70, s51_73, s51_74, s51_75, s51_76, s51_77, s51_78, s51_82, ldi_0, ldi_s, ldl_0, ldl_s, ldd_0, ldd_s, lda_0, lda_s, st1_0, st1_1, st2_0, st2_1, sti_0, sti_1, stj_0, stj_1, st1_2, sti_2, st2_2, stj_2, st1_3, sti_3, st2_3, stj_3, st1_4, sti_4, st2_4, stj_4, st1_5, sti_5, st2_5, stj_5, st1_6, sti_6, st2_6, stj_6, st1_7, sti_7, st2_7, stj_7, st1_8, sti_8, st2_8, stj_8, st1_9, sti_9, st2_9, stj_9, kil_n, kil_i, kil_r, kil_l, kil_d, gl_0, gl_s, cat_i, cat_r, true_and]
    rw [br_1 (by decide)]
    exact out_RR
  · rw [Bool.not_eq_false] at h1
    rw [h1, br_0 (by decide)]
    refine c51_16r NF_m (sp_is hn) ?_
    simp only [s51_0, s51_1, s51_2, s51_5, s51_6, s51_7, s51_11, s51_14, s51_15, s51_19, s51_22, s51_23, s51_26, s51_27, s51_31, s51_34, s51_35, s51_36, s51_39, s51_40, s51_41, s51_42, s51_43, s51_46, s51_47, s51_50, s51_51, s51_55, s51_58, s51_59, s51_60, s51_61, s51_64, s51_65, s51_66, s51_67, s51_68, s51_69, s51_70, s51_73, s51_74, s51_75, s51_76, s51_77, s51_78, s51_82, ldi_0, ldi_s, ldl_0, ldl_s, ldd_0, ldd_s, lda_0, lda_s, st1_0, st1_1, st2_0, st2_1, sti_0, sti_1, stj_0, stj_1, st1_2, sti_2, st2_2, stj_2, st1_3, sti_3, st2_3, stj_3, st1_4, sti_4, st2_4, stj_4, st1_5, sti_5, st2_5, stj_5, st1_6, sti_6, st2_6, stj_6, st1_7, sti_7, st2_7, stj_7, st1_8, sti_8, st2_8, stj_8, st1_9, sti_9, st2_9, stj_9, kil_n, kil_i, kil_r, kil_l, kil_d, gl_0, gl_s, cat_i, cat_r, true_and]
    rw [hp.resolve_left (by rw [h1]; decide), br_0 (by decide)]
    refine c51_28r NF_m sp_throws_t ?_
    simp only [s51_0, s51_1, s51_2, s51_5, s51_6, s51_7, s51_11, s51_14, s51_15, s51_19, s51_22, s51_23, s51_26, s51_27, s51_31, s51_34, s51_35, s51_36, s51_39, s51_40, s51_41, s51_42, s51_43, s51_46, s51_47, s51_50, s51_51, s51_55, s51_58, s51_59, s51_60, s51_61, s51_64, s51_65, s51_66, s51_67, s51_68, s51_69, s51_70, s51_73, s51_74, s51_75, s51_76, s51_77, s51_78, s51_82, ldi_0, ldi_s, ldl_0, ldl_s, ldd_0, ldd_s, lda_0, lda_s, st1_0, st1_1, st2_0, st2_1, sti_0, sti_1, stj_0, stj_1, st1_2, sti_2, st2_2, stj_2, st1_3, sti_3, st2_3, stj_3, st1_4, sti_4, st2_4, stj_4, st1_5, sti_5, st2_5, stj_5, st1_6, sti_6, st2_6, stj_6, st1_7, sti_7, st2_7, stj_7, st1_8, sti_8, st2_8, stj_8, st1_9, sti_9, st2_9, stj_9, kil_n, kil_i, kil_r, kil_l, kil_d, gl_0, gl_s, cat_i, cat_r, true_and]
    rw [br_1 (by decide)]
    exact out_RR
theorem sp_mdraw_no (hn : n ≤ 9) {p q : Int32} (hp : pl n p = false ∨ pl n q = false) : Sp 20 55 [.ref m, .int p, .int q] (NF h m t t2 ns G th n) z 0 0 (RR (some (.int 0)) (NF h m t t2 ns G 1 n) z) := by
  refine Sp_in (al := [some (.ref m), some (.int p), some (.int q)]) ?_
  simp only [s55_0, s55_1, s55_2, s55_5, s55_6, s55_7, s55_11, s55_14, s55_15, s55_19, s55_22, s55_23, s55_26, s55_27, s55_31, s55_34, s55_35, s55_36, s55_37, s55_40, s55_41, s55_44, s55_45, s55_49, s55_52, s55_53, s55_54, s55_55, s55_58, s55_59, s55_62, s55_63, s55_67, s55_68, s55_69, s55_72, s55_73, s55_74, s55_77, s55_81, ldi_0, ldi_s, ldl_0, ldl_s, ldd_0, ldd_s, lda_0, lda_s, st1_0, st1_1, st2_0, st2_1, sti_0, sti_1, stj_0, stj_1, st1_2, sti_2, st2_2, stj_2, st1_3, sti_3, st2_3, stj_3, st1_4, sti_4, st2_4, stj_4, st1_5, sti_5, st2_5, stj_5, st1_6, sti_6, st2_6, stj_6, st1_7, sti_7, st2_7, stj_7, st1_8, sti_8, st2_8, stj_8, st1_9, sti_9, st2_9, stj_9, kil_n, kil_i, kil_r, kil_l, kil_d, gl_0, gl_s, cat_i, cat_r, true_and, NF_th]
  refine c55_8r NF_m (sp_is hn) ?_
  simp only [s55_0, s55_1, s55_2, s55_5, s55_6, s55_7, s55_11, s55_14, s55_15, s55_19, s55_22, s55_23, s55_26, s55_27, s55_31, s55_34, s55_35, s55_36, s55_37, s55_40, s55_41, s55_44, s55_45, s55_49, s55_52, s55_53, s55_54, s55_55, s55_58, s55_59, s55_62, s55_63, s55_67, s55_68, s55_69, s55_72, s55_73, s55_74, s55_77, s55_81, ldi_0, ldi_s, ldl_0, ldl_s, ldd_0, ldd_s, lda_0, lda_s, st1_0, st1_1, st2_0, st2_1, sti_0, sti_1, stj_0, stj_1, st1_2, sti_2, st2_2, stj_2, st1_3, sti_3, st2_3, stj_3, st1_4, sti_4, st2_4, stj_4, st1_5, sti_5, st2_5, stj_5, st1_6, sti_6, st2_6, stj_6, st1_7, sti_7, st2_7, stj_7, st1_8, sti_8, st2_8, stj_8, st1_9, sti_9, st2_9, stj_9, kil_n, kil_i, kil_r, kil_l, kil_d, gl_0, gl_s, cat_i, cat_r, true_and]
  by_cases h1 : pl n p = false
  · rw [h1, br_1 (by decide)]
    refine c55_28r NF_m sp_throws_t ?_
    simp only [s55_0, s55_1, s55_2, s55_5, s55_6, s55_7, s55_11, s55_14, s55_15, s55_19, s55_22, s55_23, s55_26, s55_27, s55_31, s55_34, s55_35, s55_36, s55_37, s55_40, s55_41, s55_44, s55_45, s55_49, s55_52, s55_53, s55_54, s55_55, s55_58, s55_59, s55_62, s55_63, s55_67, s55_68, s55_69, s55_72, s55_73, s55_74, s55_77, s55_81, ldi_0, ldi_s, ldl_0, ldl_s, ldd_0, ldd_s, lda_0, lda_s, st1_0, st1_1, st2_0, st2_1, sti_0, sti_1, stj_0, stj_1, st1_2, sti_2, st2_2, stj_2, st1_3, sti_3, st2_3, stj_3, st1_4, sti_4, st2_4, stj_4, st1_5, sti_5, st2_5, stj_5, st1_6, sti_6, st2_6, stj_6, st1_7, sti_7, st2_7, stj_7, st1_8, sti_8, st2_8, stj_8, st1_9, sti_9, st2_9, stj_9, kil_n, kil_i, kil_r, kil_l, kil_d, gl_0, gl_s, cat_i, cat_r, true_and]
    rw [br_1 (by decide)]
    exact out_RR
  · rw [Bool.not_eq_false] at h1
    rw [h1, br_0 (by decide)]
    refine c55_16r NF_m (sp_is hn) ?_
    simp only [s55_0, s55_1, s55_2, s55_5, s55_6, s55_7, s55_11, s55_14, s55_15, s55_19, s55_22, s55_23, s55_26, s55_27, s55_31, s55_34, s55_35, s55_36, s55_37, s55_40, s55_41, s55_44, s55_45, s55_49, s55_52, s55_53, s55_54, s55_55, s55_58, s55_59, s55_62, s55_63, s55_67, s55_68, s55_69, s55_72, s55_73, s55_74, s55_77, s55_81, ldi_0, ldi_s, ldl_0, ldl_s, ldd_0, ldd_s, lda_0, lda_s, st1_0, st1_1, st2_0, st2_1, sti_0, sti_1, stj_0, stj_1, st1_2, sti_2, st2_2, stj_2, st1_3, sti_3, st2_3, stj_3, st1_4, sti_4, st2_4, stj_4, st1_5, sti_5, st2_5, stj_5, st1_6, sti_6, st2_6, stj_6, st1_7, sti_7, st2_7, stj_7, st1_8, sti_8, st2_8, stj_8, st1_9, sti_9, st2_9, stj_9, kil_n, kil_i, kil_r, kil_l, kil_d, gl_0, gl_s, cat_i, cat_r, true_and]
    rw [hp.resolve_left (by rw [h1]; decide), br_0 (by decide)]
    refine c55_28r NF_m sp_throws_t ?_
    simp only [s55_0, s55_1, s55_2, s55_5, s55_6, s55_7, s55_11, s55_14, s55_15, s55_19, s55_22, s55_23, s55_26, s55_27, s55_31, s55_34, s55_35, s55_36, s55_37, s55_40, s55_41, s55_44, s55_45, s55_49, s55_52, s55_53, s55_54, s55_55, s55_58, s55_59, s55_62, s55_63, s55_67, s55_68, s55_69, s55_72, s55_73, s55_74, s55_77, s55_81, ldi_0, ldi_s, ldl_0, ldl_s, ldd_0, ldd_s, lda_0, lda_s, st1_0, st1_1, st2_0, st2_1, sti_0, sti_1, stj_0, stj_1, st1_2, sti_2, st2_2, stj_2, st1_3, sti_3, st2_3, stj_3, st1_4, sti_4, st2_4, stj_4, st1_5, sti_5, st2_5, stj_5, st1_6, sti_6, st2_6, stj_6, st1_7, sti_7, st2_7, stj_7, st1_8, sti_8, st2_8, stj_8, st1_9, sti_9, st2_9, stj_9, kil_n, kil_i, kil_r, kil_l, kil_d, gl_0, gl_s, cat_i, cat_r, true_and]
    rw [br_1 (by decide)]
    exact out_RR
theorem sp_mswap_no (hn : n ≤ 9) {p q : Int32} (hp : pl n p = false ∨ pl n q = false) : Sp 20 61 [.ref m, .int p, .int q] (NF h m t t2 ns G th n) z 0 0 (RR (some (.int 0)) (NF h m t t2 ns G 1 n) z) := by
  refine Sp_in (al := [some (.ref m), some (.int p), some (.int q), none, none, none]) ?_
  simp only [s61_0, s61_1, s61_2, s61_5, s61_6, s61_7, s61_11, s61_14, s61_15, s61_19, s61_22, s61_23, s61_26, s61_27, s61_31, s61_34, s61_35, s61_36, s61_37, s61_38, s61_39, s61_43, s61_44, s61_47, s61_50, s61_52, s61_53, s61_56, s61_58, s61_59, s61_62, s61_63, s61_66, s61_67, s61_68, s61_70, s61_71, s61_72, s61_75, s61_76, s61_77, s61_79, s61_80, s61_83, s61_86, s61_87, s61_88, s61_89, s61_92, s61_93, s61_94, s61_96, s61_97, s61_99, s61_100, s61_103, s61_104, s61_105, s61_107, s61_109, s61_112, s61_113, s61_116, s61_117, s61_118, s61_119, s61_122, s61_124, s61_125, s61_126, s61_128, s61_131, s61_132, s61_135, s61_136, s61_137, s61_138, s61_141, s61_142, s61_143, s61_145, s61_147, s61_148, s61_149, s61_152, s61_154, s61_155, s61_156, s61_158, s61_159, s61_162, s61_165, s61_166, ldi_0, ldi_s, ldl_0, ldl_s, ldd_0, ldd_s, lda_0, lda_s, st1_0, st1_1, st2_0, st2_1, sti_0, sti_1, stj_0, stj_1, st1_2, sti_2, st2_2, stj_2, st1_3, sti_3, st2_3, stj_3, st1_4, sti_4, st2_4, stj_4, st1_5, sti_5, st2_5, stj_5, st1_6, sti_6, st2_6, stj_6, st1_7, sti_7, st2_7, stj_7, st1_8, sti_8, st2_8, stj_8, st1_9, sti_9, st2_9, stj_9, kil_n, kil_i, kil_r, kil_l, kil_d, gl_0, gl_s, cat_i, cat_r, true_and, NF_th]
  refine c61_8r NF_m (sp_is hn) ?_
  simp only [s61_0, s61_1, s61_2, s61_5, s61_6, s61_7, s61_11, s61_14, s61_15, s61_19, s61_22, s61_23, s61_26, s61_27, s61_31, s61_34, s61_35, s61_36, s61_37, s61_38, s61_39, s61_43, s61_44, s61_47, s61_50, s61_52, s61_53, s61_56, s61_58, s61_59, s61_62, s61_63, s61_66, s61_67, s61_68, s61_70, s61_71, s61_72, s61_75, s61_76, s61_77, s61_79, s61_80, s61_83, s61_86, s61_87, s61_88, s61_89, s61_92, s61_93, s61_94, s61_96, s61_97, s61_99, s61_100, s61_103, s61_104, s61_105, s61_107, s61_109, s61_112, s61_113, s61_116, s61_117, s61_118, s61_119, s61_122, s61_124, s61_125, s61_126, s61_128, s61_131, s61_132, s61_135, s61_136, s61_137, s61_138, s61_141, s61_142, s61_143, s61_145, s61_147, s61_148, s61_149, s61_152, s61_154, s61_155, s61_156, s61_158, s61_159, s61_162, s61_165, s61_166, ldi_0, ldi_s, ldl_0, ldl_s, ldd_0, ldd_s, lda_0, lda_s, st1_0, st1_1, st2_0, st2_1, sti_0, sti_1, stj_0, stj_1, st1_2, sti_2, st2_2, stj_2, st1_3, sti_3, st2_3, stj_3, st1_4, sti_4, st2_4, stj_4, st1_5, sti_5, st2_5, stj_5, st1_6, sti_6, st2_6, stj_6, st1_7, sti_7, st2_7, stj_7, st1_8, sti_8, st2_8, stj_8, st1_9, sti_9, st2_9, stj_9, kil_n, kil_i, kil_r, kil_l, kil_d, gl_0, gl_s, cat_i, cat_r, true_and]
  by_cases h1 : pl n p = false
  · rw [h1, br_1 (by decide)]
    refine c61_28r NF_m sp_throws_t ?_
    simp only [s61_0, s61_1, s61_2, s61_5, s61_6, s61_7, s61_11, s61_14, s61_15, s61_19, s61_22, s61_23, s61_26, s61_27, s61_31, s61_34, s61_35, s61_36, s61_37, s61_38, s61_39, s61_43, s61_44, s61_47, s61_50, s61_52, s61_53, s61_56, s61_58, s61_59, s61_62, s61_63, s61_66, s61_67, s61_68, s61_70, s61_71, s61_72, s61_75, s61_76, s61_77, s61_79, s61_80, s61_83, s61_86, s61_87, s61_88, s61_89, s61_92, s61_93, s61_94, s61_96, s61_97, s61_99, s61_100, s61_103, s61_104, s61_105, s61_107, s61_109, s61_112, s61_113, s61_116, s61_117, s61_118, s61_119, s61_122, s61_124, s61_125, s61_126, s61_128, s61_131, s61_132, s61_135, s61_136, s61_137, s61_138, s61_141, s61_142, s61_143, s61_145, s61_147, s61_148, s61_149, s61_152, s61_154, s61_155, s61_156, s61_158, s61_159, s61_162, s61_165, s61_166, ldi_0, ldi_s, ldl_0, ldl_s, ldd_0, ldd_s, lda_0, lda_s, st1_0, st1_1, st2_0, st2_1, sti_0, sti_1, stj_0, stj_1, st1_2, sti_2, st2_2, stj_2, st1_3, sti_3, st2_3, stj_3, st1_4, sti_4, st2_4, stj_4, st1_5, sti_5, st2_5, stj_5, st1_6, sti_6, st2_6, stj_6, st1_7, sti_7, st2_7, stj_7, st1_8, sti_8, st2_8, stj_8, st1_9, sti_9, st2_9, stj_9, kil_n, kil_i, kil_r, kil_l, kil_d, gl_0, gl_s, cat_i, cat_r, true_and]
    rw [br_0 (by decide)]
    exact ⟨by decide, out_RR⟩
  · rw [Bool.not_eq_false] at h1
    rw [h1, br_0 (by decide)]
    refine c61_16r NF_m (sp_is hn) ?_
    simp only [s61_0, s61_1, s61_2, s61_5, s61_6, s61_7, s61_11, s61_14, s61_15, s61_19, s61_22, s61_23, s61_26, s61_27, s61_31, s61_34, s61_35, s61_36, s61_37, s61_38, s61_39, s61_43, s61_44, s61_47, s61_50, s61_52, s61_53, s61_56, s61_58, s61_59, s61_62, s61_63, s61_66, s61_67, s61_68, s61_70, s61_71, s61_72, s61_75, s61_76, s61_77, s61_79, s61_80, s61_83, s61_86, s61_87, s61_88, s61_89, s61_92, s61_93, s61_94, s61_96, s61_97, s61_99, s61_100, s61_103, s61_104, s61_105, s61_107, s61_109, s61_112, s61_113, s61_116, s61_117, s61_118, s61_119, s61_122, s61_124, s61_125, s61_126, s61_128, s61_131, s61_132, s61_135, s61_136, s61_137, s61_138, s61_141, s61_142, s61_143, s61_145, s61_147, s61_148, s61_149, s61_152, s61_154, s61_155, s61_156, s61_158, s61_159, s61_162, s61_165, s61_166, ldi_0, ldi_s, ldl_0, ldl_s, ldd_0, ldd_s, lda_0, lda_s, st1_0, st1_1, st2_0, st2_1, sti_0, sti_1, stj_0, stj_1, st1_2, sti_2, st2_2, stj_2, st1_3, sti_3, st2_3, stj_3, st1_4, sti_4, st2_4, stj_4, st1_5, sti_5, st2_5, stj_5, st1_6, sti_6, st2_6, stj_6, st1_7, sti_7, st2_7, stj_7, st1_8, sti_8, st2_8, stj_8, st1_9, sti_9, st2_9, stj_9, kil_n, kil_i, kil_r, kil_l, kil_d, gl_0, gl_s, cat_i, cat_r, true_and]
    rw [hp.resolve_left (by rw [h1]; decide), br_0 (by decide)]
    refine c61_28r NF_m sp_throws_t ?_
    simp only [s61_0, s61_1, s61_2, s61_5, s61_6, s61_7, s61_11, s61_14, s61_15, s61_19, s61_22, s61_23, s61_26, s61_27, s61_31, s61_34, s61_35, s61_36, s61_37, s61_38, s61_39, s61_43, s61_44, s61_47, s61_50, s61_52, s61_53, s61_56, s61_58, s61_59, s61_62, s61_63, s61_66, s61_67, s61_68, s61_70, s61_71, s61_72, s61_75, s61_76, s61_77, s61_79, s61_80, s61_83, s61_86, s61_87, s61_88, s61_89, s61_92, s61_93, s61_94, s61_96, s61_97, s61_99, s61_100, s61_103, s61_104, s61_105, s61_107, s61_109, s61_112, s61_113, s61_116, s61_117, s61_118, s61_119, s61_122, s61_124, s61_125, s61_126, s61_128, s61_131, s61_132, s61_135, s61_136, s61_137, s61_138, s61_141, s61_142, s61_143, s61_145, s61_147, s61_148, s61_149, s61_152, s61_154, s61_155, s61_156, s61_158, s61_159, s61_162, s61_165, s61_166, ldi_0, ldi_s, ldl_0, ldl_s, ldd_0, ldd_s, lda_0, lda_s, st1_0, st1_1, st2_0, st2_1, sti_0, sti_1, stj_0, stj_1, st1_2, sti_2, st2_2, stj_2, st1_3, sti_3, st2_3, stj_3, st1_4, sti_4, st2_4, stj_4, st1_5, sti_5, st2_5, stj_5, st1_6, sti_6, st2_6, stj_6, st1_7, sti_7, st2_7, stj_7, st1_8, sti_8, st2_8, stj_8, st1_9, sti_9, st2_9, stj_9, kil_n, kil_i, kil_r, kil_l, kil_d, gl_0, gl_s, cat_i, cat_r, true_and]
    rw [br_0 (by decide)]
    exact ⟨by decide, out_RR⟩
theorem sp_misWay_no (hn : n ≤ 9) {p q : Int32} (hp : pl n p = false ∨ pl n q = false) : Sp 20 80 [.ref m, .int p, .int q] (NF h m t t2 ns G th n) z 0 0 (RR (some (.int 0)) (NF h m t t2 ns G 1 n) z) := by
  refine Sp_in (al := [some (.ref m), some (.int p), some (.int q)]) ?_
  simp only [s80_0, s80_1, s80_2, s80_5, s80_6, s80_7, s80_11, s80_14, s80_15, s80_19, s80_22, s80_23, s80_26, s80_27, s80_31, s80_34, s80_35, s80_38, s80_39, s80_40, s80_41, s80_42, s80_45, s80_46, s80_49, s80_50, ldi_0, ldi_s, ldl_0, ldl_s, ldd_0, ldd_s, lda_0, lda_s, st1_0, st1_1, st2_0, st2_1, sti_0, sti_1, stj_0, stj_1, st1_2, sti_2, st2_2, stj_2, st1_3, sti_3, st2_3, stj_3, st1_4, sti_4, st2_4, stj_4, st1_5, sti_5, st2_5, stj_5, st1_6, sti_6, st2_6, stj_6, st1_7, sti_7, st2_7, stj_7, st1_8, sti_8, st2_8, stj_8, st1_9, sti_9, st2_9, stj_9, kil_n, kil_i, kil_r, kil_l, kil_d, gl_0, gl_s, cat_i, cat_r, true_and, NF_th]
  refine c80_8r NF_m (sp_is hn) ?_
  simp only [s80_0, s80_1, s80_2, s80_5, s80_6, s80_7, s80_11, s80_14, s80_15, s80_19, s80_22, s80_23, s80_26, s80_27, s80_31, s80_34, s80_35, s80_38, s80_39, s80_40, s80_41, s80_42, s80_45, s80_46, s80_49, s80_50, ldi_0, ldi_s, ldl_0, ldl_s, ldd_0, ldd_s, lda_0, lda_s, st1_0, st1_1, st2_0, st2_1, sti_0, sti_1, stj_0, stj_1, st1_2, sti_2, st2_2, stj_2, st1_3, sti_3, st2_3, stj_3, st1_4, sti_4, st2_4, stj_4, st1_5, sti_5, st2_5, stj_5, st1_6, sti_6, st2_6, stj_6, st1_7, sti_7, st2_7, stj_7, st1_8, sti_8, st2_8, stj_8, st1_9, sti_9, st2_9, stj_9, kil_n, kil_i, kil_r, kil_l, kil_d, gl_0, gl_s, cat_i, cat_r, true_and]
  by_cases h1 : pl n p = false
  · rw [h1, br_1 (by decide)]
    refine c80_28r NF_m sp_throws_t ?_
    simp only [s80_0, s80_1, s80_2, s80_5, s80_6, s80_7, s80_11, s80_14, s80_15, s80_19, s80_22, s80_23, s80_26, s80_27, s80_31, s80_34, s80_35, s80_38, s80_39, s80_40, s80_41, s80_42, s80_45, s80_46, s80_49, s80_50, ldi_0, ldi_s, ldl_0, ldl_s, ldd_0, ldd_s, lda_0, lda_s, st1_0, st1_1, st2_0, st2_1, sti_0, sti_1, stj_0, stj_1, st1_2, sti_2, st2_2, stj_2, st1_3, sti_3, st2_3, stj_3, st1_4, sti_4, st2_4, stj_4, st1_5, sti_5, st2_5, stj_5, st1_6, sti_6, st2_6, stj_6, st1_7, sti_7, st2_7, stj_7, st1_8, sti_8, st2_8, stj_8, st1_9, sti_9, st2_9, stj_9, kil_n, kil_i, kil_r, kil_l, kil_d, gl_0, gl_s, cat_i, cat_r, true_and]
    rw [br_1 (by decide)]
    exact ⟨by decide, out_RR⟩
  · rw [Bool.not_eq_false] at h1
    rw [h1, br_0 (by decide)]
    refine c80_16r NF_m (sp_is hn) ?_
    simp only [s80_0, s80_1, s80_2, s80_5, s80_6, s80_7, s80_11, s80_14, s80_15, s80_19, s80_22, s80_23, s80_26, s80_27, s80_31, s80_34, s80_35, s80_38, s80_39, s80_40, s80_41, s80_42, s80_45, s80_46, s80_49, s80_50, ldi_0, ldi_s, ldl_0, ldl_s, ldd_0, ldd_s, lda_0, lda_s, st1_0, st1_1, st2_0, st2_1, sti_0, sti_1, stj_0, stj_1, st1_2, sti_2, st2_2, stj_2, st1_3, sti_3, st2_3, stj_3, st1_4, sti_4, st2_4, stj_4, st1_5, sti_5, st2_5, stj_5, st1_6, sti_6, st2_6, stj_6, st1_7, sti_7, st2_7, stj_7, st1_8, sti_8, st2_8, stj_8, st1_9, sti_9, st2_9, stj_9, kil_n, kil_i, kil_r, kil_l, kil_d, gl_0, gl_s, cat_i, cat_r, true_and]
    rw [hp.resolve_left (by rw [h1]; decide), br_0 (by decide)]
    refine c80_28r NF_m sp_throws_t ?_
    simp only [s80_0, s80_1, s80_2, s80_5, s80_6, s80_7, s80_11, s80_14, s80_15, s80_19, s80_22, s80_23, s80_26, s80_27, s80_31, s80_34, s80_35, s80_38, s80_39, s80_40, s80_41, s80_42, s80_45, s80_46, s80_49, s80_50, ldi_0, ldi_s, ldl_0, ldl_s, ldd_0, ldd_s, lda_0, lda_s, st1_0, st1_1, st2_0, st2_1, sti_0, sti_1, stj_0, stj_1, st1_2, sti_2, st2_2, stj_2, st1_3, sti_3, st2_3, stj_3, st1_4, sti_4, st2_4, stj_4, st1_5, sti_5, st2_5, stj_5, st1_6, sti_6, st2_6, stj_6, st1_7, sti_7, st2_7, stj_7, st1_8, sti_8, st2_8, stj_8, st1_9, sti_9, st2_9, stj_9, kil_n, kil_i, kil_r, kil_l, kil_d, gl_0, gl_s, cat_i, cat_r, true_and]
    rw [br_1 (by decide)]
    exact ⟨by decide, out_RR⟩
theorem sp_mway_eq (hn : n ≤ 9) {p : Int32} (hp : pl n p = true) : Sp 20 47 [.ref m, .int p, .int p] (NF h m t t2 ns G th n) z 0 0 (RR (some (.int 0)) (NF h m t t2 ns G 2 n) z) := by
  refine Sp_in (al := [some (.ref m), some (.int p), some (.int p), none]) ?_
  simp only [s47_0, s47_1, s47_2, s47_5, s47_6, s47_7, s47_11, s47_14, s47_15, s47_19, s47_22, s47_23, s47_26, s47_27, s47_31, s47_34, s47_35, s47_36, s47_37, s47_40, s47_41, s47_44, s47_45, s47_49, s47_52, s47_53, s47_54, s47_55, s47_58, s47_59, s47_60, s47_61, s47_62, s47_65, s47_66, s47_69, s47_70, s47_71, s47_72, s47_75, s47_76, s47_77, s47_78, s47_79, s47_80, s47_81, s47_84, s47_85, s47_86, s47_87, s47_88, s47_89, s47_90, ldi_0, ldi_s, ldl_0, ldl_s, ldd_0, ldd_s, lda_0, lda_s, st1_0, st1_1, st2_0, st2_1, sti_0, sti_1, stj_0, stj_1, st1_2, sti_2, st2_2, stj_2, st1_3, sti_3, st2_3, stj_3, st1_4, sti_4, st2_4, stj_4, st1_5, sti_5, st2_5, stj_5, st1_6, sti_6, st2_6, stj_6, st1_7, sti_7, st2_7, stj_7, st1_8, sti_8, st2_8, stj_8, st1_9, sti_9, st2_9, stj_9, kil_n, kil_i, kil_r, kil_l, kil_d, gl_0, gl_s, cat_i, cat_r, true_and, NF_th]
  refine c47_8r NF_m (sp_is hn) ?_
  simp only [s47_0, s47_1, s47_2, s47_5, s47_6, s47_7, s47_11, s47_14, s47_15, s47_19, s47_22, s47_23, s47_26, s47_27, s47_31, s47_34, s47_35, s47_36, s47_37, s47_40, s47_41, s47_44, s47_45, s47_49, s47_52, s47_53, s47_54, s47_55, s47_58, s47_59, s47_60, s47_61, s47_62, s47_65, s47_66, s47_69, s47_70, s47_71, s47_72, s47_75, s47_76, s47_77, s47_78, s47_79, s47_80, s47_81, s47_84, s47_85, s47_86, s47_87, s47_88, s47_89, s47_90, ldi_0, ldi_s, ldl_0, ldl_s, ldd_0, ldd_s, lda_0, lda_s, st1_0, st1_1, st2_0, st2_1, sti_0, sti_1, stj_0, stj_1, st1_2, sti_2, st2_2, stj_2, st1_3, sti_3, st2_3, stj_3, st1_4, sti_4, st2_4, stj_4, st1_5, sti_5, st2_5, stj_5, st1_6, sti_6, st2_6, stj_6, st1_7, sti_7, st2_7, stj_7, st1_8, sti_8, st2_8, stj_8, st1_9, sti_9, st2_9, stj_9, kil_n, kil_i, kil_r, kil_l, kil_d, gl_0, gl_s, cat_i, cat_r, true_and, hp]
  rw [br_0 (by decide)]
  refine c47_16r NF_m (sp_is hn) ?_
  simp only [s47_0, s47_1, s47_2, s47_5, s47_6, s47_7, s47_11, s47_14, s47_15, s47_19, s47_22, s47_23, s47_26, s47_27, s47_31, s47_34, s47_35, s47_36, s47_37, s47_40, s47_41, s47_44, s47_45, s47_49, s47_52, s47_53, s47_54, s47_55, s47_58, s47_59, s47_60, s47_61, s47_62, s47_65, s47_66, s47_69, s47_70, s47_71, s47_72, s47_75, s47_76, s47_77, s47_78, s47_79, s47_80, s47_81, s47_84, s47_85, s47_86, s47_87, s47_88, s47_89, s47_90, ldi_0, ldi_s, ldl_0, ldl_s, ldd_0, ldd_s, lda_0, lda_s, st1_0, st1_1, st2_0, st2_1, sti_0, sti_1, stj_0, stj_1, st1_2, sti_2, st2_2, stj_2, st1_3, sti_3, st2_3, stj_3, st1_4, sti_4, st2_4, stj_4, st1_5, sti_5, st2_5, stj_5, st1_6, sti_6, st2_6, stj_6, st1_7, sti_7, st2_7, stj_7, st1_8, sti_8, st2_8, stj_8, st1_9, sti_9, st2_9, stj_9, kil_n, kil_i, kil_r, kil_l, kil_d, gl_0, gl_s, cat_i, cat_r, true_and, hp]
  rw [br_1 (by decide)]
  refine c47_28r NF_m (sp_throws_f NF_m) ?_
  simp only [s47_0, s47_1, s47_2, s47_5, s47_6, s47_7, s47_11, s47_14, s47_15, s47_19, s47_22, s47_23, s47_26, s47_27, s47_31, s47_34, s47_35, s47_36, s47_37, s47_40, s47_41, s47_44, s47_45, s47_49, s47_52, s47_53, s47_54, s47_55, s47_58, s47_59, s47_60, s47_61, s47_62, s47_65, s47_66, s47_69, s47_70, s47_71, s47_72, s47_75, s47_76, s47_77, s47_78, s47_79, s47_80, s47_81, s47_84, s47_85, s47_86, s47_87, s47_88, s47_89, s47_90, ldi_0, ldi_s, ldl_0, ldl_s, ldd_0, ldd_s, lda_0, lda_s, st1_0, st1_1, st2_0, st2_1, sti_0, sti_1, stj_0, stj_1, st1_2, sti_2, st2_2, stj_2, st1_3, sti_3, st2_3, stj_3, st1_4, sti_4, st2_4, stj_4, st1_5, sti_5, st2_5, stj_5, st1_6, sti_6, st2_6, stj_6, st1_7, sti_7, st2_7, stj_7, st1_8, sti_8, st2_8, stj_8, st1_9, sti_9, st2_9, stj_9, kil_n, kil_i, kil_r, kil_l, kil_d, gl_0, gl_s, cat_i, cat_r, true_and]
  rw [br_0 (by decide), br_0 (by simp)]
  refine c47_46r NF_m sp_throws_t ?_
  simp only [s47_0, s47_1, s47_2, s47_5, s47_6, s47_7, s47_11, s47_14, s47_15, s47_19, s47_22, s47_23, s47_26, s47_27, s47_31, s47_34, s47_35, s47_36, s47_37, s47_40, s47_41, s47_44, s47_45, s47_49, s47_52, s47_53, s47_54, s47_55, s47_58, s47_59, s47_60, s47_61, s47_62, s47_65, s47_66, s47_69, s47_70, s47_71, s47_72, s47_75, s47_76, s47_77, s47_78, s47_79, s47_80, s47_81, s47_84, s47_85, s47_86, s47_87, s47_88, s47_89, s47_90, ldi_0, ldi_s, ldl_0, ldl_s, ldd_0, ldd_s, lda_0, lda_s, st1_0, st1_1, st2_0, st2_1, sti_0, sti_1, stj_0, stj_1, st1_2, sti_2, st2_2, stj_2, st1_3, sti_3, st2_3, stj_3, st1_4, sti_4, st2_4, stj_4, st1_5, sti_5, st2_5, stj_5, st1_6, sti_6, st2_6, stj_6, st1_7, sti_7, st2_7, stj_7, st1_8, sti_8, st2_8, stj_8, st1_9, sti_9, st2_9, stj_9, kil_n, kil_i, kil_r, kil_l, kil_d, gl_0, gl_s, cat_i, cat_r, true_and]
  rw [br_0 (by decide)]
  exact ⟨by decide, out_RR⟩
theorem sp_mdraw_eq (hn : n ≤ 9) {p : Int32} (hp : pl n p = true) : Sp 20 55 [.ref m, .int p, .int p] (NF h m t t2 ns G th n) z 0 0 (RR (some (.int 0)) (NF h m t t2 ns G 2 n) z) := by
  refine Sp_in (al := [some (.ref m), some (.int p), some (.int p)]) ?_
  simp only [s55_0, s55_1, s55_2, s55_5, s55_6, s55_7, s55_11, s55_14, s55_15, s55_19, s55_22, s55_23, s55_26, s55_27, s55_31, s55_34, s55_35, s55_36, s55_37, s55_40, s55_41, s55_44, s55_45, s55_49, s55_52, s55_53, s55_54, s55_55, s55_58, s55_59, s55_62, s55_63, s55_67, s55_68, s55_69, s55_72, s55_73, s55_74, s55_77, s55_81, ldi_0, ldi_s, ldl_0, ldl_s, ldd_0, ldd_s, lda_0, lda_s, st1_0, st1_1, st2_0, st2_1, sti_0, sti_1, stj_0, stj_1, st1_2, sti_2, st2_2, stj_2, st1_3, sti_3, st2_3, stj_3, st1_4, sti_4, st2_4, stj_4, st1_5, sti_5, st2_5, stj_5, st1_6, sti_6, st2_6, stj_6, st1_7, sti_7, st2_7, stj_7, st1_8, sti_8, st2_8, stj_8, st1_9, sti_9, st2_9, stj_9, kil_n, kil_i, kil_r, kil_l, kil_d, gl_0, gl_s, cat_i, cat_r, true_and, NF_th]
  refine c55_8r NF_m (sp_is hn) ?_
  simp only [s55_0, s55_1, s55_2, s55_5, s55_6, s55_7, s55_11, s55_14, s55_15, s55_19, s55_22, s55_23, s55_26, s55_27, s55_31, s55_34, s55_35, s55_36, s55_37, s55_40, s55_41, s55_44, s55_45, s55_49, s55_52, s55_53, s55_54, s55_55, s55_58, s55_59, s55_62, s55_63, s55_67, s55_68, s55_69, s55_72, s55_73, s55_74, s55_77, s55_81, ldi_0, ldi_s, ldl_0, ldl_s, ldd_0, ldd_s, lda_0, lda_s, st1_0, st1_1, st2_0, st2_1, sti_0, sti_1, stj_0, stj_1, st1_2, sti_2, st2_2, stj_2, st1_3, sti_3, st2_3, stj_3, st1_4, sti_4, st2_4, stj_4, st1_5, sti_5, st2_5, stj_5, st1_6, sti_6, st2_6, stj_6, st1_7, sti_7, st2_7, stj_7, st1_8, sti_8, st2_8, stj_8, st1_9, sti_9, st2_9, stj_9, kil_n, kil_i, kil_r, kil_l, kil_d, gl_0, gl_s, cat_i, cat_r, true_and, hp]
  rw [br_0 (by decide)]
  refine c55_16r NF_m (sp_is hn) ?_
  simp only [s55_0, s55_1, s55_2, s55_5, s55_6, s55_7, s55_11, s55_14, s55_15, s55_19, s55_22, s55_23, s55_26, s55_27, s55_31, s55_34, s55_35, s55_36, s55_37, s55_40, s55_41, s55_44, s55_45, s55_49, s55_52, s55_53, s55_54, s55_55, s55_58, s55_59, s55_62, s55_63, s55_67, s55_68, s55_69, s55_72, s55_73, s55_74, s55_77, s55_81, ldi_0, ldi_s, ldl_0, ldl_s, ldd_0, ldd_s, lda_0, lda_s, st1_0, st1_1, st2_0, st2_1, sti_0, sti_1, stj_0, stj_1, st1_2, sti_2, st2_2, stj_2, st1_3, sti_3, st2_3, stj_3, st1_4, sti_4, st2_4, stj_4, st1_5, sti_5, st2_5, stj_5, st1_6, sti_6, st2_6, stj_6, st1_7, sti_7, st2_7, stj_7, st1_8, sti_8, st2_8, stj_8, st1_9, sti_9, st2_9, stj_9, kil_n, kil_i, kil_r, kil_l, kil_d, gl_0, gl_s, cat_i, cat_r, true_and, hp]
  rw [br_1 (by decide)]
  refine c55_28r NF_m (sp_throws_f NF_m) ?_
  simp only [s55_0, s55_1, s55_2, s55_5, s55_6, s55_7, s55_11, s55_14, s55_15, s55_19, s55_22, s55_23, s55_26, s55_27, s55_31, s55_34, s55_35, s55_36, s55_37, s55_40, s55_41, s55_44, s55_45, s55_49, s55_52, s55_53, s55_54, s55_55, s55_58, s55_59, s55_62, s55_63, s55_67, s55_68, s55_69, s55_72, s55_73, s55_74, s55_77, s55_81, ldi_0, ldi_s, ldl_0, ldl_s, ldd_0, ldd_s, lda_0, lda_s, st1_0, st1_1, st2_0, st2_1, sti_0, sti_1, stj_0, stj_1, st1_2, sti_2, st2_2, stj_2, st1_3, sti_3, st2_3, stj_3, st1_4, sti_4, st2_4, stj_4, st1_5, sti_5, st2_5, stj_5, st1_6, sti_6, st2_6, stj_6, st1_7, sti_7, st2_7, stj_7, st1_8, sti_8, st2_8, stj_8, st1_9, sti_9, st2_9, stj_9, kil_n, kil_i, kil_r, kil_l, kil_d, gl_0, gl_s, cat_i, cat_r, true_and]
  rw [br_0 (by decide), br_0 (by simp)]
  refine c55_46r NF_m sp_throws_t ?_
  simp only [s55_0, s55_1, s55_2, s55_5, s55_6, s55_7, s55_11, s55_14, s55_15, s55_19, s55_22, s55_23, s55_26, s55_27, s55_31, s55_34, s55_35, s55_36, s55_37, s55_40, s55_41, s55_44, s55_45, s55_49, s55_52, s55_53, s55_54, s55_55, s55_58, s55_59, s55_62, s55_63, s55_67, s55_68, s55_69, s55_72, s55_73, s55_74, s55_77, s55_81, ldi_0, ldi_s, ldl_0, ldl_s, ldd_0, ldd_s, lda_0, lda_s, st1_0, st1_1, st2_0, st2_1, sti_0, sti_1, stj_0, stj_1, st1_2, sti_2, st2_2, stj_2, st1_3, sti_3, st2_3, stj_3, st1_4, sti_4, st2_4, stj_4, st1_5, sti_5, st2_5, stj_5, st1_6, sti_6, st2_6, stj_6, st1_7, sti_7, st2_7, stj_7, st1_8, sti_8, st2_8, stj_8, st1_9, sti_9, st2_9, stj_9, kil_n, kil_i, kil_r, kil_l, kil_d, gl_0, gl_s, cat_i, cat_r, true_and]
  rw [br_0 (by decide)]
  exact out_RR
theorem gCut_upd {a b : Nat} : gUpd (gUpd G a b false) b a false = gCut a b G := by
  funext p q
  unfold gUpd gCut
  by_cases h1 : p = b ∧ q = a
  · rw [if_pos h1, h1.1, h1.2]
    simp
  · rw [if_neg h1]
    by_cases h2 : p = a ∧ q = b
    · rw [if_pos h2, h2.1, h2.2]
      simp
    · rw [if_neg h2]
      simp [h1, h2]
theorem sp_mtear (hB : MB h m t t2 SG) (hG : GOK n G) {p q : Nat} (hp : p < n) (hq : q < n) (hg : G p q = true) : Sp 20 51 [.ref m, .int (nI p), .int (nI q)] (NF h m t t2 ns G th n) z 0 0 (RR (some (.int (nI (wys (gCut p q G) n)))) (NF h m t t2 ns (gCut p q G) 0 n) z) := by
  have hn := hG.1
  refine Sp_in (al := [some (.ref m), some (.int (nI p)), some (.int (nI q))]) ?_
  simp only [s51_0, s51_1, s51_2, s51_5, s51_6, s51_7, s51_11, s51_14, s51_15, s51_19, s51_22, s51_23, s51_26, s51_27, s51_31, s51_34, s51_35, s51_36, s51_39, s51_40, s51_41, s51_42, s51_43, s51_46, s51_47, s51_50, s51_51, s51_55, s51_58, s51_59, s51_60, s51_61, s51_64, s51_65, s51_66, s51_67, s51_68, s51_69, s51_70, s51_73, s51_74, s51_75, s51_76, s51_77, s51_78, s51_82, ldi_0, ldi_s, ldl_0, ldl_s, ldd_0, ldd_s, lda_0, lda_s, st1_0, st1_1, st2_0, st2_1, sti_0, sti_1, stj_0, stj_1, st1_2, sti_2, st2_2, stj_2, st1_3, sti_3, st2_3, stj_3, st1_4, sti_4, st2_4, stj_4, st1_5, sti_5, st2_5, stj_5, st1_6, sti_6, st2_6, stj_6, st1_7, sti_7, st2_7, stj_7, st1_8, sti_8, st2_8, stj_8, st1_9, sti_9, st2_9, stj_9, kil_n, kil_i, kil_r, kil_l, kil_d, gl_0, gl_s, cat_i, cat_r, true_and, NF_th]
  refine c51_8r NF_m (sp_is hn) ?_
  simp only [s51_0, s51_1, s51_2, s51_5, s51_6, s51_7, s51_11, s51_14, s51_15, s51_19, s51_22, s51_23, s51_26, s51_27, s51_31, s51_34, s51_35, s51_36, s51_39, s51_40, s51_41, s51_42, s51_43, s51_46, s51_47, s51_50, s51_51, s51_55, s51_58, s51_59, s51_60, s51_61, s51_64, s51_65, s51_66, s51_67, s51_68, s51_69, s51_70, s51_73, s51_74, s51_75, s51_76, s51_77, s51_78, s51_82, ldi_0, ldi_s, ldl_0, ldl_s, ldd_0, ldd_s, lda_0, lda_s, st1_0, st1_1, st2_0, st2_1, sti_0, sti_1, stj_0, stj_1, st1_2, sti_2, st2_2, stj_2, st1_3, sti_3, st2_3, stj_3, st1_4, sti_4, st2_4, stj_4, st1_5, sti_5, st2_5, stj_5, st1_6, sti_6, st2_6, stj_6, st1_7, sti_7, st2_7, stj_7, st1_8, sti_8, st2_8, stj_8, st1_9, sti_9, st2_9, stj_9, kil_n, kil_i, kil_r, kil_l, kil_d, gl_0, gl_s, cat_i, cat_r, true_and, pl_nat hn hp]
  rw [br_0 (by decide)]
  refine c51_16r NF_m (sp_is hn) ?_
  simp only [s51_0, s51_1, s51_2, s51_5, s51_6, s51_7, s51_11, s51_14, s51_15, s51_19, s51_22, s51_23, s51_26, s51_27, s51_31, s51_34, s51_35, s51_36, s51_39, s51_40, s51_41, s51_42, s51_43, s51_46, s51_47, s51_50, s51_51, s51_55, s51_58, s51_59, s51_60, s51_61, s51_64, s51_65, s51_66, s51_67, s51_68, s51_69, s51_70, s51_73, s51_74, s51_75, s51_76, s51_77, s51_78, s51_82, ldi_0, ldi_s, ldl_0, ldl_s, ldd_0, ldd_s, lda_0, lda_s, st1_0, st1_1, st2_0, st2_1, sti_0, sti_1, stj_0, stj_1, st1_2, sti_2, st2_2, stj_2, st1_3, sti_3, st2_3, stj_3, st1_4, sti_4, st2_4, stj_4, st1_5, sti_5, st2_5, stj_5, st1_6, sti_6, st2_6, stj_6, st1_7, sti_7, st2_7, stj_7, st1_8, sti_8, st2_8, stj_8, st1_9, sti_9, st2_9, stj_9, kil_n, kil_i, kil_r, kil_l, kil_d, gl_0, gl_s, cat_i, cat_r, true_and, pl_nat hn hq]
  rw [br_1 (by decide)]
  refine c51_28r NF_m (sp_throws_f NF_m) ?_
  simp only [s51_0, s51_1, s51_2, s51_5, s51_6, s51_7, s51_11, s51_14, s51_15, s51_19, s51_22, s51_23, s51_26, s51_27, s51_31, s51_34, s51_35, s51_36, s51_39, s51_40, s51_41, s51_42, s51_43, s51_46, s51_47, s51_50, s51_51, s51_55, s51_58, s51_59, s51_60, s51_61, s51_64, s51_65, s51_66, s51_67, s51_68, s51_69, s51_70, s51_73, s51_74, s51_75, s51_76, s51_77, s51_78, s51_82, ldi_0, ldi_s, ldl_0, ldl_s, ldd_0, ldd_s, lda_0, lda_s, st1_0, st1_1, st2_0, st2_1, sti_0, sti_1, stj_0, stj_1, st1_2, sti_2, st2_2, stj_2, st1_3, sti_3, st2_3, stj_3, st1_4, sti_4, st2_4, stj_4, st1_5, sti_5, st2_5, stj_5, st1_6, sti_6, st2_6, stj_6, st1_7, sti_7, st2_7, stj_7, st1_8, sti_8, st2_8, stj_8, st1_9, sti_9, st2_9, stj_9, kil_n, kil_i, kil_r, kil_l, kil_d, gl_0, gl_s, cat_i, cat_r, true_and, NF_gf, ald_tb (NF_Tb hB) (show p < 9 by omega), ald_tb (NF_Tb hB) (show q < 9 by omega), ald_tr (NF_Tb hB) (show p < 9 by omega) (show q < 9 by omega), hg]
  rw [br_0 (by decide), br_1 (by decide)]
  refine c51_52r NF_m (sp_throws_f NF_m) ?_
  simp only [s51_0, s51_1, s51_2, s51_5, s51_6, s51_7, s51_11, s51_14, s51_15, s51_19, s51_22, s51_23, s51_26, s51_27, s51_31, s51_34, s51_35, s51_36, s51_39, s51_40, s51_41, s51_42, s51_43, s51_46, s51_47, s51_50, s51_51, s51_55, s51_58, s51_59, s51_60, s51_61, s51_64, s51_65, s51_66, s51_67, s51_68, s51_69, s51_70, s51_73, s51_74, s51_75, s51_76, s51_77, s51_78, s51_82, ldi_0, ldi_s, ldl_0, ldl_s, ldd_0, ldd_s, lda_0, lda_s, st1_0, st1_1, st2_0, st2_1, sti_0, sti_1, stj_0, stj_1, st1_2, sti_2, st2_2, stj_2, st1_3, sti_3, st2_3, stj_3, st1_4, sti_4, st2_4, stj_4, st1_5, sti_5, st2_5, stj_5, st1_6, sti_6, st2_6, stj_6, st1_7, sti_7, st2_7, stj_7, st1_8, sti_8, st2_8, stj_8, st1_9, sti_9, st2_9, stj_9, kil_n, kil_i, kil_r, kil_l, kil_d, gl_0, gl_s, cat_i, cat_r, true_and, NF_gf, ald_tb (NF_Tb hB) (show p < 9 by omega), ald_tb (NF_Tb hB) (show q < 9 by omega), ald_tr (NF_Tb hB) (show p < 9 by omega) (show q < 9 by omega), narF, ast_tr (NF_Tb hB) (show p < 9 by omega) (show q < 9 by omega), NF_tab hB, ast_tr (NF_Tb hB) (show q < 9 by omega) (show p < 9 by omega), gCut_upd]
  rw [br_1 (by decide)]
  refine c51_79r NF_m (sp_mways hB hn) ?_
  simp only [s51_0, s51_1, s51_2, s51_5, s51_6, s51_7, s51_11, s51_14, s51_15, s51_19, s51_22, s51_23, s51_26, s51_27, s51_31, s51_34, s51_35, s51_36, s51_39, s51_40, s51_41, s51_42, s51_43, s51_46, s51_47, s51_50, s51_51, s51_55, s51_58, s51_59, s51_60, s51_61, s51_64, s51_65, s51_66, s51_67, s51_68, s51_69, s51_70, s51_73, s51_74, s51_75, s51_76, s51_77, s51_78, s51_82, ldi_0, ldi_s, ldl_0, ldl_s, ldd_0, ldd_s, lda_0, lda_s, st1_0, st1_1, st2_0, st2_1, sti_0, sti_1, stj_0, stj_1, st1_2, sti_2, st2_2, stj_2, st1_3, sti_3, st2_3, stj_3, st1_4, sti_4, st2_4, stj_4, st1_5, sti_5, st2_5, stj_5, st1_6, sti_6, st2_6, stj_6, st1_7, sti_7, st2_7, stj_7, st1_8, sti_8, st2_8, stj_8, st1_9, sti_9, st2_9, stj_9, kil_n, kil_i, kil_r, kil_l, kil_d, gl_0, gl_s, cat_i, cat_r, true_and]
  exact out_RR
theorem sp_mtear_none (hB : MB h m t t2 SG) (hG : GOK n G) {p q : Nat} (hp : p < n) (hq : q < n) (hg : G p q = false) : Sp 20 51 [.ref m, .int (nI p), .int (nI q)] (NF h m t t2 ns G th n) z 0 0 (RR (some (.int 0)) (NF h m t t2 ns G 2 n) z) := by
  have hn := hG.1
  refine Sp_in (al := [some (.ref m), some (.int (nI p)), some (.int (nI q))]) ?_
  simp only [s51_0, s51_1, s51_2, s51_5, s51_6, s51_7, s51_11, s51_14, s51_15, s51_19, s51_22, s51_23, s51_26, s51_27, s51_31, s51_34, s51_35, s51_36, s51_39, s51_40, s51_41, s51_42, s51_43, s51_46, s51_47, s51_50, s51_51, s51_55, s51_58, s51_59, s51_60, s51_61, s51_64, s51_65, s51_66, s51_67, s51_68, s51_69, s51_70, s51_73, s51_74, s51_75, s51_76, s51_77, s51_78, s51_82, ldi_0, ldi_s, ldl_0, ldl_s, ldd_0, ldd_s, lda_0, lda_s, st1_0, st1_1, st2_0, st2_1, sti_0, sti_1, stj_0, stj_1, st1_2, sti_2, st2_2, stj_2, st1_3, sti_3, st2_3, stj_3, st1_4, sti_4, st2_4, stj_4, st1_5, sti_5, st2_5, stj_5, st1_6, sti_6, st2_6, stj_6, st1_7, sti_7, st2_7, stj_7, st1_8, sti_8, st2_8, stj_8, st1_9, sti_9, st2_9, stj_9, kil_n, kil_i, kil_r, kil_l, kil_d, gl_0, gl_s, cat_i, cat_r, true_and, NF_th]
  refine c51_8r NF_m (sp_is hn) ?_
  simp only [s51_0, s51_1, s51_2, s51_5, s51_6, s51_7, s51_11, s51_14, s51_15, s51_19, s51_22, s51_23, s51_26, s51_27, s51_31, s51_34, s51_35, s51_36, s51_39, s51_40, s51_41, s51_42, s51_43, s51_46, s51_47, s51_50, s51_51, s51_55, s51_58, s51_59, s51_60, s51_61, s51_64, s51_65, s51_66, s51_67, s51_68, s51_69, s51_70, s51_73, s51_74, s51_75, s51_76, s51_77, s51_78, s51_82, ldi_0, ldi_s, ldl_0, ldl_s, ldd_0, ldd_s, lda_0, lda_s, st1_0, st1_1, st2_0, st2_1, sti_0, sti_1, stj_0, stj_1, st1_2, sti_2, st2_2, stj_2, st1_3, sti_3, st2_3, stj_3, st1_4, sti_4, st2_4, stj_4, st1_5, sti_5, st2_5, stj_5, st1_6, sti_6, st2_6, stj_6, st1_7, sti_7, st2_7, stj_7, st1_8, sti_8, st2_8, stj_8, st1_9, sti_9, st2_9, stj_9, kil_n, kil_i, kil_r, kil_l, kil_d, gl_0, gl_s, cat_i, cat_r, true_and, pl_nat hn hp]
  rw [br_0 (by decide)]
  refine c51_16r NF_m (sp_is hn) ?_
  simp only [s51_0, s51_1, s51_2, s51_5, s51_6, s51_7, s51_11, s51_14, s51_15, s51_19, s51_22, s51_23, s51_26, s51_27, s51_31, s51_34, s51_35, s51_36, s51_39, s51_40, s51_41, s51_42, s51_43, s51_46, s51_47, s51_50, s51_51, s51_55, s51_58, s51_59, s51_60, s51_61, s51_64, s51_65, s51_66, s51_67, s51_68, s51_69, s51_70, s51_73, s51_74, s51_75, s51_76, s51_77, s51_78, s51_82, ldi_0, ldi_s, ldl_0, ldl_s, ldd_0, ldd_s, lda_0, lda_s, st1_0, st1_1, st2_0, st2_1, sti_0, sti_1, stj_0, stj_1, st1_2, sti_2, st2_2, stj_2, st1_3, sti_3, st2_3, stj_3, st1_4, sti_4, st2_4, stj_4, st1_5, sti_5, st2_5, stj_5, st1_6, sti_6, st2_6, stj_6, st1_7, sti_7, st2_7, stj_7, st1_8, sti_8, st2_8, stj_8, st1_9, sti_9, st2_9, stj_9, kil_n, kil_i, kil_r, kil_l, kil_d, gl_0, gl_s, cat_i, cat_r, true_and, pl_nat hn hq]
  rw [br_1 (by decide)]
  refine c51_28r NF_m (sp_throws_f NF_m) ?_
  simp only [s51_0, s51_1, s51_2, s51_5, s51_6, s51_7, s51_11, s51_14, s51_15, s51_19, s51_22, s51_23, s51_26, s51_27, s51_31, s51_34, s51_35, s51_36, s51_39, s51_40, s51_41, s51_42, s51_43, s51_46, s51_47, s51_50, s51_51, s51_55, s51_58, s51_59, s51_60, s51_61, s51_64, s51_65, s51_66, s51_67, s51_68, s51_69, s51_70, s51_73, s51_74, s51_75, s51_76, s51_77, s51_78, s51_82, ldi_0, ldi_s, ldl_0, ldl_s, ldd_0, ldd_s, lda_0, lda_s, st1_0, st1_1, st2_0, st2_1, sti_0, sti_1, stj_0, stj_1, st1_2, sti_2, st2_2, stj_2, st1_3, sti_3, st2_3, stj_3, st1_4, sti_4, st2_4, stj_4, st1_5, sti_5, st2_5, stj_5, st1_6, sti_6, st2_6, stj_6, st1_7, sti_7, st2_7, stj_7, st1_8, sti_8, st2_8, stj_8, st1_9, sti_9, st2_9, stj_9, kil_n, kil_i, kil_r, kil_l, kil_d, gl_0, gl_s, cat_i, cat_r, true_and, NF_gf, ald_tb (NF_Tb hB) (show p < 9 by omega), ald_tb (NF_Tb hB) (show q < 9 by omega), ald_tr (NF_Tb hB) (show p < 9 by omega) (show q < 9 by omega), hg]
  rw [br_0 (by decide), br_0 (by decide)]
  refine c51_52r NF_m sp_throws_t ?_
  simp only [s51_0, s51_1, s51_2, s51_5, s51_6, s51_7, s51_11, s51_14, s51_15, s51_19, s51_22, s51_23, s51_26, s51_27, s51_31, s51_34, s51_35, s51_36, s51_39, s51_40, s51_41, s51_42, s51_43, s51_46, s51_47, s51_50, s51_51, s51_55, s51_58, s51_59, s51_60, s51_61, s51_64, s51_65, s51_66, s51_67, s51_68, s51_69, s51_70, s51_73, s51_74, s51_75, s51_76, s51_77, s51_78, s51_82, ldi_0, ldi_s, ldl_0, ldl_s, ldd_0, ldd_s, lda_0, lda_s, st1_0, st1_1, st2_0, st2_1, sti_0, sti_1, stj_0, stj_1, st1_2, sti_2, st2_2, stj_2, st1_3, sti_3, st2_3, stj_3, st1_4, sti_4, st2_4, stj_4, st1_5, sti_5, st2_5, stj_5, st1_6, sti_6, st2_6, stj_6, st1_7, sti_7, st2_7, stj_7, st1_8, sti_8, st2_8, stj_8, st1_9, sti_9, st2_9, stj_9, kil_n, kil_i, kil_r, kil_l, kil_d, gl_0, gl_s, cat_i, cat_r, true_and]
  rw [br_0 (by decide)]
  exact out_RR
theorem sp_mdraw (hB : MB h m t t2 SG) (hG : GOK n G) {p q : Nat} (hp : p < n) (hq : q < n) (hpq : p ≠ q) : Sp 20 55 [.ref m, .int (nI p), .int (nI q)] (NF h m t t2 ns G th n) z 0 0 (RR (some (.int (nI (wys (gDel q (gMrg p q n G)) (n - 1))))) (NF h m t t2 ns (gDel q (gMrg p q n G)) 0 (n - 1)) z) := by
  have hn := hG.1
  refine Sp_in (al := [some (.ref m), some (.int (nI p)), some (.int (nI q))]) ?_
  simp only [s55_0, s55_1, s55_2, s55_5, s55_6, s55_7, s55_11, s55_14, s55_15, s55_19, s55_22, s55_23, s55_26, s55_27, s55_31, s55_34, s55_35, s55_36, s55_37, s55_40, s55_41, s55_44, s55_45, s55_49, s55_52, s55_53, s55_54, s55_55, s55_58, s55_59, s55_62, s55_63, s55_67, s55_68, s55_69, s55_72, s55_73, s55_74, s55_77, s55_81, ldi_0, ldi_s, ldl_0, ldl_s, ldd_0, ldd_s, lda_0, lda_s, st1_0, st1_1, st2_0, st2_1, sti_0, sti_1, stj_0, stj_1, st1_2, sti_2, st2_2, stj_2, st1_3, sti_3, st2_3, stj_3, st1_4, sti_4, st2_4, stj_4, st1_5, sti_5, st2_5, stj_5, st1_6, sti_6, st2_6, stj_6, st1_7, sti_7, st2_7, stj_7, st1_8, sti_8, st2_8, stj_8, st1_9, sti_9, st2_9, stj_9, kil_n, kil_i, kil_r, kil_l, kil_d, gl_0, gl_s, cat_i, cat_r, true_and, NF_th]
  refine c55_8r NF_m (sp_is hn) ?_
  simp only [s55_0, s55_1, s55_2, s55_5, s55_6, s55_7, s55_11, s55_14, s55_15, s55_19, s55_22, s55_23, s55_26, s55_27, s55_31, s55_34, s55_35, s55_36, s55_37, s55_40, s55_41, s55_44, s55_45, s55_49, s55_52, s55_53, s55_54, s55_55, s55_58, s55_59, s55_62, s55_63, s55_67, s55_68, s55_69, s55_72, s55_73, s55_74, s55_77, s55_81, ldi_0, ldi_s, ldl_0, ldl_s, ldd_0, ldd_s, lda_0, lda_s, st1_0, st1_1, st2_0, st2_1, sti_0, sti_1, stj_0, stj_1, st1_2, sti_2, st2_2, stj_2, st1_3, sti_3, st2_3, stj_3, st1_4, sti_4, st2_4, stj_4, st1_5, sti_5, st2_5, stj_5, st1_6, sti_6, st2_6, stj_6, st1_7, sti_7, st2_7, stj_7, st1_8, sti_8, st2_8, stj_8, st1_9, sti_9, st2_9, stj_9, kil_n, kil_i, kil_r, kil_l, kil_d, gl_0, gl_s, cat_i, cat_r, true_and, pl_nat hn hp]
  rw [br_0 (by decide)]
  refine c55_16r NF_m (sp_is hn) ?_
  simp only [s55_0, s55_1, s55_2, s55_5, s55_6, s55_7, s55_11, s55_14, s55_15, s55_19, s55_22, s55_23, s55_26, s55_27, s55_31, s55_34, s55_35, s55_36, s55_37, s55_40, s55_41, s55_44, s55_45, s55_49, s55_52, s55_53, s55_54, s55_55, s55_58, s55_59, s55_62, s55_63, s55_67, s55_68, s55_69, s55_72, s55_73, s55_74, s55_77, s55_81, ldi_0, ldi_s, ldl_0, ldl_s, ldd_0, ldd_s, lda_0, lda_s, st1_0, st1_1, st2_0, st2_1, sti_0, sti_1, stj_0, stj_1, st1_2, sti_2, st2_2, stj_2, st1_3, sti_3, st2_3, stj_3, st1_4, sti_4, st2_4, stj_4, st1_5, sti_5, st2_5, stj_5, st1_6, sti_6, st2_6, stj_6, st1_7, sti_7, st2_7, stj_7, st1_8, sti_8, st2_8, stj_8, st1_9, sti_9, st2_9, stj_9, kil_n, kil_i, kil_r, kil_l, kil_d, gl_0, gl_s, cat_i, cat_r, true_and, pl_nat hn hq]
  rw [br_1 (by decide)]
  refine c55_28r NF_m (sp_throws_f NF_m) ?_
  simp only [s55_0, s55_1, s55_2, s55_5, s55_6, s55_7, s55_11, s55_14, s55_15, s55_19, s55_22, s55_23, s55_26, s55_27, s55_31, s55_34, s55_35, s55_36, s55_37, s55_40, s55_41, s55_44, s55_45, s55_49, s55_52, s55_53, s55_54, s55_55, s55_58, s55_59, s55_62, s55_63, s55_67, s55_68, s55_69, s55_72, s55_73, s55_74, s55_77, s55_81, ldi_0, ldi_s, ldl_0, ldl_s, ldd_0, ldd_s, lda_0, lda_s, st1_0, st1_1, st2_0, st2_1, sti_0, sti_1, stj_0, stj_1, st1_2, sti_2, st2_2, stj_2, st1_3, sti_3, st2_3, stj_3, st1_4, sti_4, st2_4, stj_4, st1_5, sti_5, st2_5, stj_5, st1_6, sti_6, st2_6, stj_6, st1_7, sti_7, st2_7, stj_7, st1_8, sti_8, st2_8, stj_8, st1_9, sti_9, st2_9, stj_9, kil_n, kil_i, kil_r, kil_l, kil_d, gl_0, gl_s, cat_i, cat_r, true_and]
  rw [br_0 (by decide), br_1 (nI_inj9 hp hq hn hpq)]
  refine c55_46r NF_m (sp_throws_f NF_m) ?_
  simp only [s55_0, s55_1, s55_2, s55_5, s55_6, s55_7, s55_11, s55_14, s55_15, s55_19, s55_22, s55_23, s55_26, s55_27, s55_31, s55_34, s55_35, s55_36, s55_37, s55_40, s55_41, s55_44, s55_45, s55_49, s55_52, s55_53, s55_54, s55_55, s55_58, s55_59, s55_62, s55_63, s55_67, s55_68, s55_69, s55_72, s55_73, s55_74, s55_77, s55_81, ldi_0, ldi_s, ldl_0, ldl_s, ldd_0, ldd_s, lda_0, lda_s, st1_0, st1_1, st2_0, st2_1, sti_0, sti_1, stj_0, stj_1, st1_2, sti_2, st2_2, stj_2, st1_3, sti_3, st2_3, stj_3, st1_4, sti_4, st2_4, stj_4, st1_5, sti_5, st2_5, stj_5, st1_6, sti_6, st2_6, stj_6, st1_7, sti_7, st2_7, stj_7, st1_8, sti_8, st2_8, stj_8, st1_9, sti_9, st2_9, stj_9, kil_n, kil_i, kil_r, kil_l, kil_d, gl_0, gl_s, cat_i, cat_r, true_and, NF_gf]
  rw [br_1 (by decide)]
  refine c55_64r (sp_draws (NF_Tb hB) hG hp hq hpq) ?_
  rw [NF_tab hB]
  obtain ⟨k, rfl⟩ : ∃ k, n = k + 1 := ⟨n - 1, by omega⟩
  simp only [s55_0, s55_1, s55_2, s55_5, s55_6, s55_7, s55_11, s55_14, s55_15, s55_19, s55_22, s55_23, s55_26, s55_27, s55_31, s55_34, s55_35, s55_36, s55_37, s55_40, s55_41, s55_44, s55_45, s55_49, s55_52, s55_53, s55_54, s55_55, s55_58, s55_59, s55_62, s55_63, s55_67, s55_68, s55_69, s55_72, s55_73, s55_74, s55_77, s55_81, ldi_0, ldi_s, ldl_0, ldl_s, ldd_0, ldd_s, lda_0, lda_s, st1_0, st1_1, st2_0, st2_1, sti_0, sti_1, stj_0, stj_1, st1_2, sti_2, st2_2, stj_2, st1_3, sti_3, st2_3, stj_3, st1_4, sti_4, st2_4, stj_4, st1_5, sti_5, st2_5, stj_5, st1_6, sti_6, st2_6, stj_6, st1_7, sti_7, st2_7, stj_7, st1_8, sti_8, st2_8, stj_8, st1_9, sti_9, st2_9, stj_9, kil_n, kil_i, kil_r, kil_l, kil_d, gl_0, gl_s, cat_i, cat_r, true_and, NF_gf, nI_pred, NF_n]
  refine c55_78r NF_m (sp_mways hB (by omega)) ?_
  simp only [s55_0, s55_1, s55_2, s55_5, s55_6, s55_7, s55_11, s55_14, s55_15, s55_19, s55_22, s55_23, s55_26, s55_27, s55_31, s55_34, s55_35, s55_36, s55_37, s55_40, s55_41, s55_44, s55_45, s55_49, s55_52, s55_53, s55_54, s55_55, s55_58, s55_59, s55_62, s55_63, s55_67, s55_68, s55_69, s55_72, s55_73, s55_74, s55_77, s55_81, ldi_0, ldi_s, ldl_0, ldl_s, ldd_0, ldd_s, lda_0, lda_s, st1_0, st1_1, st2_0, st2_1, sti_0, sti_1, stj_0, stj_1, st1_2, sti_2, st2_2, stj_2, st1_3, sti_3, st2_3, stj_3, st1_4, sti_4, st2_4, stj_4, st1_5, sti_5, st2_5, stj_5, st1_6, sti_6, st2_6, stj_6, st1_7, sti_7, st2_7, stj_7, st1_8, sti_8, st2_8, stj_8, st1_9, sti_9, st2_9, stj_9, kil_n, kil_i, kil_r, kil_l, kil_d, gl_0, gl_s, cat_i, cat_r, true_and]
  exact out_RR
theorem sp_misWay (hB : MB h m t t2 SG) (hG : GOK n G) {p q : Nat} (hp : p < n) (hq : q < n) : Sp 20 80 [.ref m, .int (nI p), .int (nI q)] (NF h m t t2 ns G th n) z 0 0 (RR (some (.int (bI (G p q)))) (NF h m t t2 ns G 0 n) z) := by
  have hn := hG.1
  refine Sp_in (al := [some (.ref m), some (.int (nI p)), some (.int (nI q))]) ?_
  simp only [s80_0, s80_1, s80_2, s80_5, s80_6, s80_7, s80_11, s80_14, s80_15, s80_19, s80_22, s80_23, s80_26, s80_27, s80_31, s80_34, s80_35, s80_38, s80_39, s80_40, s80_41, s80_42, s80_45, s80_46, s80_49, s80_50, ldi_0, ldi_s, ldl_0, ldl_s, ldd_0, ldd_s, lda_0, lda_s, st1_0, st1_1, st2_0, st2_1, sti_0, sti_1, stj_0, stj_1, st1_2, sti_2, st2_2, stj_2, st1_3, sti_3, st2_3, stj_3, st1_4, sti_4, st2_4, stj_4, st1_5, sti_5, st2_5, stj_5, st1_6, sti_6, st2_6, stj_6, st1_7, sti_7, st2_7, stj_7, st1_8, sti_8, st2_8, stj_8, st1_9, sti_9, st2_9, stj_9, kil_n, kil_i, kil_r, kil_l, kil_d, gl_0, gl_s, cat_i, cat_r, true_and, NF_th]
  refine c80_8r NF_m (sp_is hn) ?_
  simp only [s80_0, s80_1, s80_2, s80_5, s80_6, s80_7, s80_11, s80_14, s80_15, s80_19, s80_22, s80_23, s80_26, s80_27, s80_31, s80_34, s80_35, s80_38, s80_39, s80_40, s80_41, s80_42, s80_45, s80_46, s80_49, s80_50, ldi_0, ldi_s, ldl_0, ldl_s, ldd_0, ldd_s, lda_0, lda_s, st1_0, st1_1, st2_0, st2_1, sti_0, sti_1, stj_0, stj_1, st1_2, sti_2, st2_2, stj_2, st1_3, sti_3, st2_3, stj_3, st1_4, sti_4, st2_4, stj_4, st1_5, sti_5, st2_5, stj_5, st1_6, sti_6, st2_6, stj_6, st1_7, sti_7, st2_7, stj_7, st1_8, sti_8, st2_8, stj_8, st1_9, sti_9, st2_9, stj_9, kil_n, kil_i, kil_r, kil_l, kil_d, gl_0, gl_s, cat_i, cat_r, true_and, pl_nat hn hp]
  rw [br_0 (by decide)]
  refine c80_16r NF_m (sp_is hn) ?_
  simp only [s80_0, s80_1, s80_2, s80_5, s80_6, s80_7, s80_11, s80_14, s80_15, s80_19, s80_22, s80_23, s80_26, s80_27, s80_31, s80_34, s80_35, s80_38, s80_39, s80_40, s80_41, s80_42, s80_45, s80_46, s80_49, s80_50, ldi_0, ldi_s, ldl_0, ldl_s, ldd_0, ldd_s, lda_0, lda_s, st1_0, st1_1, st2_0, st2_1, sti_0, sti_1, stj_0, stj_1, st1_2, sti_2, st2_2, stj_2, st1_3, sti_3, st2_3, stj_3, st1_4, sti_4, st2_4, stj_4, st1_5, sti_5, st2_5, stj_5, st1_6, sti_6, st2_6, stj_6, st1_7, sti_7, st2_7, stj_7, st1_8, sti_8, st2_8, stj_8, st1_9, sti_9, st2_9, stj_9, kil_n, kil_i, kil_r, kil_l, kil_d, gl_0, gl_s, cat_i, cat_r, true_and, pl_nat hn hq]
  rw [br_1 (by decide)]
  refine c80_28r NF_m (sp_throws_f NF_m) ?_
  simp only [s80_0, s80_1, s80_2, s80_5, s80_6, s80_7, s80_11, s80_14, s80_15, s80_19, s80_22, s80_23, s80_26, s80_27, s80_31, s80_34, s80_35, s80_38, s80_39, s80_40, s80_41, s80_42, s80_45, s80_46, s80_49, s80_50, ldi_0, ldi_s, ldl_0, ldl_s, ldd_0, ldd_s, lda_0, lda_s, st1_0, st1_1, st2_0, st2_1, sti_0, sti_1, stj_0, stj_1, st1_2, sti_2, st2_2, stj_2, st1_3, sti_3, st2_3, stj_3, st1_4, sti_4, st2_4, stj_4, st1_5, sti_5, st2_5, stj_5, st1_6, sti_6, st2_6, stj_6, st1_7, sti_7, st2_7, stj_7, st1_8, sti_8, st2_8, stj_8, st1_9, sti_9, st2_9, stj_9, kil_n, kil_i, kil_r, kil_l, kil_d, gl_0, gl_s, cat_i, cat_r, true_and, NF_gf, ald_tb (NF_Tb hB) (show p < 9 by omega), ald_tb (NF_Tb hB) (show q < 9 by omega), ald_tr (NF_Tb hB) (show p < 9 by omega) (show q < 9 by omega)]
  rw [br_0 (by decide)]
  refine ⟨fun h1 => ?_, fun h1 => ?_⟩
  · rw [bI_0] at h1
    exact ⟨by decide, out_eq (by rw [h1]; rfl) rfl rfl⟩
  · rw [bI_0, Bool.not_eq_false] at h1
    exact ⟨by decide, out_eq (by rw [h1]; rfl) rfl rfl⟩
/-- two places exchanged, told place by place -/
def gSwp (a b k : Nat) (G : Nat → Nat → Bool) : Nat → Nat → Bool := fun p q =>
  if p = a ∧ q ≠ a ∧ q ≠ b ∧ q < k then G b q
  else if p = b ∧ q ≠ a ∧ q ≠ b ∧ q < k then G a q
  else if q = a ∧ p ≠ a ∧ p ≠ b ∧ p < k then G p b
  else if q = b ∧ p ≠ a ∧ p ≠ b ∧ p < k then G p a
  else G p q
def gDfk (a b : Nat) (G : Nat → Nat → Bool) : Nat → Bool
  | 0 => false
  | k + 1 => gDfk a b G k || (decide (k ≠ a) && decide (k ≠ b) && decide (G a k ≠ G b k))
theorem gSwp_0 {a b : Nat} : gSwp a b 0 G = G := by
  funext p q
  unfold gSwp
  rw [if_neg (by omega), if_neg (by omega), if_neg (by omega), if_neg (by omega)]
theorem GOK.sym (hG : GOK n G) (p q : Nat) : G p q = G q p := by
  cases h1 : G p q
  · cases h2 : G q p
    · rfl
    · exact absurd (hG.2 _ _ h2).2.2.2 (by rw [h1]; decide)
  · exact ((hG.2 _ _ h1).2.2.2).symm
theorem GOK.irr (hG : GOK n G) (p : Nat) : G p p = false := by
  cases h1 : G p p
  · rfl
  · exact absurd rfl (hG.2 _ _ h1).2.2.1
theorem gSwp_n (hG : GOK n G) {a b : Nat} (ha : a < n) (hb : b < n) : gSwp a b n G = gSwap a b G := by
  funext p q
  have s := hG.sym
  have i := hG.irr
  have l1 : ∀ p q, n ≤ p → G p q = false := fun p q h => hG.lt' h
  have l2 : ∀ p q, n ≤ q → G p q = false := fun p q h => hG.lt h
  unfold gSwp gSwap tr
  grind
theorem gSwp_e (hG : GOK n G) {a b k : Nat} (h : k = a ∨ k = b ∨ G a k = G b k) : gSwp a b (k + 1) G = gSwp a b k G := by
  funext p q
  have s := hG.sym
  unfold gSwp
  grind (splits := 40)
theorem gSwp_s (hG : GOK n G) {a b k : Nat} (h1 : k ≠ a) (h2 : k ≠ b) (h3 : G a k ≠ G b k) : gUpd (gUpd (gUpd (gUpd (gSwp a b k G) a k (!G a k)) k a (!G a k)) b k (G a k)) k b (G a k) = gSwp a b (k + 1) G := by
  have e : G b k = !G a k := by cases h4 : G a k <;> cases h5 : G b k <;> simp_all
  funext p q
  have s := hG.sym
  unfold gUpd gSwp
  grind (splits := 40)
theorem gDfk_n (hG : GOK n G) {a b : Nat} : gDfk a b G n = gDif a b G := by
  have key : ∀ k, gDfk a b G k = true ↔ ∃ q, q < k ∧ q ≠ a ∧ q ≠ b ∧ G a q ≠ G b q := by
    intro k
    induction k with
    | zero => simp [gDfk]
    | succ k ih =>
      unfold gDfk
      simp only [Bool.or_eq_true, ih, Bool.and_eq_true, decide_eq_true_eq]
      constructor
      · rintro (⟨q, h1, h2⟩ | ⟨⟨h1, h2⟩, h3⟩)
        · exact ⟨q, by omega, h2⟩
        · exact ⟨k, by omega, h1, h2, h3⟩
      · rintro ⟨q, h1, h2, h3, h4⟩
        by_cases hq : q = k
        · subst hq
          exact Or.inr ⟨⟨h2, h3⟩, h4⟩
        · exact Or.inl ⟨q, by omega, h2, h3, h4⟩
  rw [Bool.eq_iff_iff, key]
  unfold gDif
  simp only [List.any_eq_true, List.mem_range, Bool.and_eq_true, decide_eq_true_eq]
  constructor
  · rintro ⟨q, h1, h2, h3, h4⟩
    exact ⟨q, by have := hG.1; omega, ⟨h2, h3⟩, h4⟩
  · rintro ⟨q, h1, ⟨h2, h3⟩, h4⟩
    refine ⟨q, ?_, h2, h3, h4⟩
    apply Decidable.byContradiction
    intro h5
    exact h4 (by rw [hG.lt (by omega), hG.lt (by omega)])
theorem gSwp_old {a b k : Nat} (h1 : k ≠ a) (h2 : k ≠ b) : gSwp a b k G a k = G a k ∧ gSwp a b k G b k = G b k := by
  unfold gSwp
  constructor
  · rw [if_neg (by omega), if_neg (by omega), if_neg (by omega), if_neg (by omega)]
  · rw [if_neg (by omega), if_neg (by omega), if_neg (by omega), if_neg (by omega)]
theorem sp_mswap (hB : MB h m t t2 SG) (hG : GOK n G) {p q : Nat} (hp : p < n) (hq : q < n) : Sp 20 61 [.ref m, .int (nI p), .int (nI q)] (NF h m t t2 ns G th n) z 0 0 (RR (some (.int (bI (gDif p q G)))) (NF h m t t2 ns (gSwap p q G) 0 n) z) := by
  have hn := hG.1
  refine Sp_in (al := [some (.ref m), some (.int (nI p)), some (.int (nI q)), none, none, none]) ?_
  simp only [s61_0, s61_1, s61_2, s61_5, s61_6, s61_7, s61_11, s61_14, s61_15, s61_19, s61_22, s61_23, s61_26, s61_27, s61_31, s61_34, s61_35, s61_36, s61_37, s61_38, s61_39, s61_43, s61_44, s61_47, s61_50, s61_52, s61_53, s61_56, s61_58, s61_59, s61_62, s61_63, s61_66, s61_67, s61_68, s61_70, s61_71, s61_72, s61_75, s61_76, s61_77, s61_79, s61_80, s61_83, s61_86, s61_87, s61_88, s61_89, s61_92, s61_93, s61_94, s61_96, s61_97, s61_99, s61_100, s61_103, s61_104, s61_105, s61_107, s61_109, s61_112, s61_113, s61_116, s61_117, s61_118, s61_119, s61_122, s61_124, s61_125, s61_126, s61_128, s61_131, s61_132, s61_135, s61_136, s61_137, s61_138, s61_141, s61_142, s61_143, s61_145, s61_147, s61_148, s61_149, s61_152, s61_154, s61_155, s61_156, s61_158, s61_159, s61_162, s61_165, s61_166, ldi_0, ldi_s, ldl_0, ldl_s, ldd_0, ldd_s, lda_0, lda_s, st1_0, st1_1, st2_0, st2_1, sti_0, sti_1, stj_0, stj_1, st1_2, sti_2, st2_2, stj_2, st1_3, sti_3, st2_3, stj_3, st1_4, sti_4, st2_4, stj_4, st1_5, sti_5, st2_5, stj_5, st1_6, sti_6, st2_6, stj_6, st1_7, sti_7, st2_7, stj_7, st1_8, sti_8, st2_8, stj_8, st1_9, sti_9, st2_9, stj_9, kil_n, kil_i, kil_r, kil_l, kil_d, gl_0, gl_s, cat_i, cat_r, true_and, NF_th]
  refine c61_8r NF_m (sp_is hn) ?_
  simp only [s61_0, s61_1, s61_2, s61_5, s61_6, s61_7, s61_11, s61_14, s61_15, s61_19, s61_22, s61_23, s61_26, s61_27, s61_31, s61_34, s61_35, s61_36, s61_37, s61_38, s61_39, s61_43, s61_44, s61_47, s61_50, s61_52, s61_53, s61_56, s61_58, s61_59, s61_62, s61_63, s61_66, s61_67, s61_68, s61_70, s61_71, s61_72, s61_75, s61_76, s61_77, s61_79, s61_80, s61_83, s61_86, s61_87, s61_88, s61_89, s61_92, s61_93, s61_94, s61_96, s61_97, s61_99, s61_100, s61_103, s61_104, s61_105, s61_107, s61_109, s61_112, s61_113, s61_116, s61_117, s61_118, s61_119, s61_122, s61_124, s61_125, s61_126, s61_128, s61_131, s61_132, s61_135, s61_136, s61_137, s61_138, s61_141, s61_142, s61_143, s61_145, s61_147, s61_148, s61_149, s61_152, s61_154, s61_155, s61_156, s61_158, s61_159, s61_162, s61_165, s61_166, ldi_0, ldi_s, ldl_0, ldl_s, ldd_0, ldd_s, lda_0, lda_s, st1_0, st1_1, st2_0, st2_1, sti_0, sti_1, stj_0, stj_1, st1_2, sti_2, st2_2, stj_2, st1_3, sti_3, st2_3, stj_3, st1_4, sti_4, st2_4, stj_4, st1_5, sti_5, st2_5, stj_5, st1_6, sti_6, st2_6, stj_6, st1_7, sti_7, st2_7, stj_7, st1_8, sti_8, st2_8, stj_8, st1_9, sti_9, st2_9, stj_9, kil_n, kil_i, kil_r, kil_l, kil_d, gl_0, gl_s, cat_i, cat_r, true_and, pl_nat hn hp]
  rw [br_0 (by decide)]
  refine c61_16r NF_m (sp_is hn) ?_
  simp only [s61_0, s61_1, s61_2, s61_5, s61_6, s61_7, s61_11, s61_14, s61_15, s61_19, s61_22, s61_23, s61_26, s61_27, s61_31, s61_34, s61_35, s61_36, s61_37, s61_38, s61_39, s61_43, s61_44, s61_47, s61_50, s61_52, s61_53, s61_56, s61_58, s61_59, s61_62, s61_63, s61_66, s61_67, s61_68, s61_70, s61_71, s61_72, s61_75, s61_76, s61_77, s61_79, s61_80, s61_83, s61_86, s61_87, s61_88, s61_89, s61_92, s61_93, s61_94, s61_96, s61_97, s61_99, s61_100, s61_103, s61_104, s61_105, s61_107, s61_109, s61_112, s61_113, s61_116, s61_117, s61_118, s61_119, s61_122, s61_124, s61_125, s61_126, s61_128, s61_131, s61_132, s61_135, s61_136, s61_137, s61_138, s61_141, s61_142, s61_143, s61_145, s61_147, s61_148, s61_149, s61_152, s61_154, s61_155, s61_156, s61_158, s61_159, s61_162, s61_165, s61_166, ldi_0, ldi_s, ldl_0, ldl_s, ldd_0, ldd_s, lda_0, lda_s, st1_0, st1_1, st2_0, st2_1, sti_0, sti_1, stj_0, stj_1, st1_2, sti_2, st2_2, stj_2, st1_3, sti_3, st2_3, stj_3, st1_4, sti_4, st2_4, stj_4, st1_5, sti_5, st2_5, stj_5, st1_6, sti_6, st2_6, stj_6, st1_7, sti_7, st2_7, stj_7, st1_8, sti_8, st2_8, stj_8, st1_9, sti_9, st2_9, stj_9, kil_n, kil_i, kil_r, kil_l, kil_d, gl_0, gl_s, cat_i, cat_r, true_and, pl_nat hn hq]
  rw [br_1 (by decide)]
  refine c61_28r NF_m (sp_throws_f NF_m) ?_
  simp only [s61_0, s61_1, s61_2, s61_5, s61_6, s61_7, s61_11, s61_14, s61_15, s61_19, s61_22, s61_23, s61_26, s61_27, s61_31, s61_34, s61_35, s61_36, s61_37, s61_38, s61_39, s61_43, s61_44, s61_47, s61_50, s61_52, s61_53, s61_56, s61_58, s61_59, s61_62, s61_63, s61_66, s61_67, s61_68, s61_70, s61_71, s61_72, s61_75, s61_76, s61_77, s61_79, s61_80, s61_83, s61_86, s61_87, s61_88, s61_89, s61_92, s61_93, s61_94, s61_96, s61_97, s61_99, s61_100, s61_103, s61_104, s61_105, s61_107, s61_109, s61_112, s61_113, s61_116, s61_117, s61_118, s61_119, s61_122, s61_124, s61_125, s61_126, s61_128, s61_131, s61_132, s61_135, s61_136, s61_137, s61_138, s61_141, s61_142, s61_143, s61_145, s61_147, s61_148, s61_149, s61_152, s61_154, s61_155, s61_156, s61_158, s61_159, s61_162, s61_165, s61_166, ldi_0, ldi_s, ldl_0, ldl_s, ldd_0, ldd_s, lda_0, lda_s, st1_0, st1_1, st2_0, st2_1, sti_0, sti_1, stj_0, stj_1, st1_2, sti_2, st2_2, stj_2, st1_3, sti_3, st2_3, stj_3, st1_4, sti_4, st2_4, stj_4, st1_5, sti_5, st2_5, stj_5, st1_6, sti_6, st2_6, stj_6, st1_7, sti_7, st2_7, stj_7, st1_8, sti_8, st2_8, stj_8, st1_9, sti_9, st2_9, stj_9, kil_n, kil_i, kil_r, kil_l, kil_d, gl_0, gl_s, cat_i, cat_r, true_and]
  rw [br_1 (by decide)]
  have key : ∀ k, k ≤ n → ∀ b : Option Value, aW (Sp 19) 61 0 0 (RR (some (.int (bI (gDif p q G)))) (NF h m t t2 ns (gSwap p q G) 0 n) z) 41 [some (.ref m), some (.int (nI p)), some (.int (nI q)), some (.int (bI (gDfk p q G k))), some (.int (nI k)), b] [] (NF h m t t2 ns (gSwp p q k G) 0 n) z 0 0 := by
    refine aUp ?_ fun k hk ih => ?_
    · intro b
      rw [s61_41]
      simp only [s61_0, s61_1, s61_2, s61_5, s61_6, s61_7, s61_11, s61_14, s61_15, s61_19, s61_22, s61_23, s61_26, s61_27, s61_31, s61_34, s61_35, s61_36, s61_37, s61_38, s61_39, s61_43, s61_44, s61_47, s61_50, s61_52, s61_53, s61_56, s61_58, s61_59, s61_62, s61_63, s61_66, s61_67, s61_68, s61_70, s61_71, s61_72, s61_75, s61_76, s61_77, s61_79, s61_80, s61_83, s61_86, s61_87, s61_88, s61_89, s61_92, s61_93, s61_94, s61_96, s61_97, s61_99, s61_100, s61_103, s61_104, s61_105, s61_107, s61_109, s61_112, s61_113, s61_116, s61_117, s61_118, s61_119, s61_122, s61_124, s61_125, s61_126, s61_128, s61_131, s61_132, s61_135, s61_136, s61_137, s61_138, s61_141, s61_142, s61_143, s61_145, s61_147, s61_148, s61_149, s61_152, s61_154, s61_155, s61_156, s61_158, s61_159, s61_162, s61_165, s61_166, ldi_0, ldi_s, ldl_0, ldl_s, ldd_0, ldd_s, lda_0, lda_s, st1_0, st1_1, st2_0, st2_1, sti_0, sti_1, stj_0, stj_1, st1_2, sti_2, st2_2, stj_2, st1_3, sti_3, st2_3, stj_3, st1_4, sti_4, st2_4, stj_4, st1_5, sti_5, st2_5, stj_5, st1_6, sti_6, st2_6, stj_6, st1_7, sti_7, st2_7, stj_7, st1_8, sti_8, st2_8, stj_8, st1_9, sti_9, st2_9, stj_9, kil_n, kil_i, kil_r, kil_l, kil_d, gl_0, gl_s, cat_i, cat_r, true_and, NF_gf]
      rw [br_1 (nI_le (Nat.le_refl _) (by omega)), gSwp_n hG hp hq, gDfk_n hG]
      exact ⟨nar_bI _, out_RR⟩
    · intro b
      have hk9 : k < 9 := by omega
      have hp9 : p < 9 := by omega
      have hq9 : q < 9 := by omega
      rw [s61_41]
      simp only [s61_0, s61_1, s61_2, s61_5, s61_6, s61_7, s61_11, s61_14, s61_15, s61_19, s61_22, s61_23, s61_26, s61_27, s61_31, s61_34, s61_35, s61_36, s61_37, s61_38, s61_39, s61_43, s61_44, s61_47, s61_50, s61_52, s61_53, s61_56, s61_58, s61_59, s61_62, s61_63, s61_66, s61_67, s61_68, s61_70, s61_71, s61_72, s61_75, s61_76, s61_77, s61_79, s61_80, s61_83, s61_86, s61_87, s61_88, s61_89, s61_92, s61_93, s61_94, s61_96, s61_97, s61_99, s61_100, s61_103, s61_104, s61_105, s61_107, s61_109, s61_112, s61_113, s61_116, s61_117, s61_118, s61_119, s61_122, s61_124, s61_125, s61_126, s61_128, s61_131, s61_132, s61_135, s61_136, s61_137, s61_138, s61_141, s61_142, s61_143, s61_145, s61_147, s61_148, s61_149, s61_152, s61_154, s61_155, s61_156, s61_158, s61_159, s61_162, s61_165, s61_166, ldi_0, ldi_s, ldl_0, ldl_s, ldd_0, ldd_s, lda_0, lda_s, st1_0, st1_1, st2_0, st2_1, sti_0, sti_1, stj_0, stj_1, st1_2, sti_2, st2_2, stj_2, st1_3, sti_3, st2_3, stj_3, st1_4, sti_4, st2_4, stj_4, st1_5, sti_5, st2_5, stj_5, st1_6, sti_6, st2_6, stj_6, st1_7, sti_7, st2_7, stj_7, st1_8, sti_8, st2_8, stj_8, st1_9, sti_9, st2_9, stj_9, kil_n, kil_i, kil_r, kil_l, kil_d, gl_0, gl_s, cat_i, cat_r, true_and, NF_gf, nI_1, ald_tb (NF_Tb hB) hp9, ald_tb (NF_Tb hB) hq9, ald_tb (NF_Tb hB) hk9, ald_tr (NF_Tb hB) hp9 hk9, ald_tr (NF_Tb hB) hq9 hk9, bI_inj]
      rw [br_0 (nI_ge hk (by omega)), nI_eq (by omega) (by omega), nI_eq (by omega) (by omega)]
      have ed : gDfk p q G (k + 1) = (gDfk p q G k || (decide (k ≠ p) && decide (k ≠ q) && decide (G p k ≠ G q k))) := rfl
      refine ⟨fun h1 => ?_, fun h1 => ⟨fun h2 => ?_, fun h2 => ?_⟩⟩
      · rw [gSwp_e hG (Or.inl h1), ed] at ih
        simp only [h1, ne_eq, not_true_eq_false, decide_false, Bool.false_and, Bool.or_false] at ih
        subst h1
        exact ih _
      · rw [gSwp_e hG (Or.inr (Or.inl h2)), ed] at ih
        simp only [h2, ne_eq, not_true_eq_false, decide_false, Bool.false_and, Bool.and_false, Bool.or_false] at ih
        subst h2
        exact ih _
      · obtain ⟨o1, o2⟩ := gSwp_old (G := G) h1 h2
        rw [o1, o2]
        refine ⟨fun h3 => ?_, fun h3 => ?_⟩
        · have h4 : G p k ≠ G q k := h3
          rw [← gSwp_s hG h1 h2 h4, ed] at ih
          simp only [h1, h2, ne_eq, not_false_eq_true, decide_true, Bool.and_true, Bool.true_and] at ih
          rw [decide_eq_true (show ¬ G p k = G q k from h4), Bool.or_true] at ih
          cases h5 : G p k
          · rw [h5] at ih
            rw [br_0 (by decide)]
            simp only [s61_0, s61_1, s61_2, s61_5, s61_6, s61_7, s61_11, s61_14, s61_15, s61_19, s61_22, s61_23, s61_26, s61_27, s61_31, s61_34, s61_35, s61_36, s61_37, s61_38, s61_39, s61_43, s61_44, s61_47, s61_50, s61_52, s61_53, s61_56, s61_58, s61_59, s61_62, s61_63, s61_66, s61_67, s61_68, s61_70, s61_71, s61_72, s61_75, s61_76, s61_77, s61_79, s61_80, s61_83, s61_86, s61_87, s61_88, s61_89, s61_92, s61_93, s61_94, s61_96, s61_97, s61_99, s61_100, s61_103, s61_104, s61_105, s61_107, s61_109, s61_112, s61_113, s61_116, s61_117, s61_118, s61_119, s61_122, s61_124, s61_125, s61_126, s61_128, s61_131, s61_132, s61_135, s61_136, s61_137, s61_138, s61_141, s61_142, s61_143, s61_145, s61_147, s61_148, s61_149, s61_152, s61_154, s61_155, s61_156, s61_158, s61_159, s61_162, s61_165, s61_166, ldi_0, ldi_s, ldl_0, ldl_s, ldd_0, ldd_s, lda_0, lda_s, st1_0, st1_1, st2_0, st2_1, sti_0, sti_1, stj_0, stj_1, st1_2, sti_2, st2_2, stj_2, st1_3, sti_3, st2_3, stj_3, st1_4, sti_4, st2_4, stj_4, st1_5, sti_5, st2_5, stj_5, st1_6, sti_6, st2_6, stj_6, st1_7, sti_7, st2_7, stj_7, st1_8, sti_8, st2_8, stj_8, st1_9, sti_9, st2_9, stj_9, kil_n, kil_i, kil_r, kil_l, kil_d, gl_0, gl_s, cat_i, cat_r, true_and, NF_gf, nI_1, ald_tb (NF_Tb hB) hp9, ald_tb (NF_Tb hB) hq9, ald_tb (NF_Tb hB) hk9, narT, narF, nar_bI, ast_tr (NF_Tb hB) hp9 hk9, ast_tr (NF_Tb hB) hk9 hp9, ast_tr (NF_Tb hB) hq9 hk9, ast_tr (NF_Tb hB) hk9 hq9, NF_tab hB]
            rw [br_0 (by decide)]
            exact ih _
          · rw [h5] at ih
            rw [br_1 (by decide)]
            simp only [s61_0, s61_1, s61_2, s61_5, s61_6, s61_7, s61_11, s61_14, s61_15, s61_19, s61_22, s61_23, s61_26, s61_27, s61_31, s61_34, s61_35, s61_36, s61_37, s61_38, s61_39, s61_43, s61_44, s61_47, s61_50, s61_52, s61_53, s61_56, s61_58, s61_59, s61_62, s61_63, s61_66, s61_67, s61_68, s61_70, s61_71, s61_72, s61_75, s61_76, s61_77, s61_79, s61_80, s61_83, s61_86, s61_87, s61_88, s61_89, s61_92, s61_93, s61_94, s61_96, s61_97, s61_99, s61_100, s61_103, s61_104, s61_105, s61_107, s61_109, s61_112, s61_113, s61_116, s61_117, s61_118, s61_119, s61_122, s61_124, s61_125, s61_126, s61_128, s61_131, s61_132, s61_135, s61_136, s61_137, s61_138, s61_141, s61_142, s61_143, s61_145, s61_147, s61_148, s61_149, s61_152, s61_154, s61_155, s61_156, s61_158, s61_159, s61_162, s61_165, s61_166, ldi_0, ldi_s, ldl_0, ldl_s, ldd_0, ldd_s, lda_0, lda_s, st1_0, st1_1, st2_0, st2_1, sti_0, sti_1, stj_0, stj_1, st1_2, sti_2, st2_2, stj_2, st1_3, sti_3, st2_3, stj_3, st1_4, sti_4, st2_4, stj_4, st1_5, sti_5, st2_5, stj_5, st1_6, sti_6, st2_6, stj_6, st1_7, sti_7, st2_7, stj_7, st1_8, sti_8, st2_8, stj_8, st1_9, sti_9, st2_9, stj_9, kil_n, kil_i, kil_r, kil_l, kil_d, gl_0, gl_s, cat_i, cat_r, true_and, NF_gf, nI_1, ald_tb (NF_Tb hB) hp9, ald_tb (NF_Tb hB) hq9, ald_tb (NF_Tb hB) hk9, narT, narF, nar_bI, ast_tr (NF_Tb hB) hp9 hk9, ast_tr (NF_Tb hB) hk9 hp9, ast_tr (NF_Tb hB) hq9 hk9, ast_tr (NF_Tb hB) hk9 hq9, NF_tab hB]
            rw [br_1 (by decide)]
            exact ih _
        · have h4 : G p k = G q k := Decidable.not_not.mp h3
          rw [gSwp_e hG (Or.inr (Or.inr h4)), ed] at ih
          rw [decide_eq_false (show ¬ (G p k ≠ G q k) from fun w => w h4), Bool.and_false, Bool.or_false] at ih
          exact ih _
  have k0 := key 0 (by omega) none
  rw [gSwp_0] at k0
  exact k0
end Mod3
