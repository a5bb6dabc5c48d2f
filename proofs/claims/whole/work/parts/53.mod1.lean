/-! ColourmapModel: tables -/
def wys (G : Nat → Nat → Bool) : Nat → Nat
  | 0 => 0
  | a + 1 => wys G a + cnt (G a) a
theorem wys_le (G : Nat → Nat → Bool) (a : Nat) : wys G a ≤ 9 * a + a * a := by
  induction a with
  | zero => exact Nat.le_refl _
  | succ a ih =>
    have := cnt_le (G a) a
    have e : wys G (a + 1) = wys G a + cnt (G a) a := rfl
    have e2 : (a + 1) * (a + 1) = a * a + a + a + 1 := by rw [Nat.succ_mul, Nat.mul_succ]; omega
    omega
section Mod1
variable {h : AH} {t n z : Nat} {G : Nat → Nat → Bool}
theorem sp_waysOf (hT : Tb h t G) (hn : n ≤ 9) : Sp 1 30 [.ref t, .int (nI n)] h z 0 0 (RR (some (.int (nI (wys G n)))) h z) := by
  refine Sp_in (al := [some (.ref t), some (.int (nI n)), none, none, none]) ?_
  simp only [s30_0, s30_1, s30_2, s30_3, s30_5, s30_6, s30_9, s30_10, s30_14, s30_15, s30_18, s30_19, s30_20, s30_21, s30_22, s30_24, s30_25, s30_28, s30_29, s30_32, s30_33, s30_34, s30_35, s30_38, s30_41, s30_44, s30_47, s30_48, ldi_0, ldi_s, ldl_0, ldl_s, ldd_0, ldd_s, lda_0, lda_s, st1_0, st1_1, st2_0, st2_1, sti_0, sti_1, stj_0, stj_1, st1_2, sti_2, st2_2, stj_2, st1_3, sti_3, st2_3, stj_3, st1_4, sti_4, st2_4, stj_4, st1_5, sti_5, st2_5, stj_5, st1_6, sti_6, st2_6, stj_6, st1_7, sti_7, st2_7, stj_7, st1_8, sti_8, st2_8, stj_8, st1_9, sti_9, st2_9, stj_9, kil_n, kil_i, kil_r, kil_l, kil_d, gl_0, gl_s, cat_i, cat_r, true_and]
  have key : ∀ a, a ≤ n → ∀ s : Option Value, aW (Sp 0) 30 0 0 (RR (some (.int (nI (wys G n)))) h z) 4 [some (.ref t), some (.int (nI n)), some (.int (nI (wys G a))), some (.int (nI a)), s] [] h z 0 0 := by
    refine aUp ?_ fun a ha ih => ?_
    · intro s
      rw [s30_4]
      simp only [s30_0, s30_1, s30_2, s30_3, s30_5, s30_6, s30_9, s30_10, s30_14, s30_15, s30_18, s30_19, s30_20, s30_21, s30_22, s30_24, s30_25, s30_28, s30_29, s30_32, s30_33, s30_34, s30_35, s30_38, s30_41, s30_44, s30_47, s30_48, ldi_0, ldi_s, ldl_0, ldl_s, ldd_0, ldd_s, lda_0, lda_s, st1_0, st1_1, st2_0, st2_1, sti_0, sti_1, stj_0, stj_1, st1_2, sti_2, st2_2, stj_2, st1_3, sti_3, st2_3, stj_3, st1_4, sti_4, st2_4, stj_4, st1_5, sti_5, st2_5, stj_5, st1_6, sti_6, st2_6, stj_6, st1_7, sti_7, st2_7, stj_7, st1_8, sti_8, st2_8, stj_8, st1_9, sti_9, st2_9, stj_9, kil_n, kil_i, kil_r, kil_l, kil_d, gl_0, gl_s, cat_i, cat_r, true_and]
      rw [br_1 (nI_le (Nat.le_refl _) (by omega))]
      exact out_RR
    · intro s
      rw [s30_4]
      simp only [s30_0, s30_1, s30_2, s30_3, s30_5, s30_6, s30_9, s30_10, s30_14, s30_15, s30_18, s30_19, s30_20, s30_21, s30_22, s30_24, s30_25, s30_28, s30_29, s30_32, s30_33, s30_34, s30_35, s30_38, s30_41, s30_44, s30_47, s30_48, ldi_0, ldi_s, ldl_0, ldl_s, ldd_0, ldd_s, lda_0, lda_s, st1_0, st1_1, st2_0, st2_1, sti_0, sti_1, stj_0, stj_1, st1_2, sti_2, st2_2, stj_2, st1_3, sti_3, st2_3, stj_3, st1_4, sti_4, st2_4, stj_4, st1_5, sti_5, st2_5, stj_5, st1_6, sti_6, st2_6, stj_6, st1_7, sti_7, st2_7, stj_7, st1_8, sti_8, st2_8, stj_8, st1_9, sti_9, st2_9, stj_9, kil_n, kil_i, kil_r, kil_l, kil_d, gl_0, gl_s, cat_i, cat_r, true_and]
      rw [br_0 (nI_ge ha (by omega))]
      have inn : ∀ b, b ≤ a → aW (Sp 0) 30 0 0 (RR (some (.int (nI (wys G n)))) h z) 12 [some (.ref t), some (.int (nI n)), some (.int (nI (wys G a + cnt (G a) b))), some (.int (nI a)), some (.int (nI b))] [] h z 0 0 := by
        refine aUp ?_ fun b hb ihb => ?_
        · rw [s30_12]
          simp only [s30_0, s30_1, s30_2, s30_3, s30_5, s30_6, s30_9, s30_10, s30_14, s30_15, s30_18, s30_19, s30_20, s30_21, s30_22, s30_24, s30_25, s30_28, s30_29, s30_32, s30_33, s30_34, s30_35, s30_38, s30_41, s30_44, s30_47, s30_48, ldi_0, ldi_s, ldl_0, ldl_s, ldd_0, ldd_s, lda_0, lda_s, st1_0, st1_1, st2_0, st2_1, sti_0, sti_1, stj_0, stj_1, st1_2, sti_2, st2_2, stj_2, st1_3, sti_3, st2_3, stj_3, st1_4, sti_4, st2_4, stj_4, st1_5, sti_5, st2_5, stj_5, st1_6, sti_6, st2_6, stj_6, st1_7, sti_7, st2_7, stj_7, st1_8, sti_8, st2_8, stj_8, st1_9, sti_9, st2_9, stj_9, kil_n, kil_i, kil_r, kil_l, kil_d, gl_0, gl_s, cat_i, cat_r, true_and]
          rw [br_1 (nI_le (Nat.le_refl _) (by omega)), nI_1]
          exact ih _
        · rw [s30_12]
          simp only [s30_0, s30_1, s30_2, s30_3, s30_5, s30_6, s30_9, s30_10, s30_14, s30_15, s30_18, s30_19, s30_20, s30_21, s30_22, s30_24, s30_25, s30_28, s30_29, s30_32, s30_33, s30_34, s30_35, s30_38, s30_41, s30_44, s30_47, s30_48, ldi_0, ldi_s, ldl_0, ldl_s, ldd_0, ldd_s, lda_0, lda_s, st1_0, st1_1, st2_0, st2_1, sti_0, sti_1, stj_0, stj_1, st1_2, sti_2, st2_2, stj_2, st1_3, sti_3, st2_3, stj_3, st1_4, sti_4, st2_4, stj_4, st1_5, sti_5, st2_5, stj_5, st1_6, sti_6, st2_6, stj_6, st1_7, sti_7, st2_7, stj_7, st1_8, sti_8, st2_8, stj_8, st1_9, sti_9, st2_9, stj_9, kil_n, kil_i, kil_r, kil_l, kil_d, gl_0, gl_s, cat_i, cat_r, true_and, ald_tb hT (show a < 9 by omega), ald_tr hT (show a < 9 by omega) (show b < 9 by omega)]
          rw [br_0 (nI_ge hb (by omega))]
          refine ⟨fun h1 => ?_, fun h1 => ?_⟩
          · rw [bI_0] at h1
            rw [cnt_f h1] at ihb
            rw [Int32.add_zero, nI_1]
            exact ihb
          · rw [bI_0, Bool.not_eq_false] at h1
            rw [cnt_t h1, ← Nat.add_assoc] at ihb
            rw [nI_1, nI_1]
            exact ihb
      exact inn 0 (by omega)
  exact key 0 (by omega) none
theorem sp_clears {m : Nat} (hT : Tb h t G) (hz : ∀ a b, 9 ≤ a ∨ 9 ≤ b → G a b = false) : Sp 1 16 [.ref m, .ref t] h z 0 0 (RR none (tbS h t gE) z) := by
  have hX : ∀ X, Tb (tbS h t X) t X := fun X => tbS_Tb hT.1
  refine Sp_in (al := [some (.ref m), some (.ref t), none, none]) ?_
  simp only [s16_0, s16_1, s16_3, s16_5, s16_8, s16_9, s16_11, s16_13, s16_16, s16_17, s16_18, s16_19, s16_20, s16_21, s16_22, s16_25, s16_28, s16_31, s16_34, ldi_0, ldi_s, ldl_0, ldl_s, ldd_0, ldd_s, lda_0, lda_s, st1_0, st1_1, st2_0, st2_1, sti_0, sti_1, stj_0, stj_1, st1_2, sti_2, st2_2, stj_2, st1_3, sti_3, st2_3, stj_3, st1_4, sti_4, st2_4, stj_4, st1_5, sti_5, st2_5, stj_5, st1_6, sti_6, st2_6, stj_6, st1_7, sti_7, st2_7, stj_7, st1_8, sti_8, st2_8, stj_8, st1_9, sti_9, st2_9, stj_9, kil_n, kil_i, kil_r, kil_l, kil_d, gl_0, gl_s, cat_i, cat_r, true_and]
  have key : ∀ a, a ≤ 9 → ∀ s : Option Value, aW (Sp 0) 16 0 0 (RR none (tbS h t gE) z) 2 [some (.ref m), some (.ref t), some (.int (nI a)), s] [] (tbS h t (stD a 0 gE G)) z 0 0 := by
    refine aUp ?_ fun a ha ih => ?_
    · intro s
      rw [s16_2]
      simp only [s16_0, s16_1, s16_3, s16_5, s16_8, s16_9, s16_11, s16_13, s16_16, s16_17, s16_18, s16_19, s16_20, s16_21, s16_22, s16_25, s16_28, s16_31, s16_34, ldi_0, ldi_s, ldl_0, ldl_s, ldd_0, ldd_s, lda_0, lda_s, st1_0, st1_1, st2_0, st2_1, sti_0, sti_1, stj_0, stj_1, st1_2, sti_2, st2_2, stj_2, st1_3, sti_3, st2_3, stj_3, st1_4, sti_4, st2_4, stj_4, st1_5, sti_5, st2_5, stj_5, st1_6, sti_6, st2_6, stj_6, st1_7, sti_7, st2_7, stj_7, st1_8, sti_8, st2_8, stj_8, st1_9, sti_9, st2_9, stj_9, kil_n, kil_i, kil_r, kil_l, kil_d, gl_0, gl_s, cat_i, cat_r, true_and]
      rw [br_1 (by decide), stD_end (A := gE) (B := G) (fun a b ha => (hz a b (Or.inl ha)).symm)]
      exact out_RR
    · intro s
      rw [s16_2]
      simp only [s16_0, s16_1, s16_3, s16_5, s16_8, s16_9, s16_11, s16_13, s16_16, s16_17, s16_18, s16_19, s16_20, s16_21, s16_22, s16_25, s16_28, s16_31, s16_34, ldi_0, ldi_s, ldl_0, ldl_s, ldd_0, ldd_s, lda_0, lda_s, st1_0, st1_1, st2_0, st2_1, sti_0, sti_1, stj_0, stj_1, st1_2, sti_2, st2_2, stj_2, st1_3, sti_3, st2_3, stj_3, st1_4, sti_4, st2_4, stj_4, st1_5, sti_5, st2_5, stj_5, st1_6, sti_6, st2_6, stj_6, st1_7, sti_7, st2_7, stj_7, st1_8, sti_8, st2_8, stj_8, st1_9, sti_9, st2_9, stj_9, kil_n, kil_i, kil_r, kil_l, kil_d, gl_0, gl_s, cat_i, cat_r, true_and]
      rw [nI_lit9, br_0 (nI_ge ha (by decide))]
      have inn : ∀ b, b ≤ 9 → aW (Sp 0) 16 0 0 (RR none (tbS h t gE) z) 10 [some (.ref m), some (.ref t), some (.int (nI a)), some (.int (nI b))] [] (tbS h t (stD a b gE G)) z 0 0 := by
        refine aUp ?_ fun b hb ihb => ?_
        · rw [s16_10]
          simp only [s16_0, s16_1, s16_3, s16_5, s16_8, s16_9, s16_11, s16_13, s16_16, s16_17, s16_18, s16_19, s16_20, s16_21, s16_22, s16_25, s16_28, s16_31, s16_34, ldi_0, ldi_s, ldl_0, ldl_s, ldd_0, ldd_s, lda_0, lda_s, st1_0, st1_1, st2_0, st2_1, sti_0, sti_1, stj_0, stj_1, st1_2, sti_2, st2_2, stj_2, st1_3, sti_3, st2_3, stj_3, st1_4, sti_4, st2_4, stj_4, st1_5, sti_5, st2_5, stj_5, st1_6, sti_6, st2_6, stj_6, st1_7, sti_7, st2_7, stj_7, st1_8, sti_8, st2_8, stj_8, st1_9, sti_9, st2_9, stj_9, kil_n, kil_i, kil_r, kil_l, kil_d, gl_0, gl_s, cat_i, cat_r, true_and]
          rw [br_1 (by decide), nI_1, stD_row (A := gE) (B := G) (fun b hb => (hz a b (Or.inr hb)).symm)]
          exact ih _
        · rw [s16_10]
          simp only [s16_0, s16_1, s16_3, s16_5, s16_8, s16_9, s16_11, s16_13, s16_16, s16_17, s16_18, s16_19, s16_20, s16_21, s16_22, s16_25, s16_28, s16_31, s16_34, ldi_0, ldi_s, ldl_0, ldl_s, ldd_0, ldd_s, lda_0, lda_s, st1_0, st1_1, st2_0, st2_1, sti_0, sti_1, stj_0, stj_1, st1_2, sti_2, st2_2, stj_2, st1_3, sti_3, st2_3, stj_3, st1_4, sti_4, st2_4, stj_4, st1_5, sti_5, st2_5, stj_5, st1_6, sti_6, st2_6, stj_6, st1_7, sti_7, st2_7, stj_7, st1_8, sti_8, st2_8, stj_8, st1_9, sti_9, st2_9, stj_9, kil_n, kil_i, kil_r, kil_l, kil_d, gl_0, gl_s, cat_i, cat_r, true_and, ald_tb (hX _) (show a < 9 by omega), narT, narF, ast_tr (hX _) (show a < 9 by omega) (show b < 9 by omega), tbS_tbS]
          rw [nI_lit9, br_0 (nI_ge hb (by decide)), nI_1, stD_v (v := false) (A := gE) (B := G) rfl]
          exact ihb
      exact inn 0 (by omega)
  have k0 := key 0 (by omega) none
  rw [stD_0 (fun a b h => absurd h (Nat.not_lt_zero a)), tbS_id hT] at k0
  exact k0
theorem sk_lt {g q : Nat} (h : q < g) : sk g q = q := if_pos h
theorem sk_ge {g q : Nat} (h : g ≤ q) : sk g q = q + 1 := if_neg (by omega)
theorem sp_goes {size : Int32} {p : Nat} (hT : Tb h t G) (hz : ∀ a b, 9 ≤ a ∨ 9 ≤ b → G a b = false) (hp : p < 9) : Sp 1 41 [.ref t, .int size, .int (nI p)] h z 0 0 (RR none (tbS h t (gDel p G)) z) := by
  have hX : ∀ X, Tb (tbS h t X) t X := fun X => tbS_Tb hT.1
  refine Sp_in (al := [some (.ref t), some (.int size), some (.int (nI p)), none, none]) ?_
  simp only [s41_0, s41_1, s41_3, s41_5, s41_8, s41_9, s41_13, s41_15, s41_18, s41_19, s41_20, s41_21, s41_23, s41_24, s41_25, s41_26, s41_28, s41_29, s41_30, s41_31, s41_32, s41_35, s41_38, s41_39, s41_40, s41_41, s41_43, s41_44, s41_45, s41_48, s41_51, s41_52, s41_54, s41_56, s41_59, s41_60, s41_64, s41_66, s41_69, s41_70, s41_71, s41_72, s41_74, s41_75, s41_76, s41_77, s41_78, s41_79, s41_81, s41_82, s41_83, s41_86, s41_89, s41_92, s41_95, s41_96, s41_98, s41_100, s41_103, s41_104, s41_106, s41_107, s41_108, s41_109, s41_110, s41_113, s41_116, ldi_0, ldi_s, ldl_0, ldl_s, ldd_0, ldd_s, lda_0, lda_s, st1_0, st1_1, st2_0, st2_1, sti_0, sti_1, stj_0, stj_1, st1_2, sti_2, st2_2, stj_2, st1_3, sti_3, st2_3, stj_3, st1_4, sti_4, st2_4, stj_4, st1_5, sti_5, st2_5, stj_5, st1_6, sti_6, st2_6, stj_6, st1_7, sti_7, st2_7, stj_7, st1_8, sti_8, st2_8, stj_8, st1_9, sti_9, st2_9, stj_9, kil_n, kil_i, kil_r, kil_l, kil_d, gl_0, gl_s, cat_i, cat_r, true_and]
  have z1 : ∀ a b, 9 ≤ a ∨ 9 ≤ b → G a (sk p b) = false := fun a b hab => hz _ _ (by unfold sk; split <;> omega)
  have z2 : ∀ a b, 9 ≤ a ∨ 9 ≤ b → G (sk p a) (sk p b) = false := fun a b hab => hz _ _ (by unfold sk; split <;> split <;> omega)
  have third : ∀ b, b ≤ 9 → ∀ s : Option Value, aW (Sp 0) 41 0 0 (RR none (tbS h t (gDel p G)) z) 97 [some (.ref t), some (.int size), some (.int (nI p)), some (.int (nI b)), s] [] (tbS h t (stD 8 b (gDel p G) (fun a b => G a (sk p b)))) z 0 0 := by
    refine aUp ?_ fun b hb ih => ?_
    · intro s
      rw [s41_97]
      simp only [s41_0, s41_1, s41_3, s41_5, s41_8, s41_9, s41_13, s41_15, s41_18, s41_19, s41_20, s41_21, s41_23, s41_24, s41_25, s41_26, s41_28, s41_29, s41_30, s41_31, s41_32, s41_35, s41_38, s41_39, s41_40, s41_41, s41_43, s41_44, s41_45, s41_48, s41_51, s41_52, s41_54, s41_56, s41_59, s41_60, s41_64, s41_66, s41_69, s41_70, s41_71, s41_72, s41_74, s41_75, s41_76, s41_77, s41_78, s41_79, s41_81, s41_82, s41_83, s41_86, s41_89, s41_92, s41_95, s41_96, s41_98, s41_100, s41_103, s41_104, s41_106, s41_107, s41_108, s41_109, s41_110, s41_113, s41_116, ldi_0, ldi_s, ldl_0, ldl_s, ldd_0, ldd_s, lda_0, lda_s, st1_0, st1_1, st2_0, st2_1, sti_0, sti_1, stj_0, stj_1, st1_2, sti_2, st2_2, stj_2, st1_3, sti_3, st2_3, stj_3, st1_4, sti_4, st2_4, stj_4, st1_5, sti_5, st2_5, stj_5, st1_6, sti_6, st2_6, stj_6, st1_7, sti_7, st2_7, stj_7, st1_8, sti_8, st2_8, stj_8, st1_9, sti_9, st2_9, stj_9, kil_n, kil_i, kil_r, kil_l, kil_d, gl_0, gl_s, cat_i, cat_r, true_and]
      rw [br_1 (by decide), stD_row (fun b hb => by rw [z1 _ _ (Or.inr hb)]; exact z2 _ _ (Or.inr hb)), stD_end (fun a b ha => by rw [z1 _ _ (Or.inl ha)]; exact z2 _ _ (Or.inl ha))]
      exact out_RR
    · intro s
      rw [s41_97]
      simp only [s41_0, s41_1, s41_3, s41_5, s41_8, s41_9, s41_13, s41_15, s41_18, s41_19, s41_20, s41_21, s41_23, s41_24, s41_25, s41_26, s41_28, s41_29, s41_30, s41_31, s41_32, s41_35, s41_38, s41_39, s41_40, s41_41, s41_43, s41_44, s41_45, s41_48, s41_51, s41_52, s41_54, s41_56, s41_59, s41_60, s41_64, s41_66, s41_69, s41_70, s41_71, s41_72, s41_74, s41_75, s41_76, s41_77, s41_78, s41_79, s41_81, s41_82, s41_83, s41_86, s41_89, s41_92, s41_95, s41_96, s41_98, s41_100, s41_103, s41_104, s41_106, s41_107, s41_108, s41_109, s41_110, s41_113, s41_116, ldi_0, ldi_s, ldl_0, ldl_s, ldd_0, ldd_s, lda_0, lda_s, st1_0, st1_1, st2_0, st2_1, sti_0, sti_1, stj_0, stj_1, st1_2, sti_2, st2_2, stj_2, st1_3, sti_3, st2_3, stj_3, st1_4, sti_4, st2_4, stj_4, st1_5, sti_5, st2_5, stj_5, st1_6, sti_6, st2_6, stj_6, st1_7, sti_7, st2_7, stj_7, st1_8, sti_8, st2_8, stj_8, st1_9, sti_9, st2_9, stj_9, kil_n, kil_i, kil_r, kil_l, kil_d, gl_0, gl_s, cat_i, cat_r, true_and]
      rw [show (8 : Int32) = nI 8 from rfl, ald_tb (hX _) (by decide)]
      simp only [s41_0, s41_1, s41_3, s41_5, s41_8, s41_9, s41_13, s41_15, s41_18, s41_19, s41_20, s41_21, s41_23, s41_24, s41_25, s41_26, s41_28, s41_29, s41_30, s41_31, s41_32, s41_35, s41_38, s41_39, s41_40, s41_41, s41_43, s41_44, s41_45, s41_48, s41_51, s41_52, s41_54, s41_56, s41_59, s41_60, s41_64, s41_66, s41_69, s41_70, s41_71, s41_72, s41_74, s41_75, s41_76, s41_77, s41_78, s41_79, s41_81, s41_82, s41_83, s41_86, s41_89, s41_92, s41_95, s41_96, s41_98, s41_100, s41_103, s41_104, s41_106, s41_107, s41_108, s41_109, s41_110, s41_113, s41_116, ldi_0, ldi_s, ldl_0, ldl_s, ldd_0, ldd_s, lda_0, lda_s, st1_0, st1_1, st2_0, st2_1, sti_0, sti_1, stj_0, stj_1, st1_2, sti_2, st2_2, stj_2, st1_3, sti_3, st2_3, stj_3, st1_4, sti_4, st2_4, stj_4, st1_5, sti_5, st2_5, stj_5, st1_6, sti_6, st2_6, stj_6, st1_7, sti_7, st2_7, stj_7, st1_8, sti_8, st2_8, stj_8, st1_9, sti_9, st2_9, stj_9, kil_n, kil_i, kil_r, kil_l, kil_d, gl_0, gl_s, cat_i, cat_r, true_and, narT, narF, ast_tr (hX _) (show 8 < 9 by omega) (show b < 9 by omega), tbS_tbS]
      rw [nI_lit9, br_0 (nI_ge hb (by decide)), nI_1, stD_v (v := false) (by unfold gDel; rw [sk_ge (show p ≤ 8 by omega)]; exact (hz _ _ (Or.inl (by omega))).symm)]
      exact ih _
  have second : ∀ a, a ≤ 8 → p ≤ a → ∀ s : Option Value, aW (Sp 0) 41 0 0 (RR none (tbS h t (gDel p G)) z) 53 [some (.ref t), some (.int size), some (.int (nI p)), some (.int (nI a)), s] [] (tbS h t (stD a 0 (gDel p G) (fun a b => G a (sk p b)))) z 0 0 := by
    refine aUp ?_ fun a ha ih => ?_
    · intro hpa s
      rw [s41_53]
      simp only [s41_0, s41_1, s41_3, s41_5, s41_8, s41_9, s41_13, s41_15, s41_18, s41_19, s41_20, s41_21, s41_23, s41_24, s41_25, s41_26, s41_28, s41_29, s41_30, s41_31, s41_32, s41_35, s41_38, s41_39, s41_40, s41_41, s41_43, s41_44, s41_45, s41_48, s41_51, s41_52, s41_54, s41_56, s41_59, s41_60, s41_64, s41_66, s41_69, s41_70, s41_71, s41_72, s41_74, s41_75, s41_76, s41_77, s41_78, s41_79, s41_81, s41_82, s41_83, s41_86, s41_89, s41_92, s41_95, s41_96, s41_98, s41_100, s41_103, s41_104, s41_106, s41_107, s41_108, s41_109, s41_110, s41_113, s41_116, ldi_0, ldi_s, ldl_0, ldl_s, ldd_0, ldd_s, lda_0, lda_s, st1_0, st1_1, st2_0, st2_1, sti_0, sti_1, stj_0, stj_1, st1_2, sti_2, st2_2, stj_2, st1_3, sti_3, st2_3, stj_3, st1_4, sti_4, st2_4, stj_4, st1_5, sti_5, st2_5, stj_5, st1_6, sti_6, st2_6, stj_6, st1_7, sti_7, st2_7, stj_7, st1_8, sti_8, st2_8, stj_8, st1_9, sti_9, st2_9, stj_9, kil_n, kil_i, kil_r, kil_l, kil_d, gl_0, gl_s, cat_i, cat_r, true_and]
      rw [br_1 (by decide)]
      exact third 0 (by omega) s
    · intro hpa s
      rw [s41_53]
      simp only [s41_0, s41_1, s41_3, s41_5, s41_8, s41_9, s41_13, s41_15, s41_18, s41_19, s41_20, s41_21, s41_23, s41_24, s41_25, s41_26, s41_28, s41_29, s41_30, s41_31, s41_32, s41_35, s41_38, s41_39, s41_40, s41_41, s41_43, s41_44, s41_45, s41_48, s41_51, s41_52, s41_54, s41_56, s41_59, s41_60, s41_64, s41_66, s41_69, s41_70, s41_71, s41_72, s41_74, s41_75, s41_76, s41_77, s41_78, s41_79, s41_81, s41_82, s41_83, s41_86, s41_89, s41_92, s41_95, s41_96, s41_98, s41_100, s41_103, s41_104, s41_106, s41_107, s41_108, s41_109, s41_110, s41_113, s41_116, ldi_0, ldi_s, ldl_0, ldl_s, ldd_0, ldd_s, lda_0, lda_s, st1_0, st1_1, st2_0, st2_1, sti_0, sti_1, stj_0, stj_1, st1_2, sti_2, st2_2, stj_2, st1_3, sti_3, st2_3, stj_3, st1_4, sti_4, st2_4, stj_4, st1_5, sti_5, st2_5, stj_5, st1_6, sti_6, st2_6, stj_6, st1_7, sti_7, st2_7, stj_7, st1_8, sti_8, st2_8, stj_8, st1_9, sti_9, st2_9, stj_9, kil_n, kil_i, kil_r, kil_l, kil_d, gl_0, gl_s, cat_i, cat_r, true_and]
      rw [show (8 : Int32) = nI 8 from rfl, br_0 (nI_ge ha (by decide))]
      have inn : ∀ b, b ≤ 9 → aW (Sp 0) 41 0 0 (RR none (tbS h t (gDel p G)) z) 62 [some (.ref t), some (.int size), some (.int (nI p)), some (.int (nI a)), some (.int (nI b))] [] (tbS h t (stD a b (gDel p G) (fun a b => G a (sk p b)))) z 0 0 := by
        refine aUp ?_ fun b hb ihb => ?_
        · rw [s41_62]
          simp only [s41_0, s41_1, s41_3, s41_5, s41_8, s41_9, s41_13, s41_15, s41_18, s41_19, s41_20, s41_21, s41_23, s41_24, s41_25, s41_26, s41_28, s41_29, s41_30, s41_31, s41_32, s41_35, s41_38, s41_39, s41_40, s41_41, s41_43, s41_44, s41_45, s41_48, s41_51, s41_52, s41_54, s41_56, s41_59, s41_60, s41_64, s41_66, s41_69, s41_70, s41_71, s41_72, s41_74, s41_75, s41_76, s41_77, s41_78, s41_79, s41_81, s41_82, s41_83, s41_86, s41_89, s41_92, s41_95, s41_96, s41_98, s41_100, s41_103, s41_104, s41_106, s41_107, s41_108, s41_109, s41_110, s41_113, s41_116, ldi_0, ldi_s, ldl_0, ldl_s, ldd_0, ldd_s, lda_0, lda_s, st1_0, st1_1, st2_0, st2_1, sti_0, sti_1, stj_0, stj_1, st1_2, sti_2, st2_2, stj_2, st1_3, sti_3, st2_3, stj_3, st1_4, sti_4, st2_4, stj_4, st1_5, sti_5, st2_5, stj_5, st1_6, sti_6, st2_6, stj_6, st1_7, sti_7, st2_7, stj_7, st1_8, sti_8, st2_8, stj_8, st1_9, sti_9, st2_9, stj_9, kil_n, kil_i, kil_r, kil_l, kil_d, gl_0, gl_s, cat_i, cat_r, true_and]
          rw [br_1 (by decide), nI_1, stD_row (fun b hb => by rw [z1 _ _ (Or.inr hb)]; exact z2 _ _ (Or.inr hb))]
          exact ih (by omega) _
        · rw [s41_62]
          simp only [s41_0, s41_1, s41_3, s41_5, s41_8, s41_9, s41_13, s41_15, s41_18, s41_19, s41_20, s41_21, s41_23, s41_24, s41_25, s41_26, s41_28, s41_29, s41_30, s41_31, s41_32, s41_35, s41_38, s41_39, s41_40, s41_41, s41_43, s41_44, s41_45, s41_48, s41_51, s41_52, s41_54, s41_56, s41_59, s41_60, s41_64, s41_66, s41_69, s41_70, s41_71, s41_72, s41_74, s41_75, s41_76, s41_77, s41_78, s41_79, s41_81, s41_82, s41_83, s41_86, s41_89, s41_92, s41_95, s41_96, s41_98, s41_100, s41_103, s41_104, s41_106, s41_107, s41_108, s41_109, s41_110, s41_113, s41_116, ldi_0, ldi_s, ldl_0, ldl_s, ldd_0, ldd_s, lda_0, lda_s, st1_0, st1_1, st2_0, st2_1, sti_0, sti_1, stj_0, stj_1, st1_2, sti_2, st2_2, stj_2, st1_3, sti_3, st2_3, stj_3, st1_4, sti_4, st2_4, stj_4, st1_5, sti_5, st2_5, stj_5, st1_6, sti_6, st2_6, stj_6, st1_7, sti_7, st2_7, stj_7, st1_8, sti_8, st2_8, stj_8, st1_9, sti_9, st2_9, stj_9, kil_n, kil_i, kil_r, kil_l, kil_d, gl_0, gl_s, cat_i, cat_r, true_and, nI_1, ald_tb (hX _) (show a < 9 by omega), ald_tb (hX _) (show a + 1 < 9 by omega), ald_tr (hX _) (show a + 1 < 9 by omega) (show b < 9 by omega), nar_bI, ast_tr (hX _) (show a < 9 by omega) (show b < 9 by omega), tbS_tbS]
          rw [nI_lit9, br_0 (nI_ge hb (by decide)), stD_new (show ¬ (a + 1 < a ∨ (a + 1 = a ∧ b < b)) by omega), stD_v (by unfold gDel; rw [sk_ge hpa])]
          exact ihb
      exact inn 0 (by omega)
  have first : ∀ a, a ≤ 9 → ∀ s : Option Value, aW (Sp 0) 41 0 0 (RR none (tbS h t (gDel p G)) z) 2 [some (.ref t), some (.int size), some (.int (nI p)), some (.int (nI a)), s] [] (tbS h t (stD a 0 (fun a b => G a (sk p b)) G)) z 0 0 := by
    refine aUp ?_ fun a ha ih => ?_
    · intro s
      rw [s41_2]
      simp only [s41_0, s41_1, s41_3, s41_5, s41_8, s41_9, s41_13, s41_15, s41_18, s41_19, s41_20, s41_21, s41_23, s41_24, s41_25, s41_26, s41_28, s41_29, s41_30, s41_31, s41_32, s41_35, s41_38, s41_39, s41_40, s41_41, s41_43, s41_44, s41_45, s41_48, s41_51, s41_52, s41_54, s41_56, s41_59, s41_60, s41_64, s41_66, s41_69, s41_70, s41_71, s41_72, s41_74, s41_75, s41_76, s41_77, s41_78, s41_79, s41_81, s41_82, s41_83, s41_86, s41_89, s41_92, s41_95, s41_96, s41_98, s41_100, s41_103, s41_104, s41_106, s41_107, s41_108, s41_109, s41_110, s41_113, s41_116, ldi_0, ldi_s, ldl_0, ldl_s, ldd_0, ldd_s, lda_0, lda_s, st1_0, st1_1, st2_0, st2_1, sti_0, sti_1, stj_0, stj_1, st1_2, sti_2, st2_2, stj_2, st1_3, sti_3, st2_3, stj_3, st1_4, sti_4, st2_4, stj_4, st1_5, sti_5, st2_5, stj_5, st1_6, sti_6, st2_6, stj_6, st1_7, sti_7, st2_7, stj_7, st1_8, sti_8, st2_8, stj_8, st1_9, sti_9, st2_9, stj_9, kil_n, kil_i, kil_r, kil_l, kil_d, gl_0, gl_s, cat_i, cat_r, true_and]
      rw [br_1 (by decide), stD_end (fun a b ha => by rw [z1 _ _ (Or.inl ha), hz _ _ (Or.inl ha)])]
      have k := second p (by omega) (Nat.le_refl _) s
      rw [stD_0 (fun a b ha => by unfold gDel; rw [sk_lt ha])] at k
      exact k
    · intro s
      rw [s41_2]
      simp only [s41_0, s41_1, s41_3, s41_5, s41_8, s41_9, s41_13, s41_15, s41_18, s41_19, s41_20, s41_21, s41_23, s41_24, s41_25, s41_26, s41_28, s41_29, s41_30, s41_31, s41_32, s41_35, s41_38, s41_39, s41_40, s41_41, s41_43, s41_44, s41_45, s41_48, s41_51, s41_52, s41_54, s41_56, s41_59, s41_60, s41_64, s41_66, s41_69, s41_70, s41_71, s41_72, s41_74, s41_75, s41_76, s41_77, s41_78, s41_79, s41_81, s41_82, s41_83, s41_86, s41_89, s41_92, s41_95, s41_96, s41_98, s41_100, s41_103, s41_104, s41_106, s41_107, s41_108, s41_109, s41_110, s41_113, s41_116, ldi_0, ldi_s, ldl_0, ldl_s, ldd_0, ldd_s, lda_0, lda_s, st1_0, st1_1, st2_0, st2_1, sti_0, sti_1, stj_0, stj_1, st1_2, sti_2, st2_2, stj_2, st1_3, sti_3, st2_3, stj_3, st1_4, sti_4, st2_4, stj_4, st1_5, sti_5, st2_5, stj_5, st1_6, sti_6, st2_6, stj_6, st1_7, sti_7, st2_7, stj_7, st1_8, sti_8, st2_8, stj_8, st1_9, sti_9, st2_9, stj_9, kil_n, kil_i, kil_r, kil_l, kil_d, gl_0, gl_s, cat_i, cat_r, true_and]
      rw [nI_lit9, br_0 (nI_ge ha (by decide))]
      have inn : ∀ b, b ≤ 8 → p ≤ b → aW (Sp 0) 41 0 0 (RR none (tbS h t (gDel p G)) z) 11 [some (.ref t), some (.int size), some (.int (nI p)), some (.int (nI a)), some (.int (nI b))] [] (tbS h t (stD a b (fun a b => G a (sk p b)) G)) z 0 0 := by
        refine aUp ?_ fun b hb ihb => ?_
        · intro hpb
          rw [s41_11]
          simp only [s41_0, s41_1, s41_3, s41_5, s41_8, s41_9, s41_13, s41_15, s41_18, s41_19, s41_20, s41_21, s41_23, s41_24, s41_25, s41_26, s41_28, s41_29, s41_30, s41_31, s41_32, s41_35, s41_38, s41_39, s41_40, s41_41, s41_43, s41_44, s41_45, s41_48, s41_51, s41_52, s41_54, s41_56, s41_59, s41_60, s41_64, s41_66, s41_69, s41_70, s41_71, s41_72, s41_74, s41_75, s41_76, s41_77, s41_78, s41_79, s41_81, s41_82, s41_83, s41_86, s41_89, s41_92, s41_95, s41_96, s41_98, s41_100, s41_103, s41_104, s41_106, s41_107, s41_108, s41_109, s41_110, s41_113, s41_116, ldi_0, ldi_s, ldl_0, ldl_s, ldd_0, ldd_s, lda_0, lda_s, st1_0, st1_1, st2_0, st2_1, sti_0, sti_1, stj_0, stj_1, st1_2, sti_2, st2_2, stj_2, st1_3, sti_3, st2_3, stj_3, st1_4, sti_4, st2_4, stj_4, st1_5, sti_5, st2_5, stj_5, st1_6, sti_6, st2_6, stj_6, st1_7, sti_7, st2_7, stj_7, st1_8, sti_8, st2_8, stj_8, st1_9, sti_9, st2_9, stj_9, kil_n, kil_i, kil_r, kil_l, kil_d, gl_0, gl_s, cat_i, cat_r, true_and]
          rw [br_1 (by decide), ald_tb (hX _) (show a < 9 by omega)]
          simp only [s41_0, s41_1, s41_3, s41_5, s41_8, s41_9, s41_13, s41_15, s41_18, s41_19, s41_20, s41_21, s41_23, s41_24, s41_25, s41_26, s41_28, s41_29, s41_30, s41_31, s41_32, s41_35, s41_38, s41_39, s41_40, s41_41, s41_43, s41_44, s41_45, s41_48, s41_51, s41_52, s41_54, s41_56, s41_59, s41_60, s41_64, s41_66, s41_69, s41_70, s41_71, s41_72, s41_74, s41_75, s41_76, s41_77, s41_78, s41_79, s41_81, s41_82, s41_83, s41_86, s41_89, s41_92, s41_95, s41_96, s41_98, s41_100, s41_103, s41_104, s41_106, s41_107, s41_108, s41_109, s41_110, s41_113, s41_116, ldi_0, ldi_s, ldl_0, ldl_s, ldd_0, ldd_s, lda_0, lda_s, st1_0, st1_1, st2_0, st2_1, sti_0, sti_1, stj_0, stj_1, st1_2, sti_2, st2_2, stj_2, st1_3, sti_3, st2_3, stj_3, st1_4, sti_4, st2_4, stj_4, st1_5, sti_5, st2_5, stj_5, st1_6, sti_6, st2_6, stj_6, st1_7, sti_7, st2_7, stj_7, st1_8, sti_8, st2_8, stj_8, st1_9, sti_9, st2_9, stj_9, kil_n, kil_i, kil_r, kil_l, kil_d, gl_0, gl_s, cat_i, cat_r, true_and, narF]
          rw [show (8 : Int32) = nI 8 from rfl, ast_tr (hX _) (show a < 9 by omega) (by decide)]
          simp only [s41_0, s41_1, s41_3, s41_5, s41_8, s41_9, s41_13, s41_15, s41_18, s41_19, s41_20, s41_21, s41_23, s41_24, s41_25, s41_26, s41_28, s41_29, s41_30, s41_31, s41_32, s41_35, s41_38, s41_39, s41_40, s41_41, s41_43, s41_44, s41_45, s41_48, s41_51, s41_52, s41_54, s41_56, s41_59, s41_60, s41_64, s41_66, s41_69, s41_70, s41_71, s41_72, s41_74, s41_75, s41_76, s41_77, s41_78, s41_79, s41_81, s41_82, s41_83, s41_86, s41_89, s41_92, s41_95, s41_96, s41_98, s41_100, s41_103, s41_104, s41_106, s41_107, s41_108, s41_109, s41_110, s41_113, s41_116, ldi_0, ldi_s, ldl_0, ldl_s, ldd_0, ldd_s, lda_0, lda_s, st1_0, st1_1, st2_0, st2_1, sti_0, sti_1, stj_0, stj_1, st1_2, sti_2, st2_2, stj_2, st1_3, sti_3, st2_3, stj_3, st1_4, sti_4, st2_4, stj_4, st1_5, sti_5, st2_5, stj_5, st1_6, sti_6, st2_6, stj_6, st1_7, sti_7, st2_7, stj_7, st1_8, sti_8, st2_8, stj_8, st1_9, sti_9, st2_9, stj_9, kil_n, kil_i, kil_r, kil_l, kil_d, gl_0, gl_s, cat_i, cat_r, true_and, tbS_tbS]
          rw [nI_1, stD_v (v := false) (by rw [sk_ge (show p ≤ 8 by omega)]; exact (hz _ _ (Or.inr (by omega))).symm), stD_row (fun b hb => by rw [z1 _ _ (Or.inr hb), hz _ _ (Or.inr hb)])]
          exact ih _
        · intro hpb
          rw [s41_11]
          simp only [s41_0, s41_1, s41_3, s41_5, s41_8, s41_9, s41_13, s41_15, s41_18, s41_19, s41_20, s41_21, s41_23, s41_24, s41_25, s41_26, s41_28, s41_29, s41_30, s41_31, s41_32, s41_35, s41_38, s41_39, s41_40, s41_41, s41_43, s41_44, s41_45, s41_48, s41_51, s41_52, s41_54, s41_56, s41_59, s41_60, s41_64, s41_66, s41_69, s41_70, s41_71, s41_72, s41_74, s41_75, s41_76, s41_77, s41_78, s41_79, s41_81, s41_82, s41_83, s41_86, s41_89, s41_92, s41_95, s41_96, s41_98, s41_100, s41_103, s41_104, s41_106, s41_107, s41_108, s41_109, s41_110, s41_113, s41_116, ldi_0, ldi_s, ldl_0, ldl_s, ldd_0, ldd_s, lda_0, lda_s, st1_0, st1_1, st2_0, st2_1, sti_0, sti_1, stj_0, stj_1, st1_2, sti_2, st2_2, stj_2, st1_3, sti_3, st2_3, stj_3, st1_4, sti_4, st2_4, stj_4, st1_5, sti_5, st2_5, stj_5, st1_6, sti_6, st2_6, stj_6, st1_7, sti_7, st2_7, stj_7, st1_8, sti_8, st2_8, stj_8, st1_9, sti_9, st2_9, stj_9, kil_n, kil_i, kil_r, kil_l, kil_d, gl_0, gl_s, cat_i, cat_r, true_and, nI_1, ald_tb (hX _) (show a < 9 by omega), ald_tr (hX _) (show a < 9 by omega) (show b + 1 < 9 by omega), nar_bI, ast_tr (hX _) (show a < 9 by omega) (show b < 9 by omega), tbS_tbS]
          rw [show (8 : Int32) = nI 8 from rfl, br_0 (nI_ge hb (by decide)), stD_new (show ¬ (a < a ∨ (a = a ∧ b + 1 < b)) by omega), stD_v (by rw [sk_ge hpb])]
          exact ihb (by omega)
      have k := inn p (by omega) (Nat.le_refl _)
      rw [← stD_st (fun b hb => by rw [sk_lt hb])] at k
      exact k
  have k0 := first 0 (by omega) none
  rw [stD_0 (fun a b h => absurd h (Nat.not_lt_zero a)), tbS_id hT] at k0
  exact k0
theorem GOK.z9 (hG : GOK n G) : ∀ a b, 9 ≤ a ∨ 9 ≤ b → G a b = false := by
  intro a b hab
  have hn := hG.1
  rcases hab with h1 | h1
  · exact hG.lt' (by omega)
  · exact hG.lt (by omega)
theorem gUpd_join {a k : Nat} {X : Nat → Nat → Bool} (h : a ≠ k) : gUpd (gUpd X a k true) k a true = gJoin a k X := by
  funext p q
  unfold gUpd gJoin
  by_cases h1 : p = k ∧ q = a
  · rw [if_pos h1, h1.1, h1.2]
    simp [h]
  · rw [if_neg h1]
    by_cases h2 : p = a ∧ q = k
    · rw [if_pos h2, h2.1, h2.2]
      simp [h]
    · rw [if_neg h2]
      simp [h1, h2]
theorem gJoin_self {a : Nat} {X : Nat → Nat → Bool} : gJoin a a X = X := by
  funext p q
  unfold gJoin
  simp
theorem sp_draws {a b : Nat} (hT : Tb h t G) (hG : GOK n G) (ha : a < n) (hb : b < n) (hab : a ≠ b) : Sp 2 56 [.ref t, .int (nI n), .int (nI a), .int (nI b)] h z 0 0 (RR none (tbS h t (gDel b (gMrg a b n G))) z) := by
  have hn := hG.1
  have hX : ∀ X, Tb (tbS h t X) t X := fun X => tbS_Tb hT.1
  refine Sp_in (al := [some (.ref t), some (.int (nI n)), some (.int (nI a)), some (.int (nI b)), none]) ?_
  simp only [s56_0, s56_1, s56_5, s56_6, s56_9, s56_11, s56_12, s56_15, s56_17, s56_18, s56_21, s56_22, s56_23, s56_24, s56_26, s56_27, s56_30, s56_33, s56_34, s56_35, s56_36, s56_38, s56_39, s56_40, s56_41, s56_43, s56_44, s56_45, s56_46, s56_47, s56_50, s56_53, s56_54, s56_55, s56_59, ldi_0, ldi_s, ldl_0, ldl_s, ldd_0, ldd_s, lda_0, lda_s, st1_0, st1_1, st2_0, st2_1, sti_0, sti_1, stj_0, stj_1, st1_2, sti_2, st2_2, stj_2, st1_3, sti_3, st2_3, stj_3, st1_4, sti_4, st2_4, stj_4, st1_5, sti_5, st2_5, stj_5, st1_6, sti_6, st2_6, stj_6, st1_7, sti_7, st2_7, stj_7, st1_8, sti_8, st2_8, stj_8, st1_9, sti_9, st2_9, stj_9, kil_n, kil_i, kil_r, kil_l, kil_d, gl_0, gl_s, cat_i, cat_r, true_and]
  have selfb : G b b = false := by
    cases h1 : G b b
    · rfl
    · exact absurd rfl (hG.2 _ _ h1).2.2.1
  have key : ∀ k, k ≤ n → aW (Sp 1) 56 0 0 (RR none (tbS h t (gDel b (gMrg a b n G))) z) 3 [some (.ref t), some (.int (nI n)), some (.int (nI a)), some (.int (nI b)), some (.int (nI k))] [] (tbS h t (gMrg a b k G)) z 0 0 := by
    refine aUp ?_ fun k hk ih => ?_
    · rw [s56_3]
      simp only [s56_0, s56_1, s56_5, s56_6, s56_9, s56_11, s56_12, s56_15, s56_17, s56_18, s56_21, s56_22, s56_23, s56_24, s56_26, s56_27, s56_30, s56_33, s56_34, s56_35, s56_36, s56_38, s56_39, s56_40, s56_41, s56_43, s56_44, s56_45, s56_46, s56_47, s56_50, s56_53, s56_54, s56_55, s56_59, ldi_0, ldi_s, ldl_0, ldl_s, ldd_0, ldd_s, lda_0, lda_s, st1_0, st1_1, st2_0, st2_1, sti_0, sti_1, stj_0, stj_1, st1_2, sti_2, st2_2, stj_2, st1_3, sti_3, st2_3, stj_3, st1_4, sti_4, st2_4, stj_4, st1_5, sti_5, st2_5, stj_5, st1_6, sti_6, st2_6, stj_6, st1_7, sti_7, st2_7, stj_7, st1_8, sti_8, st2_8, stj_8, st1_9, sti_9, st2_9, stj_9, kil_n, kil_i, kil_r, kil_l, kil_d, gl_0, gl_s, cat_i, cat_r, true_and]
      rw [br_1 (nI_le (Nat.le_refl _) (by omega))]
      refine c56_56r (sp_goes (hX _) (gMrg_ok (k := n) hG ha).z9 (by omega)) ?_
      simp only [s56_0, s56_1, s56_5, s56_6, s56_9, s56_11, s56_12, s56_15, s56_17, s56_18, s56_21, s56_22, s56_23, s56_24, s56_26, s56_27, s56_30, s56_33, s56_34, s56_35, s56_36, s56_38, s56_39, s56_40, s56_41, s56_43, s56_44, s56_45, s56_46, s56_47, s56_50, s56_53, s56_54, s56_55, s56_59, ldi_0, ldi_s, ldl_0, ldl_s, ldd_0, ldd_s, lda_0, lda_s, st1_0, st1_1, st2_0, st2_1, sti_0, sti_1, stj_0, stj_1, st1_2, sti_2, st2_2, stj_2, st1_3, sti_3, st2_3, stj_3, st1_4, sti_4, st2_4, stj_4, st1_5, sti_5, st2_5, stj_5, st1_6, sti_6, st2_6, stj_6, st1_7, sti_7, st2_7, stj_7, st1_8, sti_8, st2_8, stj_8, st1_9, sti_9, st2_9, stj_9, kil_n, kil_i, kil_r, kil_l, kil_d, gl_0, gl_s, cat_i, cat_r, true_and]
      exact out_eq rfl tbS_tbS rfl
    · rw [s56_3]
      simp only [s56_0, s56_1, s56_5, s56_6, s56_9, s56_11, s56_12, s56_15, s56_17, s56_18, s56_21, s56_22, s56_23, s56_24, s56_26, s56_27, s56_30, s56_33, s56_34, s56_35, s56_36, s56_38, s56_39, s56_40, s56_41, s56_43, s56_44, s56_45, s56_46, s56_47, s56_50, s56_53, s56_54, s56_55, s56_59, ldi_0, ldi_s, ldl_0, ldl_s, ldd_0, ldd_s, lda_0, lda_s, st1_0, st1_1, st2_0, st2_1, sti_0, sti_1, stj_0, stj_1, st1_2, sti_2, st2_2, stj_2, st1_3, sti_3, st2_3, stj_3, st1_4, sti_4, st2_4, stj_4, st1_5, sti_5, st2_5, stj_5, st1_6, sti_6, st2_6, stj_6, st1_7, sti_7, st2_7, stj_7, st1_8, sti_8, st2_8, stj_8, st1_9, sti_9, st2_9, stj_9, kil_n, kil_i, kil_r, kil_l, kil_d, gl_0, gl_s, cat_i, cat_r, true_and, ald_tb (hX _) (show b < 9 by omega), ald_tb (hX _) (show a < 9 by omega), ald_tb (hX _) (show k < 9 by omega), ald_tr (hX _) (show b < 9 by omega) (show k < 9 by omega), narT, ast_tr (hX _) (show a < 9 by omega) (show k < 9 by omega), ast_tr (hX _) (show k < 9 by omega) (show a < 9 by omega), tbS_tbS, nI_1]
      rw [br_0 (nI_ge hk (by omega)), nI_eq (by omega) (by omega), nI_eq (by omega) (by omega), gMrg_b hG hab, bI_0]
      rw [gMrg_s] at ih
      refine ⟨fun h1 => ?_, fun h1 => ⟨fun h2 => ?_, fun h2 => ⟨fun h3 => ?_, fun h3 => ?_⟩⟩⟩
      · subst h1
        rw [gJoin_self, ite_self] at ih
        exact ih
      · subst h2
        rw [selfb, if_neg (by decide)] at ih
        exact ih
      · rw [Bool.not_eq_false] at h3
        rw [if_pos h3] at ih
        rw [gUpd_join (Ne.symm h1)]
        exact ih
      · rw [Decidable.not_not] at h3
        rw [h3, if_neg (by decide)] at ih
        exact ih
  have k0 := key 0 (by omega)
  rw [gMrg_0, tbS_id hT] at k0
  exact k0
end Mod1
