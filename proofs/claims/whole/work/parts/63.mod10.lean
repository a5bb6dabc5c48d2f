/-! ColourmapModel: value, compare -/
theorem dgN_low {V j : Nat} (hj : j < 12) : dgN V j = dgN (V % 10 ^ 12) j := by
  unfold dgN
  have hp : 0 < 10 ^ j := Nat.pow_pos (by decide)
  have h1 := Nat.div_add_mod V (10 ^ 12)
  have e : 10 ^ 12 = 10 ^ j * (10 * 10 ^ (11 - j)) := by
    rw [show 10 * 10 ^ (11 - j) = 10 ^ (11 - j + 1) by rw [Nat.pow_succ, Nat.mul_comm], ← Nat.pow_add]
    congr 1
    omega
  have h2 : V = V % 10 ^ 12 + 10 ^ j * (10 * (10 ^ (11 - j) * (V / 10 ^ 12))) := by
    rw [← Nat.mul_assoc 10, ← Nat.mul_assoc (10 ^ j), ← e]
    omega
  conv => lhs; rw [h2]
  rw [Nat.add_mul_div_left _ _ hp, Nat.add_mul_mod_self_left]
theorem dig_step (U j : Nat) : 10 * (U / 10 ^ (j + 1)) + dgN U j = U / 10 ^ j := by
  unfold dgN
  rw [Nat.pow_succ, ← Nat.div_div_eq_div_mul]
  exact Nat.div_add_mod _ _
section Mod10
variable {h h2 : AH} {m t t2 ns n z : Nat} {G SG : Nat → Nat → Bool} {th : Int32} {S R T : Nat → Nat} {C F D : Nat → Int64}
/-- the value's long: V itself below 10 ^ 12, else a number that is too great -/
def vlL (V : Nat) : Int64 := if V < 10 ^ 12 then lN V else 1099511627776
theorem sp_mvalue {k sg : Int32} {V : Nat} (hr : RkH m t t2 ns G SG n k V sg) (hB : MB h m t t2 SG) (hS : MS h m) (hV : V < 10 ^ 100) : Sp 20 156 [.ref m, .int k] (NF h m t t2 ns G th n) z 0 0 (fun o h' z' => if vlL V * (if V = 0 then 0 else sg).toInt64 < -2147483648 ∨ ¬ vlL V * (if V = 0 then 0 else sg).toInt64 ≤ 2147483647 then RkP h m t t2 ns G 1 n z (ctL G n) (cofM G n) V (some (.int 0)) o h' z' else RkP h m t t2 ns G 0 n z (ctL G n) (cofM G n) V (some (.int (vlL V * (if V = 0 then 0 else sg).toInt64).toInt32)) o h' z') := by
  have hT := hB.1
  refine Sp_in (al := [some (.ref m), some (.int k), none, none, none, none]) ?_
  simp only [s156_0, s156_1, s156_2, s156_5, s156_6, s156_10, s156_11, s156_12, s156_13, s156_15, s156_19, s156_22, s156_25, s156_26, s156_27, s156_28, s156_31, s156_33, s156_34, s156_35, s156_36, s156_37, s156_40, s156_43, s156_45, s156_49, s156_51, s156_54, s156_55, s156_58, s156_60, s156_61, s156_64, s156_67, s156_68, s156_71, s156_74, s156_75, s156_76, s156_77, s156_78, s156_79, s156_80, s156_81, s156_84, s156_85, s156_88, s156_89, s156_92, s156_93, s156_96, s156_97, s156_100, s156_101, s156_105, s156_108, s156_109, s156_112, s156_113, s156_114, ldi_0, ldi_s, ldl_0, ldl_s, ldd_0, ldd_s, lda_0, lda_s, st1_0, st1_1, st2_0, st2_1, sti_0, sti_1, stj_0, stj_1, st1_2, sti_2, st2_2, stj_2, st1_3, sti_3, st2_3, stj_3, st1_4, sti_4, st2_4, stj_4, st1_5, sti_5, st2_5, stj_5, st1_6, sti_6, st2_6, stj_6, st1_7, sti_7, st2_7, stj_7, st1_8, sti_8, st2_8, stj_8, st1_9, sti_9, st2_9, stj_9, kil_n, kil_i, kil_r, kil_l, kil_d, gl_0, gl_s, cat_i, cat_r, true_and, NF_th]
  refine c156_7 NF_m (hr h 0 z hB hS) (by omega) (by omega) ?_
  rintro _ _ z ⟨rfl, rfl, S', F', R, T, hF', hR, rfl⟩
  show aW (Sp 19) 156 0 0 _ 10 _ _ _ _ (0 + 0) (0 + 0)
  generalize (if V = 0 then 0 else sg) = s
  simp only [s156_0, s156_1, s156_2, s156_5, s156_6, s156_10, s156_11, s156_12, s156_13, s156_15, s156_19, s156_22, s156_25, s156_26, s156_27, s156_28, s156_31, s156_33, s156_34, s156_35, s156_36, s156_37, s156_40, s156_43, s156_45, s156_49, s156_51, s156_54, s156_55, s156_58, s156_60, s156_61, s156_64, s156_67, s156_68, s156_71, s156_74, s156_75, s156_76, s156_77, s156_78, s156_79, s156_80, s156_81, s156_84, s156_85, s156_88, s156_89, s156_92, s156_93, s156_96, s156_97, s156_100, s156_101, s156_105, s156_108, s156_109, s156_112, s156_113, s156_114, ldi_0, ldi_s, ldl_0, ldl_s, ldd_0, ldd_s, lda_0, lda_s, st1_0, st1_1, st2_0, st2_1, sti_0, sti_1, stj_0, stj_1, st1_2, sti_2, st2_2, stj_2, st1_3, sti_3, st2_3, stj_3, st1_4, sti_4, st2_4, stj_4, st1_5, sti_5, st2_5, stj_5, st1_6, sti_6, st2_6, stj_6, st1_7, sti_7, st2_7, stj_7, st1_8, sti_8, st2_8, stj_8, st1_9, sti_9, st2_9, stj_9, kil_n, kil_i, kil_r, kil_l, kil_d, gl_0, gl_s, cat_i, cat_r, true_and]
  have fin : aW (Sp 19) 156 0 0 (fun o h' z' => if vlL V * s.toInt64 < -2147483648 ∨ ¬ vlL V * s.toInt64 ≤ 2147483647 then RkP h m t t2 ns G 1 n z (ctL G n) (cofM G n) V (some (.int 0)) o h' z' else RkP h m t t2 ns G 0 n z (ctL G n) (cofM G n) V (some (.int (vlL V * s.toInt64).toInt32)) o h' z') 47 [some (.ref m), some (.int k), some (.int s), some (.long (vlL V)), none, some (.int (nI 100))] [] (ZH h m t t2 ns G 0 n S' (ctL G n) F' (cofM G n) R T) z (0 + 0) (0 + 0) := by
    rw [s156_47]
    simp only [s156_0, s156_1, s156_2, s156_5, s156_6, s156_10, s156_11, s156_12, s156_13, s156_15, s156_19, s156_22, s156_25, s156_26, s156_27, s156_28, s156_31, s156_33, s156_34, s156_35, s156_36, s156_37, s156_40, s156_43, s156_45, s156_49, s156_51, s156_54, s156_55, s156_58, s156_60, s156_61, s156_64, s156_67, s156_68, s156_71, s156_74, s156_75, s156_76, s156_77, s156_78, s156_79, s156_80, s156_81, s156_84, s156_85, s156_88, s156_89, s156_92, s156_93, s156_96, s156_97, s156_100, s156_101, s156_105, s156_108, s156_109, s156_112, s156_113, s156_114, ldi_0, ldi_s, ldl_0, ldl_s, ldd_0, ldd_s, lda_0, lda_s, st1_0, st1_1, st2_0, st2_1, sti_0, sti_1, stj_0, stj_1, st1_2, sti_2, st2_2, stj_2, st1_3, sti_3, st2_3, stj_3, st1_4, sti_4, st2_4, stj_4, st1_5, sti_5, st2_5, stj_5, st1_6, sti_6, st2_6, stj_6, st1_7, sti_7, st2_7, stj_7, st1_8, sti_8, st2_8, stj_8, st1_9, sti_9, st2_9, stj_9, kil_n, kil_i, kil_r, kil_l, kil_d, gl_0, gl_s, cat_i, cat_r, true_and, lg_cmp_lt, lg_cmp_le]
    rw [br_1 (by decide)]
    generalize vlL V * s.toInt64 = x
    have bad : (x < -2147483648 ∨ ¬ x ≤ 2147483647) → aW (Sp 19) 156 0 0 (fun o h' z' => if x < -2147483648 ∨ ¬ x ≤ 2147483647 then RkP h m t t2 ns G 1 n z (ctL G n) (cofM G n) V (some (.int 0)) o h' z' else RkP h m t t2 ns G 0 n z (ctL G n) (cofM G n) V (some (.int x.toInt32)) o h' z') 102 [some (.ref m), some (.int k), some (.int s), some (.long x), none, some (.int (nI 100))] [.int 1, .int 1, .ref m] (ZH h m t t2 ns G 0 n S' (ctL G n) F' (cofM G n) R T) z (0 + 0) (0 + 0) := by
      intro hx
      refine c156_102r ZH_m (sp_throws_t (k := 1)) ?_
      show aW (Sp 19) 156 0 0 _ 105 _ _ (ZH h m t t2 ns G 1 n S' (ctL G n) F' (cofM G n) R T) _ _ _
      simp only [s156_0, s156_1, s156_2, s156_5, s156_6, s156_10, s156_11, s156_12, s156_13, s156_15, s156_19, s156_22, s156_25, s156_26, s156_27, s156_28, s156_31, s156_33, s156_34, s156_35, s156_36, s156_37, s156_40, s156_43, s156_45, s156_49, s156_51, s156_54, s156_55, s156_58, s156_60, s156_61, s156_64, s156_67, s156_68, s156_71, s156_74, s156_75, s156_76, s156_77, s156_78, s156_79, s156_80, s156_81, s156_84, s156_85, s156_88, s156_89, s156_92, s156_93, s156_96, s156_97, s156_100, s156_101, s156_105, s156_108, s156_109, s156_112, s156_113, s156_114, ldi_0, ldi_s, ldl_0, ldl_s, ldd_0, ldd_s, lda_0, lda_s, st1_0, st1_1, st2_0, st2_1, sti_0, sti_1, stj_0, stj_1, st1_2, sti_2, st2_2, stj_2, st1_3, sti_3, st2_3, stj_3, st1_4, sti_4, st2_4, stj_4, st1_5, sti_5, st2_5, stj_5, st1_6, sti_6, st2_6, stj_6, st1_7, sti_7, st2_7, stj_7, st1_8, sti_8, st2_8, stj_8, st1_9, sti_9, st2_9, stj_9, kil_n, kil_i, kil_r, kil_l, kil_d, gl_0, gl_s, cat_i, cat_r, true_and]
      rw [br_0 (by decide)]
      refine ⟨by omega, by omega, ?_⟩
      dsimp only
      rw [if_pos hx]
      exact ⟨rfl, rfl, S', F', R, T, hF', hR, rfl⟩
    refine ⟨fun h1 => bad (Or.inl h1), fun h1 => ⟨fun h2 => ?_, fun h2 => bad (Or.inr h2)⟩⟩
    refine c156_102r ZH_m (sp_throws_f ZH_m) ?_
    simp only [s156_0, s156_1, s156_2, s156_5, s156_6, s156_10, s156_11, s156_12, s156_13, s156_15, s156_19, s156_22, s156_25, s156_26, s156_27, s156_28, s156_31, s156_33, s156_34, s156_35, s156_36, s156_37, s156_40, s156_43, s156_45, s156_49, s156_51, s156_54, s156_55, s156_58, s156_60, s156_61, s156_64, s156_67, s156_68, s156_71, s156_74, s156_75, s156_76, s156_77, s156_78, s156_79, s156_80, s156_81, s156_84, s156_85, s156_88, s156_89, s156_92, s156_93, s156_96, s156_97, s156_100, s156_101, s156_105, s156_108, s156_109, s156_112, s156_113, s156_114, ldi_0, ldi_s, ldl_0, ldl_s, ldd_0, ldd_s, lda_0, lda_s, st1_0, st1_1, st2_0, st2_1, sti_0, sti_1, stj_0, stj_1, st1_2, sti_2, st2_2, stj_2, st1_3, sti_3, st2_3, stj_3, st1_4, sti_4, st2_4, stj_4, st1_5, sti_5, st2_5, stj_5, st1_6, sti_6, st2_6, stj_6, st1_7, sti_7, st2_7, stj_7, st1_8, sti_8, st2_8, stj_8, st1_9, sti_9, st2_9, stj_9, kil_n, kil_i, kil_r, kil_l, kil_d, gl_0, gl_s, cat_i, cat_r, true_and]
    rw [br_1 (by decide)]
    refine ⟨by omega, by omega, ?_⟩
    dsimp only
    rw [if_neg (show ¬ (x < -2147483648 ∨ ¬ x ≤ 2147483647) from fun w => Or.elim w h1 (fun q => q h2))]
    exact ⟨rfl, rfl, S', F', R, T, hF', hR, rfl⟩
  have second : ∀ i, i ≤ 100 → 12 ≤ i → aW (Sp 19) 156 0 0 (fun o h' z' => if vlL V * s.toInt64 < -2147483648 ∨ ¬ vlL V * s.toInt64 ≤ 2147483647 then RkP h m t t2 ns G 1 n z (ctL G n) (cofM G n) V (some (.int 0)) o h' z' else RkP h m t t2 ns G 0 n z (ctL G n) (cofM G n) V (some (.int (vlL V * s.toInt64).toInt32)) o h' z') 47 [some (.ref m), some (.int k), some (.int s), some (.long (vlL (V % 10 ^ i))), none, some (.int (nI i))] [] (ZH h m t t2 ns G 0 n S' (ctL G n) F' (cofM G n) R T) z (0 + 0) (0 + 0) := by
    refine aUp ?_ fun i hi ih => ?_
    · intro _
      rw [Nat.mod_eq_of_lt hV]
      exact fin
    · intro h12
      have ih := ih (by omega)
      have h9 := hR.le hi
      have hp : 10 ^ 12 ≤ 10 ^ i := Nat.pow_le_pow_right (by decide) h12
      rw [s156_47]
      simp only [s156_0, s156_1, s156_2, s156_5, s156_6, s156_10, s156_11, s156_12, s156_13, s156_15, s156_19, s156_22, s156_25, s156_26, s156_27, s156_28, s156_31, s156_33, s156_34, s156_35, s156_36, s156_37, s156_40, s156_43, s156_45, s156_49, s156_51, s156_54, s156_55, s156_58, s156_60, s156_61, s156_64, s156_67, s156_68, s156_71, s156_74, s156_75, s156_76, s156_77, s156_78, s156_79, s156_80, s156_81, s156_84, s156_85, s156_88, s156_89, s156_92, s156_93, s156_96, s156_97, s156_100, s156_101, s156_105, s156_108, s156_109, s156_112, s156_113, s156_114, ldi_0, ldi_s, ldl_0, ldl_s, ldd_0, ldd_s, lda_0, lda_s, st1_0, st1_1, st2_0, st2_1, sti_0, sti_1, stj_0, stj_1, st1_2, sti_2, st2_2, stj_2, st1_3, sti_3, st2_3, stj_3, st1_4, sti_4, st2_4, stj_4, st1_5, sti_5, st2_5, stj_5, st1_6, sti_6, st2_6, stj_6, st1_7, sti_7, st2_7, stj_7, st1_8, sti_8, st2_8, stj_8, st1_9, sti_9, st2_9, stj_9, kil_n, kil_i, kil_r, kil_l, kil_d, gl_0, gl_s, cat_i, cat_r, true_and, ZH_gf, nI_1, ald_na (ZH_R hT) hi]
      rw [show (100 : Int32) = nI 100 from rfl, br_0 (nI_ge hi (by decide)), nI_z (by omega)]
      rw [mod_s, ← hR i hi] at ih
      refine ⟨fun h1 => ?_, fun h1 => ?_⟩
      · rw [h1, Nat.zero_mul, Nat.add_zero] at ih
        exact ih
      · have h3 : 10 ^ i ≤ R i * 10 ^ i := Nat.le_mul_of_pos_left _ (by omega)
        rw [show vlL (V % 10 ^ i + R i * 10 ^ i) = 1099511627776 by unfold vlL; rw [if_neg (by omega)]] at ih
        exact ih
  have first : ∀ j, j ≤ 12 → aW (Sp 19) 156 0 0 (fun o h' z' => if vlL V * s.toInt64 < -2147483648 ∨ ¬ vlL V * s.toInt64 ≤ 2147483647 then RkP h m t t2 ns G 1 n z (ctL G n) (cofM G n) V (some (.int 0)) o h' z' else RkP h m t t2 ns G 0 n z (ctL G n) (cofM G n) V (some (.int (vlL V * s.toInt64).toInt32)) o h' z') 17 [some (.ref m), some (.int k), some (.int s), some (.long (lN (V % 10 ^ 12 / 10 ^ j))), none, some (.int (nI j + (-1)))] [] (ZH h m t t2 ns G 0 n S' (ctL G n) F' (cofM G n) R T) z (0 + 0) (0 + 0) := by
    refine aDn ?_ fun j hj ih => ?_
    · rw [s156_17]
      simp only [s156_0, s156_1, s156_2, s156_5, s156_6, s156_10, s156_11, s156_12, s156_13, s156_15, s156_19, s156_22, s156_25, s156_26, s156_27, s156_28, s156_31, s156_33, s156_34, s156_35, s156_36, s156_37, s156_40, s156_43, s156_45, s156_49, s156_51, s156_54, s156_55, s156_58, s156_60, s156_61, s156_64, s156_67, s156_68, s156_71, s156_74, s156_75, s156_76, s156_77, s156_78, s156_79, s156_80, s156_81, s156_84, s156_85, s156_88, s156_89, s156_92, s156_93, s156_96, s156_97, s156_100, s156_101, s156_105, s156_108, s156_109, s156_112, s156_113, s156_114, ldi_0, ldi_s, ldl_0, ldl_s, ldd_0, ldd_s, lda_0, lda_s, st1_0, st1_1, st2_0, st2_1, sti_0, sti_1, stj_0, stj_1, st1_2, sti_2, st2_2, stj_2, st1_3, sti_3, st2_3, stj_3, st1_4, sti_4, st2_4, stj_4, st1_5, sti_5, st2_5, stj_5, st1_6, sti_6, st2_6, stj_6, st1_7, sti_7, st2_7, stj_7, st1_8, sti_8, st2_8, stj_8, st1_9, sti_9, st2_9, stj_9, kil_n, kil_i, kil_r, kil_l, kil_d, gl_0, gl_s, cat_i, cat_r, true_and]
      rw [br_1 (by decide)]
      have s0 := second 12 (by omega) (by omega)
      rw [show vlL (V % 10 ^ 12) = lN (V % 10 ^ 12 / 10 ^ 0) by unfold vlL; rw [if_pos (Nat.mod_lt _ (by decide)), Nat.pow_zero, Nat.div_one]] at s0
      exact s0
    · have h9 := hR.le (show j < 100 by omega)
      rw [← dig_step, ← dgN_low hj, ← hR j (by omega)] at ih
      rw [nI_pm, s156_17]
      simp only [s156_0, s156_1, s156_2, s156_5, s156_6, s156_10, s156_11, s156_12, s156_13, s156_15, s156_19, s156_22, s156_25, s156_26, s156_27, s156_28, s156_31, s156_33, s156_34, s156_35, s156_36, s156_37, s156_40, s156_43, s156_45, s156_49, s156_51, s156_54, s156_55, s156_58, s156_60, s156_61, s156_64, s156_67, s156_68, s156_71, s156_74, s156_75, s156_76, s156_77, s156_78, s156_79, s156_80, s156_81, s156_84, s156_85, s156_88, s156_89, s156_92, s156_93, s156_96, s156_97, s156_100, s156_101, s156_105, s156_108, s156_109, s156_112, s156_113, s156_114, ldi_0, ldi_s, ldl_0, ldl_s, ldd_0, ldd_s, lda_0, lda_s, st1_0, st1_1, st2_0, st2_1, sti_0, sti_1, stj_0, stj_1, st1_2, sti_2, st2_2, stj_2, st1_3, sti_3, st2_3, stj_3, st1_4, sti_4, st2_4, stj_4, st1_5, sti_5, st2_5, stj_5, st1_6, sti_6, st2_6, stj_6, st1_7, sti_7, st2_7, stj_7, st1_8, sti_8, st2_8, stj_8, st1_9, sti_9, st2_9, stj_9, kil_n, kil_i, kil_r, kil_l, kil_d, gl_0, gl_s, cat_i, cat_r, true_and, ZH_gf, ald_na (ZH_R hT) (show j < 100 by omega)]
      rw [br_0 (nI_pos (by omega)), nI_l (by omega), lit10L, lN_mul, lN_add]
      exact ih
  have f0 := first 12 (by omega)
  rw [Nat.div_eq_of_lt (Nat.mod_lt _ (by decide))] at f0
  exact f0
theorem sp_mcompare {k k' sg sg' : Int32} {V W : Nat} (hr : RkH m t t2 ns G SG n k V sg) (hr' : RkH m t t2 ns G SG n k' W sg') (hn : n ≤ 9) (hB : MB h m t t2 SG) (hS : MS h m) (hV : V < 10 ^ 100) (hW : W < 10 ^ 100) : Sp 20 184 [.ref m, .int k, .int k'] (NF h m t t2 ns G th n) z 0 0 (MR h m t t2 ns G SG th n z (some (.int (if (if V = 0 then 0 else sg) = (if W = 0 then 0 else sg') then (if V = W then 0 else (if W ≤ V then 1 else -1) * (if V = 0 then 0 else sg)) else (if (if W = 0 then 0 else sg') ≤ (if V = 0 then 0 else sg) then 1 else -1))))) := by
  have hT := hB.1
  refine Sp_in (al := [some (.ref m), some (.int k), some (.int k'), none, none, none]) ?_
  simp only [s184_0, s184_1, s184_5, s184_6, s184_7, s184_11, s184_13, s184_16, s184_17, s184_20, s184_22, s184_23, s184_26, s184_28, s184_29, s184_30, s184_33, s184_36, s184_37, s184_41, s184_43, s184_45, s184_46, s184_49, s184_51, s184_52, s184_55, s184_56, s184_59, s184_60, s184_61, s184_63, s184_67, s184_70, s184_71, s184_74, s184_76, s184_77, s184_78, s184_81, s184_83, s184_84, s184_87, s184_88, s184_91, s184_93, s184_94, s184_95, s184_98, s184_100, s184_101, s184_104, s184_105, s184_108, s184_109, s184_111, s184_112, s184_113, s184_116, s184_119, s184_120, ldi_0, ldi_s, ldl_0, ldl_s, ldd_0, ldd_s, lda_0, lda_s, st1_0, st1_1, st2_0, st2_1, sti_0, sti_1, stj_0, stj_1, st1_2, sti_2, st2_2, stj_2, st1_3, sti_3, st2_3, stj_3, st1_4, sti_4, st2_4, stj_4, st1_5, sti_5, st2_5, stj_5, st1_6, sti_6, st2_6, stj_6, st1_7, sti_7, st2_7, stj_7, st1_8, sti_8, st2_8, stj_8, st1_9, sti_9, st2_9, stj_9, kil_n, kil_i, kil_r, kil_l, kil_d, gl_0, gl_s, cat_i, cat_r, true_and]
  refine c184_2 NF_m (hr' h th z hB hS) (by omega) (by omega) ?_
  rintro _ _ z ⟨rfl, rfl, S', F', Q, T, hF', hQ, rfl⟩
  show aW (Sp 19) 184 0 0 _ 5 _ _ _ _ (0 + 0) (0 + 0)
  generalize (if W = 0 then 0 else sg') = s'
  simp only [s184_0, s184_1, s184_5, s184_6, s184_7, s184_11, s184_13, s184_16, s184_17, s184_20, s184_22, s184_23, s184_26, s184_28, s184_29, s184_30, s184_33, s184_36, s184_37, s184_41, s184_43, s184_45, s184_46, s184_49, s184_51, s184_52, s184_55, s184_56, s184_59, s184_60, s184_61, s184_63, s184_67, s184_70, s184_71, s184_74, s184_76, s184_77, s184_78, s184_81, s184_83, s184_84, s184_87, s184_88, s184_91, s184_93, s184_94, s184_95, s184_98, s184_100, s184_101, s184_104, s184_105, s184_108, s184_109, s184_111, s184_112, s184_113, s184_116, s184_119, s184_120, ldi_0, ldi_s, ldl_0, ldl_s, ldd_0, ldd_s, lda_0, lda_s, st1_0, st1_1, st2_0, st2_1, sti_0, sti_1, stj_0, stj_1, st1_2, sti_2, st2_2, stj_2, st1_3, sti_3, st2_3, stj_3, st1_4, sti_4, st2_4, stj_4, st1_5, sti_5, st2_5, stj_5, st1_6, sti_6, st2_6, stj_6, st1_7, sti_7, st2_7, stj_7, st1_8, sti_8, st2_8, stj_8, st1_9, sti_9, st2_9, stj_9, kil_n, kil_i, kil_r, kil_l, kil_d, gl_0, gl_s, cat_i, cat_r, true_and]
  obtain ⟨Q0, hQ0⟩ := hS.2.2.2.2.2.1
  have hA : ∀ X, ZH (hup h (m + 29) X) m t t2 ns G th n S' (ctL G n) F' (cofM G n) Q T (m + 29) = some X := fun X => by rw [ZH_old hT (by omega), hup_same]
  have hU : ∀ X Y, hup (ZH (hup h (m + 29) X) m t t2 ns G th n S' (ctL G n) F' (cofM G n) Q T) (m + 29) Y = ZH (hup h (m + 29) Y) m t t2 ns G th n S' (ctL G n) F' (cofM G n) Q T := fun X Y => by rw [ZH_set hT (by omega), hup_hup]
  have copy : ∀ i, i ≤ 100 → ∀ b : Option Value, aW (Sp 19) 184 0 0 (MR h m t t2 ns G SG th n z (some (.int (if (if V = 0 then 0 else sg) = s' then (if V = W then 0 else (if W ≤ V then 1 else -1) * (if V = 0 then 0 else sg)) else (if s' ≤ (if V = 0 then 0 else sg) then 1 else -1))))) 9 [some (.ref m), some (.int k), some (.int k'), some (.int s'), some (.int (nI i)), b] [] (ZH (hup h (m + 29) (na 100 (stg Q0 Q i))) m t t2 ns G th n S' (ctL G n) F' (cofM G n) Q T) z (0 + 0) (0 + 0) := by
    refine aUp ?_ fun i hi ih => ?_
    · intro b
      have k1 := hS.big (a := m + 29) (R := stg Q0 Q 100) (Or.inr (Or.inr rfl))
      have k2 := k1.1.zb (S := S') (F := F') (R := Q) (T := T) (C := ctL G n) (D := cofM G n) (ctL_big hn) (cofM_big hn) hF'
      have hB1 : MB (hup h (m + 29) (na 100 (stg Q0 Q 100))) m t t2 SG := hB.sc (by omega)
      have hB2 := hB1.zb (S := S') (C := ctL G n) (F := F') (D := cofM G n) (R := Q) (T := T)
      have hK : ZB (hup h (m + 29) (na 100 (stg Q0 Q 100))) m S' (ctL G n) F' (cofM G n) Q T (m + 29) = some (na 100 (stg Q0 Q 100)) := by
        unfold ZB RB
        rw [XC_Fr _ (by omega), hup_ne (by omega), hup_ne (by omega), hup_same]
      have hQs : ∀ i, i < 100 → stg Q0 Q 100 i = dgN W i := fun i hi => by rw [show stg Q0 Q 100 i = Q i from if_pos hi]; exact hQ i hi
      have hfr : Fr (m + 21) (m + 50) h (ZB (hup h (m + 29) (na 100 (stg Q0 Q 100))) m S' (ctL G n) F' (cofM G n) Q T) := k1.2.trans k2.2
      rw [s184_9]
      simp only [s184_0, s184_1, s184_5, s184_6, s184_7, s184_11, s184_13, s184_16, s184_17, s184_20, s184_22, s184_23, s184_26, s184_28, s184_29, s184_30, s184_33, s184_36, s184_37, s184_41, s184_43, s184_45, s184_46, s184_49, s184_51, s184_52, s184_55, s184_56, s184_59, s184_60, s184_61, s184_63, s184_67, s184_70, s184_71, s184_74, s184_76, s184_77, s184_78, s184_81, s184_83, s184_84, s184_87, s184_88, s184_91, s184_93, s184_94, s184_95, s184_98, s184_100, s184_101, s184_104, s184_105, s184_108, s184_109, s184_111, s184_112, s184_113, s184_116, s184_119, s184_120, ldi_0, ldi_s, ldl_0, ldl_s, ldd_0, ldd_s, lda_0, lda_s, st1_0, st1_1, st2_0, st2_1, sti_0, sti_1, stj_0, stj_1, st1_2, sti_2, st2_2, stj_2, st1_3, sti_3, st2_3, stj_3, st1_4, sti_4, st2_4, stj_4, st1_5, sti_5, st2_5, stj_5, st1_6, sti_6, st2_6, stj_6, st1_7, sti_7, st2_7, stj_7, st1_8, sti_8, st2_8, stj_8, st1_9, sti_9, st2_9, stj_9, kil_n, kil_i, kil_r, kil_l, kil_d, gl_0, gl_s, cat_i, cat_r, true_and, ZH_base]
      rw [br_1 (by decide)]
      generalize ZB (hup h (m + 29) (na 100 (stg Q0 Q 100))) m S' (ctL G n) F' (cofM G n) Q T = H at k2 hB2 hK hfr ⊢
      generalize stg Q0 Q 100 = KK at hK hQs
      refine c184_38 NF_m (hr H th z hB2 k2.1) (by omega) (by omega) ?_
      rintro _ _ z ⟨rfl, rfl, S2, F2, R, T2, hF2, hR, rfl⟩
      show aW (Sp 19) 184 0 0 _ 41 _ _ _ _ (0 + 0) (0 + 0)
      have k3 := k2.1.zb (S := S2) (F := F2) (R := R) (T := T2) (C := ctL G n) (D := cofM G n) (ctL_big hn) (cofM_big hn) hF2
      have out : ∀ v, MR h m t t2 ns G SG th n z (some (.int v)) (.inl (some (.int v))) (ZH H m t t2 ns G th n S2 (ctL G n) F2 (cofM G n) R T2) z := fun v => ⟨rfl, rfl, _, ZH_base, hB2.zb, k3.1, hfr.trans k3.2⟩
      have hK2 : ZH H m t t2 ns G th n S2 (ctL G n) F2 (cofM G n) R T2 (m + 29) = some (na 100 KK) := by rw [ZH_old hT (by omega)]; exact hK
      generalize (if V = 0 then 0 else sg) = s
      simp only [s184_0, s184_1, s184_5, s184_6, s184_7, s184_11, s184_13, s184_16, s184_17, s184_20, s184_22, s184_23, s184_26, s184_28, s184_29, s184_30, s184_33, s184_36, s184_37, s184_41, s184_43, s184_45, s184_46, s184_49, s184_51, s184_52, s184_55, s184_56, s184_59, s184_60, s184_61, s184_63, s184_67, s184_70, s184_71, s184_74, s184_76, s184_77, s184_78, s184_81, s184_83, s184_84, s184_87, s184_88, s184_91, s184_93, s184_94, s184_95, s184_98, s184_100, s184_101, s184_104, s184_105, s184_108, s184_109, s184_111, s184_112, s184_113, s184_116, s184_119, s184_120, ldi_0, ldi_s, ldl_0, ldl_s, ldd_0, ldd_s, lda_0, lda_s, st1_0, st1_1, st2_0, st2_1, sti_0, sti_1, stj_0, stj_1, st1_2, sti_2, st2_2, stj_2, st1_3, sti_3, st2_3, stj_3, st1_4, sti_4, st2_4, stj_4, st1_5, sti_5, st2_5, stj_5, st1_6, sti_6, st2_6, stj_6, st1_7, sti_7, st2_7, stj_7, st1_8, sti_8, st2_8, stj_8, st1_9, sti_9, st2_9, stj_9, kil_n, kil_i, kil_r, kil_l, kil_d, gl_0, gl_s, cat_i, cat_r, true_and]
      have digs : ∀ j, j ≤ 100 → V / 10 ^ j = W / 10 ^ j → s = s' → aW (Sp 19) 184 0 0 (MR h m t t2 ns G SG th n z (some (.int (if s = s' then (if V = W then 0 else (if W ≤ V then 1 else -1) * s) else (if s' ≤ s then 1 else -1))))) 65 [some (.ref m), some (.int k), some (.int k'), some (.int s'), some (.int s), some (.int (nI j + (-1)))] [] (ZH H m t t2 ns G th n S2 (ctL G n) F2 (cofM G n) R T2) z (0 + 0) (0 + 0) := by
        refine aDn ?_ fun j hj ihj => ?_
        · intro e es
          rw [Nat.pow_zero, Nat.div_one, Nat.div_one] at e
          rw [s184_65]
          simp only [s184_0, s184_1, s184_5, s184_6, s184_7, s184_11, s184_13, s184_16, s184_17, s184_20, s184_22, s184_23, s184_26, s184_28, s184_29, s184_30, s184_33, s184_36, s184_37, s184_41, s184_43, s184_45, s184_46, s184_49, s184_51, s184_52, s184_55, s184_56, s184_59, s184_60, s184_61, s184_63, s184_67, s184_70, s184_71, s184_74, s184_76, s184_77, s184_78, s184_81, s184_83, s184_84, s184_87, s184_88, s184_91, s184_93, s184_94, s184_95, s184_98, s184_100, s184_101, s184_104, s184_105, s184_108, s184_109, s184_111, s184_112, s184_113, s184_116, s184_119, s184_120, ldi_0, ldi_s, ldl_0, ldl_s, ldd_0, ldd_s, lda_0, lda_s, st1_0, st1_1, st2_0, st2_1, sti_0, sti_1, stj_0, stj_1, st1_2, sti_2, st2_2, stj_2, st1_3, sti_3, st2_3, stj_3, st1_4, sti_4, st2_4, stj_4, st1_5, sti_5, st2_5, stj_5, st1_6, sti_6, st2_6, stj_6, st1_7, sti_7, st2_7, stj_7, st1_8, sti_8, st2_8, stj_8, st1_9, sti_9, st2_9, stj_9, kil_n, kil_i, kil_r, kil_l, kil_d, gl_0, gl_s, cat_i, cat_r, true_and]
          rw [br_1 (by decide)]
          refine ⟨by omega, by omega, ?_⟩
          rw [if_pos es, if_pos e]
          exact out _
        · intro e es
          have r9 := hR.le hj
          have k9 : KK j ≤ 9 := by rw [hQs j hj]; unfold dgN; omega
          have eV := dig_step V j
          have eW := dig_step W j
          rw [← hR j hj] at eV
          rw [← hQs j hj] at eW
          rw [nI_pm, s184_65]
          simp only [s184_0, s184_1, s184_5, s184_6, s184_7, s184_11, s184_13, s184_16, s184_17, s184_20, s184_22, s184_23, s184_26, s184_28, s184_29, s184_30, s184_33, s184_36, s184_37, s184_41, s184_43, s184_45, s184_46, s184_49, s184_51, s184_52, s184_55, s184_56, s184_59, s184_60, s184_61, s184_63, s184_67, s184_70, s184_71, s184_74, s184_76, s184_77, s184_78, s184_81, s184_83, s184_84, s184_87, s184_88, s184_91, s184_93, s184_94, s184_95, s184_98, s184_100, s184_101, s184_104, s184_105, s184_108, s184_109, s184_111, s184_112, s184_113, s184_116, s184_119, s184_120, ldi_0, ldi_s, ldl_0, ldl_s, ldd_0, ldd_s, lda_0, lda_s, st1_0, st1_1, st2_0, st2_1, sti_0, sti_1, stj_0, stj_1, st1_2, sti_2, st2_2, stj_2, st1_3, sti_3, st2_3, stj_3, st1_4, sti_4, st2_4, stj_4, st1_5, sti_5, st2_5, stj_5, st1_6, sti_6, st2_6, stj_6, st1_7, sti_7, st2_7, stj_7, st1_8, sti_8, st2_8, stj_8, st1_9, sti_9, st2_9, stj_9, kil_n, kil_i, kil_r, kil_l, kil_d, gl_0, gl_s, cat_i, cat_r, true_and, ZH_gf, ald_na (ZH_R hT) hj, ald_na hK2 hj]
          rw [br_0 (nI_pos (by omega)), nI_eq (by omega) (by omega), nI_leI (by omega) (by omega)]
          have hle : R j ≠ KK j → (W ≤ V ↔ KK j ≤ R j) ∧ V ≠ W := by
            intro hne
            refine ⟨⟨fun h3 => ?_, fun h3 => ?_⟩, fun h3 => ?_⟩
            · have := Nat.div_le_div_right (c := 10 ^ j) h3
              omega
            · apply Decidable.byContradiction
              intro h4
              have := Nat.div_le_div_right (c := 10 ^ j) (show V ≤ W by omega)
              omega
            · rw [h3] at eV
              omega
          refine ⟨fun h1 => ?_, fun h1 => ⟨fun h2 => ?_, fun h2 => ?_⟩⟩
          · exact ihj (by omega) es
          · obtain ⟨h3, h4⟩ := hle h1
            refine ⟨by omega, by omega, ?_⟩
            rw [if_pos es, if_neg h4, if_pos (h3.mpr h2)]
            exact out _
          · obtain ⟨h3, h4⟩ := hle h1
            refine ⟨by omega, by omega, ?_⟩
            rw [if_pos es, if_neg h4, if_neg (fun w => h2 (h3.mp w))]
            exact out _
      refine ⟨fun h1 => ?_, fun h1 => ⟨fun h2 => ?_, fun h2 => ?_⟩⟩
      · exact digs 100 (Nat.le_refl _) (by rw [Nat.div_eq_of_lt hV, Nat.div_eq_of_lt hW]) h1
      · refine ⟨by omega, by omega, ?_⟩
        rw [if_neg (fun w => h1 w), if_pos h2]
        exact out _
      · refine ⟨by omega, by omega, ?_⟩
        rw [if_neg (fun w => h1 w), if_neg h2]
        exact out _
    · intro b
      rw [← stgN_s] at ih
      rw [s184_9]
      simp only [s184_0, s184_1, s184_5, s184_6, s184_7, s184_11, s184_13, s184_16, s184_17, s184_20, s184_22, s184_23, s184_26, s184_28, s184_29, s184_30, s184_33, s184_36, s184_37, s184_41, s184_43, s184_45, s184_46, s184_49, s184_51, s184_52, s184_55, s184_56, s184_59, s184_60, s184_61, s184_63, s184_67, s184_70, s184_71, s184_74, s184_76, s184_77, s184_78, s184_81, s184_83, s184_84, s184_87, s184_88, s184_91, s184_93, s184_94, s184_95, s184_98, s184_100, s184_101, s184_104, s184_105, s184_108, s184_109, s184_111, s184_112, s184_113, s184_116, s184_119, s184_120, ldi_0, ldi_s, ldl_0, ldl_s, ldd_0, ldd_s, lda_0, lda_s, st1_0, st1_1, st2_0, st2_1, sti_0, sti_1, stj_0, stj_1, st1_2, sti_2, st2_2, stj_2, st1_3, sti_3, st2_3, stj_3, st1_4, sti_4, st2_4, stj_4, st1_5, sti_5, st2_5, stj_5, st1_6, sti_6, st2_6, stj_6, st1_7, sti_7, st2_7, stj_7, st1_8, sti_8, st2_8, stj_8, st1_9, sti_9, st2_9, stj_9, kil_n, kil_i, kil_r, kil_l, kil_d, gl_0, gl_s, cat_i, cat_r, true_and, ZH_gf, nI_1, ald_na (ZH_R hT) hi, ast_na (hA _) hi, hU]
      rw [show (100 : Int32) = nI 100 from rfl, br_0 (nI_ge hi (by decide))]
      exact ih _
  have c0 := copy 0 (by omega) none
  rw [stg_0, hup_id hQ0] at c0
  exact c0
end Mod10
