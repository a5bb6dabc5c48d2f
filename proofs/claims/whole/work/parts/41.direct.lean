/-! Colourmap$Directions, one way after the other -/
def rgI (L : Nat → Nat) : Nat → Nat → Nat
  | 0, x => x
  | p + 1, x => if L p &&& rgI L p x = 0 then rgI L p x &&& (2 ^ p ^^^ (2 ^ 32 - 1)) else rgI L p x
def rgO (L : Nat → Nat) : Nat → Nat
  | 0 => 511
  | k + 1 => rgI L 9 (rgO L k)
theorem rgI_le {L : Nat → Nat} {x : Nat} (p : Nat) : rgI L p x ≤ x := by
  induction p with
  | zero => exact Nat.le_refl _
  | succ p ih =>
    unfold rgI
    split
    · exact Nat.le_trans Nat.and_le_left ih
    · exact ih
theorem rgO_le {L : Nat → Nat} (k : Nat) : rgO L k ≤ 511 := by
  induction k with
  | zero => exact Nat.le_refl _
  | succ k ih => exact Nat.le_trans (rgI_le 9) ih
theorem rgO_z {L : Nat → Nat} {k : Nat} (h : rgO L k = 0) (j : Nat) : rgO L (k + j) = 0 := by
  induction j with
  | zero => exact h
  | succ j ih =>
    have e : rgO L (k + (j + 1)) = rgI L 9 (rgO L (k + j)) := rfl
    rw [e, ih]
    exact Nat.le_zero.mp (rgI_le 9)
def rng (L : Nat → Nat) : Bool := decide (rgO L 9 = 0)
theorem or_off' {x p : Nat} (hx : x < 512) (hb : x.testBit p = false) (hp : p < 9) : (x ||| 2 ^ p) &&& (2 ^ p ^^^ (2 ^ 32 - 1)) = x := by
  have h512 : x ||| 2 ^ p < 512 := or512 hx (p2_lt hp)
  apply Nat.eq_of_testBit_eq
  intro q
  rw [tb_not h512, Nat.testBit_or, Nat.testBit_two_pow]
  by_cases hq : q = p
  · subst hq
    rw [hb]
    simp
  · have : ¬ p = q := fun e => hq e.symm
    simp [hq, this]
theorem or_tb {L : Nat → Nat} {a b x y : Nat} : (updN L a (L a ||| 2 ^ b) x).testBit y = ((L x).testBit y || decide (x = a ∧ y = b)) := by
  unfold updN
  by_cases h : x = a
  · subst h
    rw [if_pos rfl, Nat.testBit_or, Nat.testBit_two_pow]
    by_cases h2 : y = b
    · subst h2
      simp
    · have : ¬ b = y := fun e => h2 e.symm
      simp [h2, this]
  · rw [if_neg h]
    simp [h]
def dir (A B : Nat → Nat) : Nat → Nat → (Nat → Nat) → Nat
  | 0, _, L => if rng L then 1 else 0
  | j + 1, w, L => dir A B j (w + 1) (updN L (A w) (L (A w) ||| 2 ^ B w)) + dir A B j (w + 1) (updN L (B w) (L (B w) ||| 2 ^ A w))
section Direct
variable {z fr to le m : Nat} {A B : Nat → Nat}
theorem sp_isRingless {h : AH} {L : Nat → Nat} (hle : h le = some (na 9 L)) : Sp 1 193 [.ref le] h z 0 0 (RR (some (.int (bI (rng L)))) h z) := by
  refine Sp_in (al := [some (.ref le), none, none, none]) ?_
  simp only [s193_0, s193_1, s193_2, s193_3, s193_4, s193_5, s193_6, s193_7, s193_8, s193_10, s193_11, s193_12, s193_15, s193_16, s193_19, s193_20, s193_22, s193_23, s193_24, s193_27, s193_28, s193_29, s193_30, s193_31, s193_32, s193_35, s193_36, s193_37, s193_38, s193_39, s193_40, s193_41, s193_42, s193_43, s193_46, s193_49, s193_52, s193_55, s193_56, s193_59, s193_60, s193_63, s193_64, ldi_0, ldi_s, ldl_0, ldl_s, ldd_0, ldd_s, lda_0, lda_s, st1_0, st1_1, st2_0, st2_1, sti_0, sti_1, stj_0, stj_1, st1_2, sti_2, st2_2, stj_2, st1_3, sti_3, st2_3, stj_3, st1_4, sti_4, st2_4, stj_4, st1_5, sti_5, st2_5, stj_5, st1_6, sti_6, st2_6, stj_6, st1_7, sti_7, st2_7, stj_7, st1_8, sti_8, st2_8, stj_8, st1_9, sti_9, st2_9, stj_9, kil_n, kil_i, kil_r, kil_l, kil_d, gl_0, gl_s, cat_i, cat_r, true_and, aln_na hle]
  rw [show (1 : Int32) <<< (nI 9 &&& 31) - 1 = nI (rgO L 0) from by show _ = nI 511; decide]
  have fin : ∀ (k j : Nat) (b : Option Value), k + j = 9 → rgO L k = 0 ∨ k = 9 → br (¬ nI (rgO L k) = 0) (aOut 0 0 (RR (some (.int (bI (rng L)))) h z) (some (.int 0)) h z 0 0) (aOut 0 0 (RR (some (.int (bI (rng L)))) h z) (some (.int 1)) h z 0 0) := by
    intro k j b hk h0
    have hb : rgO L k < 2 ^ 31 := Nat.lt_of_le_of_lt (rgO_le k) (by decide)
    have e9 : rgO L 9 = rgO L k := by
      rcases h0 with h0 | h0
      · rw [h0, ← hk]
        exact rgO_z h0 j
      · rw [h0]
    unfold rng
    refine ⟨fun h1 => ?_, fun h1 => ?_⟩
    · rw [nI_z hb] at h1
      refine out_eq ?_ rfl rfl
      rw [show decide (rgO L 9 = 0) = false by rw [e9]; simpa using h1]
      rfl
    · have h2 := (nI_z hb).mp (Decidable.not_not.mp h1)
      refine out_eq ?_ rfl rfl
      rw [show decide (rgO L 9 = 0) = true by rw [e9]; simpa using h2]
      rfl
  have loop : ∀ (j k : Nat) (b : Option Value), k + j = 9 → aW (Sp 0) 193 0 0 (RR (some (.int (bI (rng L)))) h z) 9 [some (.ref le), some (.int (nI (rgO L k))), some (.int (nI k)), b] [] h z 0 0 := by
    intro j
    induction j with
    | zero =>
      intro k b hk
      have e1 : k = 9 := by omega
      rw [s193_9]
      simp only [s193_0, s193_1, s193_2, s193_3, s193_4, s193_5, s193_6, s193_7, s193_8, s193_10, s193_11, s193_12, s193_15, s193_16, s193_19, s193_20, s193_22, s193_23, s193_24, s193_27, s193_28, s193_29, s193_30, s193_31, s193_32, s193_35, s193_36, s193_37, s193_38, s193_39, s193_40, s193_41, s193_42, s193_43, s193_46, s193_49, s193_52, s193_55, s193_56, s193_59, s193_60, s193_63, s193_64, ldi_0, ldi_s, ldl_0, ldl_s, ldd_0, ldd_s, lda_0, lda_s, st1_0, st1_1, st2_0, st2_1, sti_0, sti_1, stj_0, stj_1, st1_2, sti_2, st2_2, stj_2, st1_3, sti_3, st2_3, stj_3, st1_4, sti_4, st2_4, stj_4, st1_5, sti_5, st2_5, stj_5, st1_6, sti_6, st2_6, stj_6, st1_7, sti_7, st2_7, stj_7, st1_8, sti_8, st2_8, stj_8, st1_9, sti_9, st2_9, stj_9, kil_n, kil_i, kil_r, kil_l, kil_d, gl_0, gl_s, cat_i, cat_r, true_and, aln_na hle, nar0, nar1]
      rw [br_1 (nI_le (by omega) (by omega))]
      exact fin k 0 b hk (Or.inr e1)
    | succ j ih =>
      intro k b hk
      rw [s193_9]
      simp only [s193_0, s193_1, s193_2, s193_3, s193_4, s193_5, s193_6, s193_7, s193_8, s193_10, s193_11, s193_12, s193_15, s193_16, s193_19, s193_20, s193_22, s193_23, s193_24, s193_27, s193_28, s193_29, s193_30, s193_31, s193_32, s193_35, s193_36, s193_37, s193_38, s193_39, s193_40, s193_41, s193_42, s193_43, s193_46, s193_49, s193_52, s193_55, s193_56, s193_59, s193_60, s193_63, s193_64, ldi_0, ldi_s, ldl_0, ldl_s, ldd_0, ldd_s, lda_0, lda_s, st1_0, st1_1, st2_0, st2_1, sti_0, sti_1, stj_0, stj_1, st1_2, sti_2, st2_2, stj_2, st1_3, sti_3, st2_3, stj_3, st1_4, sti_4, st2_4, stj_4, st1_5, sti_5, st2_5, stj_5, st1_6, sti_6, st2_6, stj_6, st1_7, sti_7, st2_7, stj_7, st1_8, sti_8, st2_8, stj_8, st1_9, sti_9, st2_9, stj_9, kil_n, kil_i, kil_r, kil_l, kil_d, gl_0, gl_s, cat_i, cat_r, true_and, aln_na hle, nar0, nar1]
      rw [br_0 (nI_ge (show k < 9 by omega) (by omega))]
      have hb : rgO L k < 2 ^ 31 := Nat.lt_of_le_of_lt (rgO_le k) (by decide)
      refine ⟨fun h1 => ?_, fun h1 => ?_⟩
      · exact fin k (j + 1) b hk (Or.inl ((nI_z hb).mp h1))
      · have inner : ∀ (i p : Nat), p + i = 9 → aW (Sp 0) 193 0 0 (RR (some (.int (bI (rng L)))) h z) 21 [some (.ref le), some (.int (nI (rgI L p (rgO L k)))), some (.int (nI k)), some (.int (nI p))] [] h z 0 0 := by
          intro i
          induction i with
          | zero =>
            intro p hp
            have e1 : p = 9 := by omega
            subst e1
            rw [s193_21]
            simp only [s193_0, s193_1, s193_2, s193_3, s193_4, s193_5, s193_6, s193_7, s193_8, s193_10, s193_11, s193_12, s193_15, s193_16, s193_19, s193_20, s193_22, s193_23, s193_24, s193_27, s193_28, s193_29, s193_30, s193_31, s193_32, s193_35, s193_36, s193_37, s193_38, s193_39, s193_40, s193_41, s193_42, s193_43, s193_46, s193_49, s193_52, s193_55, s193_56, s193_59, s193_60, s193_63, s193_64, ldi_0, ldi_s, ldl_0, ldl_s, ldd_0, ldd_s, lda_0, lda_s, st1_0, st1_1, st2_0, st2_1, sti_0, sti_1, stj_0, stj_1, st1_2, sti_2, st2_2, stj_2, st1_3, sti_3, st2_3, stj_3, st1_4, sti_4, st2_4, stj_4, st1_5, sti_5, st2_5, stj_5, st1_6, sti_6, st2_6, stj_6, st1_7, sti_7, st2_7, stj_7, st1_8, sti_8, st2_8, stj_8, st1_9, sti_9, st2_9, stj_9, kil_n, kil_i, kil_r, kil_l, kil_d, gl_0, gl_s, cat_i, cat_r, true_and, aln_na hle]
            rw [br_1 (nI_le (Nat.le_refl _) (by omega)), nI_1]
            exact ih (k + 1) _ (by omega)
          | succ i ih2 =>
            intro p hp
            rw [s193_21]
            simp only [s193_0, s193_1, s193_2, s193_3, s193_4, s193_5, s193_6, s193_7, s193_8, s193_10, s193_11, s193_12, s193_15, s193_16, s193_19, s193_20, s193_22, s193_23, s193_24, s193_27, s193_28, s193_29, s193_30, s193_31, s193_32, s193_35, s193_36, s193_37, s193_38, s193_39, s193_40, s193_41, s193_42, s193_43, s193_46, s193_49, s193_52, s193_55, s193_56, s193_59, s193_60, s193_63, s193_64, ldi_0, ldi_s, ldl_0, ldl_s, ldd_0, ldd_s, lda_0, lda_s, st1_0, st1_1, st2_0, st2_1, sti_0, sti_1, stj_0, stj_1, st1_2, sti_2, st2_2, stj_2, st1_3, sti_3, st2_3, stj_3, st1_4, sti_4, st2_4, stj_4, st1_5, sti_5, st2_5, stj_5, st1_6, sti_6, st2_6, stj_6, st1_7, sti_7, st2_7, stj_7, st1_8, sti_8, st2_8, stj_8, st1_9, sti_9, st2_9, stj_9, kil_n, kil_i, kil_r, kil_l, kil_d, gl_0, gl_s, cat_i, cat_r, true_and, aln_na hle, ald_na hle (show p < 9 by omega), nI_and, one_shl (show p < 31 by omega), not_any]
            rw [br_0 (nI_ge (show p < 9 by omega) (by omega))]
            have key := ih2 (p + 1) (by omega)
            have er : rgI L (p + 1) (rgO L k) = if L p &&& rgI L p (rgO L k) = 0 then rgI L p (rgO L k) &&& (2 ^ p ^^^ (2 ^ 32 - 1)) else rgI L p (rgO L k) := rfl
            rw [er] at key
            have hb2 : L p &&& rgI L p (rgO L k) < 2 ^ 31 := Nat.lt_of_le_of_lt Nat.and_le_right (Nat.lt_of_le_of_lt (Nat.le_trans (rgI_le p) (rgO_le k)) (by decide))
            refine ⟨fun h1 => ?_, fun h1 => ?_⟩
            · rw [nI_z hb2] at h1
              rw [if_neg h1] at key
              rw [nI_1]
              exact key
            · rw [if_pos ((nI_z hb2).mp (Decidable.not_not.mp h1))] at key
              rw [nI_1]
              exact key
        exact inner 9 0 (by omega)
  exact loop 9 0 _ (by omega)
theorem sp_direct (hm : m ≤ 10) (hA : ∀ w, w < m → A w < 9 ∧ B w < 9 ∧ A w ≠ B w) (hD : ∀ v w, v < w → w < m → ¬ (A w = A v ∧ B w = B v) ∧ ¬ (B w = A v ∧ A w = B v)) (n1 : fr ≠ le) (n2 : to ≠ le) : ∀ (j w : Nat) (L : Nat → Nat) (h : AH), w + j = m → (∀ q, q < 9 → L q < 512) → (∀ v, w ≤ v → v < m → (L (A v)).testBit (B v) = false ∧ (L (B v)).testBit (A v) = false) → h fr = some (na 10 A) → h to = some (na 10 B) → h le = some (na 9 L) → Sp (2 + j) 192 [.ref fr, .ref to, .int (nI w), .int (nI m), .ref le] h z 0 0 (RR (some (.int (nI (dir A B j w L)))) h z) := by
  intro j
  induction j with
  | zero =>
    intro w L h hw hL hF hfr hto hle
    refine Sp_in (al := [some (.ref fr), some (.ref to), some (.int (nI w)), some (.int (nI m)), some (.ref le), none, none, none]) ?_
    simp only [s192_0, s192_1, s192_2, s192_5, s192_6, s192_7, s192_8, s192_11, s192_12, s192_13, s192_14, s192_17, s192_22, s192_25, s192_26, s192_29, s192_30, s192_31, s192_32, s192_33, s192_34, s192_36, s192_37, s192_38, s192_39, s192_41, s192_43, s192_45, s192_46, s192_47, s192_48, s192_50, s192_51, s192_52, s192_53, s192_54, s192_55, s192_56, s192_57, s192_58, s192_59, s192_64, s192_66, s192_68, s192_70, s192_71, s192_72, s192_73, s192_75, s192_76, s192_77, s192_78, s192_79, s192_80, s192_82, s192_84, s192_85, s192_86, s192_87, s192_89, s192_90, s192_91, s192_92, s192_94, s192_95, s192_96, s192_97, s192_98, s192_99, s192_100, s192_105, s192_106, s192_108, s192_110, s192_112, s192_113, s192_114, s192_115, s192_117, s192_118, s192_119, s192_120, s192_121, s192_122, s192_124, ldi_0, ldi_s, ldl_0, ldl_s, ldd_0, ldd_s, lda_0, lda_s, st1_0, st1_1, st2_0, st2_1, sti_0, sti_1, stj_0, stj_1, st1_2, sti_2, st2_2, stj_2, st1_3, sti_3, st2_3, stj_3, st1_4, sti_4, st2_4, stj_4, st1_5, sti_5, st2_5, stj_5, st1_6, sti_6, st2_6, stj_6, st1_7, sti_7, st2_7, stj_7, st1_8, sti_8, st2_8, stj_8, st1_9, sti_9, st2_9, stj_9, kil_n, kil_i, kil_r, kil_l, kil_d, gl_0, gl_s, cat_i, cat_r, true_and]
    rw [br_1 (nI_le (show m ≤ w by omega) (by omega))]
    refine c192_19r (sp_isRingless hle) ?_
    simp only [s192_0, s192_1, s192_2, s192_5, s192_6, s192_7, s192_8, s192_11, s192_12, s192_13, s192_14, s192_17, s192_22, s192_25, s192_26, s192_29, s192_30, s192_31, s192_32, s192_33, s192_34, s192_36, s192_37, s192_38, s192_39, s192_41, s192_43, s192_45, s192_46, s192_47, s192_48, s192_50, s192_51, s192_52, s192_53, s192_54, s192_55, s192_56, s192_57, s192_58, s192_59, s192_64, s192_66, s192_68, s192_70, s192_71, s192_72, s192_73, s192_75, s192_76, s192_77, s192_78, s192_79, s192_80, s192_82, s192_84, s192_85, s192_86, s192_87, s192_89, s192_90, s192_91, s192_92, s192_94, s192_95, s192_96, s192_97, s192_98, s192_99, s192_100, s192_105, s192_106, s192_108, s192_110, s192_112, s192_113, s192_114, s192_115, s192_117, s192_118, s192_119, s192_120, s192_121, s192_122, s192_124, ldi_0, ldi_s, ldl_0, ldl_s, ldd_0, ldd_s, lda_0, lda_s, st1_0, st1_1, st2_0, st2_1, sti_0, sti_1, stj_0, stj_1, st1_2, sti_2, st2_2, stj_2, st1_3, sti_3, st2_3, stj_3, st1_4, sti_4, st2_4, stj_4, st1_5, sti_5, st2_5, stj_5, st1_6, sti_6, st2_6, stj_6, st1_7, sti_7, st2_7, stj_7, st1_8, sti_8, st2_8, stj_8, st1_9, sti_9, st2_9, stj_9, kil_n, kil_i, kil_r, kil_l, kil_d, gl_0, gl_s, cat_i, cat_r, true_and]
    have ed : dir A B 0 w L = if rng L then 1 else 0 := rfl
    rw [ed]
    refine ⟨fun h1 => ?_, fun h1 => ?_⟩
    · rw [bI_0] at h1
      rw [h1]
      exact out_RR
    · rw [bI_0, Bool.not_eq_false] at h1
      rw [h1]
      exact out_RR
  | succ j ih =>
    intro w L h hw hL hF hfr hto hle
    show Sp (2 + j + 1) _ _ _ _ _ _ _
    have hwm : w < m := by omega
    have hw10 : w < 10 := by omega
    obtain ⟨ha, hb, hab⟩ := hA w hwm
    have ha31 : A w < 31 := by omega
    have hb31 : B w < 31 := by omega
    obtain ⟨f1, f2⟩ := hF w (Nat.le_refl _) hwm
    have back : ∀ (Q : Nat → Nat), hup (hup h le (na 9 Q)) le (na 9 L) = h := fun Q => by rw [hup_hup, hup_id hle]
    have lt1 : ∀ x y, y < 9 → ∀ q, q < 9 → updN L x (L x ||| 2 ^ y) q < 512 ∨ x ≥ 9 := by
      intro x y hy q hq
      by_cases hx : x < 9
      · left
        unfold updN
        split
        · exact or512 (hL x hx) (p2_lt hy)
        · exact hL q hq
      · right
        omega
    refine Sp_in (al := [some (.ref fr), some (.ref to), some (.int (nI w)), some (.int (nI m)), some (.ref le), none, none, none]) ?_
    simp only [s192_0, s192_1, s192_2, s192_5, s192_6, s192_7, s192_8, s192_11, s192_12, s192_13, s192_14, s192_17, s192_22, s192_25, s192_26, s192_29, s192_30, s192_31, s192_32, s192_33, s192_34, s192_36, s192_37, s192_38, s192_39, s192_41, s192_43, s192_45, s192_46, s192_47, s192_48, s192_50, s192_51, s192_52, s192_53, s192_54, s192_55, s192_56, s192_57, s192_58, s192_59, s192_64, s192_66, s192_68, s192_70, s192_71, s192_72, s192_73, s192_75, s192_76, s192_77, s192_78, s192_79, s192_80, s192_82, s192_84, s192_85, s192_86, s192_87, s192_89, s192_90, s192_91, s192_92, s192_94, s192_95, s192_96, s192_97, s192_98, s192_99, s192_100, s192_105, s192_106, s192_108, s192_110, s192_112, s192_113, s192_114, s192_115, s192_117, s192_118, s192_119, s192_120, s192_121, s192_122, s192_124, ldi_0, ldi_s, ldl_0, ldl_s, ldd_0, ldd_s, lda_0, lda_s, st1_0, st1_1, st2_0, st2_1, sti_0, sti_1, stj_0, stj_1, st1_2, sti_2, st2_2, stj_2, st1_3, sti_3, st2_3, stj_3, st1_4, sti_4, st2_4, stj_4, st1_5, sti_5, st2_5, stj_5, st1_6, sti_6, st2_6, stj_6, st1_7, sti_7, st2_7, stj_7, st1_8, sti_8, st2_8, stj_8, st1_9, sti_9, st2_9, stj_9, kil_n, kil_i, kil_r, kil_l, kil_d, gl_0, gl_s, cat_i, cat_r, true_and, aln_na hfr, aln_na hto, ald_na hfr hw10, ald_na hto hw10, ald_na hle ha, one_shl hb31, nI_or, ast_na hle ha]
    rw [br_0 (nI_ge hwm (by omega)), br_0 (nI_ge hw10 (by omega)), br_1 (nI_lt hw10 (by omega)), nI_1]
    refine c192_61r (ih (w + 1) _ _ (by omega) (fun q hq => (lt1 _ _ hb q hq).resolve_right (by omega)) ?_ (by rw [hup_ne n1, hfr]) (by rw [hup_ne n2, hto]) hup_same) ?_
    · intro v hv1 hv2
      obtain ⟨g1, g2⟩ := hF v (by omega) hv2
      obtain ⟨d1, d2⟩ := hD w v (by omega) hv2
      rw [or_tb, or_tb, g1, g2]
      exact ⟨by simpa using d1, by simpa using d2⟩
    · simp only [s192_0, s192_1, s192_2, s192_5, s192_6, s192_7, s192_8, s192_11, s192_12, s192_13, s192_14, s192_17, s192_22, s192_25, s192_26, s192_29, s192_30, s192_31, s192_32, s192_33, s192_34, s192_36, s192_37, s192_38, s192_39, s192_41, s192_43, s192_45, s192_46, s192_47, s192_48, s192_50, s192_51, s192_52, s192_53, s192_54, s192_55, s192_56, s192_57, s192_58, s192_59, s192_64, s192_66, s192_68, s192_70, s192_71, s192_72, s192_73, s192_75, s192_76, s192_77, s192_78, s192_79, s192_80, s192_82, s192_84, s192_85, s192_86, s192_87, s192_89, s192_90, s192_91, s192_92, s192_94, s192_95, s192_96, s192_97, s192_98, s192_99, s192_100, s192_105, s192_106, s192_108, s192_110, s192_112, s192_113, s192_114, s192_115, s192_117, s192_118, s192_119, s192_120, s192_121, s192_122, s192_124, ldi_0, ldi_s, ldl_0, ldl_s, ldd_0, ldd_s, lda_0, lda_s, st1_0, st1_1, st2_0, st2_1, sti_0, sti_1, stj_0, stj_1, st1_2, sti_2, st2_2, stj_2, st1_3, sti_3, st2_3, stj_3, st1_4, sti_4, st2_4, stj_4, st1_5, sti_5, st2_5, stj_5, st1_6, sti_6, st2_6, stj_6, st1_7, sti_7, st2_7, stj_7, st1_8, sti_8, st2_8, stj_8, st1_9, sti_9, st2_9, stj_9, kil_n, kil_i, kil_r, kil_l, kil_d, gl_0, gl_s, cat_i, cat_r, true_and, ald_na hup_same ha, updN_same, one_shl hb31, not_any, nI_and, ast_na hup_same ha]
      rw [or_off' (hL _ ha) f1 hb, updN_upd rfl, back]
      simp only [s192_0, s192_1, s192_2, s192_5, s192_6, s192_7, s192_8, s192_11, s192_12, s192_13, s192_14, s192_17, s192_22, s192_25, s192_26, s192_29, s192_30, s192_31, s192_32, s192_33, s192_34, s192_36, s192_37, s192_38, s192_39, s192_41, s192_43, s192_45, s192_46, s192_47, s192_48, s192_50, s192_51, s192_52, s192_53, s192_54, s192_55, s192_56, s192_57, s192_58, s192_59, s192_64, s192_66, s192_68, s192_70, s192_71, s192_72, s192_73, s192_75, s192_76, s192_77, s192_78, s192_79, s192_80, s192_82, s192_84, s192_85, s192_86, s192_87, s192_89, s192_90, s192_91, s192_92, s192_94, s192_95, s192_96, s192_97, s192_98, s192_99, s192_100, s192_105, s192_106, s192_108, s192_110, s192_112, s192_113, s192_114, s192_115, s192_117, s192_118, s192_119, s192_120, s192_121, s192_122, s192_124, ldi_0, ldi_s, ldl_0, ldl_s, ldd_0, ldd_s, lda_0, lda_s, st1_0, st1_1, st2_0, st2_1, sti_0, sti_1, stj_0, stj_1, st1_2, sti_2, st2_2, stj_2, st1_3, sti_3, st2_3, stj_3, st1_4, sti_4, st2_4, stj_4, st1_5, sti_5, st2_5, stj_5, st1_6, sti_6, st2_6, stj_6, st1_7, sti_7, st2_7, stj_7, st1_8, sti_8, st2_8, stj_8, st1_9, sti_9, st2_9, stj_9, kil_n, kil_i, kil_r, kil_l, kil_d, gl_0, gl_s, cat_i, cat_r, true_and, ald_na hle hb, one_shl ha31, nI_or, ast_na hle hb]
      rw [nI_1]
      refine c192_102r (ih (w + 1) _ _ (by omega) (fun q hq => (lt1 _ _ ha q hq).resolve_right (by omega)) ?_ (by rw [hup_ne n1, hfr]) (by rw [hup_ne n2, hto]) hup_same) ?_
      · intro v hv1 hv2
        obtain ⟨g1, g2⟩ := hF v (by omega) hv2
        obtain ⟨d1, d2⟩ := hD w v (by omega) hv2
        rw [or_tb, or_tb, g1, g2]
        exact ⟨by simpa using fun e1 e2 => d2 ⟨e2, e1⟩, by simpa using fun e1 e2 => d1 ⟨e2, e1⟩⟩
      · simp only [s192_0, s192_1, s192_2, s192_5, s192_6, s192_7, s192_8, s192_11, s192_12, s192_13, s192_14, s192_17, s192_22, s192_25, s192_26, s192_29, s192_30, s192_31, s192_32, s192_33, s192_34, s192_36, s192_37, s192_38, s192_39, s192_41, s192_43, s192_45, s192_46, s192_47, s192_48, s192_50, s192_51, s192_52, s192_53, s192_54, s192_55, s192_56, s192_57, s192_58, s192_59, s192_64, s192_66, s192_68, s192_70, s192_71, s192_72, s192_73, s192_75, s192_76, s192_77, s192_78, s192_79, s192_80, s192_82, s192_84, s192_85, s192_86, s192_87, s192_89, s192_90, s192_91, s192_92, s192_94, s192_95, s192_96, s192_97, s192_98, s192_99, s192_100, s192_105, s192_106, s192_108, s192_110, s192_112, s192_113, s192_114, s192_115, s192_117, s192_118, s192_119, s192_120, s192_121, s192_122, s192_124, ldi_0, ldi_s, ldl_0, ldl_s, ldd_0, ldd_s, lda_0, lda_s, st1_0, st1_1, st2_0, st2_1, sti_0, sti_1, stj_0, stj_1, st1_2, sti_2, st2_2, stj_2, st1_3, sti_3, st2_3, stj_3, st1_4, sti_4, st2_4, stj_4, st1_5, sti_5, st2_5, stj_5, st1_6, sti_6, st2_6, stj_6, st1_7, sti_7, st2_7, stj_7, st1_8, sti_8, st2_8, stj_8, st1_9, sti_9, st2_9, stj_9, kil_n, kil_i, kil_r, kil_l, kil_d, gl_0, gl_s, cat_i, cat_r, true_and, ald_na hup_same hb, updN_same, one_shl ha31, not_any, nI_and, ast_na hup_same hb]
        rw [or_off' (hL _ hb) f2 ha, updN_upd rfl, back, nI_add]
        exact out_RR
end Direct
