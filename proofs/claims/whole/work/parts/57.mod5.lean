/-! ColourmapModel: pieces, sets -/
section Mod5
variable {h : AH} {m t t2 ns n z a : Nat} {G SG : Nat → Nat → Bool} {th : Int32}
theorem NF_old (hT : TT m t t2) (ha : m + 21 ≤ a) : NF h m t t2 ns G th n a = h a := by
  unfold TT at hT
  exact NF_ne (by omega) (by omega)
theorem NF_at {X : AC} (hT : TT m t t2) (ha : m + 21 ≤ a) : NF (hup h a X) m t t2 ns G th n a = some X := by
  rw [NF_old hT ha, hup_same]
theorem NF_hh {X Y : AC} (hT : TT m t t2) (ha : m + 21 ≤ a) : hup (NF (hup h a X) m t t2 ns G th n) a Y = NF (hup h a Y) m t t2 ns G th n := by
  unfold TT at hT
  rw [NF_sc (by omega) (by omega), hup_hup]
theorem NF_h1 {Y : AC} (hT : TT m t t2) (ha : m + 21 ≤ a) : hup (NF h m t t2 ns G th n) a Y = NF (hup h a Y) m t t2 ns G th n := by
  unfold TT at hT
  rw [NF_sc (by omega) (by omega)]
theorem MB.sc {X : AC} (hB : MB h m t t2 SG) (ha : m + 21 ≤ a) : MB (hup h a X) m t t2 SG := hB.fr fun q _ _ => hup_ne (by omega)
def lqF (G : Nat → Nat → Bool) (p : Nat) (L : Nat → Nat) : Nat → (Nat → Nat)
  | 0 => L
  | q + 1 => if G p q = true ∧ lqF G p L q q < lqF G p L q p then updN (lqF G p L q) p (lqF G p L q q) else lqF G p L q
def lpF (G : Nat → Nat → Bool) (n : Nat) (L : Nat → Nat) : Nat → (Nat → Nat)
  | 0 => L
  | p + 1 => lqF G p (lpF G n L p) n
def lrF (G : Nat → Nat → Bool) (n : Nat) (L : Nat → Nat) : Nat → (Nat → Nat)
  | 0 => L
  | r + 1 => lpF G n (lrF G n L r) n
def idN : Nat → Nat := fun p => p
def prF (n : Nat) (G : Nat → Nat → Bool) (R : Nat → Nat) : Nat → Nat := lrF G n (stg R idN n) n
theorem lqF_lt {p : Nat} {L : Nat → Nat} (hp : p < n) (hL : ∀ q, q < n → L q < n) (k : Nat) (hk : k ≤ n) : ∀ q, q < n → lqF G p L k q < n := by
  induction k with
  | zero => exact hL
  | succ k ih =>
    have ih := ih (by omega)
    intro q hq
    unfold lqF
    split
    · unfold updN
      split
      · exact ih k (by omega)
      · exact ih q hq
    · exact ih q hq
theorem lpF_lt {L : Nat → Nat} (hL : ∀ q, q < n → L q < n) (k : Nat) (hk : k ≤ n) : ∀ q, q < n → lpF G n L k q < n := by
  induction k with
  | zero => exact hL
  | succ k ih => exact lqF_lt (by omega) (ih (by omega)) n (Nat.le_refl _)
theorem lrF_lt {L : Nat → Nat} (hL : ∀ q, q < n → L q < n) (k : Nat) : ∀ q, q < n → lrF G n L k q < n := by
  induction k with
  | zero => exact hL
  | succ k ih => exact lpF_lt ih n (Nat.le_refl _)
theorem stg_id_lt {R : Nat → Nat} : ∀ q, q < n → stg R idN n q < n := by
  intro q hq
  unfold stg
  rw [if_pos hq]
  exact hq
theorem sp_parts {R : Nat → Nat} (hB : MB h m t t2 SG) (hn : n ≤ 9) (hR : h (m + 21) = some (na 9 R)) : Sp 1 99 [.ref m] (NF h m t t2 ns G th n) z 0 0 (RR none (NF (hup h (m + 21) (na 9 (prF n G R))) m t t2 ns G th n) z) := by
  have hT := hB.1
  have hA : ∀ X, NF (hup h (m + 21) X) m t t2 ns G th n (m + 21) = some X := fun X => NF_at hT (by omega)
  have hS : ∀ X Y, hup (NF (hup h (m + 21) X) m t t2 ns G th n) (m + 21) Y = NF (hup h (m + 21) Y) m t t2 ns G th n := fun X Y => NF_hh hT (by omega)
  have hBX : ∀ X, MB (hup h (m + 21) X) m t t2 SG := fun X => hB.sc (by omega)
  refine Sp_in (al := [some (.ref m), none, none, none]) ?_
  simp only [s99_0, s99_1, s99_3, s99_4, s99_7, s99_10, s99_11, s99_14, s99_15, s99_16, s99_17, s99_20, s99_23, s99_24, s99_26, s99_27, s99_30, s99_33, s99_34, s99_36, s99_37, s99_40, s99_43, s99_44, s99_46, s99_47, s99_50, s99_53, s99_54, s99_57, s99_58, s99_59, s99_60, s99_61, s99_64, s99_65, s99_68, s99_69, s99_70, s99_71, s99_74, s99_75, s99_76, s99_79, s99_80, s99_83, s99_84, s99_85, s99_88, s99_89, s99_90, s99_91, s99_94, s99_97, s99_100, s99_103, s99_106, s99_109, ldi_0, ldi_s, ldl_0, ldl_s, ldd_0, ldd_s, lda_0, lda_s, st1_0, st1_1, st2_0, st2_1, sti_0, sti_1, stj_0, stj_1, st1_2, sti_2, st2_2, stj_2, st1_3, sti_3, st2_3, stj_3, st1_4, sti_4, st2_4, stj_4, st1_5, sti_5, st2_5, stj_5, st1_6, sti_6, st2_6, stj_6, st1_7, sti_7, st2_7, stj_7, st1_8, sti_8, st2_8, stj_8, st1_9, sti_9, st2_9, stj_9, kil_n, kil_i, kil_r, kil_l, kil_d, gl_0, gl_s, cat_i, cat_r, true_and]
  have second : ∀ r, r ≤ n → ∀ b1 b2 : Option Value, aW (Sp 0) 99 0 0 (RR none (NF (hup h (m + 21) (na 9 (prF n G R))) m t t2 ns G th n) z) 25 [some (.ref m), some (.int (nI r)), b1, b2] [] (NF (hup h (m + 21) (na 9 (lrF G n (stg R idN n) r))) m t t2 ns G th n) z 0 0 := by
    refine aUp ?_ fun r hr ih => ?_
    · intro b1 b2
      rw [s99_25]
      simp only [s99_0, s99_1, s99_3, s99_4, s99_7, s99_10, s99_11, s99_14, s99_15, s99_16, s99_17, s99_20, s99_23, s99_24, s99_26, s99_27, s99_30, s99_33, s99_34, s99_36, s99_37, s99_40, s99_43, s99_44, s99_46, s99_47, s99_50, s99_53, s99_54, s99_57, s99_58, s99_59, s99_60, s99_61, s99_64, s99_65, s99_68, s99_69, s99_70, s99_71, s99_74, s99_75, s99_76, s99_79, s99_80, s99_83, s99_84, s99_85, s99_88, s99_89, s99_90, s99_91, s99_94, s99_97, s99_100, s99_103, s99_106, s99_109, ldi_0, ldi_s, ldl_0, ldl_s, ldd_0, ldd_s, lda_0, lda_s, st1_0, st1_1, st2_0, st2_1, sti_0, sti_1, stj_0, stj_1, st1_2, sti_2, st2_2, stj_2, st1_3, sti_3, st2_3, stj_3, st1_4, sti_4, st2_4, stj_4, st1_5, sti_5, st2_5, stj_5, st1_6, sti_6, st2_6, stj_6, st1_7, sti_7, st2_7, stj_7, st1_8, sti_8, st2_8, stj_8, st1_9, sti_9, st2_9, stj_9, kil_n, kil_i, kil_r, kil_l, kil_d, gl_0, gl_s, cat_i, cat_r, true_and, NF_gf]
      rw [br_1 (nI_le (Nat.le_refl _) (by omega))]
      exact out_RR
    · intro b1 b2
      have hL := lrF_lt (G := G) (n := n) (L := stg R idN n) stg_id_lt r
      rw [s99_25]
      simp only [s99_0, s99_1, s99_3, s99_4, s99_7, s99_10, s99_11, s99_14, s99_15, s99_16, s99_17, s99_20, s99_23, s99_24, s99_26, s99_27, s99_30, s99_33, s99_34, s99_36, s99_37, s99_40, s99_43, s99_44, s99_46, s99_47, s99_50, s99_53, s99_54, s99_57, s99_58, s99_59, s99_60, s99_61, s99_64, s99_65, s99_68, s99_69, s99_70, s99_71, s99_74, s99_75, s99_76, s99_79, s99_80, s99_83, s99_84, s99_85, s99_88, s99_89, s99_90, s99_91, s99_94, s99_97, s99_100, s99_103, s99_106, s99_109, ldi_0, ldi_s, ldl_0, ldl_s, ldd_0, ldd_s, lda_0, lda_s, st1_0, st1_1, st2_0, st2_1, sti_0, sti_1, stj_0, stj_1, st1_2, sti_2, st2_2, stj_2, st1_3, sti_3, st2_3, stj_3, st1_4, sti_4, st2_4, stj_4, st1_5, sti_5, st2_5, stj_5, st1_6, sti_6, st2_6, stj_6, st1_7, sti_7, st2_7, stj_7, st1_8, sti_8, st2_8, stj_8, st1_9, sti_9, st2_9, stj_9, kil_n, kil_i, kil_r, kil_l, kil_d, gl_0, gl_s, cat_i, cat_r, true_and, NF_gf]
      rw [br_0 (nI_ge hr (by omega))]
      rw [show lrF G n (stg R idN n) (r + 1) = lpF G n (lrF G n (stg R idN n) r) n from rfl] at ih
      generalize lrF G n (stg R idN n) r = L at hL ih ⊢
      have third : ∀ p, p ≤ n → ∀ b2 : Option Value, aW (Sp 0) 99 0 0 (RR none (NF (hup h (m + 21) (na 9 (prF n G R))) m t t2 ns G th n) z) 35 [some (.ref m), some (.int (nI r)), some (.int (nI p)), b2] [] (NF (hup h (m + 21) (na 9 (lpF G n L p))) m t t2 ns G th n) z 0 0 := by
        refine aUp ?_ fun p hp ihp => ?_
        · intro b2
          rw [s99_35]
          simp only [s99_0, s99_1, s99_3, s99_4, s99_7, s99_10, s99_11, s99_14, s99_15, s99_16, s99_17, s99_20, s99_23, s99_24, s99_26, s99_27, s99_30, s99_33, s99_34, s99_36, s99_37, s99_40, s99_43, s99_44, s99_46, s99_47, s99_50, s99_53, s99_54, s99_57, s99_58, s99_59, s99_60, s99_61, s99_64, s99_65, s99_68, s99_69, s99_70, s99_71, s99_74, s99_75, s99_76, s99_79, s99_80, s99_83, s99_84, s99_85, s99_88, s99_89, s99_90, s99_91, s99_94, s99_97, s99_100, s99_103, s99_106, s99_109, ldi_0, ldi_s, ldl_0, ldl_s, ldd_0, ldd_s, lda_0, lda_s, st1_0, st1_1, st2_0, st2_1, sti_0, sti_1, stj_0, stj_1, st1_2, sti_2, st2_2, stj_2, st1_3, sti_3, st2_3, stj_3, st1_4, sti_4, st2_4, stj_4, st1_5, sti_5, st2_5, stj_5, st1_6, sti_6, st2_6, stj_6, st1_7, sti_7, st2_7, stj_7, st1_8, sti_8, st2_8, stj_8, st1_9, sti_9, st2_9, stj_9, kil_n, kil_i, kil_r, kil_l, kil_d, gl_0, gl_s, cat_i, cat_r, true_and, NF_gf, nI_1]
          rw [br_1 (nI_le (Nat.le_refl _) (by omega))]
          exact ih _ _
        · intro b2
          have hL2 := lpF_lt (G := G) hL p (by omega)
          rw [s99_35]
          simp only [s99_0, s99_1, s99_3, s99_4, s99_7, s99_10, s99_11, s99_14, s99_15, s99_16, s99_17, s99_20, s99_23, s99_24, s99_26, s99_27, s99_30, s99_33, s99_34, s99_36, s99_37, s99_40, s99_43, s99_44, s99_46, s99_47, s99_50, s99_53, s99_54, s99_57, s99_58, s99_59, s99_60, s99_61, s99_64, s99_65, s99_68, s99_69, s99_70, s99_71, s99_74, s99_75, s99_76, s99_79, s99_80, s99_83, s99_84, s99_85, s99_88, s99_89, s99_90, s99_91, s99_94, s99_97, s99_100, s99_103, s99_106, s99_109, ldi_0, ldi_s, ldl_0, ldl_s, ldd_0, ldd_s, lda_0, lda_s, st1_0, st1_1, st2_0, st2_1, sti_0, sti_1, stj_0, stj_1, st1_2, sti_2, st2_2, stj_2, st1_3, sti_3, st2_3, stj_3, st1_4, sti_4, st2_4, stj_4, st1_5, sti_5, st2_5, stj_5, st1_6, sti_6, st2_6, stj_6, st1_7, sti_7, st2_7, stj_7, st1_8, sti_8, st2_8, stj_8, st1_9, sti_9, st2_9, stj_9, kil_n, kil_i, kil_r, kil_l, kil_d, gl_0, gl_s, cat_i, cat_r, true_and, NF_gf]
          rw [br_0 (nI_ge hp (by omega))]
          rw [show lpF G n L (p + 1) = lqF G p (lpF G n L p) n from rfl] at ihp
          generalize lpF G n L p = L2 at hL2 ihp ⊢
          have inn : ∀ q, q ≤ n → aW (Sp 0) 99 0 0 (RR none (NF (hup h (m + 21) (na 9 (prF n G R))) m t t2 ns G th n) z) 45 [some (.ref m), some (.int (nI r)), some (.int (nI p)), some (.int (nI q))] [] (NF (hup h (m + 21) (na 9 (lqF G p L2 q))) m t t2 ns G th n) z 0 0 := by
            refine aUp ?_ fun q hq ihq => ?_
            · rw [s99_45]
              simp only [s99_0, s99_1, s99_3, s99_4, s99_7, s99_10, s99_11, s99_14, s99_15, s99_16, s99_17, s99_20, s99_23, s99_24, s99_26, s99_27, s99_30, s99_33, s99_34, s99_36, s99_37, s99_40, s99_43, s99_44, s99_46, s99_47, s99_50, s99_53, s99_54, s99_57, s99_58, s99_59, s99_60, s99_61, s99_64, s99_65, s99_68, s99_69, s99_70, s99_71, s99_74, s99_75, s99_76, s99_79, s99_80, s99_83, s99_84, s99_85, s99_88, s99_89, s99_90, s99_91, s99_94, s99_97, s99_100, s99_103, s99_106, s99_109, ldi_0, ldi_s, ldl_0, ldl_s, ldd_0, ldd_s, lda_0, lda_s, st1_0, st1_1, st2_0, st2_1, sti_0, sti_1, stj_0, stj_1, st1_2, sti_2, st2_2, stj_2, st1_3, sti_3, st2_3, stj_3, st1_4, sti_4, st2_4, stj_4, st1_5, sti_5, st2_5, stj_5, st1_6, sti_6, st2_6, stj_6, st1_7, sti_7, st2_7, stj_7, st1_8, sti_8, st2_8, stj_8, st1_9, sti_9, st2_9, stj_9, kil_n, kil_i, kil_r, kil_l, kil_d, gl_0, gl_s, cat_i, cat_r, true_and, NF_gf, nI_1]
              rw [br_1 (nI_le (Nat.le_refl _) (by omega))]
              exact ihp _
            · have hL3 := lqF_lt (G := G) hp hL2 q (by omega)
              rw [s99_45]
              simp only [s99_0, s99_1, s99_3, s99_4, s99_7, s99_10, s99_11, s99_14, s99_15, s99_16, s99_17, s99_20, s99_23, s99_24, s99_26, s99_27, s99_30, s99_33, s99_34, s99_36, s99_37, s99_40, s99_43, s99_44, s99_46, s99_47, s99_50, s99_53, s99_54, s99_57, s99_58, s99_59, s99_60, s99_61, s99_64, s99_65, s99_68, s99_69, s99_70, s99_71, s99_74, s99_75, s99_76, s99_79, s99_80, s99_83, s99_84, s99_85, s99_88, s99_89, s99_90, s99_91, s99_94, s99_97, s99_100, s99_103, s99_106, s99_109, ldi_0, ldi_s, ldl_0, ldl_s, ldd_0, ldd_s, lda_0, lda_s, st1_0, st1_1, st2_0, st2_1, sti_0, sti_1, stj_0, stj_1, st1_2, sti_2, st2_2, stj_2, st1_3, sti_3, st2_3, stj_3, st1_4, sti_4, st2_4, stj_4, st1_5, sti_5, st2_5, stj_5, st1_6, sti_6, st2_6, stj_6, st1_7, sti_7, st2_7, stj_7, st1_8, sti_8, st2_8, stj_8, st1_9, sti_9, st2_9, stj_9, kil_n, kil_i, kil_r, kil_l, kil_d, gl_0, gl_s, cat_i, cat_r, true_and, NF_gf, nI_1, ald_tb (NF_Tb (hBX _)) (show p < 9 by omega), ald_tr (NF_Tb (hBX _)) (show p < 9 by omega) (show q < 9 by omega), ald_na (hA _) (show p < 9 by omega), ald_na (hA _) (show q < 9 by omega), ast_na (hA _) (show p < 9 by omega), hS, bI_0]
              rw [br_0 (nI_ge hq (by omega)), nI_leI (by have := hL3 p hp; omega) (by have := hL3 q hq; omega)]
              have e : lqF G p L2 (q + 1) = if G p q = true ∧ lqF G p L2 q q < lqF G p L2 q p then updN (lqF G p L2 q) p (lqF G p L2 q q) else lqF G p L2 q := rfl
              rw [e] at ihq
              refine ⟨fun h1 => ?_, fun h1 => ⟨fun h2 => ?_, fun h2 => ?_⟩⟩
              · rw [if_neg (by rw [h1]; simp)] at ihq
                exact ihq
              · rw [if_neg (by omega)] at ihq
                exact ihq
              · rw [if_pos ⟨by simpa using h1, by omega⟩] at ihq
                exact ihq
          exact inn 0 (by omega)
      exact third 0 (by omega) _
  have first : ∀ p, p ≤ n → aW (Sp 0) 99 0 0 (RR none (NF (hup h (m + 21) (na 9 (prF n G R))) m t t2 ns G th n) z) 2 [some (.ref m), some (.int (nI p)), none, none] [] (NF (hup h (m + 21) (na 9 (stg R idN p))) m t t2 ns G th n) z 0 0 := by
    refine aUp ?_ fun p hp ih => ?_
    · rw [s99_2]
      simp only [s99_0, s99_1, s99_3, s99_4, s99_7, s99_10, s99_11, s99_14, s99_15, s99_16, s99_17, s99_20, s99_23, s99_24, s99_26, s99_27, s99_30, s99_33, s99_34, s99_36, s99_37, s99_40, s99_43, s99_44, s99_46, s99_47, s99_50, s99_53, s99_54, s99_57, s99_58, s99_59, s99_60, s99_61, s99_64, s99_65, s99_68, s99_69, s99_70, s99_71, s99_74, s99_75, s99_76, s99_79, s99_80, s99_83, s99_84, s99_85, s99_88, s99_89, s99_90, s99_91, s99_94, s99_97, s99_100, s99_103, s99_106, s99_109, ldi_0, ldi_s, ldl_0, ldl_s, ldd_0, ldd_s, lda_0, lda_s, st1_0, st1_1, st2_0, st2_1, sti_0, sti_1, stj_0, stj_1, st1_2, sti_2, st2_2, stj_2, st1_3, sti_3, st2_3, stj_3, st1_4, sti_4, st2_4, stj_4, st1_5, sti_5, st2_5, stj_5, st1_6, sti_6, st2_6, stj_6, st1_7, sti_7, st2_7, stj_7, st1_8, sti_8, st2_8, stj_8, st1_9, sti_9, st2_9, stj_9, kil_n, kil_i, kil_r, kil_l, kil_d, gl_0, gl_s, cat_i, cat_r, true_and, NF_gf]
      rw [br_1 (nI_le (Nat.le_refl _) (by omega))]
      exact second 0 (by omega) none none
    · rw [s99_2]
      simp only [s99_0, s99_1, s99_3, s99_4, s99_7, s99_10, s99_11, s99_14, s99_15, s99_16, s99_17, s99_20, s99_23, s99_24, s99_26, s99_27, s99_30, s99_33, s99_34, s99_36, s99_37, s99_40, s99_43, s99_44, s99_46, s99_47, s99_50, s99_53, s99_54, s99_57, s99_58, s99_59, s99_60, s99_61, s99_64, s99_65, s99_68, s99_69, s99_70, s99_71, s99_74, s99_75, s99_76, s99_79, s99_80, s99_83, s99_84, s99_85, s99_88, s99_89, s99_90, s99_91, s99_94, s99_97, s99_100, s99_103, s99_106, s99_109, ldi_0, ldi_s, ldl_0, ldl_s, ldd_0, ldd_s, lda_0, lda_s, st1_0, st1_1, st2_0, st2_1, sti_0, sti_1, stj_0, stj_1, st1_2, sti_2, st2_2, stj_2, st1_3, sti_3, st2_3, stj_3, st1_4, sti_4, st2_4, stj_4, st1_5, sti_5, st2_5, stj_5, st1_6, sti_6, st2_6, stj_6, st1_7, sti_7, st2_7, stj_7, st1_8, sti_8, st2_8, stj_8, st1_9, sti_9, st2_9, stj_9, kil_n, kil_i, kil_r, kil_l, kil_d, gl_0, gl_s, cat_i, cat_r, true_and, NF_gf, nI_1, ast_na (hA _) (show p < 9 by omega), hS]
      rw [br_0 (nI_ge hp (by omega))]
      rw [← stgN_s] at ih
      exact ih
  have k0 := first 0 (by omega)
  rw [stg_0, hup_id hR] at k0
  exact k0
def pcF (n : Nat) (L : Nat → Nat) : Nat → Nat := cnt (fun p => decide (L p = p))
theorem sp_mpieces {R : Nat → Nat} (hB : MB h m t t2 SG) (hn : n ≤ 9) (hR : h (m + 21) = some (na 9 R)) : Sp 20 98 [.ref m] (NF h m t t2 ns G th n) z 0 0 (RR (some (.int (nI (pcF n (prF n G R) n)))) (NF (hup h (m + 21) (na 9 (prF n G R))) m t t2 ns G th n) z) := by
  have hT := hB.1
  have hA : ∀ X, NF (hup h (m + 21) X) m t t2 ns G th n (m + 21) = some X := fun X => NF_at hT (by omega)
  have hL := lrF_lt (G := G) (n := n) (L := stg R idN n) stg_id_lt n
  refine Sp_in (al := [some (.ref m), none, none]) ?_
  simp only [s98_0, s98_4, s98_5, s98_6, s98_7, s98_9, s98_10, s98_13, s98_16, s98_17, s98_18, s98_21, s98_22, s98_23, s98_24, s98_27, s98_28, s98_31, s98_32, s98_33, s98_34, s98_37, s98_40, s98_41, ldi_0, ldi_s, ldl_0, ldl_s, ldd_0, ldd_s, lda_0, lda_s, st1_0, st1_1, st2_0, st2_1, sti_0, sti_1, stj_0, stj_1, st1_2, sti_2, st2_2, stj_2, st1_3, sti_3, st2_3, stj_3, st1_4, sti_4, st2_4, stj_4, st1_5, sti_5, st2_5, stj_5, st1_6, sti_6, st2_6, stj_6, st1_7, sti_7, st2_7, stj_7, st1_8, sti_8, st2_8, stj_8, st1_9, sti_9, st2_9, stj_9, kil_n, kil_i, kil_r, kil_l, kil_d, gl_0, gl_s, cat_i, cat_r, true_and]
  refine c98_1r NF_m (sp_parts hB hn hR) ?_
  simp only [s98_0, s98_4, s98_5, s98_6, s98_7, s98_9, s98_10, s98_13, s98_16, s98_17, s98_18, s98_21, s98_22, s98_23, s98_24, s98_27, s98_28, s98_31, s98_32, s98_33, s98_34, s98_37, s98_40, s98_41, ldi_0, ldi_s, ldl_0, ldl_s, ldd_0, ldd_s, lda_0, lda_s, st1_0, st1_1, st2_0, st2_1, sti_0, sti_1, stj_0, stj_1, st1_2, sti_2, st2_2, stj_2, st1_3, sti_3, st2_3, stj_3, st1_4, sti_4, st2_4, stj_4, st1_5, sti_5, st2_5, stj_5, st1_6, sti_6, st2_6, stj_6, st1_7, sti_7, st2_7, stj_7, st1_8, sti_8, st2_8, stj_8, st1_9, sti_9, st2_9, stj_9, kil_n, kil_i, kil_r, kil_l, kil_d, gl_0, gl_s, cat_i, cat_r, true_and]
  have key : ∀ p, p ≤ n → aW (Sp 19) 98 0 0 (RR (some (.int (nI (pcF n (prF n G R) n)))) (NF (hup h (m + 21) (na 9 (prF n G R))) m t t2 ns G th n) z) 8 [some (.ref m), some (.int (nI (pcF n (prF n G R) p))), some (.int (nI p))] [] (NF (hup h (m + 21) (na 9 (prF n G R))) m t t2 ns G th n) z 0 0 := by
    refine aUp ?_ fun p hp ih => ?_
    · rw [s98_8]
      simp only [s98_0, s98_4, s98_5, s98_6, s98_7, s98_9, s98_10, s98_13, s98_16, s98_17, s98_18, s98_21, s98_22, s98_23, s98_24, s98_27, s98_28, s98_31, s98_32, s98_33, s98_34, s98_37, s98_40, s98_41, ldi_0, ldi_s, ldl_0, ldl_s, ldd_0, ldd_s, lda_0, lda_s, st1_0, st1_1, st2_0, st2_1, sti_0, sti_1, stj_0, stj_1, st1_2, sti_2, st2_2, stj_2, st1_3, sti_3, st2_3, stj_3, st1_4, sti_4, st2_4, stj_4, st1_5, sti_5, st2_5, stj_5, st1_6, sti_6, st2_6, stj_6, st1_7, sti_7, st2_7, stj_7, st1_8, sti_8, st2_8, stj_8, st1_9, sti_9, st2_9, stj_9, kil_n, kil_i, kil_r, kil_l, kil_d, gl_0, gl_s, cat_i, cat_r, true_and, NF_gf]
      rw [br_1 (nI_le (Nat.le_refl _) (by omega))]
      exact out_RR
    · have h3 : prF n G R p < n := hL p hp
      rw [s98_8]
      simp only [s98_0, s98_4, s98_5, s98_6, s98_7, s98_9, s98_10, s98_13, s98_16, s98_17, s98_18, s98_21, s98_22, s98_23, s98_24, s98_27, s98_28, s98_31, s98_32, s98_33, s98_34, s98_37, s98_40, s98_41, ldi_0, ldi_s, ldl_0, ldl_s, ldd_0, ldd_s, lda_0, lda_s, st1_0, st1_1, st2_0, st2_1, sti_0, sti_1, stj_0, stj_1, st1_2, sti_2, st2_2, stj_2, st1_3, sti_3, st2_3, stj_3, st1_4, sti_4, st2_4, stj_4, st1_5, sti_5, st2_5, stj_5, st1_6, sti_6, st2_6, stj_6, st1_7, sti_7, st2_7, stj_7, st1_8, sti_8, st2_8, stj_8, st1_9, sti_9, st2_9, stj_9, kil_n, kil_i, kil_r, kil_l, kil_d, gl_0, gl_s, cat_i, cat_r, true_and, NF_gf, nI_1, Int32.add_zero, ald_na (hA _) (show p < 9 by omega)]
      rw [br_0 (nI_ge hp (by omega)), nI_eq (by omega) (by omega)]
      refine ⟨fun h1 => ?_, fun h1 => ?_⟩
      · unfold pcF at ih ⊢
        rw [cnt_f (decide_eq_false h1)] at ih
        exact ih
      · unfold pcF at ih ⊢
        rw [cnt_t (decide_eq_true (Decidable.not_not.mp h1))] at ih
        exact ih
  exact key 0 (by omega)
theorem sp_mpiece {R : Nat → Nat} (hB : MB h m t t2 SG) (hn : n ≤ 9) (hR : h (m + 21) = some (na 9 R)) {p : Nat} (hp : p < n) : Sp 20 102 [.ref m, .int (nI p)] (NF h m t t2 ns G th n) z 0 0 (RR (some (.int (nI (prF n G R p)))) (NF (hup h (m + 21) (na 9 (prF n G R))) m t t2 ns G 0 n) z) := by
  have hA : ∀ X, NF (hup h (m + 21) X) m t t2 ns G 0 n (m + 21) = some X := fun X => NF_at hB.1 (by omega)
  refine Sp_in (al := [some (.ref m), some (.int (nI p))]) ?_
  simp only [s102_0, s102_1, s102_2, s102_5, s102_6, s102_7, s102_11, s102_14, s102_15, s102_18, s102_19, s102_23, s102_26, s102_27, s102_28, s102_32, s102_33, s102_36, s102_37, s102_38, ldi_0, ldi_s, ldl_0, ldl_s, ldd_0, ldd_s, lda_0, lda_s, st1_0, st1_1, st2_0, st2_1, sti_0, sti_1, stj_0, stj_1, st1_2, sti_2, st2_2, stj_2, st1_3, sti_3, st2_3, stj_3, st1_4, sti_4, st2_4, stj_4, st1_5, sti_5, st2_5, stj_5, st1_6, sti_6, st2_6, stj_6, st1_7, sti_7, st2_7, stj_7, st1_8, sti_8, st2_8, stj_8, st1_9, sti_9, st2_9, stj_9, kil_n, kil_i, kil_r, kil_l, kil_d, gl_0, gl_s, cat_i, cat_r, true_and, NF_th]
  refine c102_8r NF_m (sp_is hn) ?_
  simp only [s102_0, s102_1, s102_2, s102_5, s102_6, s102_7, s102_11, s102_14, s102_15, s102_18, s102_19, s102_23, s102_26, s102_27, s102_28, s102_32, s102_33, s102_36, s102_37, s102_38, ldi_0, ldi_s, ldl_0, ldl_s, ldd_0, ldd_s, lda_0, lda_s, st1_0, st1_1, st2_0, st2_1, sti_0, sti_1, stj_0, stj_1, st1_2, sti_2, st2_2, stj_2, st1_3, sti_3, st2_3, stj_3, st1_4, sti_4, st2_4, stj_4, st1_5, sti_5, st2_5, stj_5, st1_6, sti_6, st2_6, stj_6, st1_7, sti_7, st2_7, stj_7, st1_8, sti_8, st2_8, stj_8, st1_9, sti_9, st2_9, stj_9, kil_n, kil_i, kil_r, kil_l, kil_d, gl_0, gl_s, cat_i, cat_r, true_and, pl_nat hn hp]
  rw [br_1 (by decide)]
  refine c102_20r NF_m (sp_throws_f NF_m) ?_
  simp only [s102_0, s102_1, s102_2, s102_5, s102_6, s102_7, s102_11, s102_14, s102_15, s102_18, s102_19, s102_23, s102_26, s102_27, s102_28, s102_32, s102_33, s102_36, s102_37, s102_38, ldi_0, ldi_s, ldl_0, ldl_s, ldd_0, ldd_s, lda_0, lda_s, st1_0, st1_1, st2_0, st2_1, sti_0, sti_1, stj_0, stj_1, st1_2, sti_2, st2_2, stj_2, st1_3, sti_3, st2_3, stj_3, st1_4, sti_4, st2_4, stj_4, st1_5, sti_5, st2_5, stj_5, st1_6, sti_6, st2_6, stj_6, st1_7, sti_7, st2_7, stj_7, st1_8, sti_8, st2_8, stj_8, st1_9, sti_9, st2_9, stj_9, kil_n, kil_i, kil_r, kil_l, kil_d, gl_0, gl_s, cat_i, cat_r, true_and]
  rw [br_1 (by decide)]
  refine c102_29r NF_m (sp_parts hB hn hR) ?_
  simp only [s102_0, s102_1, s102_2, s102_5, s102_6, s102_7, s102_11, s102_14, s102_15, s102_18, s102_19, s102_23, s102_26, s102_27, s102_28, s102_32, s102_33, s102_36, s102_37, s102_38, ldi_0, ldi_s, ldl_0, ldl_s, ldd_0, ldd_s, lda_0, lda_s, st1_0, st1_1, st2_0, st2_1, sti_0, sti_1, stj_0, stj_1, st1_2, sti_2, st2_2, stj_2, st1_3, sti_3, st2_3, stj_3, st1_4, sti_4, st2_4, stj_4, st1_5, sti_5, st2_5, stj_5, st1_6, sti_6, st2_6, stj_6, st1_7, sti_7, st2_7, stj_7, st1_8, sti_8, st2_8, stj_8, st1_9, sti_9, st2_9, stj_9, kil_n, kil_i, kil_r, kil_l, kil_d, gl_0, gl_s, cat_i, cat_r, true_and, NF_gf, ald_na (hA _) (show p < 9 by omega)]
  exact out_RR
theorem sp_mpiece_no (hn : n ≤ 9) {p : Int32} (hp : pl n p = false) : Sp 20 102 [.ref m, .int p] (NF h m t t2 ns G th n) z 0 0 (RR (some (.int 0)) (NF h m t t2 ns G 1 n) z) := by
  refine Sp_in (al := [some (.ref m), some (.int p)]) ?_
  simp only [s102_0, s102_1, s102_2, s102_5, s102_6, s102_7, s102_11, s102_14, s102_15, s102_18, s102_19, s102_23, s102_26, s102_27, s102_28, s102_32, s102_33, s102_36, s102_37, s102_38, ldi_0, ldi_s, ldl_0, ldl_s, ldd_0, ldd_s, lda_0, lda_s, st1_0, st1_1, st2_0, st2_1, sti_0, sti_1, stj_0, stj_1, st1_2, sti_2, st2_2, stj_2, st1_3, sti_3, st2_3, stj_3, st1_4, sti_4, st2_4, stj_4, st1_5, sti_5, st2_5, stj_5, st1_6, sti_6, st2_6, stj_6, st1_7, sti_7, st2_7, stj_7, st1_8, sti_8, st2_8, stj_8, st1_9, sti_9, st2_9, stj_9, kil_n, kil_i, kil_r, kil_l, kil_d, gl_0, gl_s, cat_i, cat_r, true_and, NF_th]
  refine c102_8r NF_m (sp_is hn) ?_
  simp only [s102_0, s102_1, s102_2, s102_5, s102_6, s102_7, s102_11, s102_14, s102_15, s102_18, s102_19, s102_23, s102_26, s102_27, s102_28, s102_32, s102_33, s102_36, s102_37, s102_38, ldi_0, ldi_s, ldl_0, ldl_s, ldd_0, ldd_s, lda_0, lda_s, st1_0, st1_1, st2_0, st2_1, sti_0, sti_1, stj_0, stj_1, st1_2, sti_2, st2_2, stj_2, st1_3, sti_3, st2_3, stj_3, st1_4, sti_4, st2_4, stj_4, st1_5, sti_5, st2_5, stj_5, st1_6, sti_6, st2_6, stj_6, st1_7, sti_7, st2_7, stj_7, st1_8, sti_8, st2_8, stj_8, st1_9, sti_9, st2_9, stj_9, kil_n, kil_i, kil_r, kil_l, kil_d, gl_0, gl_s, cat_i, cat_r, true_and, hp]
  rw [br_0 (by decide)]
  refine c102_20r NF_m sp_throws_t ?_
  simp only [s102_0, s102_1, s102_2, s102_5, s102_6, s102_7, s102_11, s102_14, s102_15, s102_18, s102_19, s102_23, s102_26, s102_27, s102_28, s102_32, s102_33, s102_36, s102_37, s102_38, ldi_0, ldi_s, ldl_0, ldl_s, ldd_0, ldd_s, lda_0, lda_s, st1_0, st1_1, st2_0, st2_1, sti_0, sti_1, stj_0, stj_1, st1_2, sti_2, st2_2, stj_2, st1_3, sti_3, st2_3, stj_3, st1_4, sti_4, st2_4, stj_4, st1_5, sti_5, st2_5, stj_5, st1_6, sti_6, st2_6, stj_6, st1_7, sti_7, st2_7, stj_7, st1_8, sti_8, st2_8, stj_8, st1_9, sti_9, st2_9, stj_9, kil_n, kil_i, kil_r, kil_l, kil_d, gl_0, gl_s, cat_i, cat_r, true_and]
  rw [br_0 (by decide)]
  exact out_RR
/-- whether a set's places below p are so with each other -/
def gdq (G : Nat → Nat → Bool) (w : Bool) (S p : Nat) (g : Bool) : Nat → Bool
  | 0 => g
  | q + 1 => gdq G w S p g q && (!S.testBit q || decide (G p q = w))
def gds (G : Nat → Nat → Bool) (w : Bool) (S : Nat) : Nat → Bool
  | 0 => true
  | p + 1 => if S.testBit p then gdq G w S p (gds G w S p) p else gds G w S p
def mxS (n : Nat) (G : Nat → Nat → Bool) (w : Bool) : Nat → Nat
  | 0 => 0
  | S + 1 => if gds G w S n = true ∧ mxS n G w S < cnt (fun q => S.testBit q) n then cnt (fun q => S.testBit q) n else mxS n G w S
theorem mxS_le {n : Nat} {G : Nat → Nat → Bool} {w : Bool} (k : Nat) : mxS n G w k ≤ n := by
  induction k with
  | zero => exact Nat.zero_le _
  | succ k ih =>
    unfold mxS
    split
    · exact cnt_le _ _
    · exact ih
theorem sp_mset (hB : MB h m t t2 SG) (hn : n ≤ 9) {w : Bool} : Sp 1 107 [.ref m, .int (bI w)] (NF h m t t2 ns G th n) z 0 0 (RR (some (.int (nI (mxS n G w (2 ^ n))))) (NF h m t t2 ns G th n) z) := by
  have h2 : 2 ^ n ≤ 2 ^ 9 := Nat.pow_le_pow_right (by decide) hn
  refine Sp_in (al := [some (.ref m), some (.int (bI w)), none, none, none, none, none, none]) ?_
  simp only [s107_0, s107_1, s107_2, s107_3, s107_5, s107_6, s107_7, s107_10, s107_11, s107_14, s107_15, s107_17, s107_18, s107_20, s107_21, s107_25, s107_26, s107_29, s107_32, s107_33, s107_35, s107_36, s107_37, s107_38, s107_41, s107_44, s107_47, s107_48, s107_52, s107_54, s107_57, s107_59, s107_62, s107_63, s107_65, s107_66, s107_67, s107_68, s107_71, s107_72, s107_75, s107_77, s107_78, s107_80, s107_81, s107_82, s107_85, s107_86, s107_89, s107_90, s107_92, s107_95, s107_98, s107_101, s107_104, s107_106, s107_109, s107_111, s107_112, s107_115, s107_117, s107_118, s107_121, s107_124, s107_125, ldi_0, ldi_s, ldl_0, ldl_s, ldd_0, ldd_s, lda_0, lda_s, st1_0, st1_1, st2_0, st2_1, sti_0, sti_1, stj_0, stj_1, st1_2, sti_2, st2_2, stj_2, st1_3, sti_3, st2_3, stj_3, st1_4, sti_4, st2_4, stj_4, st1_5, sti_5, st2_5, stj_5, st1_6, sti_6, st2_6, stj_6, st1_7, sti_7, st2_7, stj_7, st1_8, sti_8, st2_8, stj_8, st1_9, sti_9, st2_9, stj_9, kil_n, kil_i, kil_r, kil_l, kil_d, gl_0, gl_s, cat_i, cat_r, true_and]
  have key : ∀ S, S ≤ 2 ^ n → ∀ b1 b2 b3 b4 : Option Value, aW (Sp 0) 107 0 0 (RR (some (.int (nI (mxS n G w (2 ^ n))))) (NF h m t t2 ns G th n) z) 4 [some (.ref m), some (.int (bI w)), some (.int (nI (mxS n G w S))), some (.int (nI S)), kil b1, kil b2, kil b3, b4] [] (NF h m t t2 ns G th n) z 0 0 := by
    refine aUp ?_ fun S hS ih => ?_
    · intro b1 b2 b3 b4
      rw [s107_4]
      simp only [s107_0, s107_1, s107_2, s107_3, s107_5, s107_6, s107_7, s107_10, s107_11, s107_14, s107_15, s107_17, s107_18, s107_20, s107_21, s107_25, s107_26, s107_29, s107_32, s107_33, s107_35, s107_36, s107_37, s107_38, s107_41, s107_44, s107_47, s107_48, s107_52, s107_54, s107_57, s107_59, s107_62, s107_63, s107_65, s107_66, s107_67, s107_68, s107_71, s107_72, s107_75, s107_77, s107_78, s107_80, s107_81, s107_82, s107_85, s107_86, s107_89, s107_90, s107_92, s107_95, s107_98, s107_101, s107_104, s107_106, s107_109, s107_111, s107_112, s107_115, s107_117, s107_118, s107_121, s107_124, s107_125, ldi_0, ldi_s, ldl_0, ldl_s, ldd_0, ldd_s, lda_0, lda_s, st1_0, st1_1, st2_0, st2_1, sti_0, sti_1, stj_0, stj_1, st1_2, sti_2, st2_2, stj_2, st1_3, sti_3, st2_3, stj_3, st1_4, sti_4, st2_4, stj_4, st1_5, sti_5, st2_5, stj_5, st1_6, sti_6, st2_6, stj_6, st1_7, sti_7, st2_7, stj_7, st1_8, sti_8, st2_8, stj_8, st1_9, sti_9, st2_9, stj_9, kil_n, kil_i, kil_r, kil_l, kil_d, gl_0, gl_s, cat_i, cat_r, true_and, NF_gf]
      rw [one_shl (by omega), br_1 (nI_le (Nat.le_refl _) (by omega))]
      exact out_RR
    · intro b1 b2 b3 b4
      have hm9 := mxS_le (n := n) (G := G) (w := w) S
      rw [s107_4]
      simp only [s107_0, s107_1, s107_2, s107_3, s107_5, s107_6, s107_7, s107_10, s107_11, s107_14, s107_15, s107_17, s107_18, s107_20, s107_21, s107_25, s107_26, s107_29, s107_32, s107_33, s107_35, s107_36, s107_37, s107_38, s107_41, s107_44, s107_47, s107_48, s107_52, s107_54, s107_57, s107_59, s107_62, s107_63, s107_65, s107_66, s107_67, s107_68, s107_71, s107_72, s107_75, s107_77, s107_78, s107_80, s107_81, s107_82, s107_85, s107_86, s107_89, s107_90, s107_92, s107_95, s107_98, s107_101, s107_104, s107_106, s107_109, s107_111, s107_112, s107_115, s107_117, s107_118, s107_121, s107_124, s107_125, ldi_0, ldi_s, ldl_0, ldl_s, ldd_0, ldd_s, lda_0, lda_s, st1_0, st1_1, st2_0, st2_1, sti_0, sti_1, stj_0, stj_1, st1_2, sti_2, st2_2, stj_2, st1_3, sti_3, st2_3, stj_3, st1_4, sti_4, st2_4, stj_4, st1_5, sti_5, st2_5, stj_5, st1_6, sti_6, st2_6, stj_6, st1_7, sti_7, st2_7, stj_7, st1_8, sti_8, st2_8, stj_8, st1_9, sti_9, st2_9, stj_9, kil_n, kil_i, kil_r, kil_l, kil_d, gl_0, gl_s, cat_i, cat_r, true_and, NF_gf]
      rw [one_shl (by omega), br_0 (nI_ge hS (by omega))]
      have places : ∀ p, p ≤ n → ∀ b4 : Option Value, aW (Sp 0) 107 0 0 (RR (some (.int (nI (mxS n G w (2 ^ n))))) (NF h m t t2 ns G th n) z) 23 [some (.ref m), some (.int (bI w)), some (.int (nI (mxS n G w S))), some (.int (nI S)), some (.int (nI (cnt (fun q => S.testBit q) p))), some (.int (bI (gds G w S p))), some (.int (nI p)), b4] [] (NF h m t t2 ns G th n) z 0 0 := by
        refine aUp ?_ fun p hp ihp => ?_
        · intro b4
          have hc := cnt_le (fun q => S.testBit q) n
          have e : mxS n G w (S + 1) = if gds G w S n = true ∧ mxS n G w S < cnt (fun q => S.testBit q) n then cnt (fun q => S.testBit q) n else mxS n G w S := rfl
          rw [e] at ih
          rw [s107_23]
          simp only [s107_0, s107_1, s107_2, s107_3, s107_5, s107_6, s107_7, s107_10, s107_11, s107_14, s107_15, s107_17, s107_18, s107_20, s107_21, s107_25, s107_26, s107_29, s107_32, s107_33, s107_35, s107_36, s107_37, s107_38, s107_41, s107_44, s107_47, s107_48, s107_52, s107_54, s107_57, s107_59, s107_62, s107_63, s107_65, s107_66, s107_67, s107_68, s107_71, s107_72, s107_75, s107_77, s107_78, s107_80, s107_81, s107_82, s107_85, s107_86, s107_89, s107_90, s107_92, s107_95, s107_98, s107_101, s107_104, s107_106, s107_109, s107_111, s107_112, s107_115, s107_117, s107_118, s107_121, s107_124, s107_125, ldi_0, ldi_s, ldl_0, ldl_s, ldd_0, ldd_s, lda_0, lda_s, st1_0, st1_1, st2_0, st2_1, sti_0, sti_1, stj_0, stj_1, st1_2, sti_2, st2_2, stj_2, st1_3, sti_3, st2_3, stj_3, st1_4, sti_4, st2_4, stj_4, st1_5, sti_5, st2_5, stj_5, st1_6, sti_6, st2_6, stj_6, st1_7, sti_7, st2_7, stj_7, st1_8, sti_8, st2_8, stj_8, st1_9, sti_9, st2_9, stj_9, kil_n, kil_i, kil_r, kil_l, kil_d, gl_0, gl_s, cat_i, cat_r, true_and, NF_gf, nI_1, bI_0]
          rw [br_1 (nI_le (Nat.le_refl _) (by omega)), nI_leI (by omega) (by omega)]
          refine ⟨fun h1 => ?_, fun h1 => ⟨fun h3 => ?_, fun h3 => ?_⟩⟩
          · rw [if_neg (by rw [h1]; simp)] at ih
            exact ih (some (.int _)) (some (.int _)) (some (.int _)) _
          · rw [if_neg (by omega)] at ih
            exact ih (some (.int _)) (some (.int _)) (some (.int _)) _
          · rw [if_pos ⟨by simpa using h1, by omega⟩] at ih
            exact ih (some (.int _)) (some (.int _)) (some (.int _)) _
        · intro b4
          have e : gds G w S (p + 1) = if S.testBit p then gdq G w S p (gds G w S p) p else gds G w S p := rfl
          rw [e] at ihp
          rw [s107_23]
          simp only [s107_0, s107_1, s107_2, s107_3, s107_5, s107_6, s107_7, s107_10, s107_11, s107_14, s107_15, s107_17, s107_18, s107_20, s107_21, s107_25, s107_26, s107_29, s107_32, s107_33, s107_35, s107_36, s107_37, s107_38, s107_41, s107_44, s107_47, s107_48, s107_52, s107_54, s107_57, s107_59, s107_62, s107_63, s107_65, s107_66, s107_67, s107_68, s107_71, s107_72, s107_75, s107_77, s107_78, s107_80, s107_81, s107_82, s107_85, s107_86, s107_89, s107_90, s107_92, s107_95, s107_98, s107_101, s107_104, s107_106, s107_109, s107_111, s107_112, s107_115, s107_117, s107_118, s107_121, s107_124, s107_125, ldi_0, ldi_s, ldl_0, ldl_s, ldd_0, ldd_s, lda_0, lda_s, st1_0, st1_1, st2_0, st2_1, sti_0, sti_1, stj_0, stj_1, st1_2, sti_2, st2_2, stj_2, st1_3, sti_3, st2_3, stj_3, st1_4, sti_4, st2_4, stj_4, st1_5, sti_5, st2_5, stj_5, st1_6, sti_6, st2_6, stj_6, st1_7, sti_7, st2_7, stj_7, st1_8, sti_8, st2_8, stj_8, st1_9, sti_9, st2_9, stj_9, kil_n, kil_i, kil_r, kil_l, kil_d, gl_0, gl_s, cat_i, cat_r, true_and, NF_gf, nI_1]
          rw [br_0 (nI_ge hp (by omega)), bit_int' (show S < 2 ^ 31 by omega) (show p < 31 by omega)]
          by_cases hb : S.testBit p = true
          · rw [if_pos hb, br_1 (by decide)]
            rw [if_pos hb, cnt_t (g := fun q => S.testBit q) hb] at ihp
            have inn : ∀ q, q ≤ p → aW (Sp 0) 107 0 0 (RR (some (.int (nI (mxS n G w (2 ^ n))))) (NF h m t t2 ns G th n) z) 50 [some (.ref m), some (.int (bI w)), some (.int (nI (mxS n G w S))), some (.int (nI S)), some (.int (nI (cnt (fun q => S.testBit q) p + 1))), some (.int (bI (gdq G w S p (gds G w S p) q))), some (.int (nI p)), some (.int (nI q))] [] (NF h m t t2 ns G th n) z 0 0 := by
              refine aUp ?_ fun q hq ihq => ?_
              · rw [s107_50]
                simp only [s107_0, s107_1, s107_2, s107_3, s107_5, s107_6, s107_7, s107_10, s107_11, s107_14, s107_15, s107_17, s107_18, s107_20, s107_21, s107_25, s107_26, s107_29, s107_32, s107_33, s107_35, s107_36, s107_37, s107_38, s107_41, s107_44, s107_47, s107_48, s107_52, s107_54, s107_57, s107_59, s107_62, s107_63, s107_65, s107_66, s107_67, s107_68, s107_71, s107_72, s107_75, s107_77, s107_78, s107_80, s107_81, s107_82, s107_85, s107_86, s107_89, s107_90, s107_92, s107_95, s107_98, s107_101, s107_104, s107_106, s107_109, s107_111, s107_112, s107_115, s107_117, s107_118, s107_121, s107_124, s107_125, ldi_0, ldi_s, ldl_0, ldl_s, ldd_0, ldd_s, lda_0, lda_s, st1_0, st1_1, st2_0, st2_1, sti_0, sti_1, stj_0, stj_1, st1_2, sti_2, st2_2, stj_2, st1_3, sti_3, st2_3, stj_3, st1_4, sti_4, st2_4, stj_4, st1_5, sti_5, st2_5, stj_5, st1_6, sti_6, st2_6, stj_6, st1_7, sti_7, st2_7, stj_7, st1_8, sti_8, st2_8, stj_8, st1_9, sti_9, st2_9, stj_9, kil_n, kil_i, kil_r, kil_l, kil_d, gl_0, gl_s, cat_i, cat_r, true_and, nI_1]
                rw [br_1 (nI_le (Nat.le_refl _) (by omega))]
                exact ihp _
              · have e2 : gdq G w S p (gds G w S p) (q + 1) = (gdq G w S p (gds G w S p) q && (!S.testBit q || decide (G p q = w))) := rfl
                rw [e2] at ihq
                rw [s107_50]
                simp only [s107_0, s107_1, s107_2, s107_3, s107_5, s107_6, s107_7, s107_10, s107_11, s107_14, s107_15, s107_17, s107_18, s107_20, s107_21, s107_25, s107_26, s107_29, s107_32, s107_33, s107_35, s107_36, s107_37, s107_38, s107_41, s107_44, s107_47, s107_48, s107_52, s107_54, s107_57, s107_59, s107_62, s107_63, s107_65, s107_66, s107_67, s107_68, s107_71, s107_72, s107_75, s107_77, s107_78, s107_80, s107_81, s107_82, s107_85, s107_86, s107_89, s107_90, s107_92, s107_95, s107_98, s107_101, s107_104, s107_106, s107_109, s107_111, s107_112, s107_115, s107_117, s107_118, s107_121, s107_124, s107_125, ldi_0, ldi_s, ldl_0, ldl_s, ldd_0, ldd_s, lda_0, lda_s, st1_0, st1_1, st2_0, st2_1, sti_0, sti_1, stj_0, stj_1, st1_2, sti_2, st2_2, stj_2, st1_3, sti_3, st2_3, stj_3, st1_4, sti_4, st2_4, stj_4, st1_5, sti_5, st2_5, stj_5, st1_6, sti_6, st2_6, stj_6, st1_7, sti_7, st2_7, stj_7, st1_8, sti_8, st2_8, stj_8, st1_9, sti_9, st2_9, stj_9, kil_n, kil_i, kil_r, kil_l, kil_d, gl_0, gl_s, cat_i, cat_r, true_and, NF_gf, nI_1, ald_tb (NF_Tb hB) (show p < 9 by omega), ald_tr (NF_Tb hB) (show p < 9 by omega) (show q < 9 by omega), bI_0, bI_inj]
                rw [br_0 (nI_ge hq (by omega)), bit_int' (show S < 2 ^ 31 by omega) (show q < 31 by omega)]
                refine ⟨fun h1 => ?_, fun h1 => ?_⟩
                · rw [h1] at ihq
                  exact ihq
                · rw [Bool.not_eq_false] at h1
                  rw [h1, Bool.true_and] at ihq
                  by_cases hbq : S.testBit q = true
                  · rw [if_pos hbq, br_0 (by decide)]
                    rw [hbq, Bool.not_true, Bool.false_or] at ihq
                    refine ⟨fun h4 => ?_, fun h4 => ?_⟩
                    · rw [decide_eq_false h4] at ihq
                      exact ihq
                    · rw [decide_eq_true (Decidable.not_not.mp h4)] at ihq
                      exact ihq
                  · rw [if_neg hbq, br_1 (by decide)]
                    rw [Bool.not_eq_true] at hbq
                    rw [hbq] at ihq
                    exact ihq
            exact inn 0 (by omega)
          · rw [if_neg hb, br_0 (by decide)]
            rw [if_neg hb, cnt_f (g := fun q => S.testBit q) (by simpa using hb)] at ihp
            exact ihp _
      exact places 0 (by omega) _
  exact key 0 (Nat.zero_le _) none none none none
theorem sp_mapart (hB : MB h m t t2 SG) (hn : n ≤ 9) : Sp 20 106 [.ref m] (NF h m t t2 ns G th n) z 0 0 (RR (some (.int (nI (mxS n G false (2 ^ n))))) (NF h m t t2 ns G th n) z) := by
  refine Sp_in (al := [some (.ref m)]) ?_
  simp only [s106_0, s106_1, s106_5, ldi_0, ldi_s, ldl_0, ldl_s, ldd_0, ldd_s, lda_0, lda_s, st1_0, st1_1, st2_0, st2_1, sti_0, sti_1, stj_0, stj_1, st1_2, sti_2, st2_2, stj_2, st1_3, sti_3, st2_3, stj_3, st1_4, sti_4, st2_4, stj_4, st1_5, sti_5, st2_5, stj_5, st1_6, sti_6, st2_6, stj_6, st1_7, sti_7, st2_7, stj_7, st1_8, sti_8, st2_8, stj_8, st1_9, sti_9, st2_9, stj_9, kil_n, kil_i, kil_r, kil_l, kil_d, gl_0, gl_s, cat_i, cat_r, true_and]
  refine c106_2r NF_m (sp_mset (w := false) hB hn) ?_
  simp only [s106_0, s106_1, s106_5, ldi_0, ldi_s, ldl_0, ldl_s, ldd_0, ldd_s, lda_0, lda_s, st1_0, st1_1, st2_0, st2_1, sti_0, sti_1, stj_0, stj_1, st1_2, sti_2, st2_2, stj_2, st1_3, sti_3, st2_3, stj_3, st1_4, sti_4, st2_4, stj_4, st1_5, sti_5, st2_5, stj_5, st1_6, sti_6, st2_6, stj_6, st1_7, sti_7, st2_7, stj_7, st1_8, sti_8, st2_8, stj_8, st1_9, sti_9, st2_9, stj_9, kil_n, kil_i, kil_r, kil_l, kil_d, gl_0, gl_s, cat_i, cat_r, true_and]
  exact out_RR
theorem sp_mtogether (hB : MB h m t t2 SG) (hn : n ≤ 9) : Sp 20 111 [.ref m] (NF h m t t2 ns G th n) z 0 0 (RR (some (.int (nI (mxS n G true (2 ^ n))))) (NF h m t t2 ns G th n) z) := by
  refine Sp_in (al := [some (.ref m)]) ?_
  simp only [s111_0, s111_1, s111_5, ldi_0, ldi_s, ldl_0, ldl_s, ldd_0, ldd_s, lda_0, lda_s, st1_0, st1_1, st2_0, st2_1, sti_0, sti_1, stj_0, stj_1, st1_2, sti_2, st2_2, stj_2, st1_3, sti_3, st2_3, stj_3, st1_4, sti_4, st2_4, stj_4, st1_5, sti_5, st2_5, stj_5, st1_6, sti_6, st2_6, stj_6, st1_7, sti_7, st2_7, stj_7, st1_8, sti_8, st2_8, stj_8, st1_9, sti_9, st2_9, stj_9, kil_n, kil_i, kil_r, kil_l, kil_d, gl_0, gl_s, cat_i, cat_r, true_and]
  refine c111_2r NF_m (sp_mset (w := true) hB hn) ?_
  simp only [s111_0, s111_1, s111_5, ldi_0, ldi_s, ldl_0, ldl_s, ldd_0, ldd_s, lda_0, lda_s, st1_0, st1_1, st2_0, st2_1, sti_0, sti_1, stj_0, stj_1, st1_2, sti_2, st2_2, stj_2, st1_3, sti_3, st2_3, stj_3, st1_4, sti_4, st2_4, stj_4, st1_5, sti_5, st2_5, stj_5, st1_6, sti_6, st2_6, stj_6, st1_7, sti_7, st2_7, stj_7, st1_8, sti_8, st2_8, stj_8, st1_9, sti_9, st2_9, stj_9, kil_n, kil_i, kil_r, kil_l, kil_d, gl_0, gl_s, cat_i, cat_r, true_and]
  exact out_RR
end Mod5
