/-! ColourmapModel: directions, rings, the checksum -/
def ngq (X : Nat → Nat → Bool) (g p : Nat) : Nat → Bool
  | 0 => true
  | q + 1 => ngq X g p q && (g.testBit q || !X p q)
def ngp (X : Nat → Nat → Bool) (n g : Nat) : Nat → Nat
  | 0 => g
  | p + 1 => if ngq X (ngp X n g p) p n = true then ngp X n g p ||| 2 ^ p else ngp X n g p
def ngr (X : Nat → Nat → Bool) (n : Nat) : Nat → Nat
  | 0 => 0
  | r + 1 => ngp X n (ngr X n r) n
def nrF (X : Nat → Nat → Bool) (n : Nat) : Bool := decide (ngr X n n = 2 ^ n - 1)
theorem ngp_lt {X : Nat → Nat → Bool} {n g : Nat} (hg : g < 512) (p : Nat) (hp : p ≤ 9) : ngp X n g p < 512 := by
  induction p with
  | zero => exact hg
  | succ p ih =>
    unfold ngp
    split
    · exact or512 (ih (by omega)) (p2_lt (by omega))
    · exact ih (by omega)
theorem ngr_lt {X : Nat → Nat → Bool} {n : Nat} (hn : n ≤ 9) (r : Nat) : ngr X n r < 512 := by
  induction r with
  | zero => show 0 < 512; decide
  | succ r ih => exact ngp_lt ih n hn
def ldT (G : Nat → Nat → Bool) (w a b : Nat) : Bool := G a b && w.testBit (wys G a + cnt (G a) b)
def ldB (G : Nat → Nat → Bool) (w a : Nat) (X : Nat → Nat → Bool) : Nat → (Nat → Nat → Bool)
  | 0 => X
  | b + 1 => gUpd (gUpd (ldB G w a X b) a b (ldT G w a b)) b a (G a b && !ldT G w a b)
def ldA (G : Nat → Nat → Bool) (w : Nat) (X : Nat → Nat → Bool) : Nat → (Nat → Nat → Bool)
  | 0 => X
  | a + 1 => ldB G w a (ldA G w X a) a
def drF (G : Nat → Nat → Bool) (n : Nat) (X : Nat → Nat → Bool) : Nat → Nat × (Nat → Nat → Bool)
  | 0 => (0, X)
  | w + 1 => ((drF G n X w).1 + (if nrF (ldA G w (drF G n X w).2 n) n = true then 1 else 0), ldA G w (drF G n X w).2 n)
theorem drF_le {G : Nat → Nat → Bool} {n : Nat} {X : Nat → Nat → Bool} (w : Nat) : (drF G n X w).1 ≤ w := by
  induction w with
  | zero => exact Nat.le_refl _
  | succ w ih =>
    show (drF G n X w).1 + (if _ then 1 else 0) ≤ w + 1
    split <;> omega
theorem wys_mono {G : Nat → Nat → Bool} {a n : Nat} (h : a ≤ n) : wys G a ≤ wys G n := by
  induction h with
  | refl => exact Nat.le_refl _
  | step _ ih => exact Nat.le_trans ih (Nat.le_add_right _ _)
theorem cnt_mono {g : Nat → Bool} {a n : Nat} (h : a ≤ n) : cnt g a ≤ cnt g n := by
  induction h with
  | refl => exact Nat.le_refl _
  | step _ ih => exact Nat.le_trans ih (Nat.le_add_right _ _)
theorem wys_ix {G : Nat → Nat → Bool} {a b n : Nat} (ha : a < n) (hb : b < a) (hg : G a b = true) : wys G a + cnt (G a) b < wys G n := by
  have h1 := wys_mono (G := G) (show a + 1 ≤ n from ha)
  have h2 : wys G (a + 1) = wys G a + cnt (G a) a := rfl
  have h3 := cnt_mono (g := G a) (show b + 1 ≤ a from hb)
  rw [cnt_t hg] at h3
  omega
theorem bit_iff {x a : Nat} (hx : x < 2 ^ 31) (ha : a < 31) {A B : Prop} : br (¬ nI x >>> (nI a &&& 31) &&& 1 = 1) A B = br (x.testBit a = false) A B := by
  rw [bit_int' hx ha]
  cases x.testBit a
  · rw [br_1 (by decide), br_1 rfl]
  · rw [br_0 (by decide), br_0 (by decide)]
theorem bit_iff1 {x a : Nat} (hx : x < 2 ^ 31) (ha : a < 31) {A B : Prop} : br (nI x >>> (nI a &&& 31) &&& 1 = 1) A B = br (x.testBit a = true) A B := by
  rw [bit_int' hx ha]
  cases x.testBit a
  · rw [br_0 (by decide), br_0 (by decide)]
  · rw [br_1 (by decide), br_1 rfl]
section Mod11
variable {h : AH} {m t t2 ns n z : Nat} {G SG X : Nat → Nat → Bool} {th : Int32}
theorem NF_tt {T : Nat} (hT : TT m t t2) (ha : m + 21 ≤ T) : tbS (NF h m t t2 ns G th n) T X = NF (tbS h T X) m t t2 ns G th n := by
  unfold TT at hT
  funext q
  unfold NF tbS hup
  dsimp only
  by_cases h4 : q = m
  · rw [if_pos h4, if_pos h4, if_neg (show ¬ (T < q ∧ q < T + 10) by omega)]
  · rw [if_neg h4, if_neg h4]
    by_cases h2 : t < q ∧ q < t + 10
    · rw [if_pos h2, if_pos h2, if_neg (show ¬ (T < q ∧ q < T + 10) by omega)]
    · rw [if_neg h2, if_neg h2]
theorem NF_TT {T : Nat} (hT : TT m t t2) (ha : m + 21 ≤ T) (hX : Tb h T X) : Tb (NF h m t t2 ns G th n) T X := hX.fr fun q a b => NF_old hT (by omega)
theorem MB.tt {T : Nat} (hB : MB h m t t2 SG) (ha : m + 21 ≤ T) : MB (tbS h T X) m t t2 SG := hB.fr fun q a b => tbS_ne (by omega)
theorem sp_hasNoRing (hT : TT m t t2) (hn : n ≤ 9) (hX : Tb h (m + 30) X) : Sp 1 196 [.ref m] (NF h m t t2 ns G th n) z 0 0 (RR (some (.int (bI (nrF X n)))) (NF h m t t2 ns G th n) z) := by
  have hXN := NF_TT (ns := ns) (G := G) (th := th) (n := n) hT (by omega) hX
  have h29 : 2 ^ n ≤ 2 ^ 9 := Nat.pow_le_pow_right (by decide) hn
  refine Sp_in (al := [some (.ref m), none, none, none, none, none]) ?_
  simp only [s196_0, s196_1, s196_2, s196_3, s196_5, s196_6, s196_9, s196_12, s196_13, s196_15, s196_16, s196_19, s196_22, s196_23, s196_25, s196_26, s196_30, s196_31, s196_34, s196_37, s196_39, s196_42, s196_43, s196_45, s196_46, s196_47, s196_48, s196_49, s196_52, s196_53, s196_56, s196_57, s196_58, s196_60, s196_61, s196_64, s196_65, s196_68, s196_69, s196_71, s196_74, s196_77, s196_79, s196_82, s196_83, s196_84, s196_85, s196_86, s196_87, s196_88, s196_91, s196_94, s196_97, s196_100, s196_101, s196_102, s196_103, s196_106, s196_107, s196_108, s196_109, s196_112, s196_113, s196_116, s196_117, ldi_0, ldi_s, ldl_0, ldl_s, ldd_0, ldd_s, lda_0, lda_s, st1_0, st1_1, st2_0, st2_1, sti_0, sti_1, stj_0, stj_1, st1_2, sti_2, st2_2, stj_2, st1_3, sti_3, st2_3, stj_3, st1_4, sti_4, st2_4, stj_4, st1_5, sti_5, st2_5, stj_5, st1_6, sti_6, st2_6, stj_6, st1_7, sti_7, st2_7, stj_7, st1_8, sti_8, st2_8, stj_8, st1_9, sti_9, st2_9, stj_9, kil_n, kil_i, kil_r, kil_l, kil_d, gl_0, gl_s, cat_i, cat_r, true_and]
  have rounds : ∀ r, r ≤ n → ∀ b1 b2 b3 : Option Value, aW (Sp 0) 196 0 0 (RR (some (.int (bI (nrF X n)))) (NF h m t t2 ns G th n) z) 4 [some (.ref m), some (.int (nI (ngr X n r))), some (.int (nI r)), kil b1, kil b2, b3] [] (NF h m t t2 ns G th n) z 0 0 := by
    refine aUp ?_ fun r hr ih => ?_
    · intro b1 b2 b3
      have hl := ngr_lt (X := X) hn n
      rw [s196_4]
      simp only [s196_0, s196_1, s196_2, s196_3, s196_5, s196_6, s196_9, s196_12, s196_13, s196_15, s196_16, s196_19, s196_22, s196_23, s196_25, s196_26, s196_30, s196_31, s196_34, s196_37, s196_39, s196_42, s196_43, s196_45, s196_46, s196_47, s196_48, s196_49, s196_52, s196_53, s196_56, s196_57, s196_58, s196_60, s196_61, s196_64, s196_65, s196_68, s196_69, s196_71, s196_74, s196_77, s196_79, s196_82, s196_83, s196_84, s196_85, s196_86, s196_87, s196_88, s196_91, s196_94, s196_97, s196_100, s196_101, s196_102, s196_103, s196_106, s196_107, s196_108, s196_109, s196_112, s196_113, s196_116, s196_117, ldi_0, ldi_s, ldl_0, ldl_s, ldd_0, ldd_s, lda_0, lda_s, st1_0, st1_1, st2_0, st2_1, sti_0, sti_1, stj_0, stj_1, st1_2, sti_2, st2_2, stj_2, st1_3, sti_3, st2_3, stj_3, st1_4, sti_4, st2_4, stj_4, st1_5, sti_5, st2_5, stj_5, st1_6, sti_6, st2_6, stj_6, st1_7, sti_7, st2_7, stj_7, st1_8, sti_8, st2_8, stj_8, st1_9, sti_9, st2_9, stj_9, kil_n, kil_i, kil_r, kil_l, kil_d, gl_0, gl_s, cat_i, cat_r, true_and, NF_gf]
      rw [br_1 (nI_le (Nat.le_refl _) (by omega)), one_shl (by omega), nI_lit1, pk_sub Nat.one_le_two_pow, nI_eq (by omega) (by omega)]
      refine ⟨fun h1 => ⟨by decide, out_eq ?_ rfl rfl⟩, fun h1 => ⟨by decide, out_eq ?_ rfl rfl⟩⟩
      · rw [show nrF X n = false from decide_eq_false h1]
        rfl
      · rw [show nrF X n = true from decide_eq_true (Decidable.not_not.mp h1)]
        rfl
    · intro b1 b2 b3
      have hl := ngr_lt (X := X) hn r
      rw [show ngr X n (r + 1) = ngp X n (ngr X n r) n from rfl] at ih
      rw [s196_4]
      simp only [s196_0, s196_1, s196_2, s196_3, s196_5, s196_6, s196_9, s196_12, s196_13, s196_15, s196_16, s196_19, s196_22, s196_23, s196_25, s196_26, s196_30, s196_31, s196_34, s196_37, s196_39, s196_42, s196_43, s196_45, s196_46, s196_47, s196_48, s196_49, s196_52, s196_53, s196_56, s196_57, s196_58, s196_60, s196_61, s196_64, s196_65, s196_68, s196_69, s196_71, s196_74, s196_77, s196_79, s196_82, s196_83, s196_84, s196_85, s196_86, s196_87, s196_88, s196_91, s196_94, s196_97, s196_100, s196_101, s196_102, s196_103, s196_106, s196_107, s196_108, s196_109, s196_112, s196_113, s196_116, s196_117, ldi_0, ldi_s, ldl_0, ldl_s, ldd_0, ldd_s, lda_0, lda_s, st1_0, st1_1, st2_0, st2_1, sti_0, sti_1, stj_0, stj_1, st1_2, sti_2, st2_2, stj_2, st1_3, sti_3, st2_3, stj_3, st1_4, sti_4, st2_4, stj_4, st1_5, sti_5, st2_5, stj_5, st1_6, sti_6, st2_6, stj_6, st1_7, sti_7, st2_7, stj_7, st1_8, sti_8, st2_8, stj_8, st1_9, sti_9, st2_9, stj_9, kil_n, kil_i, kil_r, kil_l, kil_d, gl_0, gl_s, cat_i, cat_r, true_and, NF_gf]
      rw [br_0 (nI_ge hr (by omega))]
      generalize ngr X n r = g at hl ih ⊢
      have places : ∀ p, p ≤ n → ∀ b2 b3 : Option Value, aW (Sp 0) 196 0 0 (RR (some (.int (bI (nrF X n)))) (NF h m t t2 ns G th n) z) 14 [some (.ref m), some (.int (nI (ngp X n g p))), some (.int (nI r)), some (.int (nI p)), kil b2, b3] [] (NF h m t t2 ns G th n) z 0 0 := by
        refine aUp ?_ fun p hp ihp => ?_
        · intro b2 b3
          rw [s196_14]
          simp only [s196_0, s196_1, s196_2, s196_3, s196_5, s196_6, s196_9, s196_12, s196_13, s196_15, s196_16, s196_19, s196_22, s196_23, s196_25, s196_26, s196_30, s196_31, s196_34, s196_37, s196_39, s196_42, s196_43, s196_45, s196_46, s196_47, s196_48, s196_49, s196_52, s196_53, s196_56, s196_57, s196_58, s196_60, s196_61, s196_64, s196_65, s196_68, s196_69, s196_71, s196_74, s196_77, s196_79, s196_82, s196_83, s196_84, s196_85, s196_86, s196_87, s196_88, s196_91, s196_94, s196_97, s196_100, s196_101, s196_102, s196_103, s196_106, s196_107, s196_108, s196_109, s196_112, s196_113, s196_116, s196_117, ldi_0, ldi_s, ldl_0, ldl_s, ldd_0, ldd_s, lda_0, lda_s, st1_0, st1_1, st2_0, st2_1, sti_0, sti_1, stj_0, stj_1, st1_2, sti_2, st2_2, stj_2, st1_3, sti_3, st2_3, stj_3, st1_4, sti_4, st2_4, stj_4, st1_5, sti_5, st2_5, stj_5, st1_6, sti_6, st2_6, stj_6, st1_7, sti_7, st2_7, stj_7, st1_8, sti_8, st2_8, stj_8, st1_9, sti_9, st2_9, stj_9, kil_n, kil_i, kil_r, kil_l, kil_d, gl_0, gl_s, cat_i, cat_r, true_and, NF_gf, nI_1]
          rw [br_1 (nI_le (Nat.le_refl _) (by omega))]
          exact ih (some (.int _)) b2 b3
        · intro b2 b3
          have hg := ngp_lt (X := X) (n := n) hl p (by omega)
          rw [show ngp X n g (p + 1) = if ngq X (ngp X n g p) p n = true then ngp X n g p ||| 2 ^ p else ngp X n g p from rfl] at ihp
          rw [s196_14]
          simp only [s196_0, s196_1, s196_2, s196_3, s196_5, s196_6, s196_9, s196_12, s196_13, s196_15, s196_16, s196_19, s196_22, s196_23, s196_25, s196_26, s196_30, s196_31, s196_34, s196_37, s196_39, s196_42, s196_43, s196_45, s196_46, s196_47, s196_48, s196_49, s196_52, s196_53, s196_56, s196_57, s196_58, s196_60, s196_61, s196_64, s196_65, s196_68, s196_69, s196_71, s196_74, s196_77, s196_79, s196_82, s196_83, s196_84, s196_85, s196_86, s196_87, s196_88, s196_91, s196_94, s196_97, s196_100, s196_101, s196_102, s196_103, s196_106, s196_107, s196_108, s196_109, s196_112, s196_113, s196_116, s196_117, ldi_0, ldi_s, ldl_0, ldl_s, ldd_0, ldd_s, lda_0, lda_s, st1_0, st1_1, st2_0, st2_1, sti_0, sti_1, stj_0, stj_1, st1_2, sti_2, st2_2, stj_2, st1_3, sti_3, st2_3, stj_3, st1_4, sti_4, st2_4, stj_4, st1_5, sti_5, st2_5, stj_5, st1_6, sti_6, st2_6, stj_6, st1_7, sti_7, st2_7, stj_7, st1_8, sti_8, st2_8, stj_8, st1_9, sti_9, st2_9, stj_9, kil_n, kil_i, kil_r, kil_l, kil_d, gl_0, gl_s, cat_i, cat_r, true_and, NF_gf]
          rw [br_0 (nI_ge hp (by omega))]
          generalize ngp X n g p = g2 at hg ihp ⊢
          have inn : ∀ q, q ≤ n → aW (Sp 0) 196 0 0 (RR (some (.int (bI (nrF X n)))) (NF h m t t2 ns G th n) z) 28 [some (.ref m), some (.int (nI g2)), some (.int (nI r)), some (.int (nI p)), some (.int (bI (ngq X g2 p q))), some (.int (nI q))] [] (NF h m t t2 ns G th n) z 0 0 := by
            refine aUp ?_ fun q hq ihq => ?_
            · rw [s196_28]
              simp only [s196_0, s196_1, s196_2, s196_3, s196_5, s196_6, s196_9, s196_12, s196_13, s196_15, s196_16, s196_19, s196_22, s196_23, s196_25, s196_26, s196_30, s196_31, s196_34, s196_37, s196_39, s196_42, s196_43, s196_45, s196_46, s196_47, s196_48, s196_49, s196_52, s196_53, s196_56, s196_57, s196_58, s196_60, s196_61, s196_64, s196_65, s196_68, s196_69, s196_71, s196_74, s196_77, s196_79, s196_82, s196_83, s196_84, s196_85, s196_86, s196_87, s196_88, s196_91, s196_94, s196_97, s196_100, s196_101, s196_102, s196_103, s196_106, s196_107, s196_108, s196_109, s196_112, s196_113, s196_116, s196_117, ldi_0, ldi_s, ldl_0, ldl_s, ldd_0, ldd_s, lda_0, lda_s, st1_0, st1_1, st2_0, st2_1, sti_0, sti_1, stj_0, stj_1, st1_2, sti_2, st2_2, stj_2, st1_3, sti_3, st2_3, stj_3, st1_4, sti_4, st2_4, stj_4, st1_5, sti_5, st2_5, stj_5, st1_6, sti_6, st2_6, stj_6, st1_7, sti_7, st2_7, stj_7, st1_8, sti_8, st2_8, stj_8, st1_9, sti_9, st2_9, stj_9, kil_n, kil_i, kil_r, kil_l, kil_d, gl_0, gl_s, cat_i, cat_r, true_and, NF_gf, nI_1, bI_0]
              rw [br_1 (nI_le (Nat.le_refl _) (by omega)), one_shl (by omega), nI_or]
              refine ⟨fun h1 => ?_, fun h1 => ?_⟩
              · rw [if_neg (by rw [h1]; decide)] at ihp
                exact ihp (some (.int _)) _
              · rw [if_pos (by simpa using h1)] at ihp
                exact ihp (some (.int _)) _
            · rw [show ngq X g2 p (q + 1) = (ngq X g2 p q && (g2.testBit q || !X p q)) from rfl] at ihq
              rw [s196_28]
              simp only [s196_0, s196_1, s196_2, s196_3, s196_5, s196_6, s196_9, s196_12, s196_13, s196_15, s196_16, s196_19, s196_22, s196_23, s196_25, s196_26, s196_30, s196_31, s196_34, s196_37, s196_39, s196_42, s196_43, s196_45, s196_46, s196_47, s196_48, s196_49, s196_52, s196_53, s196_56, s196_57, s196_58, s196_60, s196_61, s196_64, s196_65, s196_68, s196_69, s196_71, s196_74, s196_77, s196_79, s196_82, s196_83, s196_84, s196_85, s196_86, s196_87, s196_88, s196_91, s196_94, s196_97, s196_100, s196_101, s196_102, s196_103, s196_106, s196_107, s196_108, s196_109, s196_112, s196_113, s196_116, s196_117, ldi_0, ldi_s, ldl_0, ldl_s, ldd_0, ldd_s, lda_0, lda_s, st1_0, st1_1, st2_0, st2_1, sti_0, sti_1, stj_0, stj_1, st1_2, sti_2, st2_2, stj_2, st1_3, sti_3, st2_3, stj_3, st1_4, sti_4, st2_4, stj_4, st1_5, sti_5, st2_5, stj_5, st1_6, sti_6, st2_6, stj_6, st1_7, sti_7, st2_7, stj_7, st1_8, sti_8, st2_8, stj_8, st1_9, sti_9, st2_9, stj_9, kil_n, kil_i, kil_r, kil_l, kil_d, gl_0, gl_s, cat_i, cat_r, true_and, NF_gf, nI_1, ald_tb hXN (show p < 9 by omega), ald_tr hXN (show p < 9 by omega) (show q < 9 by omega), bI_0]
              rw [br_0 (nI_ge hq (by omega)), bit_iff1 (by omega) (by omega)]
              refine ⟨fun h1 => ?_, fun h1 => ⟨fun h2 => ?_, fun h2 => ⟨fun h3 => ?_, fun h3 => ?_⟩⟩⟩
              · rw [h1] at ihq
                exact ihq
              · rw [Bool.not_eq_false] at h1
                rw [h1, h2] at ihq
                exact ihq
              · rw [Bool.not_eq_true] at h2
                rw [Bool.not_eq_false] at h3
                rw [h2, h3, Bool.not_true, Bool.or_false, Bool.and_false] at ihq
                exact ihq
              · rw [Decidable.not_not] at h3
                rw [Bool.not_eq_false] at h1
                rw [h1, h3, Bool.not_false, Bool.or_true] at ihq
                exact ihq
          exact inn 0 (by omega)
      exact places 0 (by omega) _ _
  exact rounds 0 (by omega) none none none
theorem sp_directed (hB : MB h m t t2 SG) (hn : n ≤ 9) (h10 : wys G n ≤ 10) (hX : Tb h (m + 30) X) : Sp 3 195 [.ref m] (NF h m t t2 ns G th n) z 0 0 (RR (some (.int (nI (drF G n X (2 ^ wys G n)).1))) (NF (tbS h (m + 30) (drF G n X (2 ^ wys G n)).2) m t t2 ns G th n) z) := by
  have hT := hB.1
  have hA : ∀ Y, Tb (NF (tbS h (m + 30) Y) m t t2 ns G th n) (m + 30) Y := fun Y => NF_TT hT (by omega) (tbS_Tb hX.1)
  have hG2 : ∀ Y, Tb (NF (tbS h (m + 30) Y) m t t2 ns G th n) t G := fun Y => NF_Tb (hB.tt (by omega))
  have hU : ∀ Y Y', tbS (NF (tbS h (m + 30) Y) m t t2 ns G th n) (m + 30) Y' = NF (tbS h (m + 30) Y') m t t2 ns G th n := fun Y Y' => by rw [NF_tt hT (by omega), tbS_tbS]
  have hw2 : 2 ^ wys G n ≤ 2 ^ 10 := Nat.pow_le_pow_right (by decide) h10
  refine Sp_in (al := [some (.ref m), none, none, none, none, none, none, none]) ?_
  simp only [s195_0, s195_1, s195_2, s195_3, s195_7, s195_8, s195_9, s195_10, s195_12, s195_13, s195_16, s195_17, s195_19, s195_20, s195_24, s195_25, s195_28, s195_31, s195_32, s195_36, s195_38, s195_41, s195_42, s195_45, s195_47, s195_48, s195_50, s195_51, s195_54, s195_55, s195_57, s195_58, s195_59, s195_60, s195_61, s195_64, s195_65, s195_68, s195_69, s195_71, s195_72, s195_75, s195_77, s195_78, s195_80, s195_82, s195_83, s195_84, s195_87, s195_89, s195_90, s195_92, s195_93, s195_96, s195_98, s195_99, s195_101, s195_102, s195_105, s195_107, s195_110, s195_111, s195_114, s195_115, s195_116, s195_118, s195_119, s195_122, s195_124, s195_125, s195_127, s195_128, s195_131, s195_132, s195_135, s195_136, s195_137, s195_139, s195_142, s195_145, s195_148, s195_151, s195_155, s195_158, s195_161, s195_164, s195_167, s195_168, ldi_0, ldi_s, ldl_0, ldl_s, ldd_0, ldd_s, lda_0, lda_s, st1_0, st1_1, st2_0, st2_1, sti_0, sti_1, stj_0, stj_1, st1_2, sti_2, st2_2, stj_2, st1_3, sti_3, st2_3, stj_3, st1_4, sti_4, st2_4, stj_4, st1_5, sti_5, st2_5, stj_5, st1_6, sti_6, st2_6, stj_6, st1_7, sti_7, st2_7, stj_7, st1_8, sti_8, st2_8, stj_8, st1_9, sti_9, st2_9, stj_9, kil_n, kil_i, kil_r, kil_l, kil_d, gl_0, gl_s, cat_i, cat_r, true_and]
  refine c195_4r NF_m (sp_mways hB hn) ?_
  simp only [s195_0, s195_1, s195_2, s195_3, s195_7, s195_8, s195_9, s195_10, s195_12, s195_13, s195_16, s195_17, s195_19, s195_20, s195_24, s195_25, s195_28, s195_31, s195_32, s195_36, s195_38, s195_41, s195_42, s195_45, s195_47, s195_48, s195_50, s195_51, s195_54, s195_55, s195_57, s195_58, s195_59, s195_60, s195_61, s195_64, s195_65, s195_68, s195_69, s195_71, s195_72, s195_75, s195_77, s195_78, s195_80, s195_82, s195_83, s195_84, s195_87, s195_89, s195_90, s195_92, s195_93, s195_96, s195_98, s195_99, s195_101, s195_102, s195_105, s195_107, s195_110, s195_111, s195_114, s195_115, s195_116, s195_118, s195_119, s195_122, s195_124, s195_125, s195_127, s195_128, s195_131, s195_132, s195_135, s195_136, s195_137, s195_139, s195_142, s195_145, s195_148, s195_151, s195_155, s195_158, s195_161, s195_164, s195_167, s195_168, ldi_0, ldi_s, ldl_0, ldl_s, ldd_0, ldd_s, lda_0, lda_s, st1_0, st1_1, st2_0, st2_1, sti_0, sti_1, stj_0, stj_1, st1_2, sti_2, st2_2, stj_2, st1_3, sti_3, st2_3, stj_3, st1_4, sti_4, st2_4, stj_4, st1_5, sti_5, st2_5, stj_5, st1_6, sti_6, st2_6, stj_6, st1_7, sti_7, st2_7, stj_7, st1_8, sti_8, st2_8, stj_8, st1_9, sti_9, st2_9, stj_9, kil_n, kil_i, kil_r, kil_l, kil_d, gl_0, gl_s, cat_i, cat_r, true_and]
  rw [one_shl (by omega)]
  have whichs : ∀ w, w ≤ 2 ^ wys G n → ∀ b1 b2 b3 b4 : Option Value, aW (Sp 2) 195 0 0 (RR (some (.int (nI (drF G n X (2 ^ wys G n)).1))) (NF (tbS h (m + 30) (drF G n X (2 ^ wys G n)).2) m t t2 ns G th n) z) 11 [some (.ref m), some (.int (nI (drF G n X w).1)), some (.int (nI (2 ^ wys G n))), some (.int (nI w)), kil b1, kil b2, kil b3, b4] [] (NF (tbS h (m + 30) (drF G n X w).2) m t t2 ns G th n) z 0 0 := by
    refine aUp ?_ fun w hw ih => ?_
    · intro b1 b2 b3 b4
      rw [s195_11]
      simp only [s195_0, s195_1, s195_2, s195_3, s195_7, s195_8, s195_9, s195_10, s195_12, s195_13, s195_16, s195_17, s195_19, s195_20, s195_24, s195_25, s195_28, s195_31, s195_32, s195_36, s195_38, s195_41, s195_42, s195_45, s195_47, s195_48, s195_50, s195_51, s195_54, s195_55, s195_57, s195_58, s195_59, s195_60, s195_61, s195_64, s195_65, s195_68, s195_69, s195_71, s195_72, s195_75, s195_77, s195_78, s195_80, s195_82, s195_83, s195_84, s195_87, s195_89, s195_90, s195_92, s195_93, s195_96, s195_98, s195_99, s195_101, s195_102, s195_105, s195_107, s195_110, s195_111, s195_114, s195_115, s195_116, s195_118, s195_119, s195_122, s195_124, s195_125, s195_127, s195_128, s195_131, s195_132, s195_135, s195_136, s195_137, s195_139, s195_142, s195_145, s195_148, s195_151, s195_155, s195_158, s195_161, s195_164, s195_167, s195_168, ldi_0, ldi_s, ldl_0, ldl_s, ldd_0, ldd_s, lda_0, lda_s, st1_0, st1_1, st2_0, st2_1, sti_0, sti_1, stj_0, stj_1, st1_2, sti_2, st2_2, stj_2, st1_3, sti_3, st2_3, stj_3, st1_4, sti_4, st2_4, stj_4, st1_5, sti_5, st2_5, stj_5, st1_6, sti_6, st2_6, stj_6, st1_7, sti_7, st2_7, stj_7, st1_8, sti_8, st2_8, stj_8, st1_9, sti_9, st2_9, stj_9, kil_n, kil_i, kil_r, kil_l, kil_d, gl_0, gl_s, cat_i, cat_r, true_and]
      rw [br_1 (nI_le (Nat.le_refl _) (by omega))]
      exact out_RR
    · intro b1 b2 b3 b4
      have hd := drF_le (G := G) (n := n) (X := X) w
      rw [show drF G n X (w + 1) = ((drF G n X w).1 + (if nrF (ldA G w (drF G n X w).2 n) n = true then 1 else 0), ldA G w (drF G n X w).2 n) from rfl] at ih
      rw [s195_11]
      simp only [s195_0, s195_1, s195_2, s195_3, s195_7, s195_8, s195_9, s195_10, s195_12, s195_13, s195_16, s195_17, s195_19, s195_20, s195_24, s195_25, s195_28, s195_31, s195_32, s195_36, s195_38, s195_41, s195_42, s195_45, s195_47, s195_48, s195_50, s195_51, s195_54, s195_55, s195_57, s195_58, s195_59, s195_60, s195_61, s195_64, s195_65, s195_68, s195_69, s195_71, s195_72, s195_75, s195_77, s195_78, s195_80, s195_82, s195_83, s195_84, s195_87, s195_89, s195_90, s195_92, s195_93, s195_96, s195_98, s195_99, s195_101, s195_102, s195_105, s195_107, s195_110, s195_111, s195_114, s195_115, s195_116, s195_118, s195_119, s195_122, s195_124, s195_125, s195_127, s195_128, s195_131, s195_132, s195_135, s195_136, s195_137, s195_139, s195_142, s195_145, s195_148, s195_151, s195_155, s195_158, s195_161, s195_164, s195_167, s195_168, ldi_0, ldi_s, ldl_0, ldl_s, ldd_0, ldd_s, lda_0, lda_s, st1_0, st1_1, st2_0, st2_1, sti_0, sti_1, stj_0, stj_1, st1_2, sti_2, st2_2, stj_2, st1_3, sti_3, st2_3, stj_3, st1_4, sti_4, st2_4, stj_4, st1_5, sti_5, st2_5, stj_5, st1_6, sti_6, st2_6, stj_6, st1_7, sti_7, st2_7, stj_7, st1_8, sti_8, st2_8, stj_8, st1_9, sti_9, st2_9, stj_9, kil_n, kil_i, kil_r, kil_l, kil_d, gl_0, gl_s, cat_i, cat_r, true_and]
      rw [br_0 (nI_ge hw (by omega))]
      generalize drF G n X w = D at hd ih ⊢
      have rows : ∀ a, a ≤ n → ∀ b3 b4 : Option Value, aW (Sp 2) 195 0 0 (RR (some (.int (nI (drF G n X (2 ^ wys G n)).1))) (NF (tbS h (m + 30) (drF G n X (2 ^ wys G n)).2) m t t2 ns G th n) z) 22 [some (.ref m), some (.int (nI D.1)), some (.int (nI (2 ^ wys G n))), some (.int (nI w)), some (.int (nI (wys G a))), some (.int (nI a)), kil b3, b4] [] (NF (tbS h (m + 30) (ldA G w D.2 a)) m t t2 ns G th n) z 0 0 := by
        refine aUp ?_ fun a ha iha => ?_
        · intro b3 b4
          rw [s195_22]
          simp only [s195_0, s195_1, s195_2, s195_3, s195_7, s195_8, s195_9, s195_10, s195_12, s195_13, s195_16, s195_17, s195_19, s195_20, s195_24, s195_25, s195_28, s195_31, s195_32, s195_36, s195_38, s195_41, s195_42, s195_45, s195_47, s195_48, s195_50, s195_51, s195_54, s195_55, s195_57, s195_58, s195_59, s195_60, s195_61, s195_64, s195_65, s195_68, s195_69, s195_71, s195_72, s195_75, s195_77, s195_78, s195_80, s195_82, s195_83, s195_84, s195_87, s195_89, s195_90, s195_92, s195_93, s195_96, s195_98, s195_99, s195_101, s195_102, s195_105, s195_107, s195_110, s195_111, s195_114, s195_115, s195_116, s195_118, s195_119, s195_122, s195_124, s195_125, s195_127, s195_128, s195_131, s195_132, s195_135, s195_136, s195_137, s195_139, s195_142, s195_145, s195_148, s195_151, s195_155, s195_158, s195_161, s195_164, s195_167, s195_168, ldi_0, ldi_s, ldl_0, ldl_s, ldd_0, ldd_s, lda_0, lda_s, st1_0, st1_1, st2_0, st2_1, sti_0, sti_1, stj_0, stj_1, st1_2, sti_2, st2_2, stj_2, st1_3, sti_3, st2_3, stj_3, st1_4, sti_4, st2_4, stj_4, st1_5, sti_5, st2_5, stj_5, st1_6, sti_6, st2_6, stj_6, st1_7, sti_7, st2_7, stj_7, st1_8, sti_8, st2_8, stj_8, st1_9, sti_9, st2_9, stj_9, kil_n, kil_i, kil_r, kil_l, kil_d, gl_0, gl_s, cat_i, cat_r, true_and, NF_gf]
          rw [br_1 (nI_le (Nat.le_refl _) (by omega))]
          refine c195_152r NF_m (sp_hasNoRing hT hn (tbS_Tb hX.1)) ?_
          simp only [s195_0, s195_1, s195_2, s195_3, s195_7, s195_8, s195_9, s195_10, s195_12, s195_13, s195_16, s195_17, s195_19, s195_20, s195_24, s195_25, s195_28, s195_31, s195_32, s195_36, s195_38, s195_41, s195_42, s195_45, s195_47, s195_48, s195_50, s195_51, s195_54, s195_55, s195_57, s195_58, s195_59, s195_60, s195_61, s195_64, s195_65, s195_68, s195_69, s195_71, s195_72, s195_75, s195_77, s195_78, s195_80, s195_82, s195_83, s195_84, s195_87, s195_89, s195_90, s195_92, s195_93, s195_96, s195_98, s195_99, s195_101, s195_102, s195_105, s195_107, s195_110, s195_111, s195_114, s195_115, s195_116, s195_118, s195_119, s195_122, s195_124, s195_125, s195_127, s195_128, s195_131, s195_132, s195_135, s195_136, s195_137, s195_139, s195_142, s195_145, s195_148, s195_151, s195_155, s195_158, s195_161, s195_164, s195_167, s195_168, ldi_0, ldi_s, ldl_0, ldl_s, ldd_0, ldd_s, lda_0, lda_s, st1_0, st1_1, st2_0, st2_1, sti_0, sti_1, stj_0, stj_1, st1_2, sti_2, st2_2, stj_2, st1_3, sti_3, st2_3, stj_3, st1_4, sti_4, st2_4, stj_4, st1_5, sti_5, st2_5, stj_5, st1_6, sti_6, st2_6, stj_6, st1_7, sti_7, st2_7, stj_7, st1_8, sti_8, st2_8, stj_8, st1_9, sti_9, st2_9, stj_9, kil_n, kil_i, kil_r, kil_l, kil_d, gl_0, gl_s, cat_i, cat_r, true_and, nI_1, bI_0]
          refine ⟨fun h1 => ?_, fun h1 => ?_⟩
          · rw [if_neg (by rw [h1]; decide)] at ih
            exact ih (some (.int _)) (some (.int _)) b3 _
          · rw [if_pos (by simpa using h1)] at ih
            exact ih (some (.int _)) (some (.int _)) b3 _
        · intro b3 b4
          rw [s195_22]
          simp only [s195_0, s195_1, s195_2, s195_3, s195_7, s195_8, s195_9, s195_10, s195_12, s195_13, s195_16, s195_17, s195_19, s195_20, s195_24, s195_25, s195_28, s195_31, s195_32, s195_36, s195_38, s195_41, s195_42, s195_45, s195_47, s195_48, s195_50, s195_51, s195_54, s195_55, s195_57, s195_58, s195_59, s195_60, s195_61, s195_64, s195_65, s195_68, s195_69, s195_71, s195_72, s195_75, s195_77, s195_78, s195_80, s195_82, s195_83, s195_84, s195_87, s195_89, s195_90, s195_92, s195_93, s195_96, s195_98, s195_99, s195_101, s195_102, s195_105, s195_107, s195_110, s195_111, s195_114, s195_115, s195_116, s195_118, s195_119, s195_122, s195_124, s195_125, s195_127, s195_128, s195_131, s195_132, s195_135, s195_136, s195_137, s195_139, s195_142, s195_145, s195_148, s195_151, s195_155, s195_158, s195_161, s195_164, s195_167, s195_168, ldi_0, ldi_s, ldl_0, ldl_s, ldd_0, ldd_s, lda_0, lda_s, st1_0, st1_1, st2_0, st2_1, sti_0, sti_1, stj_0, stj_1, st1_2, sti_2, st2_2, stj_2, st1_3, sti_3, st2_3, stj_3, st1_4, sti_4, st2_4, stj_4, st1_5, sti_5, st2_5, stj_5, st1_6, sti_6, st2_6, stj_6, st1_7, sti_7, st2_7, stj_7, st1_8, sti_8, st2_8, stj_8, st1_9, sti_9, st2_9, stj_9, kil_n, kil_i, kil_r, kil_l, kil_d, gl_0, gl_s, cat_i, cat_r, true_and, NF_gf]
          rw [br_0 (nI_ge ha (by omega))]
          rw [show ldA G w D.2 (a + 1) = ldB G w a (ldA G w D.2 a) a from rfl, show wys G (a + 1) = wys G a + cnt (G a) a from rfl] at iha
          generalize ldA G w D.2 a = Y at iha ⊢
          have inn : ∀ b, b ≤ a → ∀ b4 : Option Value, aW (Sp 2) 195 0 0 (RR (some (.int (nI (drF G n X (2 ^ wys G n)).1))) (NF (tbS h (m + 30) (drF G n X (2 ^ wys G n)).2) m t t2 ns G th n) z) 34 [some (.ref m), some (.int (nI D.1)), some (.int (nI (2 ^ wys G n))), some (.int (nI w)), some (.int (nI (wys G a + cnt (G a) b))), some (.int (nI a)), some (.int (nI b)), b4] [] (NF (tbS h (m + 30) (ldB G w a Y b)) m t t2 ns G th n) z 0 0 := by
            refine aUp ?_ fun b hb ihb => ?_
            · intro b4
              rw [s195_34]
              simp only [s195_0, s195_1, s195_2, s195_3, s195_7, s195_8, s195_9, s195_10, s195_12, s195_13, s195_16, s195_17, s195_19, s195_20, s195_24, s195_25, s195_28, s195_31, s195_32, s195_36, s195_38, s195_41, s195_42, s195_45, s195_47, s195_48, s195_50, s195_51, s195_54, s195_55, s195_57, s195_58, s195_59, s195_60, s195_61, s195_64, s195_65, s195_68, s195_69, s195_71, s195_72, s195_75, s195_77, s195_78, s195_80, s195_82, s195_83, s195_84, s195_87, s195_89, s195_90, s195_92, s195_93, s195_96, s195_98, s195_99, s195_101, s195_102, s195_105, s195_107, s195_110, s195_111, s195_114, s195_115, s195_116, s195_118, s195_119, s195_122, s195_124, s195_125, s195_127, s195_128, s195_131, s195_132, s195_135, s195_136, s195_137, s195_139, s195_142, s195_145, s195_148, s195_151, s195_155, s195_158, s195_161, s195_164, s195_167, s195_168, ldi_0, ldi_s, ldl_0, ldl_s, ldd_0, ldd_s, lda_0, lda_s, st1_0, st1_1, st2_0, st2_1, sti_0, sti_1, stj_0, stj_1, st1_2, sti_2, st2_2, stj_2, st1_3, sti_3, st2_3, stj_3, st1_4, sti_4, st2_4, stj_4, st1_5, sti_5, st2_5, stj_5, st1_6, sti_6, st2_6, stj_6, st1_7, sti_7, st2_7, stj_7, st1_8, sti_8, st2_8, stj_8, st1_9, sti_9, st2_9, stj_9, kil_n, kil_i, kil_r, kil_l, kil_d, gl_0, gl_s, cat_i, cat_r, true_and, nI_1]
              rw [br_1 (nI_le (Nat.le_refl _) (by omega))]
              exact iha (some (.int _)) _
            · intro b4
              have ha9 : a < 9 := by omega
              have hb9 : b < 9 := by omega
              rw [show ldB G w a Y (b + 1) = gUpd (gUpd (ldB G w a Y b) a b (ldT G w a b)) b a (G a b && !ldT G w a b) from rfl] at ihb
              rw [s195_34]
              simp only [s195_0, s195_1, s195_2, s195_3, s195_7, s195_8, s195_9, s195_10, s195_12, s195_13, s195_16, s195_17, s195_19, s195_20, s195_24, s195_25, s195_28, s195_31, s195_32, s195_36, s195_38, s195_41, s195_42, s195_45, s195_47, s195_48, s195_50, s195_51, s195_54, s195_55, s195_57, s195_58, s195_59, s195_60, s195_61, s195_64, s195_65, s195_68, s195_69, s195_71, s195_72, s195_75, s195_77, s195_78, s195_80, s195_82, s195_83, s195_84, s195_87, s195_89, s195_90, s195_92, s195_93, s195_96, s195_98, s195_99, s195_101, s195_102, s195_105, s195_107, s195_110, s195_111, s195_114, s195_115, s195_116, s195_118, s195_119, s195_122, s195_124, s195_125, s195_127, s195_128, s195_131, s195_132, s195_135, s195_136, s195_137, s195_139, s195_142, s195_145, s195_148, s195_151, s195_155, s195_158, s195_161, s195_164, s195_167, s195_168, ldi_0, ldi_s, ldl_0, ldl_s, ldd_0, ldd_s, lda_0, lda_s, st1_0, st1_1, st2_0, st2_1, sti_0, sti_1, stj_0, stj_1, st1_2, sti_2, st2_2, stj_2, st1_3, sti_3, st2_3, stj_3, st1_4, sti_4, st2_4, stj_4, st1_5, sti_5, st2_5, stj_5, st1_6, sti_6, st2_6, stj_6, st1_7, sti_7, st2_7, stj_7, st1_8, sti_8, st2_8, stj_8, st1_9, sti_9, st2_9, stj_9, kil_n, kil_i, kil_r, kil_l, kil_d, gl_0, gl_s, cat_i, cat_r, true_and, NF_gf, nI_1, Int32.add_zero, ald_tb (hG2 _) ha9, ald_tr (hG2 _) ha9 hb9, ald_tb (hA _) ha9, ald_tb (hA _) hb9, narT, narF, ast_tr (hA _) ha9 hb9, ast_tr (hA _) hb9 ha9, hU, bI_0]
              rw [br_0 (nI_ge hb (by omega))]
              cases hg : G a b
              · rw [br_1 rfl]
                rw [show ldT G w a b = false by unfold ldT; rw [hg]; rfl, hg, cnt_f hg] at ihb
                rw [br_1 rfl, br_1 rfl]
                exact ihb _
              · have hix := wys_ix ha hb hg
                rw [br_0 (by decide), bit_iff (by omega) (by omega)]
                rw [hg, cnt_t hg, ← Nat.add_assoc] at ihb
                cases hbt : w.testBit (wys G a + cnt (G a) b)
                · rw [br_1 rfl]
                  rw [show ldT G w a b = false by unfold ldT; rw [hg, hbt]; rfl] at ihb
                  rw [br_0 (by decide), br_0 (by decide), br_0 (by decide)]
                  exact ihb _
                · rw [br_0 (by decide)]
                  rw [show ldT G w a b = true by unfold ldT; rw [hg, hbt]; rfl] at ihb
                  rw [br_0 (by decide), br_1 (by decide), br_0 (by decide)]
                  exact ihb _
          exact inn 0 (by omega) _
      exact rows 0 (by omega) b3 b4
  have k0 := whichs 0 (Nat.zero_le _) none none none none
  rw [show (drF G n X 0).2 = X from rfl, tbS_id hX] at k0
  exact k0
theorem sp_mtried (hB : MB h m t t2 SG) (hn : n ≤ 9) (h10 : wys G n ≤ 10) (hX : Tb h (m + 30) X) : Sp 20 194 [.ref m] (NF h m t t2 ns G th n) z 0 0 (RR (some (.int (nI (drF G n X (2 ^ wys G n)).1))) (NF (tbS h (m + 30) (drF G n X (2 ^ wys G n)).2) m t t2 ns G 0 n) z) := by
  refine Sp_in (al := [some (.ref m)]) ?_
  simp only [s194_0, s194_1, s194_2, s194_5, s194_6, s194_10, s194_12, s194_15, s194_16, s194_19, s194_20, s194_24, s194_27, s194_28, s194_31, s194_35, ldi_0, ldi_s, ldl_0, ldl_s, ldd_0, ldd_s, lda_0, lda_s, st1_0, st1_1, st2_0, st2_1, sti_0, sti_1, stj_0, stj_1, st1_2, sti_2, st2_2, stj_2, st1_3, sti_3, st2_3, stj_3, st1_4, sti_4, st2_4, stj_4, st1_5, sti_5, st2_5, stj_5, st1_6, sti_6, st2_6, stj_6, st1_7, sti_7, st2_7, stj_7, st1_8, sti_8, st2_8, stj_8, st1_9, sti_9, st2_9, stj_9, kil_n, kil_i, kil_r, kil_l, kil_d, gl_0, gl_s, cat_i, cat_r, true_and, NF_th]
  refine c194_7r NF_m (sp_mways hB hn) ?_
  simp only [s194_0, s194_1, s194_2, s194_5, s194_6, s194_10, s194_12, s194_15, s194_16, s194_19, s194_20, s194_24, s194_27, s194_28, s194_31, s194_35, ldi_0, ldi_s, ldl_0, ldl_s, ldd_0, ldd_s, lda_0, lda_s, st1_0, st1_1, st2_0, st2_1, sti_0, sti_1, stj_0, stj_1, st1_2, sti_2, st2_2, stj_2, st1_3, sti_3, st2_3, stj_3, st1_4, sti_4, st2_4, stj_4, st1_5, sti_5, st2_5, stj_5, st1_6, sti_6, st2_6, stj_6, st1_7, sti_7, st2_7, stj_7, st1_8, sti_8, st2_8, stj_8, st1_9, sti_9, st2_9, stj_9, kil_n, kil_i, kil_r, kil_l, kil_d, gl_0, gl_s, cat_i, cat_r, true_and]
  rw [nI_lit10, br_1 (nI_le h10 (by decide))]
  refine c194_21r NF_m (sp_throws_f NF_m) ?_
  simp only [s194_0, s194_1, s194_2, s194_5, s194_6, s194_10, s194_12, s194_15, s194_16, s194_19, s194_20, s194_24, s194_27, s194_28, s194_31, s194_35, ldi_0, ldi_s, ldl_0, ldl_s, ldd_0, ldd_s, lda_0, lda_s, st1_0, st1_1, st2_0, st2_1, sti_0, sti_1, stj_0, stj_1, st1_2, sti_2, st2_2, stj_2, st1_3, sti_3, st2_3, stj_3, st1_4, sti_4, st2_4, stj_4, st1_5, sti_5, st2_5, stj_5, st1_6, sti_6, st2_6, stj_6, st1_7, sti_7, st2_7, stj_7, st1_8, sti_8, st2_8, stj_8, st1_9, sti_9, st2_9, stj_9, kil_n, kil_i, kil_r, kil_l, kil_d, gl_0, gl_s, cat_i, cat_r, true_and]
  rw [br_1 (by decide)]
  refine c194_32r NF_m (sp_directed hB hn h10 hX) ?_
  simp only [s194_0, s194_1, s194_2, s194_5, s194_6, s194_10, s194_12, s194_15, s194_16, s194_19, s194_20, s194_24, s194_27, s194_28, s194_31, s194_35, ldi_0, ldi_s, ldl_0, ldl_s, ldd_0, ldd_s, lda_0, lda_s, st1_0, st1_1, st2_0, st2_1, sti_0, sti_1, stj_0, stj_1, st1_2, sti_2, st2_2, stj_2, st1_3, sti_3, st2_3, stj_3, st1_4, sti_4, st2_4, stj_4, st1_5, sti_5, st2_5, stj_5, st1_6, sti_6, st2_6, stj_6, st1_7, sti_7, st2_7, stj_7, st1_8, sti_8, st2_8, stj_8, st1_9, sti_9, st2_9, stj_9, kil_n, kil_i, kil_r, kil_l, kil_d, gl_0, gl_s, cat_i, cat_r, true_and]
  exact out_RR
theorem sp_mtried_no (hB : MB h m t t2 SG) (hG : GOK n G) (h10 : 10 < wys G n) : Sp 20 194 [.ref m] (NF h m t t2 ns G th n) z 0 0 (RR (some (.int 0)) (NF h m t t2 ns G 1 n) z) := by
  have hw := wys_lt hG
  refine Sp_in (al := [some (.ref m)]) ?_
  simp only [s194_0, s194_1, s194_2, s194_5, s194_6, s194_10, s194_12, s194_15, s194_16, s194_19, s194_20, s194_24, s194_27, s194_28, s194_31, s194_35, ldi_0, ldi_s, ldl_0, ldl_s, ldd_0, ldd_s, lda_0, lda_s, st1_0, st1_1, st2_0, st2_1, sti_0, sti_1, stj_0, stj_1, st1_2, sti_2, st2_2, stj_2, st1_3, sti_3, st2_3, stj_3, st1_4, sti_4, st2_4, stj_4, st1_5, sti_5, st2_5, stj_5, st1_6, sti_6, st2_6, stj_6, st1_7, sti_7, st2_7, stj_7, st1_8, sti_8, st2_8, stj_8, st1_9, sti_9, st2_9, stj_9, kil_n, kil_i, kil_r, kil_l, kil_d, gl_0, gl_s, cat_i, cat_r, true_and, NF_th]
  refine c194_7r NF_m (sp_mways hB hG.1) ?_
  simp only [s194_0, s194_1, s194_2, s194_5, s194_6, s194_10, s194_12, s194_15, s194_16, s194_19, s194_20, s194_24, s194_27, s194_28, s194_31, s194_35, ldi_0, ldi_s, ldl_0, ldl_s, ldd_0, ldd_s, lda_0, lda_s, st1_0, st1_1, st2_0, st2_1, sti_0, sti_1, stj_0, stj_1, st1_2, sti_2, st2_2, stj_2, st1_3, sti_3, st2_3, stj_3, st1_4, sti_4, st2_4, stj_4, st1_5, sti_5, st2_5, stj_5, st1_6, sti_6, st2_6, stj_6, st1_7, sti_7, st2_7, stj_7, st1_8, sti_8, st2_8, stj_8, st1_9, sti_9, st2_9, stj_9, kil_n, kil_i, kil_r, kil_l, kil_d, gl_0, gl_s, cat_i, cat_r, true_and]
  rw [nI_lit10, br_0 (nI_ge h10 (by omega))]
  refine c194_21r NF_m sp_throws_t ?_
  simp only [s194_0, s194_1, s194_2, s194_5, s194_6, s194_10, s194_12, s194_15, s194_16, s194_19, s194_20, s194_24, s194_27, s194_28, s194_31, s194_35, ldi_0, ldi_s, ldl_0, ldl_s, ldd_0, ldd_s, lda_0, lda_s, st1_0, st1_1, st2_0, st2_1, sti_0, sti_1, stj_0, stj_1, st1_2, sti_2, st2_2, stj_2, st1_3, sti_3, st2_3, stj_3, st1_4, sti_4, st2_4, stj_4, st1_5, sti_5, st2_5, stj_5, st1_6, sti_6, st2_6, stj_6, st1_7, sti_7, st2_7, stj_7, st1_8, sti_8, st2_8, stj_8, st1_9, sti_9, st2_9, stj_9, kil_n, kil_i, kil_r, kil_l, kil_d, gl_0, gl_s, cat_i, cat_r, true_and]
  rw [br_0 (by decide)]
  exact out_RR
/-- walks of the reference, one cell of the table -/
def orS (G : Nat → Nat → Bool) (a b : Nat) (s : Nat × Nat) : Nat × Nat :=
  let o := if (G a b && s.1.testBit a) = true then s.2 ||| 2 ^ b else s.2
  (if (G a b && o.testBit a) = true then s.1 ||| 2 ^ b else s.1, o)
def orB (G : Nat → Nat → Bool) (a : Nat) (s : Nat × Nat) : Nat → Nat × Nat
  | 0 => s
  | b + 1 => orS G a b (orB G a s b)
def orA (G : Nat → Nat → Bool) (n : Nat) (s : Nat × Nat) : Nat → Nat × Nat
  | 0 => s
  | a + 1 => orB G a (orA G n s a) n
def orR (G : Nat → Nat → Bool) (n : Nat) (s : Nat × Nat) : Nat → Nat × Nat
  | 0 => s
  | r + 1 => orA G n (orR G n s r) n
def ohr (G : Nat → Nat → Bool) (n : Nat) : Nat → Bool
  | 0 => false
  | p + 1 => ohr G n p || (orR G n (2 ^ p, 0) (2 * n)).2.testBit p
theorem ohr_t {p q : Nat} (h : ohr G n p = true) (hq : p ≤ q) : ohr G n q = true := by
  induction hq with
  | refl => exact h
  | step _ ih => unfold ohr; rw [ih]; rfl
theorem orS_lt {a b : Nat} {s : Nat × Nat} (hb : b < 9) (h1 : s.1 < 512) (h2 : s.2 < 512) : (orS G a b s).1 < 512 ∧ (orS G a b s).2 < 512 := by
  unfold orS
  dsimp only
  have ho : (if (G a b && s.1.testBit a) = true then s.2 ||| 2 ^ b else s.2) < 512 := by
    split
    · exact or512 h2 (p2_lt hb)
    · exact h2
  generalize (if (G a b && s.1.testBit a) = true then s.2 ||| 2 ^ b else s.2) = o at ho ⊢
  refine ⟨?_, ho⟩
  split
  · exact or512 h1 (p2_lt hb)
  · exact h1
theorem orB_lt {a : Nat} {s : Nat × Nat} (h1 : s.1 < 512) (h2 : s.2 < 512) (b : Nat) (hb : b ≤ 9) : (orB G a s b).1 < 512 ∧ (orB G a s b).2 < 512 := by
  induction b with
  | zero => exact ⟨h1, h2⟩
  | succ b ih =>
    have := ih (by omega)
    exact orS_lt (by omega) this.1 this.2
theorem orA_lt {s : Nat × Nat} (hn : n ≤ 9) (h1 : s.1 < 512) (h2 : s.2 < 512) (a : Nat) : (orA G n s a).1 < 512 ∧ (orA G n s a).2 < 512 := by
  induction a with
  | zero => exact ⟨h1, h2⟩
  | succ a ih => exact orB_lt ih.1 ih.2 n hn
theorem orR_lt {s : Nat × Nat} (hn : n ≤ 9) (h1 : s.1 < 512) (h2 : s.2 < 512) (a : Nat) : (orR G n s a).1 < 512 ∧ (orR G n s a).2 < 512 := by
  induction a with
  | zero => exact ⟨h1, h2⟩
  | succ a ih => exact orA_lt hn ih.1 ih.2 n
theorem sp_hasOddRing (hB : MB h m t t2 SG) (hn : n ≤ 9) : Sp 1 210 [.ref m] (NF h m t t2 ns G th n) z 0 0 (RR (some (.int (bI (ohr G n n)))) (NF h m t t2 ns G th n) z) := by
  refine Sp_in (al := [some (.ref m), none, none, none, none, none, none]) ?_
  simp only [s210_0, s210_1, s210_3, s210_4, s210_7, s210_10, s210_11, s210_12, s210_13, s210_14, s210_15, s210_16, s210_17, s210_21, s210_22, s210_23, s210_26, s210_27, s210_30, s210_31, s210_35, s210_36, s210_39, s210_42, s210_43, s210_47, s210_48, s210_51, s210_54, s210_55, s210_58, s210_60, s210_61, s210_63, s210_64, s210_67, s210_68, s210_70, s210_71, s210_72, s210_73, s210_74, s210_77, s210_78, s210_79, s210_81, s210_82, s210_83, s210_84, s210_85, s210_88, s210_90, s210_91, s210_93, s210_94, s210_97, s210_98, s210_100, s210_101, s210_102, s210_103, s210_104, s210_107, s210_108, s210_109, s210_111, s210_112, s210_113, s210_114, s210_117, s210_120, s210_123, s210_126, s210_129, s210_132, s210_133, s210_134, s210_135, s210_136, s210_137, s210_138, s210_141, s210_142, s210_143, s210_146, s210_149, s210_150, ldi_0, ldi_s, ldl_0, ldl_s, ldd_0, ldd_s, lda_0, lda_s, st1_0, st1_1, st2_0, st2_1, sti_0, sti_1, stj_0, stj_1, st1_2, sti_2, st2_2, stj_2, st1_3, sti_3, st2_3, stj_3, st1_4, sti_4, st2_4, stj_4, st1_5, sti_5, st2_5, stj_5, st1_6, sti_6, st2_6, stj_6, st1_7, sti_7, st2_7, stj_7, st1_8, sti_8, st2_8, stj_8, st1_9, sti_9, st2_9, stj_9, kil_n, kil_i, kil_r, kil_l, kil_d, gl_0, gl_s, cat_i, cat_r, true_and]
  have starts : ∀ p, p ≤ n → ohr G n p = false → ∀ b1 b2 b3 b4 b5 : Option Value, aW (Sp 0) 210 0 0 (RR (some (.int (bI (ohr G n n)))) (NF h m t t2 ns G th n) z) 2 [some (.ref m), some (.int (nI p)), kil b1, kil b2, kil b3, kil b4, b5] [] (NF h m t t2 ns G th n) z 0 0 := by
    refine aUp ?_ fun p hp ih => ?_
    · intro e b1 b2 b3 b4 b5
      rw [s210_2]
      simp only [s210_0, s210_1, s210_3, s210_4, s210_7, s210_10, s210_11, s210_12, s210_13, s210_14, s210_15, s210_16, s210_17, s210_21, s210_22, s210_23, s210_26, s210_27, s210_30, s210_31, s210_35, s210_36, s210_39, s210_42, s210_43, s210_47, s210_48, s210_51, s210_54, s210_55, s210_58, s210_60, s210_61, s210_63, s210_64, s210_67, s210_68, s210_70, s210_71, s210_72, s210_73, s210_74, s210_77, s210_78, s210_79, s210_81, s210_82, s210_83, s210_84, s210_85, s210_88, s210_90, s210_91, s210_93, s210_94, s210_97, s210_98, s210_100, s210_101, s210_102, s210_103, s210_104, s210_107, s210_108, s210_109, s210_111, s210_112, s210_113, s210_114, s210_117, s210_120, s210_123, s210_126, s210_129, s210_132, s210_133, s210_134, s210_135, s210_136, s210_137, s210_138, s210_141, s210_142, s210_143, s210_146, s210_149, s210_150, ldi_0, ldi_s, ldl_0, ldl_s, ldd_0, ldd_s, lda_0, lda_s, st1_0, st1_1, st2_0, st2_1, sti_0, sti_1, stj_0, stj_1, st1_2, sti_2, st2_2, stj_2, st1_3, sti_3, st2_3, stj_3, st1_4, sti_4, st2_4, stj_4, st1_5, sti_5, st2_5, stj_5, st1_6, sti_6, st2_6, stj_6, st1_7, sti_7, st2_7, stj_7, st1_8, sti_8, st2_8, stj_8, st1_9, sti_9, st2_9, stj_9, kil_n, kil_i, kil_r, kil_l, kil_d, gl_0, gl_s, cat_i, cat_r, true_and, NF_gf]
      rw [br_1 (nI_le (Nat.le_refl _) (by omega)), e]
      exact ⟨by decide, out_RR⟩
    · intro e b1 b2 b3 b4 b5
      rw [show ohr G n (p + 1) = (ohr G n p || (orR G n (2 ^ p, 0) (2 * n)).2.testBit p) from rfl, e, Bool.false_or] at ih
      rw [s210_2]
      simp only [s210_0, s210_1, s210_3, s210_4, s210_7, s210_10, s210_11, s210_12, s210_13, s210_14, s210_15, s210_16, s210_17, s210_21, s210_22, s210_23, s210_26, s210_27, s210_30, s210_31, s210_35, s210_36, s210_39, s210_42, s210_43, s210_47, s210_48, s210_51, s210_54, s210_55, s210_58, s210_60, s210_61, s210_63, s210_64, s210_67, s210_68, s210_70, s210_71, s210_72, s210_73, s210_74, s210_77, s210_78, s210_79, s210_81, s210_82, s210_83, s210_84, s210_85, s210_88, s210_90, s210_91, s210_93, s210_94, s210_97, s210_98, s210_100, s210_101, s210_102, s210_103, s210_104, s210_107, s210_108, s210_109, s210_111, s210_112, s210_113, s210_114, s210_117, s210_120, s210_123, s210_126, s210_129, s210_132, s210_133, s210_134, s210_135, s210_136, s210_137, s210_138, s210_141, s210_142, s210_143, s210_146, s210_149, s210_150, ldi_0, ldi_s, ldl_0, ldl_s, ldd_0, ldd_s, lda_0, lda_s, st1_0, st1_1, st2_0, st2_1, sti_0, sti_1, stj_0, stj_1, st1_2, sti_2, st2_2, stj_2, st1_3, sti_3, st2_3, stj_3, st1_4, sti_4, st2_4, stj_4, st1_5, sti_5, st2_5, stj_5, st1_6, sti_6, st2_6, stj_6, st1_7, sti_7, st2_7, stj_7, st1_8, sti_8, st2_8, stj_8, st1_9, sti_9, st2_9, stj_9, kil_n, kil_i, kil_r, kil_l, kil_d, gl_0, gl_s, cat_i, cat_r, true_and, NF_gf]
      rw [br_0 (nI_ge hp (by omega)), one_shl (by omega)]
      have rounds : ∀ r, r ≤ 2 * n → ∀ b4 b5 : Option Value, aW (Sp 0) 210 0 0 (RR (some (.int (bI (ohr G n n)))) (NF h m t t2 ns G th n) z) 19 [some (.ref m), some (.int (nI p)), some (.int (nI (orR G n (2 ^ p, 0) r).1)), some (.int (nI (orR G n (2 ^ p, 0) r).2)), some (.int (nI r)), kil b4, b5] [] (NF h m t t2 ns G th n) z 0 0 := by
        refine aUp ?_ fun r hr ihr => ?_
        · intro b4 b5
          have hl := orR_lt (G := G) (s := (2 ^ p, 0)) hn (p2_lt (show p < 9 by omega)) (show 0 < 512 by decide) (2 * n)
          rw [s210_19]
          simp only [s210_0, s210_1, s210_3, s210_4, s210_7, s210_10, s210_11, s210_12, s210_13, s210_14, s210_15, s210_16, s210_17, s210_21, s210_22, s210_23, s210_26, s210_27, s210_30, s210_31, s210_35, s210_36, s210_39, s210_42, s210_43, s210_47, s210_48, s210_51, s210_54, s210_55, s210_58, s210_60, s210_61, s210_63, s210_64, s210_67, s210_68, s210_70, s210_71, s210_72, s210_73, s210_74, s210_77, s210_78, s210_79, s210_81, s210_82, s210_83, s210_84, s210_85, s210_88, s210_90, s210_91, s210_93, s210_94, s210_97, s210_98, s210_100, s210_101, s210_102, s210_103, s210_104, s210_107, s210_108, s210_109, s210_111, s210_112, s210_113, s210_114, s210_117, s210_120, s210_123, s210_126, s210_129, s210_132, s210_133, s210_134, s210_135, s210_136, s210_137, s210_138, s210_141, s210_142, s210_143, s210_146, s210_149, s210_150, ldi_0, ldi_s, ldl_0, ldl_s, ldd_0, ldd_s, lda_0, lda_s, st1_0, st1_1, st2_0, st2_1, sti_0, sti_1, stj_0, stj_1, st1_2, sti_2, st2_2, stj_2, st1_3, sti_3, st2_3, stj_3, st1_4, sti_4, st2_4, stj_4, st1_5, sti_5, st2_5, stj_5, st1_6, sti_6, st2_6, stj_6, st1_7, sti_7, st2_7, stj_7, st1_8, sti_8, st2_8, stj_8, st1_9, sti_9, st2_9, stj_9, kil_n, kil_i, kil_r, kil_l, kil_d, gl_0, gl_s, cat_i, cat_r, true_and, NF_gf, nI_1]
          rw [nI_lit2, pk_mul, br_1 (nI_le (Nat.le_refl _) (by omega)), bit_iff (by omega) (by omega)]
          refine ⟨fun h1 => ?_, fun h1 => ?_⟩
          · exact ih h1 (some (.int _)) (some (.int _)) (some (.int _)) b4 b5
          · rw [Bool.not_eq_false] at h1
            have : ohr G n (p + 1) = true := by unfold ohr; rw [h1, Bool.or_true]
            rw [ohr_t this (show p + 1 ≤ n from hp)]
            exact ⟨by decide, out_RR⟩
        · intro b4 b5
          have hl := orR_lt (G := G) (s := (2 ^ p, 0)) hn (p2_lt (show p < 9 by omega)) (show 0 < 512 by decide) r
          rw [show orR G n (2 ^ p, 0) (r + 1) = orA G n (orR G n (2 ^ p, 0) r) n from rfl] at ihr
          rw [s210_19]
          simp only [s210_0, s210_1, s210_3, s210_4, s210_7, s210_10, s210_11, s210_12, s210_13, s210_14, s210_15, s210_16, s210_17, s210_21, s210_22, s210_23, s210_26, s210_27, s210_30, s210_31, s210_35, s210_36, s210_39, s210_42, s210_43, s210_47, s210_48, s210_51, s210_54, s210_55, s210_58, s210_60, s210_61, s210_63, s210_64, s210_67, s210_68, s210_70, s210_71, s210_72, s210_73, s210_74, s210_77, s210_78, s210_79, s210_81, s210_82, s210_83, s210_84, s210_85, s210_88, s210_90, s210_91, s210_93, s210_94, s210_97, s210_98, s210_100, s210_101, s210_102, s210_103, s210_104, s210_107, s210_108, s210_109, s210_111, s210_112, s210_113, s210_114, s210_117, s210_120, s210_123, s210_126, s210_129, s210_132, s210_133, s210_134, s210_135, s210_136, s210_137, s210_138, s210_141, s210_142, s210_143, s210_146, s210_149, s210_150, ldi_0, ldi_s, ldl_0, ldl_s, ldd_0, ldd_s, lda_0, lda_s, st1_0, st1_1, st2_0, st2_1, sti_0, sti_1, stj_0, stj_1, st1_2, sti_2, st2_2, stj_2, st1_3, sti_3, st2_3, stj_3, st1_4, sti_4, st2_4, stj_4, st1_5, sti_5, st2_5, stj_5, st1_6, sti_6, st2_6, stj_6, st1_7, sti_7, st2_7, stj_7, st1_8, sti_8, st2_8, stj_8, st1_9, sti_9, st2_9, stj_9, kil_n, kil_i, kil_r, kil_l, kil_d, gl_0, gl_s, cat_i, cat_r, true_and, NF_gf]
          rw [nI_lit2, pk_mul, br_0 (nI_ge hr (by omega))]
          generalize orR G n (2 ^ p, 0) r = s at hl ihr ⊢
          have rows : ∀ a, a ≤ n → ∀ b5 : Option Value, aW (Sp 0) 210 0 0 (RR (some (.int (bI (ohr G n n)))) (NF h m t t2 ns G th n) z) 33 [some (.ref m), some (.int (nI p)), some (.int (nI (orA G n s a).1)), some (.int (nI (orA G n s a).2)), some (.int (nI r)), some (.int (nI a)), b5] [] (NF h m t t2 ns G th n) z 0 0 := by
            refine aUp ?_ fun a ha iha => ?_
            · intro b5
              rw [s210_33]
              simp only [s210_0, s210_1, s210_3, s210_4, s210_7, s210_10, s210_11, s210_12, s210_13, s210_14, s210_15, s210_16, s210_17, s210_21, s210_22, s210_23, s210_26, s210_27, s210_30, s210_31, s210_35, s210_36, s210_39, s210_42, s210_43, s210_47, s210_48, s210_51, s210_54, s210_55, s210_58, s210_60, s210_61, s210_63, s210_64, s210_67, s210_68, s210_70, s210_71, s210_72, s210_73, s210_74, s210_77, s210_78, s210_79, s210_81, s210_82, s210_83, s210_84, s210_85, s210_88, s210_90, s210_91, s210_93, s210_94, s210_97, s210_98, s210_100, s210_101, s210_102, s210_103, s210_104, s210_107, s210_108, s210_109, s210_111, s210_112, s210_113, s210_114, s210_117, s210_120, s210_123, s210_126, s210_129, s210_132, s210_133, s210_134, s210_135, s210_136, s210_137, s210_138, s210_141, s210_142, s210_143, s210_146, s210_149, s210_150, ldi_0, ldi_s, ldl_0, ldl_s, ldd_0, ldd_s, lda_0, lda_s, st1_0, st1_1, st2_0, st2_1, sti_0, sti_1, stj_0, stj_1, st1_2, sti_2, st2_2, stj_2, st1_3, sti_3, st2_3, stj_3, st1_4, sti_4, st2_4, stj_4, st1_5, sti_5, st2_5, stj_5, st1_6, sti_6, st2_6, stj_6, st1_7, sti_7, st2_7, stj_7, st1_8, sti_8, st2_8, stj_8, st1_9, sti_9, st2_9, stj_9, kil_n, kil_i, kil_r, kil_l, kil_d, gl_0, gl_s, cat_i, cat_r, true_and, NF_gf, nI_1]
              rw [br_1 (nI_le (Nat.le_refl _) (by omega))]
              exact ihr (some (.int _)) _
            · intro b5
              have hl2 := orA_lt (G := G) (n := n) hn hl.1 hl.2 a
              rw [show orA G n s (a + 1) = orB G a (orA G n s a) n from rfl] at iha
              rw [s210_33]
              simp only [s210_0, s210_1, s210_3, s210_4, s210_7, s210_10, s210_11, s210_12, s210_13, s210_14, s210_15, s210_16, s210_17, s210_21, s210_22, s210_23, s210_26, s210_27, s210_30, s210_31, s210_35, s210_36, s210_39, s210_42, s210_43, s210_47, s210_48, s210_51, s210_54, s210_55, s210_58, s210_60, s210_61, s210_63, s210_64, s210_67, s210_68, s210_70, s210_71, s210_72, s210_73, s210_74, s210_77, s210_78, s210_79, s210_81, s210_82, s210_83, s210_84, s210_85, s210_88, s210_90, s210_91, s210_93, s210_94, s210_97, s210_98, s210_100, s210_101, s210_102, s210_103, s210_104, s210_107, s210_108, s210_109, s210_111, s210_112, s210_113, s210_114, s210_117, s210_120, s210_123, s210_126, s210_129, s210_132, s210_133, s210_134, s210_135, s210_136, s210_137, s210_138, s210_141, s210_142, s210_143, s210_146, s210_149, s210_150, ldi_0, ldi_s, ldl_0, ldl_s, ldd_0, ldd_s, lda_0, lda_s, st1_0, st1_1, st2_0, st2_1, sti_0, sti_1, stj_0, stj_1, st1_2, sti_2, st2_2, stj_2, st1_3, sti_3, st2_3, stj_3, st1_4, sti_4, st2_4, stj_4, st1_5, sti_5, st2_5, stj_5, st1_6, sti_6, st2_6, stj_6, st1_7, sti_7, st2_7, stj_7, st1_8, sti_8, st2_8, stj_8, st1_9, sti_9, st2_9, stj_9, kil_n, kil_i, kil_r, kil_l, kil_d, gl_0, gl_s, cat_i, cat_r, true_and, NF_gf]
              rw [br_0 (nI_ge ha (by omega))]
              generalize orA G n s a = u at hl2 iha ⊢
              have inn : ∀ b, b ≤ n → aW (Sp 0) 210 0 0 (RR (some (.int (bI (ohr G n n)))) (NF h m t t2 ns G th n) z) 45 [some (.ref m), some (.int (nI p)), some (.int (nI (orB G a u b).1)), some (.int (nI (orB G a u b).2)), some (.int (nI r)), some (.int (nI a)), some (.int (nI b))] [] (NF h m t t2 ns G th n) z 0 0 := by
                refine aUp ?_ fun b hb ihb => ?_
                · rw [s210_45]
                  simp only [s210_0, s210_1, s210_3, s210_4, s210_7, s210_10, s210_11, s210_12, s210_13, s210_14, s210_15, s210_16, s210_17, s210_21, s210_22, s210_23, s210_26, s210_27, s210_30, s210_31, s210_35, s210_36, s210_39, s210_42, s210_43, s210_47, s210_48, s210_51, s210_54, s210_55, s210_58, s210_60, s210_61, s210_63, s210_64, s210_67, s210_68, s210_70, s210_71, s210_72, s210_73, s210_74, s210_77, s210_78, s210_79, s210_81, s210_82, s210_83, s210_84, s210_85, s210_88, s210_90, s210_91, s210_93, s210_94, s210_97, s210_98, s210_100, s210_101, s210_102, s210_103, s210_104, s210_107, s210_108, s210_109, s210_111, s210_112, s210_113, s210_114, s210_117, s210_120, s210_123, s210_126, s210_129, s210_132, s210_133, s210_134, s210_135, s210_136, s210_137, s210_138, s210_141, s210_142, s210_143, s210_146, s210_149, s210_150, ldi_0, ldi_s, ldl_0, ldl_s, ldd_0, ldd_s, lda_0, lda_s, st1_0, st1_1, st2_0, st2_1, sti_0, sti_1, stj_0, stj_1, st1_2, sti_2, st2_2, stj_2, st1_3, sti_3, st2_3, stj_3, st1_4, sti_4, st2_4, stj_4, st1_5, sti_5, st2_5, stj_5, st1_6, sti_6, st2_6, stj_6, st1_7, sti_7, st2_7, stj_7, st1_8, sti_8, st2_8, stj_8, st1_9, sti_9, st2_9, stj_9, kil_n, kil_i, kil_r, kil_l, kil_d, gl_0, gl_s, cat_i, cat_r, true_and, NF_gf, nI_1]
                  rw [br_1 (nI_le (Nat.le_refl _) (by omega))]
                  exact iha _
                · have hl3 := orB_lt (G := G) (a := a) hl2.1 hl2.2 b (by omega)
                  have ha9 : a < 9 := by omega
                  have hb9 : b < 9 := by omega
                  rw [show orB G a u (b + 1) = orS G a b (orB G a u b) from rfl] at ihb
                  generalize orB G a u b = v at hl3 ihb ⊢
                  rw [s210_45]
                  simp only [s210_0, s210_1, s210_3, s210_4, s210_7, s210_10, s210_11, s210_12, s210_13, s210_14, s210_15, s210_16, s210_17, s210_21, s210_22, s210_23, s210_26, s210_27, s210_30, s210_31, s210_35, s210_36, s210_39, s210_42, s210_43, s210_47, s210_48, s210_51, s210_54, s210_55, s210_58, s210_60, s210_61, s210_63, s210_64, s210_67, s210_68, s210_70, s210_71, s210_72, s210_73, s210_74, s210_77, s210_78, s210_79, s210_81, s210_82, s210_83, s210_84, s210_85, s210_88, s210_90, s210_91, s210_93, s210_94, s210_97, s210_98, s210_100, s210_101, s210_102, s210_103, s210_104, s210_107, s210_108, s210_109, s210_111, s210_112, s210_113, s210_114, s210_117, s210_120, s210_123, s210_126, s210_129, s210_132, s210_133, s210_134, s210_135, s210_136, s210_137, s210_138, s210_141, s210_142, s210_143, s210_146, s210_149, s210_150, ldi_0, ldi_s, ldl_0, ldl_s, ldd_0, ldd_s, lda_0, lda_s, st1_0, st1_1, st2_0, st2_1, sti_0, sti_1, stj_0, stj_1, st1_2, sti_2, st2_2, stj_2, st1_3, sti_3, st2_3, stj_3, st1_4, sti_4, st2_4, stj_4, st1_5, sti_5, st2_5, stj_5, st1_6, sti_6, st2_6, stj_6, st1_7, sti_7, st2_7, stj_7, st1_8, sti_8, st2_8, stj_8, st1_9, sti_9, st2_9, stj_9, kil_n, kil_i, kil_r, kil_l, kil_d, gl_0, gl_s, cat_i, cat_r, true_and, NF_gf, nI_1, ald_tb (NF_Tb hB) ha9, ald_tr (NF_Tb hB) ha9 hb9, bI_0]
                  rw [br_0 (nI_ge hb (by omega))]
                  unfold orS at ihb
                  cases hg : G a b
                  · rw [hg] at ihb
                    rw [br_1 rfl, br_1 rfl]
                    exact ihb
                  · rw [hg] at ihb
                    simp only [Bool.true_and] at ihb
                    have ho : v.2 ||| 2 ^ b < 512 := or512 hl3.2 (p2_lt hb9)
                    rw [br_0 (c := true = false) (by decide), bit_iff (x := v.1) (a := a) (by omega) (by omega), one_shl (b := b) (by omega)]
                    cases hb1 : v.1.testBit a
                    · rw [hb1] at ihb
                      simp only [Bool.false_eq_true, if_false] at ihb
                      rw [br_1 rfl, br_0 (c := true = false) (by decide), bit_iff (x := v.2) (a := a) (by omega) (by omega), nI_or]
                      cases hb2 : v.2.testBit a
                      · rw [hb2] at ihb
                        rw [br_1 rfl]
                        exact ihb
                      · rw [hb2] at ihb
                        rw [br_0 (by decide)]
                        exact ihb
                    · rw [hb1] at ihb
                      simp only [if_true] at ihb
                      rw [br_0 (c := true = false) (by decide), br_0 (c := true = false) (by decide), nI_or, nI_or, bit_iff (x := v.2 ||| 2 ^ b) (a := a) (by omega) (by omega)]
                      cases hb2 : (v.2 ||| 2 ^ b).testBit a
                      · rw [hb2] at ihb
                        rw [br_1 rfl]
                        exact ihb
                      · rw [hb2] at ihb
                        rw [br_0 (by decide)]
                        exact ihb
              exact inn 0 (by omega)
          exact rows 0 (by omega) _
      exact rounds 0 (by omega) b4 b5
  exact starts 0 (by omega) rfl none none none none none
theorem mk_n9 (hG : GOK n G) (p : Nat) : mk (G p) n = mk (G p) 9 := by
  apply Nat.eq_of_testBit_eq
  intro q
  rw [mk_bit, mk_bit]
  have hn := hG.1
  by_cases h1 : q < n
  · rw [decide_eq_true h1, decide_eq_true (show q < 9 by omega)]
  · rw [hG.lt (show n ≤ q by omega), Bool.and_false, Bool.and_false]
theorem sp_folded {T : Nat} (hT : Tb h T G) (hG : GOK n G) {s : Int64} : Sp 1 215 [.long s, .ref T, .int (nI n)] h z 0 0 (RR (some (.long (mixC n G s))) h z) := by
  have hn := hG.1
  refine Sp_in (al := [some (.long s), none, some (.ref T), some (.int (nI n)), none, none, none, none, none]) ?_
  simp only [s215_0, s215_3, s215_4, s215_5, s215_6, s215_7, s215_8, s215_10, s215_11, s215_15, s215_16, s215_19, s215_20, s215_22, s215_23, s215_27, s215_28, s215_31, s215_33, s215_34, s215_36, s215_37, s215_39, s215_40, s215_43, s215_44, s215_46, s215_47, s215_50, s215_51, s215_52, s215_54, s215_57, s215_60, s215_63, s215_65, s215_66, s215_68, s215_69, s215_70, s215_72, s215_75, s215_78, s215_80, ldi_0, ldi_s, ldl_0, ldl_s, ldd_0, ldd_s, lda_0, lda_s, st1_0, st1_1, st2_0, st2_1, sti_0, sti_1, stj_0, stj_1, st1_2, sti_2, st2_2, stj_2, st1_3, sti_3, st2_3, stj_3, st1_4, sti_4, st2_4, stj_4, st1_5, sti_5, st2_5, stj_5, st1_6, sti_6, st2_6, stj_6, st1_7, sti_7, st2_7, stj_7, st1_8, sti_8, st2_8, stj_8, st1_9, sti_9, st2_9, stj_9, kil_n, kil_i, kil_r, kil_l, kil_d, gl_0, gl_s, cat_i, cat_r, true_and]
  have rows : ∀ p, p ≤ n → ∀ b1 b2 : Option Value, aW (Sp 0) 215 0 0 (RR (some (.long (mixC n G s))) h z) 13 [some (.long s), none, some (.ref T), some (.int (nI n)), some (.long (mixR G (mixF s (nI n).toInt64) p)), none, some (.int (nI p)), kil b1, b2] [] h z 0 0 := by
    refine aUp ?_ fun p hp ih => ?_
    · intro b1 b2
      rw [s215_13]
      simp only [s215_0, s215_3, s215_4, s215_5, s215_6, s215_7, s215_8, s215_10, s215_11, s215_15, s215_16, s215_19, s215_20, s215_22, s215_23, s215_27, s215_28, s215_31, s215_33, s215_34, s215_36, s215_37, s215_39, s215_40, s215_43, s215_44, s215_46, s215_47, s215_50, s215_51, s215_52, s215_54, s215_57, s215_60, s215_63, s215_65, s215_66, s215_68, s215_69, s215_70, s215_72, s215_75, s215_78, s215_80, ldi_0, ldi_s, ldl_0, ldl_s, ldd_0, ldd_s, lda_0, lda_s, st1_0, st1_1, st2_0, st2_1, sti_0, sti_1, stj_0, stj_1, st1_2, sti_2, st2_2, stj_2, st1_3, sti_3, st2_3, stj_3, st1_4, sti_4, st2_4, stj_4, st1_5, sti_5, st2_5, stj_5, st1_6, sti_6, st2_6, stj_6, st1_7, sti_7, st2_7, stj_7, st1_8, sti_8, st2_8, stj_8, st1_9, sti_9, st2_9, stj_9, kil_n, kil_i, kil_r, kil_l, kil_d, gl_0, gl_s, cat_i, cat_r, true_and]
      rw [br_1 (nI_le (Nat.le_refl _) (by omega))]
      exact out_RR
    · intro b1 b2
      have hp9 : p < 9 := by omega
      rw [s215_13]
      simp only [s215_0, s215_3, s215_4, s215_5, s215_6, s215_7, s215_8, s215_10, s215_11, s215_15, s215_16, s215_19, s215_20, s215_22, s215_23, s215_27, s215_28, s215_31, s215_33, s215_34, s215_36, s215_37, s215_39, s215_40, s215_43, s215_44, s215_46, s215_47, s215_50, s215_51, s215_52, s215_54, s215_57, s215_60, s215_63, s215_65, s215_66, s215_68, s215_69, s215_70, s215_72, s215_75, s215_78, s215_80, ldi_0, ldi_s, ldl_0, ldl_s, ldd_0, ldd_s, lda_0, lda_s, st1_0, st1_1, st2_0, st2_1, sti_0, sti_1, stj_0, stj_1, st1_2, sti_2, st2_2, stj_2, st1_3, sti_3, st2_3, stj_3, st1_4, sti_4, st2_4, stj_4, st1_5, sti_5, st2_5, stj_5, st1_6, sti_6, st2_6, stj_6, st1_7, sti_7, st2_7, stj_7, st1_8, sti_8, st2_8, stj_8, st1_9, sti_9, st2_9, stj_9, kil_n, kil_i, kil_r, kil_l, kil_d, gl_0, gl_s, cat_i, cat_r, true_and]
      rw [br_0 (nI_ge hp (by omega))]
      have inn : ∀ q, q ≤ n → aW (Sp 0) 215 0 0 (RR (some (.long (mixC n G s))) h z) 25 [some (.long s), none, some (.ref T), some (.int (nI n)), some (.long (mixR G (mixF s (nI n).toInt64) p)), none, some (.int (nI p)), some (.int (nI (mk (G p) q))), some (.int (nI q))] [] h z 0 0 := by
        refine aUp ?_ fun q hq ihq => ?_
        · rw [s215_25]
          simp only [s215_0, s215_3, s215_4, s215_5, s215_6, s215_7, s215_8, s215_10, s215_11, s215_15, s215_16, s215_19, s215_20, s215_22, s215_23, s215_27, s215_28, s215_31, s215_33, s215_34, s215_36, s215_37, s215_39, s215_40, s215_43, s215_44, s215_46, s215_47, s215_50, s215_51, s215_52, s215_54, s215_57, s215_60, s215_63, s215_65, s215_66, s215_68, s215_69, s215_70, s215_72, s215_75, s215_78, s215_80, ldi_0, ldi_s, ldl_0, ldl_s, ldd_0, ldd_s, lda_0, lda_s, st1_0, st1_1, st2_0, st2_1, sti_0, sti_1, stj_0, stj_1, st1_2, sti_2, st2_2, stj_2, st1_3, sti_3, st2_3, stj_3, st1_4, sti_4, st2_4, stj_4, st1_5, sti_5, st2_5, stj_5, st1_6, sti_6, st2_6, stj_6, st1_7, sti_7, st2_7, stj_7, st1_8, sti_8, st2_8, stj_8, st1_9, sti_9, st2_9, stj_9, kil_n, kil_i, kil_r, kil_l, kil_d, gl_0, gl_s, cat_i, cat_r, true_and, nI_1]
          rw [br_1 (nI_le (Nat.le_refl _) (by omega)), mk_n9 hG]
          exact ih (some (.int _)) _
        · rw [show mk (G p) (q + 1) = mk (G p) q ||| (if G p q then 2 ^ q else 0) from rfl] at ihq
          rw [s215_25]
          simp only [s215_0, s215_3, s215_4, s215_5, s215_6, s215_7, s215_8, s215_10, s215_11, s215_15, s215_16, s215_19, s215_20, s215_22, s215_23, s215_27, s215_28, s215_31, s215_33, s215_34, s215_36, s215_37, s215_39, s215_40, s215_43, s215_44, s215_46, s215_47, s215_50, s215_51, s215_52, s215_54, s215_57, s215_60, s215_63, s215_65, s215_66, s215_68, s215_69, s215_70, s215_72, s215_75, s215_78, s215_80, ldi_0, ldi_s, ldl_0, ldl_s, ldd_0, ldd_s, lda_0, lda_s, st1_0, st1_1, st2_0, st2_1, sti_0, sti_1, stj_0, stj_1, st1_2, sti_2, st2_2, stj_2, st1_3, sti_3, st2_3, stj_3, st1_4, sti_4, st2_4, stj_4, st1_5, sti_5, st2_5, stj_5, st1_6, sti_6, st2_6, stj_6, st1_7, sti_7, st2_7, stj_7, st1_8, sti_8, st2_8, stj_8, st1_9, sti_9, st2_9, stj_9, kil_n, kil_i, kil_r, kil_l, kil_d, gl_0, gl_s, cat_i, cat_r, true_and, nI_1, ald_tb hT hp9, ald_tr hT hp9 (show q < 9 by omega), bI_0]
          rw [br_0 (nI_ge hq (by omega)), one_shl (by omega), nI_lit0, nI_or, nI_or]
          refine ⟨fun h1 => ?_, fun h1 => ?_⟩
          · rw [if_neg (by rw [h1]; decide)] at ihq
            exact ihq
          · rw [if_pos (by simpa using h1)] at ihq
            exact ihq
      exact inn 0 (by omega)
  exact rows 0 (by omega) none none
/-- the reference's checksum -/
def chkM (n : Nat) (G : Nat → Nat → Bool) (sn : Nat) (SG : Nat → Nat → Bool) : Int64 := mixC sn SG (mixF (mixK (cofM G n) (mixC n G 7) (n + 1)) (nI (fsp (ptm G n) n n)).toInt64)
theorem sp_mchecksum (hB : MB h m t t2 SG) (hS : MS h m) (hG : GOK n G) (hSG : GOK ns SG) : Sp 21 214 [.ref m] (NF h m t t2 ns G th n) z 0 0 (MR h m t t2 ns G SG th n z (some (.long (chkM n G ns SG)))) := by
  have hT := hB.1
  have hn := hG.1
  refine Sp_in (al := [some (.ref m), none, none, none]) ?_
  simp only [s214_0, s214_3, s214_4, s214_7, s214_8, s214_14, s214_15, s214_16, s214_17, s214_20, s214_21, s214_27, s214_28, s214_30, s214_31, s214_34, s214_37, s214_40, s214_41, s214_42, s214_43, s214_46, s214_47, s214_48, s214_49, s214_50, s214_53, s214_56, s214_59, s214_60, s214_61, s214_65, s214_66, s214_67, s214_68, s214_71, s214_72, s214_78, ldi_0, ldi_s, ldl_0, ldl_s, ldd_0, ldd_s, lda_0, lda_s, st1_0, st1_1, st2_0, st2_1, sti_0, sti_1, stj_0, stj_1, st1_2, sti_2, st2_2, stj_2, st1_3, sti_3, st2_3, stj_3, st1_4, sti_4, st2_4, stj_4, st1_5, sti_5, st2_5, stj_5, st1_6, sti_6, st2_6, stj_6, st1_7, sti_7, st2_7, stj_7, st1_8, sti_8, st2_8, stj_8, st1_9, sti_9, st2_9, stj_9, kil_n, kil_i, kil_r, kil_l, kil_d, gl_0, gl_s, cat_i, cat_r, true_and, NF_gf]
  refine c214_11r (sp_folded (NF_Tb hB) hG) ?_
  simp only [s214_0, s214_3, s214_4, s214_7, s214_8, s214_14, s214_15, s214_16, s214_17, s214_20, s214_21, s214_27, s214_28, s214_30, s214_31, s214_34, s214_37, s214_40, s214_41, s214_42, s214_43, s214_46, s214_47, s214_48, s214_49, s214_50, s214_53, s214_56, s214_59, s214_60, s214_61, s214_65, s214_66, s214_67, s214_68, s214_71, s214_72, s214_78, ldi_0, ldi_s, ldl_0, ldl_s, ldd_0, ldd_s, lda_0, lda_s, st1_0, st1_1, st2_0, st2_1, sti_0, sti_1, stj_0, stj_1, st1_2, sti_2, st2_2, stj_2, st1_3, sti_3, st2_3, stj_3, st1_4, sti_4, st2_4, stj_4, st1_5, sti_5, st2_5, stj_5, st1_6, sti_6, st2_6, stj_6, st1_7, sti_7, st2_7, stj_7, st1_8, sti_8, st2_8, stj_8, st1_9, sti_9, st2_9, stj_9, kil_n, kil_i, kil_r, kil_l, kil_d, gl_0, gl_s, cat_i, cat_r, true_and, NF_gf]
  refine c214_24 NF_m (Sp_le (show 12 ≤ 20 by omega) (sp_expands0 hB hS.2.1 hn)) (by omega) (by omega) ?_
  rintro _ _ z ⟨rfl, rfl, S', F', hF', rfl⟩
  show aW (Sp 20) 214 0 0 _ 27 _ _ _ _ (0 + 0) (0 + 0)
  have k := hS.xc (S := S') (F := F') (C := ctL G n) (D := cofM G n) (ctL_big hn) (cofM_big hn) hF'
  have hB2 : MB (XC h m S' (ctL G n) F' (cofM G n)) m t t2 SG := hB.xc
  have hS2 : XC h m S' (ctL G n) F' (cofM G n) (m + 22) = some (na 9 S') := by unfold XC; rw [hup_ne (by omega), hup_same]
  have hC2 : XC h m S' (ctL G n) F' (cofM G n) (m + 23) = some (la 10 (ctL G n)) := hup_same
  have hD2 : XC h m S' (ctL G n) F' (cofM G n) (m + 25) = some (la 10 (cofM G n)) := by unfold XC XB; rw [hup_ne (by omega), hup_ne (by omega), hup_same]
  rw [XH_base]
  generalize XC h m S' (ctL G n) F' (cofM G n) = H at k hB2 hS2 hC2 hD2 ⊢
  simp only [s214_0, s214_3, s214_4, s214_7, s214_8, s214_14, s214_15, s214_16, s214_17, s214_20, s214_21, s214_27, s214_28, s214_30, s214_31, s214_34, s214_37, s214_40, s214_41, s214_42, s214_43, s214_46, s214_47, s214_48, s214_49, s214_50, s214_53, s214_56, s214_59, s214_60, s214_61, s214_65, s214_66, s214_67, s214_68, s214_71, s214_72, s214_78, ldi_0, ldi_s, ldl_0, ldl_s, ldd_0, ldd_s, lda_0, lda_s, st1_0, st1_1, st2_0, st2_1, sti_0, sti_1, stj_0, stj_1, st1_2, sti_2, st2_2, stj_2, st1_3, sti_3, st2_3, stj_3, st1_4, sti_4, st2_4, stj_4, st1_5, sti_5, st2_5, stj_5, st1_6, sti_6, st2_6, stj_6, st1_7, sti_7, st2_7, stj_7, st1_8, sti_8, st2_8, stj_8, st1_9, sti_9, st2_9, stj_9, kil_n, kil_i, kil_r, kil_l, kil_d, gl_0, gl_s, cat_i, cat_r, true_and]
  have loop : ∀ i, i ≤ n + 1 → aW (Sp 20) 214 0 0 (MR h m t t2 ns G SG th n z (some (.long (chkM n G ns SG)))) 29 [some (.ref m), some (.long (mixK (cofM G n) (mixC n G 7) i)), none, some (.int (nI i))] [] (NF H m t t2 ns G th n) z (0 + 0) (0 + 0) := by
    refine aUp ?_ fun i hi ih => ?_
    · rw [s214_29]
      simp only [s214_0, s214_3, s214_4, s214_7, s214_8, s214_14, s214_15, s214_16, s214_17, s214_20, s214_21, s214_27, s214_28, s214_30, s214_31, s214_34, s214_37, s214_40, s214_41, s214_42, s214_43, s214_46, s214_47, s214_48, s214_49, s214_50, s214_53, s214_56, s214_59, s214_60, s214_61, s214_65, s214_66, s214_67, s214_68, s214_71, s214_72, s214_78, ldi_0, ldi_s, ldl_0, ldl_s, ldd_0, ldd_s, lda_0, lda_s, st1_0, st1_1, st2_0, st2_1, sti_0, sti_1, stj_0, stj_1, st1_2, sti_2, st2_2, stj_2, st1_3, sti_3, st2_3, stj_3, st1_4, sti_4, st2_4, stj_4, st1_5, sti_5, st2_5, stj_5, st1_6, sti_6, st2_6, stj_6, st1_7, sti_7, st2_7, stj_7, st1_8, sti_8, st2_8, stj_8, st1_9, sti_9, st2_9, stj_9, kil_n, kil_i, kil_r, kil_l, kil_d, gl_0, gl_s, cat_i, cat_r, true_and, NF_gf]
      rw [br_1 (nI_lt (Nat.lt_succ_self n) (by omega))]
      refine c214_62 NF_m (sp_mfewest hB2 hn hS2 hC2 (ctL_big hn)) (by omega) (by omega) ?_
      rintro o h' z' hq
      have hm := CtR_MR hB2 k.1 hn o h' z' hq
      obtain ⟨rfl, rfl, H3, rfl, hB3, hS3, hF3⟩ := hm
      show aW (Sp 20) 214 0 0 _ 65 _ _ _ _ _ _
      simp only [s214_0, s214_3, s214_4, s214_7, s214_8, s214_14, s214_15, s214_16, s214_17, s214_20, s214_21, s214_27, s214_28, s214_30, s214_31, s214_34, s214_37, s214_40, s214_41, s214_42, s214_43, s214_46, s214_47, s214_48, s214_49, s214_50, s214_53, s214_56, s214_59, s214_60, s214_61, s214_65, s214_66, s214_67, s214_68, s214_71, s214_72, s214_78, ldi_0, ldi_s, ldl_0, ldl_s, ldd_0, ldd_s, lda_0, lda_s, st1_0, st1_1, st2_0, st2_1, sti_0, sti_1, stj_0, stj_1, st1_2, sti_2, st2_2, stj_2, st1_3, sti_3, st2_3, stj_3, st1_4, sti_4, st2_4, stj_4, st1_5, sti_5, st2_5, stj_5, st1_6, sti_6, st2_6, stj_6, st1_7, sti_7, st2_7, stj_7, st1_8, sti_8, st2_8, stj_8, st1_9, sti_9, st2_9, stj_9, kil_n, kil_i, kil_r, kil_l, kil_d, gl_0, gl_s, cat_i, cat_r, true_and, NF_gf]
      refine c214_75r (sp_folded (NF_T2 hB3) hSG) ?_
      simp only [s214_0, s214_3, s214_4, s214_7, s214_8, s214_14, s214_15, s214_16, s214_17, s214_20, s214_21, s214_27, s214_28, s214_30, s214_31, s214_34, s214_37, s214_40, s214_41, s214_42, s214_43, s214_46, s214_47, s214_48, s214_49, s214_50, s214_53, s214_56, s214_59, s214_60, s214_61, s214_65, s214_66, s214_67, s214_68, s214_71, s214_72, s214_78, ldi_0, ldi_s, ldl_0, ldl_s, ldd_0, ldd_s, lda_0, lda_s, st1_0, st1_1, st2_0, st2_1, sti_0, sti_1, stj_0, stj_1, st1_2, sti_2, st2_2, stj_2, st1_3, sti_3, st2_3, stj_3, st1_4, sti_4, st2_4, stj_4, st1_5, sti_5, st2_5, stj_5, st1_6, sti_6, st2_6, stj_6, st1_7, sti_7, st2_7, stj_7, st1_8, sti_8, st2_8, stj_8, st1_9, sti_9, st2_9, stj_9, kil_n, kil_i, kil_r, kil_l, kil_d, gl_0, gl_s, cat_i, cat_r, true_and]
      exact ⟨by omega, by omega, rfl, rfl, H3, rfl, hB3, hS3, k.2.trans hF3⟩
    · have hDN : NF H m t t2 ns G th n (m + 25) = some (la 10 (cofM G n)) := by rw [NF_old hT (by omega)]; exact hD2
      rw [s214_29]
      simp only [s214_0, s214_3, s214_4, s214_7, s214_8, s214_14, s214_15, s214_16, s214_17, s214_20, s214_21, s214_27, s214_28, s214_30, s214_31, s214_34, s214_37, s214_40, s214_41, s214_42, s214_43, s214_46, s214_47, s214_48, s214_49, s214_50, s214_53, s214_56, s214_59, s214_60, s214_61, s214_65, s214_66, s214_67, s214_68, s214_71, s214_72, s214_78, ldi_0, ldi_s, ldl_0, ldl_s, ldd_0, ldd_s, lda_0, lda_s, st1_0, st1_1, st2_0, st2_1, sti_0, sti_1, stj_0, stj_1, st1_2, sti_2, st2_2, stj_2, st1_3, sti_3, st2_3, stj_3, st1_4, sti_4, st2_4, stj_4, st1_5, sti_5, st2_5, stj_5, st1_6, sti_6, st2_6, stj_6, st1_7, sti_7, st2_7, stj_7, st1_8, sti_8, st2_8, stj_8, st1_9, sti_9, st2_9, stj_9, kil_n, kil_i, kil_r, kil_l, kil_d, gl_0, gl_s, cat_i, cat_r, true_and, NF_gf, nI_1, ald_la hDN (show i < 10 by omega)]
      rw [br_0 (nI_nlt (show i ≤ n by omega) (by omega))]
      exact ih
  exact loop 0 (by omega)
end Mod11
