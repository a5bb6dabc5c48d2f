/-! ColourmapModel: others, keep, turn, beside; what the map tells -/
section Mod4
variable {h : AH} {m t t2 ns n z : Nat} {G SG : Nat → Nat → Bool} {th : Int32}
/-- the sum of the first a rows, each to k -/
def sqr (G : Nat → Nat → Bool) (k : Nat) : Nat → Nat
  | 0 => 0
  | a + 1 => sqr G k a + cnt (G a) k
theorem sqr_s (G : Nat → Nat → Bool) (k a : Nat) : sqr G (k + 1) a = sqr G k a + cnt (fun b => G b k) a := by
  induction a with
  | zero => rfl
  | succ a ih =>
    show sqr G (k + 1) a + (cnt (G a) k + if G a k = true then 1 else 0) = sqr G k a + cnt (G a) k + (cnt (fun b => G b k) a + if G a k = true then 1 else 0)
    rw [ih]
    omega
theorem sqr_wys (hG : GOK n G) (k : Nat) : sqr G k k = 2 * wys G k := by
  induction k with
  | zero => rfl
  | succ k ih =>
    show sqr G (k + 1) k + cnt (G k) (k + 1) = 2 * (wys G k + cnt (G k) k)
    rw [sqr_s, ih, cnt_f (hG.irr k), cnt_congr (f := fun b => G b k) (g := G k) (fun q _ => hG.sym q k)]
    omega
theorem cnt_up {g : Nat → Bool} {n : Nat} (hz : ∀ q, n ≤ q → g q = false) (j : Nat) : cnt g (n + j) = cnt g n := by
  induction j with
  | zero => rfl
  | succ j ih =>
    rw [← Nat.add_assoc, cnt_f (hz _ (by omega))]
    exact ih
theorem cnt9 (hG : GOK n G) (p : Nat) : cnt (G p) 9 = cnt (G p) n := by
  have hn := hG.1
  have := cnt_up (g := G p) (n := n) (fun q hq => hG.lt hq) (9 - n)
  rw [show n + (9 - n) = 9 by omega] at this
  exact this
theorem ends_sqr (hG : GOK n G) (k : Nat) : ends G k = sqr G n k := by
  induction k with
  | zero => rfl
  | succ k ih =>
    show ends G k + cnt (G k) 9 = sqr G n k + cnt (G k) n
    rw [ih, cnt9 hG]
/-- each way has two ends -/
theorem ends_wys (hG : GOK n G) : ends G n / 2 = wys G n := by
  rw [ends_sqr hG, sqr_wys hG]
  omega
theorem wys_lt (hG : GOK n G) : wys G n < 41 := by
  have h1 := ends_wys hG
  have h2 := ends_le G n
  have := hG.1
  omega
theorem gInv_z (hG : GOK n G) {a b : Nat} (h : n ≤ a ∨ n ≤ b) : gInv n G a b = G a b := by
  unfold gInv
  rcases h with h | h
  · rw [hG.lt' h, decide_eq_false (by omega)]
    rfl
  · rw [hG.lt h, decide_eq_false (show ¬ b < n by omega)]
    simp
theorem sp_mothers (hB : MB h m t t2 SG) (hG : GOK n G) : Sp 20 64 [.ref m] (NF h m t t2 ns G th n) z 0 0 (RR (some (.int (nI (wys (gInv n G) n)))) (NF h m t t2 ns (gInv n G) th n) z) := by
  have hn := hG.1
  refine Sp_in (al := [some (.ref m), none, none]) ?_
  simp only [s64_0, s64_1, s64_3, s64_4, s64_7, s64_10, s64_11, s64_13, s64_14, s64_17, s64_20, s64_21, s64_24, s64_25, s64_26, s64_27, s64_28, s64_29, s64_32, s64_33, s64_36, s64_37, s64_38, s64_39, s64_40, s64_43, s64_44, s64_47, s64_48, s64_49, s64_52, s64_55, s64_58, s64_61, s64_65, ldi_0, ldi_s, ldl_0, ldl_s, ldd_0, ldd_s, lda_0, lda_s, st1_0, st1_1, st2_0, st2_1, sti_0, sti_1, stj_0, stj_1, st1_2, sti_2, st2_2, stj_2, st1_3, sti_3, st2_3, stj_3, st1_4, sti_4, st2_4, stj_4, st1_5, sti_5, st2_5, stj_5, st1_6, sti_6, st2_6, stj_6, st1_7, sti_7, st2_7, stj_7, st1_8, sti_8, st2_8, stj_8, st1_9, sti_9, st2_9, stj_9, kil_n, kil_i, kil_r, kil_l, kil_d, gl_0, gl_s, cat_i, cat_r, true_and]
  have key : ∀ a, a ≤ n → ∀ s : Option Value, aW (Sp 19) 64 0 0 (RR (some (.int (nI (wys (gInv n G) n)))) (NF h m t t2 ns (gInv n G) th n) z) 2 [some (.ref m), some (.int (nI a)), s] [] (NF h m t t2 ns (stD a 0 (gInv n G) G) th n) z 0 0 := by
    refine aUp ?_ fun a ha ih => ?_
    · intro s
      rw [s64_2]
      simp only [s64_0, s64_1, s64_3, s64_4, s64_7, s64_10, s64_11, s64_13, s64_14, s64_17, s64_20, s64_21, s64_24, s64_25, s64_26, s64_27, s64_28, s64_29, s64_32, s64_33, s64_36, s64_37, s64_38, s64_39, s64_40, s64_43, s64_44, s64_47, s64_48, s64_49, s64_52, s64_55, s64_58, s64_61, s64_65, ldi_0, ldi_s, ldl_0, ldl_s, ldd_0, ldd_s, lda_0, lda_s, st1_0, st1_1, st2_0, st2_1, sti_0, sti_1, stj_0, stj_1, st1_2, sti_2, st2_2, stj_2, st1_3, sti_3, st2_3, stj_3, st1_4, sti_4, st2_4, stj_4, st1_5, sti_5, st2_5, stj_5, st1_6, sti_6, st2_6, stj_6, st1_7, sti_7, st2_7, stj_7, st1_8, sti_8, st2_8, stj_8, st1_9, sti_9, st2_9, stj_9, kil_n, kil_i, kil_r, kil_l, kil_d, gl_0, gl_s, cat_i, cat_r, true_and, NF_gf]
      rw [br_1 (nI_le (Nat.le_refl _) (by omega)), stD_end (fun a b ha => gInv_z hG (Or.inl ha))]
      refine c64_62r NF_m (sp_mways hB hn) ?_
      simp only [s64_0, s64_1, s64_3, s64_4, s64_7, s64_10, s64_11, s64_13, s64_14, s64_17, s64_20, s64_21, s64_24, s64_25, s64_26, s64_27, s64_28, s64_29, s64_32, s64_33, s64_36, s64_37, s64_38, s64_39, s64_40, s64_43, s64_44, s64_47, s64_48, s64_49, s64_52, s64_55, s64_58, s64_61, s64_65, ldi_0, ldi_s, ldl_0, ldl_s, ldd_0, ldd_s, lda_0, lda_s, st1_0, st1_1, st2_0, st2_1, sti_0, sti_1, stj_0, stj_1, st1_2, sti_2, st2_2, stj_2, st1_3, sti_3, st2_3, stj_3, st1_4, sti_4, st2_4, stj_4, st1_5, sti_5, st2_5, stj_5, st1_6, sti_6, st2_6, stj_6, st1_7, sti_7, st2_7, stj_7, st1_8, sti_8, st2_8, stj_8, st1_9, sti_9, st2_9, stj_9, kil_n, kil_i, kil_r, kil_l, kil_d, gl_0, gl_s, cat_i, cat_r, true_and]
      exact out_RR
    · intro s
      rw [s64_2]
      simp only [s64_0, s64_1, s64_3, s64_4, s64_7, s64_10, s64_11, s64_13, s64_14, s64_17, s64_20, s64_21, s64_24, s64_25, s64_26, s64_27, s64_28, s64_29, s64_32, s64_33, s64_36, s64_37, s64_38, s64_39, s64_40, s64_43, s64_44, s64_47, s64_48, s64_49, s64_52, s64_55, s64_58, s64_61, s64_65, ldi_0, ldi_s, ldl_0, ldl_s, ldd_0, ldd_s, lda_0, lda_s, st1_0, st1_1, st2_0, st2_1, sti_0, sti_1, stj_0, stj_1, st1_2, sti_2, st2_2, stj_2, st1_3, sti_3, st2_3, stj_3, st1_4, sti_4, st2_4, stj_4, st1_5, sti_5, st2_5, stj_5, st1_6, sti_6, st2_6, stj_6, st1_7, sti_7, st2_7, stj_7, st1_8, sti_8, st2_8, stj_8, st1_9, sti_9, st2_9, stj_9, kil_n, kil_i, kil_r, kil_l, kil_d, gl_0, gl_s, cat_i, cat_r, true_and, NF_gf]
      rw [br_0 (nI_ge ha (by omega))]
      have inn : ∀ b, b ≤ n → aW (Sp 19) 64 0 0 (RR (some (.int (nI (wys (gInv n G) n)))) (NF h m t t2 ns (gInv n G) th n) z) 12 [some (.ref m), some (.int (nI a)), some (.int (nI b))] [] (NF h m t t2 ns (stD a b (gInv n G) G) th n) z 0 0 := by
        refine aUp ?_ fun b hb ihb => ?_
        · rw [s64_12]
          simp only [s64_0, s64_1, s64_3, s64_4, s64_7, s64_10, s64_11, s64_13, s64_14, s64_17, s64_20, s64_21, s64_24, s64_25, s64_26, s64_27, s64_28, s64_29, s64_32, s64_33, s64_36, s64_37, s64_38, s64_39, s64_40, s64_43, s64_44, s64_47, s64_48, s64_49, s64_52, s64_55, s64_58, s64_61, s64_65, ldi_0, ldi_s, ldl_0, ldl_s, ldd_0, ldd_s, lda_0, lda_s, st1_0, st1_1, st2_0, st2_1, sti_0, sti_1, stj_0, stj_1, st1_2, sti_2, st2_2, stj_2, st1_3, sti_3, st2_3, stj_3, st1_4, sti_4, st2_4, stj_4, st1_5, sti_5, st2_5, stj_5, st1_6, sti_6, st2_6, stj_6, st1_7, sti_7, st2_7, stj_7, st1_8, sti_8, st2_8, stj_8, st1_9, sti_9, st2_9, stj_9, kil_n, kil_i, kil_r, kil_l, kil_d, gl_0, gl_s, cat_i, cat_r, true_and, NF_gf, nI_1]
          rw [br_1 (nI_le (Nat.le_refl _) (by omega)), stD_row (fun b hb => gInv_z hG (Or.inr hb))]
          exact ih _
        · have ha9 : a < 9 := by omega
          have hb9 : b < 9 := by omega
          rw [s64_12]
          simp only [s64_0, s64_1, s64_3, s64_4, s64_7, s64_10, s64_11, s64_13, s64_14, s64_17, s64_20, s64_21, s64_24, s64_25, s64_26, s64_27, s64_28, s64_29, s64_32, s64_33, s64_36, s64_37, s64_38, s64_39, s64_40, s64_43, s64_44, s64_47, s64_48, s64_49, s64_52, s64_55, s64_58, s64_61, s64_65, ldi_0, ldi_s, ldl_0, ldl_s, ldd_0, ldd_s, lda_0, lda_s, st1_0, st1_1, st2_0, st2_1, sti_0, sti_1, stj_0, stj_1, st1_2, sti_2, st2_2, stj_2, st1_3, sti_3, st2_3, stj_3, st1_4, sti_4, st2_4, stj_4, st1_5, sti_5, st2_5, stj_5, st1_6, sti_6, st2_6, stj_6, st1_7, sti_7, st2_7, stj_7, st1_8, sti_8, st2_8, stj_8, st1_9, sti_9, st2_9, stj_9, kil_n, kil_i, kil_r, kil_l, kil_d, gl_0, gl_s, cat_i, cat_r, true_and, NF_gf, nI_1, ald_tb (NF_Tb hB) ha9, ald_tr (NF_Tb hB) ha9 hb9, narT, narF, ast_tr (NF_Tb hB) ha9 hb9, NF_tab hB, bI_0]
          rw [br_0 (nI_ge hb (by omega)), nI_eq (by omega) (by omega), stD_new (show ¬ (a < a ∨ (a = a ∧ b < b)) by omega)]
          refine ⟨fun h1 => ?_, fun h1 => ⟨fun h2 => ?_, fun h2 => ?_⟩⟩
          · rw [stD_v (v := false) (by unfold gInv; simp [h1])]
            exact ihb
          · rw [Bool.not_eq_false] at h2
            rw [stD_v (v := false) (by unfold gInv; simp [h2])]
            exact ihb
          · rw [Decidable.not_not] at h2
            rw [stD_v (v := true) (by unfold gInv; simp [h1, h2, ha, hb])]
            exact ihb
      exact inn 0 (by omega)
  have k0 := key 0 (by omega) none
  rw [stD_0 (fun a b h => absurd h (Nat.not_lt_zero a))] at k0
  exact k0
theorem NF_sp (hB : MB h m t t2 SG) {X : Nat → Nat → Bool} : tbS (NF h m t t2 ns G th n) t2 X = NF (tbS h t2 X) m t t2 ns G th n := by
  have e := hB.1
  unfold TT at e
  funext q
  unfold NF tbS hup
  dsimp only
  by_cases h4 : q = m
  · rw [if_pos h4, if_pos h4, if_neg (show ¬ (t2 < q ∧ q < t2 + 10) by omega)]
  · rw [if_neg h4, if_neg h4]
    by_cases h2 : t < q ∧ q < t + 10
    · rw [if_pos h2, if_pos h2, if_neg (show ¬ (t2 < q ∧ q < t2 + 10) by omega)]
    · rw [if_neg h2, if_neg h2]
theorem MB.sp (hB : MB h m t t2 SG) (X : Nat → Nat → Bool) : MB (tbS h t2 X) m t t2 X := by
  have e := hB.1
  unfold TT at e
  exact ⟨hB.1, (tbS_ne (by omega)).trans hB.2.1, tbS_Tb hB.2.2.1⟩
theorem sp_mkeep (hB : MB h m t t2 SG) (hG : GOK n G) (hS : GOK ns SG) : Sp 20 67 [.ref m] (NF h m t t2 ns G th n) z 0 0 (RR (some (.int (nI ns))) (NF (tbS h t2 G) m t t2 n G th n) z) := by
  have e0 : NF h m t t2 n G th n = NF (tbS h t2 SG) m t t2 n G th n := by rw [tbS_id hB.2.2]
  refine Sp_in (al := [some (.ref m), none, none, none]) ?_
  simp only [s67_0, s67_1, s67_4, s67_5, s67_6, s67_7, s67_10, s67_13, s67_14, s67_16, s67_18, s67_21, s67_22, s67_24, s67_26, s67_29, s67_30, s67_33, s67_34, s67_35, s67_36, s67_37, s67_40, s67_41, s67_42, s67_43, s67_44, s67_45, s67_48, s67_51, s67_54, s67_57, s67_58, ldi_0, ldi_s, ldl_0, ldl_s, ldd_0, ldd_s, lda_0, lda_s, st1_0, st1_1, st2_0, st2_1, sti_0, sti_1, stj_0, stj_1, st1_2, sti_2, st2_2, stj_2, st1_3, sti_3, st2_3, stj_3, st1_4, sti_4, st2_4, stj_4, st1_5, sti_5, st2_5, stj_5, st1_6, sti_6, st2_6, stj_6, st1_7, sti_7, st2_7, stj_7, st1_8, sti_8, st2_8, stj_8, st1_9, sti_9, st2_9, stj_9, kil_n, kil_i, kil_r, kil_l, kil_d, gl_0, gl_s, cat_i, cat_r, true_and, NF_gf, NF_ns]
  have key : ∀ a, a ≤ 9 → ∀ s : Option Value, aW (Sp 19) 67 0 0 (RR (some (.int (nI ns))) (NF (tbS h t2 G) m t t2 n G th n) z) 15 [some (.ref m), some (.int (nI ns)), some (.int (nI a)), s] [] (NF (tbS h t2 (stD a 0 G SG)) m t t2 n G th n) z 0 0 := by
    refine aUp ?_ fun a ha ih => ?_
    · intro s
      rw [s67_15]
      simp only [s67_0, s67_1, s67_4, s67_5, s67_6, s67_7, s67_10, s67_13, s67_14, s67_16, s67_18, s67_21, s67_22, s67_24, s67_26, s67_29, s67_30, s67_33, s67_34, s67_35, s67_36, s67_37, s67_40, s67_41, s67_42, s67_43, s67_44, s67_45, s67_48, s67_51, s67_54, s67_57, s67_58, ldi_0, ldi_s, ldl_0, ldl_s, ldd_0, ldd_s, lda_0, lda_s, st1_0, st1_1, st2_0, st2_1, sti_0, sti_1, stj_0, stj_1, st1_2, sti_2, st2_2, stj_2, st1_3, sti_3, st2_3, stj_3, st1_4, sti_4, st2_4, stj_4, st1_5, sti_5, st2_5, stj_5, st1_6, sti_6, st2_6, stj_6, st1_7, sti_7, st2_7, stj_7, st1_8, sti_8, st2_8, stj_8, st1_9, sti_9, st2_9, stj_9, kil_n, kil_i, kil_r, kil_l, kil_d, gl_0, gl_s, cat_i, cat_r, true_and]
      rw [br_1 (by decide), stD_end (fun a b ha => by rw [hG.z9 _ _ (Or.inl ha), hS.z9 _ _ (Or.inl ha)])]
      exact out_RR
    · intro s
      rw [s67_15]
      simp only [s67_0, s67_1, s67_4, s67_5, s67_6, s67_7, s67_10, s67_13, s67_14, s67_16, s67_18, s67_21, s67_22, s67_24, s67_26, s67_29, s67_30, s67_33, s67_34, s67_35, s67_36, s67_37, s67_40, s67_41, s67_42, s67_43, s67_44, s67_45, s67_48, s67_51, s67_54, s67_57, s67_58, ldi_0, ldi_s, ldl_0, ldl_s, ldd_0, ldd_s, lda_0, lda_s, st1_0, st1_1, st2_0, st2_1, sti_0, sti_1, stj_0, stj_1, st1_2, sti_2, st2_2, stj_2, st1_3, sti_3, st2_3, stj_3, st1_4, sti_4, st2_4, stj_4, st1_5, sti_5, st2_5, stj_5, st1_6, sti_6, st2_6, stj_6, st1_7, sti_7, st2_7, stj_7, st1_8, sti_8, st2_8, stj_8, st1_9, sti_9, st2_9, stj_9, kil_n, kil_i, kil_r, kil_l, kil_d, gl_0, gl_s, cat_i, cat_r, true_and]
      rw [nI_lit9, br_0 (nI_ge ha (by decide))]
      have inn : ∀ b, b ≤ 9 → aW (Sp 19) 67 0 0 (RR (some (.int (nI ns))) (NF (tbS h t2 G) m t t2 n G th n) z) 23 [some (.ref m), some (.int (nI ns)), some (.int (nI a)), some (.int (nI b))] [] (NF (tbS h t2 (stD a b G SG)) m t t2 n G th n) z 0 0 := by
        refine aUp ?_ fun b hb ihb => ?_
        · rw [s67_23]
          simp only [s67_0, s67_1, s67_4, s67_5, s67_6, s67_7, s67_10, s67_13, s67_14, s67_16, s67_18, s67_21, s67_22, s67_24, s67_26, s67_29, s67_30, s67_33, s67_34, s67_35, s67_36, s67_37, s67_40, s67_41, s67_42, s67_43, s67_44, s67_45, s67_48, s67_51, s67_54, s67_57, s67_58, ldi_0, ldi_s, ldl_0, ldl_s, ldd_0, ldd_s, lda_0, lda_s, st1_0, st1_1, st2_0, st2_1, sti_0, sti_1, stj_0, stj_1, st1_2, sti_2, st2_2, stj_2, st1_3, sti_3, st2_3, stj_3, st1_4, sti_4, st2_4, stj_4, st1_5, sti_5, st2_5, stj_5, st1_6, sti_6, st2_6, stj_6, st1_7, sti_7, st2_7, stj_7, st1_8, sti_8, st2_8, stj_8, st1_9, sti_9, st2_9, stj_9, kil_n, kil_i, kil_r, kil_l, kil_d, gl_0, gl_s, cat_i, cat_r, true_and, nI_1]
          rw [br_1 (by decide), stD_row (fun b hb => by rw [hG.z9 _ _ (Or.inr hb), hS.z9 _ _ (Or.inr hb)])]
          exact ih _
        · have hBX := hB.sp (stD a b G SG)
          rw [s67_23]
          simp only [s67_0, s67_1, s67_4, s67_5, s67_6, s67_7, s67_10, s67_13, s67_14, s67_16, s67_18, s67_21, s67_22, s67_24, s67_26, s67_29, s67_30, s67_33, s67_34, s67_35, s67_36, s67_37, s67_40, s67_41, s67_42, s67_43, s67_44, s67_45, s67_48, s67_51, s67_54, s67_57, s67_58, ldi_0, ldi_s, ldl_0, ldl_s, ldd_0, ldd_s, lda_0, lda_s, st1_0, st1_1, st2_0, st2_1, sti_0, sti_1, stj_0, stj_1, st1_2, sti_2, st2_2, stj_2, st1_3, sti_3, st2_3, stj_3, st1_4, sti_4, st2_4, stj_4, st1_5, sti_5, st2_5, stj_5, st1_6, sti_6, st2_6, stj_6, st1_7, sti_7, st2_7, stj_7, st1_8, sti_8, st2_8, stj_8, st1_9, sti_9, st2_9, stj_9, kil_n, kil_i, kil_r, kil_l, kil_d, gl_0, gl_s, cat_i, cat_r, true_and, NF_gf, nI_1, ald_tb (NF_Tb hBX) ha, ald_tr (NF_Tb hBX) ha hb, ald_tb (NF_T2 hBX) ha, nar_bI, ast_tr (NF_T2 hBX) ha hb, NF_sp hBX, tbS_tbS]
          rw [nI_lit9, br_0 (nI_ge hb (by decide)), stD_s]
          exact ihb
      exact inn 0 (by omega)
  have k0 := key 0 (by omega) none
  rw [stD_0 (fun a b h => absurd h (Nat.not_lt_zero a)), ← e0] at k0
  exact k0
theorem NG_m {hh : AH} {n t ns t2 : Nat} : hup hh m (moO m th n t ns t2) m = some (moO m th n t ns t2) := hup_same
theorem NG_on {hh : AH} {n t ns t2 a : Nat} {f : AH → Prop} : pf (hup hh m (moO m th n t ns t2)) m 6 2 (.ref a) f = f (hup hh m (moO m th n a ns t2)) := by
  rw [pf_ob NG_m (Nat.le_of_ble_eq_true rfl) (show okv (aty 6 2) (.ref a) from ⟨rfl, by rfl⟩), hup_hup]
  rfl
theorem NG_sp {hh : AH} {n t ns t2 a : Nat} {f : AH → Prop} : pf (hup hh m (moO m th n t ns t2)) m 6 4 (.ref a) f = f (hup hh m (moO m th n t ns a)) := by
  rw [pf_ob NG_m (Nat.le_of_ble_eq_true rfl) (show okv (aty 6 4) (.ref a) from ⟨rfl, by rfl⟩), hup_hup]
  rfl
theorem NG_n {hh : AH} {n t ns t2 a : Nat} {f : AH → Prop} : pf (hup hh m (moO m th n t ns t2)) m 6 1 (.int (nI a)) f = f (hup hh m (moO m th a t ns t2)) := by
  rw [pf_ob NG_m (Nat.le_of_ble_eq_true rfl) (show okv (aty 6 1) (.int (nI a)) from ⟨rfl, by rfl⟩), hup_hup]
  rfl
theorem NG_ns {hh : AH} {n t ns t2 a : Nat} {f : AH → Prop} : pf (hup hh m (moO m th n t ns t2)) m 6 3 (.int (nI a)) f = f (hup hh m (moO m th n t a t2)) := by
  rw [pf_ob NG_m (Nat.le_of_ble_eq_true rfl) (show okv (aty 6 3) (.int (nI a)) from ⟨rfl, by rfl⟩), hup_hup]
  rfl
theorem NG_gf {hh : AH} {n t ns t2 k : Nat} {f : Value → Prop} : gf (hup hh m (moO m th n t ns t2)) m 6 k f = gl [.int th, .int (nI n), .ref t, .int (nI ns), .ref t2, .ref (m + 21), .ref (m + 22), .ref (m + 23), .ref (m + 24), .ref (m + 25), .ref (m + 26), .ref (m + 27), .ref (m + 28), .ref (m + 29), .ref (m + 30), .ref (m + 40)] k f := gf_ob hup_same
/-- whether some place of the tables differs before a, b -/
def tdf (G SG : Nat → Nat → Bool) (o : Bool) (a : Nat) : Nat → Bool
  | 0 => o
  | b + 1 => tdf G SG o a b || decide (G a b ≠ SG a b)
def tdA (G SG : Nat → Nat → Bool) (o : Bool) : Nat → Bool
  | 0 => o
  | a + 1 => tdf G SG (tdA G SG o a) a 9
theorem NF_turn (hB : MB h m t t2 SG) : hup (tbS h t G) m (moO m th ns t2 n t) = NF (tbS h t G) m t2 t n SG th ns ∧ MB (tbS h t G) m t2 t G := by
  have e := hB.1
  unfold TT at e
  have e2 : Tb (tbS h t G) t2 SG := hB.2.2.fr fun q a b => tbS_ne (by omega)
  refine ⟨?_, by unfold TT; omega, e2.1, tbS_Tb hB.2.1⟩
  unfold NF
  rw [tbS_id e2]
theorem sp_mturn (hB : MB h m t t2 SG) (hG : GOK n G) (hS : GOK ns SG) : Sp 20 70 [.ref m] (NF h m t t2 ns G th n) z 0 0 (RR (some (.int (bI (tdA G SG (decide (n ≠ ns)) 9)))) (NF (tbS h t G) m t2 t n SG th ns) z) := by
  have hn := hG.1
  have hs := hS.1
  refine Sp_in (al := [some (.ref m), none, none, none]) ?_
  simp only [s70_0, s70_1, s70_4, s70_5, s70_8, s70_11, s70_12, s70_15, s70_16, s70_17, s70_18, s70_20, s70_22, s70_25, s70_26, s70_28, s70_30, s70_33, s70_34, s70_37, s70_38, s70_41, s70_42, s70_43, s70_44, s70_45, s70_46, s70_49, s70_50, s70_51, s70_52, s70_53, s70_56, s70_57, s70_60, s70_61, s70_62, s70_65, s70_68, s70_71, s70_74, s70_75, s70_78, s70_79, s70_80, s70_81, s70_84, s70_87, s70_88, s70_89, s70_92, s70_93, s70_96, s70_97, s70_98, s70_99, s70_102, s70_105, s70_106, s70_107, s70_110, s70_111, ldi_0, ldi_s, ldl_0, ldl_s, ldd_0, ldd_s, lda_0, lda_s, st1_0, st1_1, st2_0, st2_1, sti_0, sti_1, stj_0, stj_1, st1_2, sti_2, st2_2, stj_2, st1_3, sti_3, st2_3, stj_3, st1_4, sti_4, st2_4, stj_4, st1_5, sti_5, st2_5, stj_5, st1_6, sti_6, st2_6, stj_6, st1_7, sti_7, st2_7, stj_7, st1_8, sti_8, st2_8, stj_8, st1_9, sti_9, st2_9, stj_9, kil_n, kil_i, kil_r, kil_l, kil_d, gl_0, gl_s, cat_i, cat_r, true_and, NF_gf]
  have key : ∀ a, a ≤ 9 → ∀ s : Option Value, aW (Sp 19) 70 0 0 (RR (some (.int (bI (tdA G SG (decide (n ≠ ns)) 9)))) (NF (tbS h t G) m t2 t n SG th ns) z) 19 [some (.ref m), some (.int (bI (tdA G SG (decide (n ≠ ns)) a))), some (.int (nI a)), s] [] (NF h m t t2 ns G th n) z 0 0 := by
    refine aUp ?_ fun a ha ih => ?_
    · intro s
      rw [s70_19, show NF h m t t2 ns G th n = hup (tbS h t G) m (moO m th n t ns t2) from rfl]
      simp only [s70_0, s70_1, s70_4, s70_5, s70_8, s70_11, s70_12, s70_15, s70_16, s70_17, s70_18, s70_20, s70_22, s70_25, s70_26, s70_28, s70_30, s70_33, s70_34, s70_37, s70_38, s70_41, s70_42, s70_43, s70_44, s70_45, s70_46, s70_49, s70_50, s70_51, s70_52, s70_53, s70_56, s70_57, s70_60, s70_61, s70_62, s70_65, s70_68, s70_71, s70_74, s70_75, s70_78, s70_79, s70_80, s70_81, s70_84, s70_87, s70_88, s70_89, s70_92, s70_93, s70_96, s70_97, s70_98, s70_99, s70_102, s70_105, s70_106, s70_107, s70_110, s70_111, ldi_0, ldi_s, ldl_0, ldl_s, ldd_0, ldd_s, lda_0, lda_s, st1_0, st1_1, st2_0, st2_1, sti_0, sti_1, stj_0, stj_1, st1_2, sti_2, st2_2, stj_2, st1_3, sti_3, st2_3, stj_3, st1_4, sti_4, st2_4, stj_4, st1_5, sti_5, st2_5, stj_5, st1_6, sti_6, st2_6, stj_6, st1_7, sti_7, st2_7, stj_7, st1_8, sti_8, st2_8, stj_8, st1_9, sti_9, st2_9, stj_9, kil_n, kil_i, kil_r, kil_l, kil_d, gl_0, gl_s, cat_i, cat_r, true_and, NG_gf, NG_on, NG_sp, NG_n, NG_ns]
      rw [br_1 (by decide), (NF_turn hB).1]
      exact ⟨nar_bI _, out_RR⟩
    · intro s
      rw [s70_19]
      simp only [s70_0, s70_1, s70_4, s70_5, s70_8, s70_11, s70_12, s70_15, s70_16, s70_17, s70_18, s70_20, s70_22, s70_25, s70_26, s70_28, s70_30, s70_33, s70_34, s70_37, s70_38, s70_41, s70_42, s70_43, s70_44, s70_45, s70_46, s70_49, s70_50, s70_51, s70_52, s70_53, s70_56, s70_57, s70_60, s70_61, s70_62, s70_65, s70_68, s70_71, s70_74, s70_75, s70_78, s70_79, s70_80, s70_81, s70_84, s70_87, s70_88, s70_89, s70_92, s70_93, s70_96, s70_97, s70_98, s70_99, s70_102, s70_105, s70_106, s70_107, s70_110, s70_111, ldi_0, ldi_s, ldl_0, ldl_s, ldd_0, ldd_s, lda_0, lda_s, st1_0, st1_1, st2_0, st2_1, sti_0, sti_1, stj_0, stj_1, st1_2, sti_2, st2_2, stj_2, st1_3, sti_3, st2_3, stj_3, st1_4, sti_4, st2_4, stj_4, st1_5, sti_5, st2_5, stj_5, st1_6, sti_6, st2_6, stj_6, st1_7, sti_7, st2_7, stj_7, st1_8, sti_8, st2_8, stj_8, st1_9, sti_9, st2_9, stj_9, kil_n, kil_i, kil_r, kil_l, kil_d, gl_0, gl_s, cat_i, cat_r, true_and]
      rw [nI_lit9, br_0 (nI_ge ha (by decide))]
      have inn : ∀ b, b ≤ 9 → aW (Sp 19) 70 0 0 (RR (some (.int (bI (tdA G SG (decide (n ≠ ns)) 9)))) (NF (tbS h t G) m t2 t n SG th ns) z) 27 [some (.ref m), some (.int (bI (tdf G SG (tdA G SG (decide (n ≠ ns)) a) a b))), some (.int (nI a)), some (.int (nI b))] [] (NF h m t t2 ns G th n) z 0 0 := by
        refine aUp ?_ fun b hb ihb => ?_
        · rw [s70_27]
          simp only [s70_0, s70_1, s70_4, s70_5, s70_8, s70_11, s70_12, s70_15, s70_16, s70_17, s70_18, s70_20, s70_22, s70_25, s70_26, s70_28, s70_30, s70_33, s70_34, s70_37, s70_38, s70_41, s70_42, s70_43, s70_44, s70_45, s70_46, s70_49, s70_50, s70_51, s70_52, s70_53, s70_56, s70_57, s70_60, s70_61, s70_62, s70_65, s70_68, s70_71, s70_74, s70_75, s70_78, s70_79, s70_80, s70_81, s70_84, s70_87, s70_88, s70_89, s70_92, s70_93, s70_96, s70_97, s70_98, s70_99, s70_102, s70_105, s70_106, s70_107, s70_110, s70_111, ldi_0, ldi_s, ldl_0, ldl_s, ldd_0, ldd_s, lda_0, lda_s, st1_0, st1_1, st2_0, st2_1, sti_0, sti_1, stj_0, stj_1, st1_2, sti_2, st2_2, stj_2, st1_3, sti_3, st2_3, stj_3, st1_4, sti_4, st2_4, stj_4, st1_5, sti_5, st2_5, stj_5, st1_6, sti_6, st2_6, stj_6, st1_7, sti_7, st2_7, stj_7, st1_8, sti_8, st2_8, stj_8, st1_9, sti_9, st2_9, stj_9, kil_n, kil_i, kil_r, kil_l, kil_d, gl_0, gl_s, cat_i, cat_r, true_and, nI_1]
          rw [br_1 (by decide)]
          exact ih _
        · have e : tdf G SG (tdA G SG (decide (n ≠ ns)) a) a (b + 1) = (tdf G SG (tdA G SG (decide (n ≠ ns)) a) a b || decide (G a b ≠ SG a b)) := rfl
          rw [e] at ihb
          rw [s70_27]
          simp only [s70_0, s70_1, s70_4, s70_5, s70_8, s70_11, s70_12, s70_15, s70_16, s70_17, s70_18, s70_20, s70_22, s70_25, s70_26, s70_28, s70_30, s70_33, s70_34, s70_37, s70_38, s70_41, s70_42, s70_43, s70_44, s70_45, s70_46, s70_49, s70_50, s70_51, s70_52, s70_53, s70_56, s70_57, s70_60, s70_61, s70_62, s70_65, s70_68, s70_71, s70_74, s70_75, s70_78, s70_79, s70_80, s70_81, s70_84, s70_87, s70_88, s70_89, s70_92, s70_93, s70_96, s70_97, s70_98, s70_99, s70_102, s70_105, s70_106, s70_107, s70_110, s70_111, ldi_0, ldi_s, ldl_0, ldl_s, ldd_0, ldd_s, lda_0, lda_s, st1_0, st1_1, st2_0, st2_1, sti_0, sti_1, stj_0, stj_1, st1_2, sti_2, st2_2, stj_2, st1_3, sti_3, st2_3, stj_3, st1_4, sti_4, st2_4, stj_4, st1_5, sti_5, st2_5, stj_5, st1_6, sti_6, st2_6, stj_6, st1_7, sti_7, st2_7, stj_7, st1_8, sti_8, st2_8, stj_8, st1_9, sti_9, st2_9, stj_9, kil_n, kil_i, kil_r, kil_l, kil_d, gl_0, gl_s, cat_i, cat_r, true_and, NF_gf, nI_1, ald_tb (NF_Tb hB) ha, ald_tr (NF_Tb hB) ha hb, ald_tb (NF_T2 hB) ha, ald_tr (NF_T2 hB) ha hb, bI_inj]
          rw [nI_lit9, br_0 (nI_ge hb (by decide)), bI_0]
          refine ⟨fun h1 => ?_, fun h1 => ⟨fun h2 => ?_, fun h2 => ?_⟩⟩
          · rw [Bool.not_eq_false] at h1
            rw [h1] at ihb
            exact ihb
          · rw [Decidable.not_not] at h1
            rw [h1, h2] at ihb
            simpa [bI] using ihb
          · rw [decide_eq_true (show G a b ≠ SG a b from h2), Bool.or_true] at ihb
            exact ihb
      exact inn 0 (by omega)
  rw [nI_eq (by omega) (by omega)]
  refine ⟨fun h1 => ?_, fun h1 => ?_⟩
  · have k0 := key 0 (by omega) none
    rw [decide_eq_false (show ¬ (n ≠ ns) from fun w => w h1)] at k0 ⊢
    exact k0
  · have k0 := key 0 (by omega) none
    rw [decide_eq_true (show n ≠ ns from h1)] at k0 ⊢
    exact k0
def gBk (n a b : Nat) (G SG : Nat → Nat → Bool) : Nat → Nat → Bool := fun p q => if n ≤ p ∧ n ≤ q ∧ (p < n + a ∨ p = n + a ∧ q < n + b) then SG (p - n) (q - n) else G p q
theorem gBk_0 : gBk n 0 0 G SG = G := by
  funext p q
  unfold gBk
  rw [if_neg (by omega)]
theorem gBk_s {a b : Nat} : gUpd (gBk n a b G SG) (n + a) (n + b) (SG a b) = gBk n a (b + 1) G SG := by
  funext p q
  unfold gUpd gBk
  by_cases h1 : p = n + a ∧ q = n + b
  · rw [if_pos h1, if_pos (by omega), show p - n = a by omega, show q - n = b by omega]
  · rw [if_neg h1]
    by_cases h2 : n ≤ p ∧ n ≤ q ∧ (p < n + a ∨ p = n + a ∧ q < n + b)
    · rw [if_pos h2, if_pos (by omega)]
    · rw [if_neg h2, if_neg (by omega)]
theorem gBk_row (hG : GOK n G) (hS : GOK ns SG) {a : Nat} : gBk n a ns G SG = gBk n (a + 1) 0 G SG := by
  funext p q
  unfold gBk
  by_cases h2 : n ≤ p ∧ n ≤ q ∧ (p < n + a ∨ p = n + a ∧ q < n + ns)
  · rw [if_pos h2, if_pos (by omega)]
  · rw [if_neg h2]
    by_cases h3 : n ≤ p ∧ n ≤ q ∧ (p < n + (a + 1) ∨ p = n + (a + 1) ∧ q < n + 0)
    · rw [if_pos h3, hG.lt' (by omega), hS.lt (by omega)]
    · rw [if_neg h3]
theorem gBk_n (hG : GOK n G) (hS : GOK ns SG) : gBk n ns 0 G SG = gBes n ns G SG := by
  funext p q
  unfold gBk gBes
  by_cases h1 : p < n ∧ q < n
  · rw [if_pos h1, if_neg (by omega)]
  · rw [if_neg h1]
    by_cases h2 : n ≤ p ∧ n ≤ q
    · rw [if_pos h2]
      by_cases h3 : p < n + ns
      · rw [if_pos (by omega), decide_eq_true h3]
        by_cases h4 : q < n + ns
        · rw [decide_eq_true h4]
          rfl
        · rw [decide_eq_false h4, hS.lt (by omega)]
          rfl
      · rw [if_neg (by omega), decide_eq_false h3, hG.lt' (by omega)]
        rfl
    · rw [if_neg h2, if_neg (by omega)]
      by_cases h3 : n ≤ p
      · exact hG.lt' h3
      · exact hG.lt (by omega)
theorem sp_mbeside (hB : MB h m t t2 SG) (hG : GOK n G) (hS : GOK ns SG) (h9 : n + ns ≤ 9) : Sp 20 74 [.ref m] (NF h m t t2 ns G th n) z 0 0 (RR (some (.int (nI (n + ns)))) (NF h m t t2 ns (gBes n ns G SG) 0 (n + ns)) z) := by
  refine Sp_in (al := [some (.ref m), none, none]) ?_
  simp only [s74_0, s74_1, s74_2, s74_5, s74_6, s74_7, s74_10, s74_11, s74_14, s74_15, s74_17, s74_20, s74_21, s74_24, s74_25, s74_29, s74_32, s74_33, s74_34, s74_35, s74_37, s74_38, s74_41, s74_44, s74_45, s74_47, s74_48, s74_51, s74_54, s74_55, s74_58, s74_59, s74_62, s74_63, s74_64, s74_65, s74_66, s74_69, s74_70, s74_71, s74_72, s74_75, s74_76, s74_77, s74_78, s74_79, s74_80, s74_83, s74_86, s74_89, s74_92, s74_93, s74_94, s74_97, s74_98, s74_101, s74_102, s74_105, s74_106, s74_109, ldi_0, ldi_s, ldl_0, ldl_s, ldd_0, ldd_s, lda_0, lda_s, st1_0, st1_1, st2_0, st2_1, sti_0, sti_1, stj_0, stj_1, st1_2, sti_2, st2_2, stj_2, st1_3, sti_3, st2_3, stj_3, st1_4, sti_4, st2_4, stj_4, st1_5, sti_5, st2_5, stj_5, st1_6, sti_6, st2_6, stj_6, st1_7, sti_7, st2_7, stj_7, st1_8, sti_8, st2_8, stj_8, st1_9, sti_9, st2_9, stj_9, kil_n, kil_i, kil_r, kil_l, kil_d, gl_0, gl_s, cat_i, cat_r, true_and, NF_th, NF_gf, nI_add]
  rw [nI_lit9, br_1 (nI_le h9 (by decide))]
  refine c74_26r NF_m (sp_throws_f NF_m) ?_
  simp only [s74_0, s74_1, s74_2, s74_5, s74_6, s74_7, s74_10, s74_11, s74_14, s74_15, s74_17, s74_20, s74_21, s74_24, s74_25, s74_29, s74_32, s74_33, s74_34, s74_35, s74_37, s74_38, s74_41, s74_44, s74_45, s74_47, s74_48, s74_51, s74_54, s74_55, s74_58, s74_59, s74_62, s74_63, s74_64, s74_65, s74_66, s74_69, s74_70, s74_71, s74_72, s74_75, s74_76, s74_77, s74_78, s74_79, s74_80, s74_83, s74_86, s74_89, s74_92, s74_93, s74_94, s74_97, s74_98, s74_101, s74_102, s74_105, s74_106, s74_109, ldi_0, ldi_s, ldl_0, ldl_s, ldd_0, ldd_s, lda_0, lda_s, st1_0, st1_1, st2_0, st2_1, sti_0, sti_1, stj_0, stj_1, st1_2, sti_2, st2_2, stj_2, st1_3, sti_3, st2_3, stj_3, st1_4, sti_4, st2_4, stj_4, st1_5, sti_5, st2_5, stj_5, st1_6, sti_6, st2_6, stj_6, st1_7, sti_7, st2_7, stj_7, st1_8, sti_8, st2_8, stj_8, st1_9, sti_9, st2_9, stj_9, kil_n, kil_i, kil_r, kil_l, kil_d, gl_0, gl_s, cat_i, cat_r, true_and]
  rw [br_1 (by decide)]
  have key : ∀ a, a ≤ ns → ∀ s : Option Value, aW (Sp 19) 74 0 0 (RR (some (.int (nI (n + ns)))) (NF h m t t2 ns (gBes n ns G SG) 0 (n + ns)) z) 36 [some (.ref m), some (.int (nI a)), s] [] (NF h m t t2 ns (gBk n a 0 G SG) 0 n) z 0 0 := by
    refine aUp ?_ fun a ha ih => ?_
    · intro s
      rw [s74_36]
      simp only [s74_0, s74_1, s74_2, s74_5, s74_6, s74_7, s74_10, s74_11, s74_14, s74_15, s74_17, s74_20, s74_21, s74_24, s74_25, s74_29, s74_32, s74_33, s74_34, s74_35, s74_37, s74_38, s74_41, s74_44, s74_45, s74_47, s74_48, s74_51, s74_54, s74_55, s74_58, s74_59, s74_62, s74_63, s74_64, s74_65, s74_66, s74_69, s74_70, s74_71, s74_72, s74_75, s74_76, s74_77, s74_78, s74_79, s74_80, s74_83, s74_86, s74_89, s74_92, s74_93, s74_94, s74_97, s74_98, s74_101, s74_102, s74_105, s74_106, s74_109, ldi_0, ldi_s, ldl_0, ldl_s, ldd_0, ldd_s, lda_0, lda_s, st1_0, st1_1, st2_0, st2_1, sti_0, sti_1, stj_0, stj_1, st1_2, sti_2, st2_2, stj_2, st1_3, sti_3, st2_3, stj_3, st1_4, sti_4, st2_4, stj_4, st1_5, sti_5, st2_5, stj_5, st1_6, sti_6, st2_6, stj_6, st1_7, sti_7, st2_7, stj_7, st1_8, sti_8, st2_8, stj_8, st1_9, sti_9, st2_9, stj_9, kil_n, kil_i, kil_r, kil_l, kil_d, gl_0, gl_s, cat_i, cat_r, true_and, NF_gf, nI_add, NF_n]
      rw [br_1 (nI_le (Nat.le_refl _) (by omega)), gBk_n hG hS]
      exact out_RR
    · intro s
      rw [s74_36]
      simp only [s74_0, s74_1, s74_2, s74_5, s74_6, s74_7, s74_10, s74_11, s74_14, s74_15, s74_17, s74_20, s74_21, s74_24, s74_25, s74_29, s74_32, s74_33, s74_34, s74_35, s74_37, s74_38, s74_41, s74_44, s74_45, s74_47, s74_48, s74_51, s74_54, s74_55, s74_58, s74_59, s74_62, s74_63, s74_64, s74_65, s74_66, s74_69, s74_70, s74_71, s74_72, s74_75, s74_76, s74_77, s74_78, s74_79, s74_80, s74_83, s74_86, s74_89, s74_92, s74_93, s74_94, s74_97, s74_98, s74_101, s74_102, s74_105, s74_106, s74_109, ldi_0, ldi_s, ldl_0, ldl_s, ldd_0, ldd_s, lda_0, lda_s, st1_0, st1_1, st2_0, st2_1, sti_0, sti_1, stj_0, stj_1, st1_2, sti_2, st2_2, stj_2, st1_3, sti_3, st2_3, stj_3, st1_4, sti_4, st2_4, stj_4, st1_5, sti_5, st2_5, stj_5, st1_6, sti_6, st2_6, stj_6, st1_7, sti_7, st2_7, stj_7, st1_8, sti_8, st2_8, stj_8, st1_9, sti_9, st2_9, stj_9, kil_n, kil_i, kil_r, kil_l, kil_d, gl_0, gl_s, cat_i, cat_r, true_and, NF_gf]
      rw [br_0 (nI_ge ha (by omega))]
      have inn : ∀ b, b ≤ ns → aW (Sp 19) 74 0 0 (RR (some (.int (nI (n + ns)))) (NF h m t t2 ns (gBes n ns G SG) 0 (n + ns)) z) 46 [some (.ref m), some (.int (nI a)), some (.int (nI b))] [] (NF h m t t2 ns (gBk n a b G SG) 0 n) z 0 0 := by
        refine aUp ?_ fun b hb ihb => ?_
        · rw [s74_46]
          simp only [s74_0, s74_1, s74_2, s74_5, s74_6, s74_7, s74_10, s74_11, s74_14, s74_15, s74_17, s74_20, s74_21, s74_24, s74_25, s74_29, s74_32, s74_33, s74_34, s74_35, s74_37, s74_38, s74_41, s74_44, s74_45, s74_47, s74_48, s74_51, s74_54, s74_55, s74_58, s74_59, s74_62, s74_63, s74_64, s74_65, s74_66, s74_69, s74_70, s74_71, s74_72, s74_75, s74_76, s74_77, s74_78, s74_79, s74_80, s74_83, s74_86, s74_89, s74_92, s74_93, s74_94, s74_97, s74_98, s74_101, s74_102, s74_105, s74_106, s74_109, ldi_0, ldi_s, ldl_0, ldl_s, ldd_0, ldd_s, lda_0, lda_s, st1_0, st1_1, st2_0, st2_1, sti_0, sti_1, stj_0, stj_1, st1_2, sti_2, st2_2, stj_2, st1_3, sti_3, st2_3, stj_3, st1_4, sti_4, st2_4, stj_4, st1_5, sti_5, st2_5, stj_5, st1_6, sti_6, st2_6, stj_6, st1_7, sti_7, st2_7, stj_7, st1_8, sti_8, st2_8, stj_8, st1_9, sti_9, st2_9, stj_9, kil_n, kil_i, kil_r, kil_l, kil_d, gl_0, gl_s, cat_i, cat_r, true_and, NF_gf, nI_1]
          rw [br_1 (nI_le (Nat.le_refl _) (by omega)), gBk_row hG hS]
          exact ih _
        · have a9 : a < 9 := by omega
          have b9 : b < 9 := by omega
          have na9 : n + a < 9 := by omega
          have nb9 : n + b < 9 := by omega
          rw [s74_46]
          simp only [s74_0, s74_1, s74_2, s74_5, s74_6, s74_7, s74_10, s74_11, s74_14, s74_15, s74_17, s74_20, s74_21, s74_24, s74_25, s74_29, s74_32, s74_33, s74_34, s74_35, s74_37, s74_38, s74_41, s74_44, s74_45, s74_47, s74_48, s74_51, s74_54, s74_55, s74_58, s74_59, s74_62, s74_63, s74_64, s74_65, s74_66, s74_69, s74_70, s74_71, s74_72, s74_75, s74_76, s74_77, s74_78, s74_79, s74_80, s74_83, s74_86, s74_89, s74_92, s74_93, s74_94, s74_97, s74_98, s74_101, s74_102, s74_105, s74_106, s74_109, ldi_0, ldi_s, ldl_0, ldl_s, ldd_0, ldd_s, lda_0, lda_s, st1_0, st1_1, st2_0, st2_1, sti_0, sti_1, stj_0, stj_1, st1_2, sti_2, st2_2, stj_2, st1_3, sti_3, st2_3, stj_3, st1_4, sti_4, st2_4, stj_4, st1_5, sti_5, st2_5, stj_5, st1_6, sti_6, st2_6, stj_6, st1_7, sti_7, st2_7, stj_7, st1_8, sti_8, st2_8, stj_8, st1_9, sti_9, st2_9, stj_9, kil_n, kil_i, kil_r, kil_l, kil_d, gl_0, gl_s, cat_i, cat_r, true_and, NF_gf, nI_1, nI_add, ald_tb (NF_T2 hB) a9, ald_tr (NF_T2 hB) a9 b9, ald_tb (NF_Tb hB) na9, nar_bI, ast_tr (NF_Tb hB) na9 nb9, NF_tab hB]
          rw [br_0 (nI_ge hb (by omega)), gBk_s]
          exact ihb
      exact inn 0 (by omega)
  have k0 := key 0 (by omega) none
  rw [gBk_0] at k0
  exact k0
theorem sp_mbeside_no (hn : n ≤ 9) (hs : ns ≤ 9) (h9 : 9 < n + ns) : Sp 20 74 [.ref m] (NF h m t t2 ns G th n) z 0 0 (RR (some (.int 0)) (NF h m t t2 ns G 1 n) z) := by
  refine Sp_in (al := [some (.ref m), none, none]) ?_
  simp only [s74_0, s74_1, s74_2, s74_5, s74_6, s74_7, s74_10, s74_11, s74_14, s74_15, s74_17, s74_20, s74_21, s74_24, s74_25, s74_29, s74_32, s74_33, s74_34, s74_35, s74_37, s74_38, s74_41, s74_44, s74_45, s74_47, s74_48, s74_51, s74_54, s74_55, s74_58, s74_59, s74_62, s74_63, s74_64, s74_65, s74_66, s74_69, s74_70, s74_71, s74_72, s74_75, s74_76, s74_77, s74_78, s74_79, s74_80, s74_83, s74_86, s74_89, s74_92, s74_93, s74_94, s74_97, s74_98, s74_101, s74_102, s74_105, s74_106, s74_109, ldi_0, ldi_s, ldl_0, ldl_s, ldd_0, ldd_s, lda_0, lda_s, st1_0, st1_1, st2_0, st2_1, sti_0, sti_1, stj_0, stj_1, st1_2, sti_2, st2_2, stj_2, st1_3, sti_3, st2_3, stj_3, st1_4, sti_4, st2_4, stj_4, st1_5, sti_5, st2_5, stj_5, st1_6, sti_6, st2_6, stj_6, st1_7, sti_7, st2_7, stj_7, st1_8, sti_8, st2_8, stj_8, st1_9, sti_9, st2_9, stj_9, kil_n, kil_i, kil_r, kil_l, kil_d, gl_0, gl_s, cat_i, cat_r, true_and, NF_th, NF_gf, nI_add]
  rw [nI_lit9, br_0 (nI_ge h9 (by omega))]
  refine c74_26r NF_m sp_throws_t ?_
  simp only [s74_0, s74_1, s74_2, s74_5, s74_6, s74_7, s74_10, s74_11, s74_14, s74_15, s74_17, s74_20, s74_21, s74_24, s74_25, s74_29, s74_32, s74_33, s74_34, s74_35, s74_37, s74_38, s74_41, s74_44, s74_45, s74_47, s74_48, s74_51, s74_54, s74_55, s74_58, s74_59, s74_62, s74_63, s74_64, s74_65, s74_66, s74_69, s74_70, s74_71, s74_72, s74_75, s74_76, s74_77, s74_78, s74_79, s74_80, s74_83, s74_86, s74_89, s74_92, s74_93, s74_94, s74_97, s74_98, s74_101, s74_102, s74_105, s74_106, s74_109, ldi_0, ldi_s, ldl_0, ldl_s, ldd_0, ldd_s, lda_0, lda_s, st1_0, st1_1, st2_0, st2_1, sti_0, sti_1, stj_0, stj_1, st1_2, sti_2, st2_2, stj_2, st1_3, sti_3, st2_3, stj_3, st1_4, sti_4, st2_4, stj_4, st1_5, sti_5, st2_5, stj_5, st1_6, sti_6, st2_6, stj_6, st1_7, sti_7, st2_7, stj_7, st1_8, sti_8, st2_8, stj_8, st1_9, sti_9, st2_9, stj_9, kil_n, kil_i, kil_r, kil_l, kil_d, gl_0, gl_s, cat_i, cat_r, true_and]
  rw [br_0 (by decide)]
  exact out_RR
theorem sp_mdegree (hB : MB h m t t2 SG) (hn : n ≤ 9) {p : Nat} (hp : p < n) : Sp 20 83 [.ref m, .int (nI p)] (NF h m t t2 ns G th n) z 0 0 (RR (some (.int (nI (cnt (G p) n)))) (NF h m t t2 ns G 0 n) z) := by
  refine Sp_in (al := [some (.ref m), some (.int (nI p))]) ?_
  simp only [s83_0, s83_1, s83_2, s83_5, s83_6, s83_7, s83_11, s83_14, s83_15, s83_18, s83_19, s83_23, s83_26, s83_27, s83_30, s83_31, s83_35, ldi_0, ldi_s, ldl_0, ldl_s, ldd_0, ldd_s, lda_0, lda_s, st1_0, st1_1, st2_0, st2_1, sti_0, sti_1, stj_0, stj_1, st1_2, sti_2, st2_2, stj_2, st1_3, sti_3, st2_3, stj_3, st1_4, sti_4, st2_4, stj_4, st1_5, sti_5, st2_5, stj_5, st1_6, sti_6, st2_6, stj_6, st1_7, sti_7, st2_7, stj_7, st1_8, sti_8, st2_8, stj_8, st1_9, sti_9, st2_9, stj_9, kil_n, kil_i, kil_r, kil_l, kil_d, gl_0, gl_s, cat_i, cat_r, true_and, NF_th]
  refine c83_8r NF_m (sp_is hn) ?_
  simp only [s83_0, s83_1, s83_2, s83_5, s83_6, s83_7, s83_11, s83_14, s83_15, s83_18, s83_19, s83_23, s83_26, s83_27, s83_30, s83_31, s83_35, ldi_0, ldi_s, ldl_0, ldl_s, ldd_0, ldd_s, lda_0, lda_s, st1_0, st1_1, st2_0, st2_1, sti_0, sti_1, stj_0, stj_1, st1_2, sti_2, st2_2, stj_2, st1_3, sti_3, st2_3, stj_3, st1_4, sti_4, st2_4, stj_4, st1_5, sti_5, st2_5, stj_5, st1_6, sti_6, st2_6, stj_6, st1_7, sti_7, st2_7, stj_7, st1_8, sti_8, st2_8, stj_8, st1_9, sti_9, st2_9, stj_9, kil_n, kil_i, kil_r, kil_l, kil_d, gl_0, gl_s, cat_i, cat_r, true_and, pl_nat hn hp]
  rw [br_1 (by decide)]
  refine c83_20r NF_m (sp_throws_f NF_m) ?_
  simp only [s83_0, s83_1, s83_2, s83_5, s83_6, s83_7, s83_11, s83_14, s83_15, s83_18, s83_19, s83_23, s83_26, s83_27, s83_30, s83_31, s83_35, ldi_0, ldi_s, ldl_0, ldl_s, ldd_0, ldd_s, lda_0, lda_s, st1_0, st1_1, st2_0, st2_1, sti_0, sti_1, stj_0, stj_1, st1_2, sti_2, st2_2, stj_2, st1_3, sti_3, st2_3, stj_3, st1_4, sti_4, st2_4, stj_4, st1_5, sti_5, st2_5, stj_5, st1_6, sti_6, st2_6, stj_6, st1_7, sti_7, st2_7, stj_7, st1_8, sti_8, st2_8, stj_8, st1_9, sti_9, st2_9, stj_9, kil_n, kil_i, kil_r, kil_l, kil_d, gl_0, gl_s, cat_i, cat_r, true_and]
  rw [br_1 (by decide)]
  refine c83_32r NF_m (sp_degreeOf hB hn (by omega)) ?_
  simp only [s83_0, s83_1, s83_2, s83_5, s83_6, s83_7, s83_11, s83_14, s83_15, s83_18, s83_19, s83_23, s83_26, s83_27, s83_30, s83_31, s83_35, ldi_0, ldi_s, ldl_0, ldl_s, ldd_0, ldd_s, lda_0, lda_s, st1_0, st1_1, st2_0, st2_1, sti_0, sti_1, stj_0, stj_1, st1_2, sti_2, st2_2, stj_2, st1_3, sti_3, st2_3, stj_3, st1_4, sti_4, st2_4, stj_4, st1_5, sti_5, st2_5, stj_5, st1_6, sti_6, st2_6, stj_6, st1_7, sti_7, st2_7, stj_7, st1_8, sti_8, st2_8, stj_8, st1_9, sti_9, st2_9, stj_9, kil_n, kil_i, kil_r, kil_l, kil_d, gl_0, gl_s, cat_i, cat_r, true_and]
  exact out_RR
theorem sp_mdegree_no (hn : n ≤ 9) {p : Int32} (hp : pl n p = false) : Sp 20 83 [.ref m, .int p] (NF h m t t2 ns G th n) z 0 0 (RR (some (.int 0)) (NF h m t t2 ns G 1 n) z) := by
  refine Sp_in (al := [some (.ref m), some (.int p)]) ?_
  simp only [s83_0, s83_1, s83_2, s83_5, s83_6, s83_7, s83_11, s83_14, s83_15, s83_18, s83_19, s83_23, s83_26, s83_27, s83_30, s83_31, s83_35, ldi_0, ldi_s, ldl_0, ldl_s, ldd_0, ldd_s, lda_0, lda_s, st1_0, st1_1, st2_0, st2_1, sti_0, sti_1, stj_0, stj_1, st1_2, sti_2, st2_2, stj_2, st1_3, sti_3, st2_3, stj_3, st1_4, sti_4, st2_4, stj_4, st1_5, sti_5, st2_5, stj_5, st1_6, sti_6, st2_6, stj_6, st1_7, sti_7, st2_7, stj_7, st1_8, sti_8, st2_8, stj_8, st1_9, sti_9, st2_9, stj_9, kil_n, kil_i, kil_r, kil_l, kil_d, gl_0, gl_s, cat_i, cat_r, true_and, NF_th]
  refine c83_8r NF_m (sp_is hn) ?_
  simp only [s83_0, s83_1, s83_2, s83_5, s83_6, s83_7, s83_11, s83_14, s83_15, s83_18, s83_19, s83_23, s83_26, s83_27, s83_30, s83_31, s83_35, ldi_0, ldi_s, ldl_0, ldl_s, ldd_0, ldd_s, lda_0, lda_s, st1_0, st1_1, st2_0, st2_1, sti_0, sti_1, stj_0, stj_1, st1_2, sti_2, st2_2, stj_2, st1_3, sti_3, st2_3, stj_3, st1_4, sti_4, st2_4, stj_4, st1_5, sti_5, st2_5, stj_5, st1_6, sti_6, st2_6, stj_6, st1_7, sti_7, st2_7, stj_7, st1_8, sti_8, st2_8, stj_8, st1_9, sti_9, st2_9, stj_9, kil_n, kil_i, kil_r, kil_l, kil_d, gl_0, gl_s, cat_i, cat_r, true_and, hp]
  rw [br_0 (by decide)]
  refine c83_20r NF_m sp_throws_t ?_
  simp only [s83_0, s83_1, s83_2, s83_5, s83_6, s83_7, s83_11, s83_14, s83_15, s83_18, s83_19, s83_23, s83_26, s83_27, s83_30, s83_31, s83_35, ldi_0, ldi_s, ldl_0, ldl_s, ldd_0, ldd_s, lda_0, lda_s, st1_0, st1_1, st2_0, st2_1, sti_0, sti_1, stj_0, stj_1, st1_2, sti_2, st2_2, stj_2, st1_3, sti_3, st2_3, stj_3, st1_4, sti_4, st2_4, stj_4, st1_5, sti_5, st2_5, stj_5, st1_6, sti_6, st2_6, stj_6, st1_7, sti_7, st2_7, stj_7, st1_8, sti_8, st2_8, stj_8, st1_9, sti_9, st2_9, stj_9, kil_n, kil_i, kil_r, kil_l, kil_d, gl_0, gl_s, cat_i, cat_r, true_and]
  rw [br_0 (by decide)]
  exact out_RR
theorem sp_mnext (hB : MB h m t t2 SG) (hn : n ≤ 9) {p f : Nat} (hp : p < n) (hf : f < 2 ^ 31) : Sp 20 87 [.ref m, .int (nI p), .int (nI f)] (NF h m t t2 ns G th n) z 0 0 (RR (some (.int (nxt (G p) n (n - f)))) (NF h m t t2 ns G 0 n) z) := by
  refine Sp_in (al := [some (.ref m), some (.int (nI p)), some (.int (nI f)), none]) ?_
  simp only [s87_0, s87_1, s87_2, s87_5, s87_6, s87_7, s87_11, s87_14, s87_15, s87_18, s87_19, s87_22, s87_23, s87_27, s87_30, s87_31, s87_32, s87_33, s87_35, s87_36, s87_39, s87_42, s87_43, s87_44, s87_47, s87_48, s87_51, s87_52, s87_53, s87_54, s87_55, s87_58, s87_59, s87_60, s87_63, s87_66, s87_67, ldi_0, ldi_s, ldl_0, ldl_s, ldd_0, ldd_s, lda_0, lda_s, st1_0, st1_1, st2_0, st2_1, sti_0, sti_1, stj_0, stj_1, st1_2, sti_2, st2_2, stj_2, st1_3, sti_3, st2_3, stj_3, st1_4, sti_4, st2_4, stj_4, st1_5, sti_5, st2_5, stj_5, st1_6, sti_6, st2_6, stj_6, st1_7, sti_7, st2_7, stj_7, st1_8, sti_8, st2_8, stj_8, st1_9, sti_9, st2_9, stj_9, kil_n, kil_i, kil_r, kil_l, kil_d, gl_0, gl_s, cat_i, cat_r, true_and, NF_th]
  refine c87_8r NF_m (sp_is hn) ?_
  simp only [s87_0, s87_1, s87_2, s87_5, s87_6, s87_7, s87_11, s87_14, s87_15, s87_18, s87_19, s87_22, s87_23, s87_27, s87_30, s87_31, s87_32, s87_33, s87_35, s87_36, s87_39, s87_42, s87_43, s87_44, s87_47, s87_48, s87_51, s87_52, s87_53, s87_54, s87_55, s87_58, s87_59, s87_60, s87_63, s87_66, s87_67, ldi_0, ldi_s, ldl_0, ldl_s, ldd_0, ldd_s, lda_0, lda_s, st1_0, st1_1, st2_0, st2_1, sti_0, sti_1, stj_0, stj_1, st1_2, sti_2, st2_2, stj_2, st1_3, sti_3, st2_3, stj_3, st1_4, sti_4, st2_4, stj_4, st1_5, sti_5, st2_5, stj_5, st1_6, sti_6, st2_6, stj_6, st1_7, sti_7, st2_7, stj_7, st1_8, sti_8, st2_8, stj_8, st1_9, sti_9, st2_9, stj_9, kil_n, kil_i, kil_r, kil_l, kil_d, gl_0, gl_s, cat_i, cat_r, true_and, pl_nat hn hp]
  rw [br_0 (by decide), br_1 (nI_pos' hf)]
  refine c87_24r NF_m (sp_throws_f NF_m) ?_
  simp only [s87_0, s87_1, s87_2, s87_5, s87_6, s87_7, s87_11, s87_14, s87_15, s87_18, s87_19, s87_22, s87_23, s87_27, s87_30, s87_31, s87_32, s87_33, s87_35, s87_36, s87_39, s87_42, s87_43, s87_44, s87_47, s87_48, s87_51, s87_52, s87_53, s87_54, s87_55, s87_58, s87_59, s87_60, s87_63, s87_66, s87_67, ldi_0, ldi_s, ldl_0, ldl_s, ldd_0, ldd_s, lda_0, lda_s, st1_0, st1_1, st2_0, st2_1, sti_0, sti_1, stj_0, stj_1, st1_2, sti_2, st2_2, stj_2, st1_3, sti_3, st2_3, stj_3, st1_4, sti_4, st2_4, stj_4, st1_5, sti_5, st2_5, stj_5, st1_6, sti_6, st2_6, stj_6, st1_7, sti_7, st2_7, stj_7, st1_8, sti_8, st2_8, stj_8, st1_9, sti_9, st2_9, stj_9, kil_n, kil_i, kil_r, kil_l, kil_d, gl_0, gl_s, cat_i, cat_r, true_and]
  rw [br_1 (by decide)]
  have key : ∀ q, q ≤ n → nxt (G p) n (n - f) = nxt (G p) n (n - max q f) → aW (Sp 19) 87 0 0 (RR (some (.int (nxt (G p) n (n - f)))) (NF h m t t2 ns G 0 n) z) 34 [some (.ref m), some (.int (nI p)), some (.int (nI f)), some (.int (nI q))] [] (NF h m t t2 ns G 0 n) z 0 0 := by
    refine aUp ?_ fun q hq ih => ?_
    · intro e
      rw [s87_34]
      simp only [s87_0, s87_1, s87_2, s87_5, s87_6, s87_7, s87_11, s87_14, s87_15, s87_18, s87_19, s87_22, s87_23, s87_27, s87_30, s87_31, s87_32, s87_33, s87_35, s87_36, s87_39, s87_42, s87_43, s87_44, s87_47, s87_48, s87_51, s87_52, s87_53, s87_54, s87_55, s87_58, s87_59, s87_60, s87_63, s87_66, s87_67, ldi_0, ldi_s, ldl_0, ldl_s, ldd_0, ldd_s, lda_0, lda_s, st1_0, st1_1, st2_0, st2_1, sti_0, sti_1, stj_0, stj_1, st1_2, sti_2, st2_2, stj_2, st1_3, sti_3, st2_3, stj_3, st1_4, sti_4, st2_4, stj_4, st1_5, sti_5, st2_5, stj_5, st1_6, sti_6, st2_6, stj_6, st1_7, sti_7, st2_7, stj_7, st1_8, sti_8, st2_8, stj_8, st1_9, sti_9, st2_9, stj_9, kil_n, kil_i, kil_r, kil_l, kil_d, gl_0, gl_s, cat_i, cat_r, true_and, NF_gf]
      rw [br_1 (nI_le (Nat.le_refl _) (by omega)), e, show n - max n f = 0 by omega]
      exact out_RR
    · intro e
      rw [s87_34]
      simp only [s87_0, s87_1, s87_2, s87_5, s87_6, s87_7, s87_11, s87_14, s87_15, s87_18, s87_19, s87_22, s87_23, s87_27, s87_30, s87_31, s87_32, s87_33, s87_35, s87_36, s87_39, s87_42, s87_43, s87_44, s87_47, s87_48, s87_51, s87_52, s87_53, s87_54, s87_55, s87_58, s87_59, s87_60, s87_63, s87_66, s87_67, ldi_0, ldi_s, ldl_0, ldl_s, ldd_0, ldd_s, lda_0, lda_s, st1_0, st1_1, st2_0, st2_1, sti_0, sti_1, stj_0, stj_1, st1_2, sti_2, st2_2, stj_2, st1_3, sti_3, st2_3, stj_3, st1_4, sti_4, st2_4, stj_4, st1_5, sti_5, st2_5, stj_5, st1_6, sti_6, st2_6, stj_6, st1_7, sti_7, st2_7, stj_7, st1_8, sti_8, st2_8, stj_8, st1_9, sti_9, st2_9, stj_9, kil_n, kil_i, kil_r, kil_l, kil_d, gl_0, gl_s, cat_i, cat_r, true_and, NF_gf, nI_1, ald_tb (NF_Tb hB) (show p < 9 by omega), ald_tr (NF_Tb hB) (show p < 9 by omega) (show q < 9 by omega)]
      rw [br_0 (nI_ge hq (by omega)), nI_ltI (by omega) hf, bI_0]
      refine ⟨fun h1 => ?_, fun h1 => ?_⟩
      · exact ih (by rw [e, show max q f = max (q + 1) f by omega])
      · rw [show n - max q f = (n - (q + 1)) + 1 by omega] at e
        have e2 : nxt (G p) n ((n - (q + 1)) + 1) = if G p (n - ((n - (q + 1)) + 1)) then nI (n - ((n - (q + 1)) + 1)) else nxt (G p) n (n - (q + 1)) := rfl
        rw [show n - ((n - (q + 1)) + 1) = q by omega] at e2
        refine ⟨fun h2 => ?_, fun h2 => ?_⟩
        · exact ih (by rw [e, e2, h2, show max (q + 1) f = q + 1 by omega]; rfl)
        · rw [Bool.not_eq_false] at h2
          exact out_eq (by rw [e, e2, h2]; rfl) rfl rfl
  exact key 0 (by omega) (by rw [Nat.max_eq_right (Nat.zero_le f)])
theorem sp_mnext_no (hn : n ≤ 9) {p f : Int32} (hp : pl n p = false ∨ ¬ 0 ≤ f) : Sp 20 87 [.ref m, .int p, .int f] (NF h m t t2 ns G th n) z 0 0 (RR (some (.int 0)) (NF h m t t2 ns G 1 n) z) := by
  refine Sp_in (al := [some (.ref m), some (.int p), some (.int f), none]) ?_
  simp only [s87_0, s87_1, s87_2, s87_5, s87_6, s87_7, s87_11, s87_14, s87_15, s87_18, s87_19, s87_22, s87_23, s87_27, s87_30, s87_31, s87_32, s87_33, s87_35, s87_36, s87_39, s87_42, s87_43, s87_44, s87_47, s87_48, s87_51, s87_52, s87_53, s87_54, s87_55, s87_58, s87_59, s87_60, s87_63, s87_66, s87_67, ldi_0, ldi_s, ldl_0, ldl_s, ldd_0, ldd_s, lda_0, lda_s, st1_0, st1_1, st2_0, st2_1, sti_0, sti_1, stj_0, stj_1, st1_2, sti_2, st2_2, stj_2, st1_3, sti_3, st2_3, stj_3, st1_4, sti_4, st2_4, stj_4, st1_5, sti_5, st2_5, stj_5, st1_6, sti_6, st2_6, stj_6, st1_7, sti_7, st2_7, stj_7, st1_8, sti_8, st2_8, stj_8, st1_9, sti_9, st2_9, stj_9, kil_n, kil_i, kil_r, kil_l, kil_d, gl_0, gl_s, cat_i, cat_r, true_and, NF_th]
  refine c87_8r NF_m (sp_is hn) ?_
  simp only [s87_0, s87_1, s87_2, s87_5, s87_6, s87_7, s87_11, s87_14, s87_15, s87_18, s87_19, s87_22, s87_23, s87_27, s87_30, s87_31, s87_32, s87_33, s87_35, s87_36, s87_39, s87_42, s87_43, s87_44, s87_47, s87_48, s87_51, s87_52, s87_53, s87_54, s87_55, s87_58, s87_59, s87_60, s87_63, s87_66, s87_67, ldi_0, ldi_s, ldl_0, ldl_s, ldd_0, ldd_s, lda_0, lda_s, st1_0, st1_1, st2_0, st2_1, sti_0, sti_1, stj_0, stj_1, st1_2, sti_2, st2_2, stj_2, st1_3, sti_3, st2_3, stj_3, st1_4, sti_4, st2_4, stj_4, st1_5, sti_5, st2_5, stj_5, st1_6, sti_6, st2_6, stj_6, st1_7, sti_7, st2_7, stj_7, st1_8, sti_8, st2_8, stj_8, st1_9, sti_9, st2_9, stj_9, kil_n, kil_i, kil_r, kil_l, kil_d, gl_0, gl_s, cat_i, cat_r, true_and]
  have fin : aW (Sp 19) 87 0 0 (RR (some (.int 0)) (NF h m t t2 ns G 1 n) z) 24 [some (.ref m), some (.int p), some (.int f), none] [.int 1, .int 1, .ref m] (NF h m t t2 ns G 0 n) z 0 0 := by
    refine c87_24r NF_m sp_throws_t ?_
    simp only [s87_0, s87_1, s87_2, s87_5, s87_6, s87_7, s87_11, s87_14, s87_15, s87_18, s87_19, s87_22, s87_23, s87_27, s87_30, s87_31, s87_32, s87_33, s87_35, s87_36, s87_39, s87_42, s87_43, s87_44, s87_47, s87_48, s87_51, s87_52, s87_53, s87_54, s87_55, s87_58, s87_59, s87_60, s87_63, s87_66, s87_67, ldi_0, ldi_s, ldl_0, ldl_s, ldd_0, ldd_s, lda_0, lda_s, st1_0, st1_1, st2_0, st2_1, sti_0, sti_1, stj_0, stj_1, st1_2, sti_2, st2_2, stj_2, st1_3, sti_3, st2_3, stj_3, st1_4, sti_4, st2_4, stj_4, st1_5, sti_5, st2_5, stj_5, st1_6, sti_6, st2_6, stj_6, st1_7, sti_7, st2_7, stj_7, st1_8, sti_8, st2_8, stj_8, st1_9, sti_9, st2_9, stj_9, kil_n, kil_i, kil_r, kil_l, kil_d, gl_0, gl_s, cat_i, cat_r, true_and]
    rw [br_0 (by decide)]
    exact out_RR
  by_cases h1 : pl n p = false
  · rw [h1, br_1 (by decide)]
    exact fin
  · rw [Bool.not_eq_false] at h1
    rw [h1, br_0 (by decide), br_0 (hp.resolve_left (by rw [h1]; decide))]
    exact fin
theorem sp_mprev (hB : MB h m t t2 SG) (hn : n ≤ 9) {p k : Nat} {f : Int32} (hp : p < n) (hf : (-1 : Int32) ≤ f) (hk : k ≤ n) (hfk : ∀ q, q < n → (f < nI q ↔ k ≤ q)) : Sp 20 90 [.ref m, .int (nI p), .int f] (NF h m t t2 ns G th n) z 0 0 (RR (some (.int (prv (G p) k))) (NF h m t t2 ns G 0 n) z) := by
  refine Sp_in (al := [some (.ref m), some (.int (nI p)), some (.int f), none, none]) ?_
  simp only [s90_0, s90_1, s90_2, s90_5, s90_6, s90_7, s90_11, s90_14, s90_15, s90_16, s90_19, s90_20, s90_23, s90_24, s90_28, s90_31, s90_32, s90_33, s90_34, s90_35, s90_36, s90_40, s90_41, s90_44, s90_47, s90_49, s90_50, s90_53, s90_54, s90_57, s90_58, s90_59, s90_61, s90_62, s90_65, s90_67, s90_68, s90_71, s90_74, s90_75, ldi_0, ldi_s, ldl_0, ldl_s, ldd_0, ldd_s, lda_0, lda_s, st1_0, st1_1, st2_0, st2_1, sti_0, sti_1, stj_0, stj_1, st1_2, sti_2, st2_2, stj_2, st1_3, sti_3, st2_3, stj_3, st1_4, sti_4, st2_4, stj_4, st1_5, sti_5, st2_5, stj_5, st1_6, sti_6, st2_6, stj_6, st1_7, sti_7, st2_7, stj_7, st1_8, sti_8, st2_8, stj_8, st1_9, sti_9, st2_9, stj_9, kil_n, kil_i, kil_r, kil_l, kil_d, gl_0, gl_s, cat_i, cat_r, true_and, NF_th]
  refine c90_8r NF_m (sp_is hn) ?_
  simp only [s90_0, s90_1, s90_2, s90_5, s90_6, s90_7, s90_11, s90_14, s90_15, s90_16, s90_19, s90_20, s90_23, s90_24, s90_28, s90_31, s90_32, s90_33, s90_34, s90_35, s90_36, s90_40, s90_41, s90_44, s90_47, s90_49, s90_50, s90_53, s90_54, s90_57, s90_58, s90_59, s90_61, s90_62, s90_65, s90_67, s90_68, s90_71, s90_74, s90_75, ldi_0, ldi_s, ldl_0, ldl_s, ldd_0, ldd_s, lda_0, lda_s, st1_0, st1_1, st2_0, st2_1, sti_0, sti_1, stj_0, stj_1, st1_2, sti_2, st2_2, stj_2, st1_3, sti_3, st2_3, stj_3, st1_4, sti_4, st2_4, stj_4, st1_5, sti_5, st2_5, stj_5, st1_6, sti_6, st2_6, stj_6, st1_7, sti_7, st2_7, stj_7, st1_8, sti_8, st2_8, stj_8, st1_9, sti_9, st2_9, stj_9, kil_n, kil_i, kil_r, kil_l, kil_d, gl_0, gl_s, cat_i, cat_r, true_and, pl_nat hn hp]
  rw [br_0 (by decide), br_1 hf]
  refine c90_25r NF_m (sp_throws_f NF_m) ?_
  simp only [s90_0, s90_1, s90_2, s90_5, s90_6, s90_7, s90_11, s90_14, s90_15, s90_16, s90_19, s90_20, s90_23, s90_24, s90_28, s90_31, s90_32, s90_33, s90_34, s90_35, s90_36, s90_40, s90_41, s90_44, s90_47, s90_49, s90_50, s90_53, s90_54, s90_57, s90_58, s90_59, s90_61, s90_62, s90_65, s90_67, s90_68, s90_71, s90_74, s90_75, ldi_0, ldi_s, ldl_0, ldl_s, ldd_0, ldd_s, lda_0, lda_s, st1_0, st1_1, st2_0, st2_1, sti_0, sti_1, stj_0, stj_1, st1_2, sti_2, st2_2, stj_2, st1_3, sti_3, st2_3, stj_3, st1_4, sti_4, st2_4, stj_4, st1_5, sti_5, st2_5, stj_5, st1_6, sti_6, st2_6, stj_6, st1_7, sti_7, st2_7, stj_7, st1_8, sti_8, st2_8, stj_8, st1_9, sti_9, st2_9, stj_9, kil_n, kil_i, kil_r, kil_l, kil_d, gl_0, gl_s, cat_i, cat_r, true_and]
  rw [br_1 (by decide)]
  have key : ∀ q, q ≤ n → aW (Sp 19) 90 0 0 (RR (some (.int (prv (G p) k))) (NF h m t t2 ns G 0 n) z) 38 [some (.ref m), some (.int (nI p)), some (.int f), some (.int (prv (G p) (min q k))), some (.int (nI q))] [] (NF h m t t2 ns G 0 n) z 0 0 := by
    refine aUp ?_ fun q hq ih => ?_
    · rw [s90_38]
      simp only [s90_0, s90_1, s90_2, s90_5, s90_6, s90_7, s90_11, s90_14, s90_15, s90_16, s90_19, s90_20, s90_23, s90_24, s90_28, s90_31, s90_32, s90_33, s90_34, s90_35, s90_36, s90_40, s90_41, s90_44, s90_47, s90_49, s90_50, s90_53, s90_54, s90_57, s90_58, s90_59, s90_61, s90_62, s90_65, s90_67, s90_68, s90_71, s90_74, s90_75, ldi_0, ldi_s, ldl_0, ldl_s, ldd_0, ldd_s, lda_0, lda_s, st1_0, st1_1, st2_0, st2_1, sti_0, sti_1, stj_0, stj_1, st1_2, sti_2, st2_2, stj_2, st1_3, sti_3, st2_3, stj_3, st1_4, sti_4, st2_4, stj_4, st1_5, sti_5, st2_5, stj_5, st1_6, sti_6, st2_6, stj_6, st1_7, sti_7, st2_7, stj_7, st1_8, sti_8, st2_8, stj_8, st1_9, sti_9, st2_9, stj_9, kil_n, kil_i, kil_r, kil_l, kil_d, gl_0, gl_s, cat_i, cat_r, true_and, NF_gf]
      rw [br_1 (nI_le (Nat.le_refl _) (by omega)), Nat.min_eq_right hk]
      exact out_RR
    · rw [s90_38]
      simp only [s90_0, s90_1, s90_2, s90_5, s90_6, s90_7, s90_11, s90_14, s90_15, s90_16, s90_19, s90_20, s90_23, s90_24, s90_28, s90_31, s90_32, s90_33, s90_34, s90_35, s90_36, s90_40, s90_41, s90_44, s90_47, s90_49, s90_50, s90_53, s90_54, s90_57, s90_58, s90_59, s90_61, s90_62, s90_65, s90_67, s90_68, s90_71, s90_74, s90_75, ldi_0, ldi_s, ldl_0, ldl_s, ldd_0, ldd_s, lda_0, lda_s, st1_0, st1_1, st2_0, st2_1, sti_0, sti_1, stj_0, stj_1, st1_2, sti_2, st2_2, stj_2, st1_3, sti_3, st2_3, stj_3, st1_4, sti_4, st2_4, stj_4, st1_5, sti_5, st2_5, stj_5, st1_6, sti_6, st2_6, stj_6, st1_7, sti_7, st2_7, stj_7, st1_8, sti_8, st2_8, stj_8, st1_9, sti_9, st2_9, stj_9, kil_n, kil_i, kil_r, kil_l, kil_d, gl_0, gl_s, cat_i, cat_r, true_and, NF_gf, nI_1, ald_tb (NF_Tb hB) (show p < 9 by omega), ald_tr (NF_Tb hB) (show p < 9 by omega) (show q < 9 by omega)]
      rw [br_0 (nI_ge hq (by omega)), hfk q hq, bI_0]
      refine ⟨fun h1 => ?_, fun h1 => ?_⟩
      · rw [show min (q + 1) k = min q k by omega] at ih
        exact ih
      · rw [show min (q + 1) k = q + 1 by omega, show prv (G p) (q + 1) = if G p q then nI q else prv (G p) q from rfl] at ih
        rw [show min q k = q by omega]
        refine ⟨fun h2 => ?_, fun h2 => ?_⟩
        · rw [h2] at ih
          exact ih
        · rw [Bool.not_eq_false] at h2
          rw [h2] at ih
          exact ih
  have k0 := key 0 (by omega)
  rw [Nat.min_eq_left (Nat.zero_le k)] at k0
  exact k0
theorem sp_mprev_no (hn : n ≤ 9) {p f : Int32} (hp : pl n p = false ∨ ¬ (-1 : Int32) ≤ f) : Sp 20 90 [.ref m, .int p, .int f] (NF h m t t2 ns G th n) z 0 0 (RR (some (.int 0)) (NF h m t t2 ns G 1 n) z) := by
  refine Sp_in (al := [some (.ref m), some (.int p), some (.int f), none, none]) ?_
  simp only [s90_0, s90_1, s90_2, s90_5, s90_6, s90_7, s90_11, s90_14, s90_15, s90_16, s90_19, s90_20, s90_23, s90_24, s90_28, s90_31, s90_32, s90_33, s90_34, s90_35, s90_36, s90_40, s90_41, s90_44, s90_47, s90_49, s90_50, s90_53, s90_54, s90_57, s90_58, s90_59, s90_61, s90_62, s90_65, s90_67, s90_68, s90_71, s90_74, s90_75, ldi_0, ldi_s, ldl_0, ldl_s, ldd_0, ldd_s, lda_0, lda_s, st1_0, st1_1, st2_0, st2_1, sti_0, sti_1, stj_0, stj_1, st1_2, sti_2, st2_2, stj_2, st1_3, sti_3, st2_3, stj_3, st1_4, sti_4, st2_4, stj_4, st1_5, sti_5, st2_5, stj_5, st1_6, sti_6, st2_6, stj_6, st1_7, sti_7, st2_7, stj_7, st1_8, sti_8, st2_8, stj_8, st1_9, sti_9, st2_9, stj_9, kil_n, kil_i, kil_r, kil_l, kil_d, gl_0, gl_s, cat_i, cat_r, true_and, NF_th]
  refine c90_8r NF_m (sp_is hn) ?_
  simp only [s90_0, s90_1, s90_2, s90_5, s90_6, s90_7, s90_11, s90_14, s90_15, s90_16, s90_19, s90_20, s90_23, s90_24, s90_28, s90_31, s90_32, s90_33, s90_34, s90_35, s90_36, s90_40, s90_41, s90_44, s90_47, s90_49, s90_50, s90_53, s90_54, s90_57, s90_58, s90_59, s90_61, s90_62, s90_65, s90_67, s90_68, s90_71, s90_74, s90_75, ldi_0, ldi_s, ldl_0, ldl_s, ldd_0, ldd_s, lda_0, lda_s, st1_0, st1_1, st2_0, st2_1, sti_0, sti_1, stj_0, stj_1, st1_2, sti_2, st2_2, stj_2, st1_3, sti_3, st2_3, stj_3, st1_4, sti_4, st2_4, stj_4, st1_5, sti_5, st2_5, stj_5, st1_6, sti_6, st2_6, stj_6, st1_7, sti_7, st2_7, stj_7, st1_8, sti_8, st2_8, stj_8, st1_9, sti_9, st2_9, stj_9, kil_n, kil_i, kil_r, kil_l, kil_d, gl_0, gl_s, cat_i, cat_r, true_and]
  have fin : aW (Sp 19) 90 0 0 (RR (some (.int 0)) (NF h m t t2 ns G 1 n) z) 25 [some (.ref m), some (.int p), some (.int f), none, none] [.int 1, .int 1, .ref m] (NF h m t t2 ns G 0 n) z 0 0 := by
    refine c90_25r NF_m sp_throws_t ?_
    simp only [s90_0, s90_1, s90_2, s90_5, s90_6, s90_7, s90_11, s90_14, s90_15, s90_16, s90_19, s90_20, s90_23, s90_24, s90_28, s90_31, s90_32, s90_33, s90_34, s90_35, s90_36, s90_40, s90_41, s90_44, s90_47, s90_49, s90_50, s90_53, s90_54, s90_57, s90_58, s90_59, s90_61, s90_62, s90_65, s90_67, s90_68, s90_71, s90_74, s90_75, ldi_0, ldi_s, ldl_0, ldl_s, ldd_0, ldd_s, lda_0, lda_s, st1_0, st1_1, st2_0, st2_1, sti_0, sti_1, stj_0, stj_1, st1_2, sti_2, st2_2, stj_2, st1_3, sti_3, st2_3, stj_3, st1_4, sti_4, st2_4, stj_4, st1_5, sti_5, st2_5, stj_5, st1_6, sti_6, st2_6, stj_6, st1_7, sti_7, st2_7, stj_7, st1_8, sti_8, st2_8, stj_8, st1_9, sti_9, st2_9, stj_9, kil_n, kil_i, kil_r, kil_l, kil_d, gl_0, gl_s, cat_i, cat_r, true_and]
    rw [br_0 (by decide)]
    exact out_RR
  by_cases h1 : pl n p = false
  · rw [h1, br_1 (by decide)]
    exact fin
  · rw [Bool.not_eq_false] at h1
    rw [h1, br_0 (by decide), br_0 (hp.resolve_left (by rw [h1]; decide))]
    exact fin
theorem sp_mmean (hB : MB h m t t2 SG) (hG : GOK n G) (h0 : n ≠ 0) : Sp 20 93 [.ref m] (NF h m t t2 ns G th n) z 0 0 (RR (some (.double (FP.ddiv (FP.i2d (nI 2 * nI (wys G n))) (FP.i2d (nI n))))) (NF h m t t2 ns G 0 n) z) := by
  have hn := hG.1
  refine Sp_in (al := [some (.ref m)]) ?_
  simp only [s93_0, s93_1, s93_2, s93_5, s93_6, s93_7, s93_10, s93_13, s93_14, s93_17, s93_18, s93_22, s93_25, s93_26, s93_29, s93_30, s93_34, s93_35, s93_36, s93_37, s93_40, s93_41, s93_42, ldi_0, ldi_s, ldl_0, ldl_s, ldd_0, ldd_s, lda_0, lda_s, st1_0, st1_1, st2_0, st2_1, sti_0, sti_1, stj_0, stj_1, st1_2, sti_2, st2_2, stj_2, st1_3, sti_3, st2_3, stj_3, st1_4, sti_4, st2_4, stj_4, st1_5, sti_5, st2_5, stj_5, st1_6, sti_6, st2_6, stj_6, st1_7, sti_7, st2_7, stj_7, st1_8, sti_8, st2_8, stj_8, st1_9, sti_9, st2_9, stj_9, kil_n, kil_i, kil_r, kil_l, kil_d, gl_0, gl_s, cat_i, cat_r, true_and, NF_th, NF_gf]
  rw [br_1 (by rw [nI_lit0, nI_eq (by omega) (by decide)]; exact h0)]
  refine c93_19r NF_m (sp_throws_f NF_m) ?_
  simp only [s93_0, s93_1, s93_2, s93_5, s93_6, s93_7, s93_10, s93_13, s93_14, s93_17, s93_18, s93_22, s93_25, s93_26, s93_29, s93_30, s93_34, s93_35, s93_36, s93_37, s93_40, s93_41, s93_42, ldi_0, ldi_s, ldl_0, ldl_s, ldd_0, ldd_s, lda_0, lda_s, st1_0, st1_1, st2_0, st2_1, sti_0, sti_1, stj_0, stj_1, st1_2, sti_2, st2_2, stj_2, st1_3, sti_3, st2_3, stj_3, st1_4, sti_4, st2_4, stj_4, st1_5, sti_5, st2_5, stj_5, st1_6, sti_6, st2_6, stj_6, st1_7, sti_7, st2_7, stj_7, st1_8, sti_8, st2_8, stj_8, st1_9, sti_9, st2_9, stj_9, kil_n, kil_i, kil_r, kil_l, kil_d, gl_0, gl_s, cat_i, cat_r, true_and]
  rw [br_1 (by decide)]
  refine c93_31r NF_m (sp_mways hB hn) ?_
  simp only [s93_0, s93_1, s93_2, s93_5, s93_6, s93_7, s93_10, s93_13, s93_14, s93_17, s93_18, s93_22, s93_25, s93_26, s93_29, s93_30, s93_34, s93_35, s93_36, s93_37, s93_40, s93_41, s93_42, ldi_0, ldi_s, ldl_0, ldl_s, ldd_0, ldd_s, lda_0, lda_s, st1_0, st1_1, st2_0, st2_1, sti_0, sti_1, stj_0, stj_1, st1_2, sti_2, st2_2, stj_2, st1_3, sti_3, st2_3, stj_3, st1_4, sti_4, st2_4, stj_4, st1_5, sti_5, st2_5, stj_5, st1_6, sti_6, st2_6, stj_6, st1_7, sti_7, st2_7, stj_7, st1_8, sti_8, st2_8, stj_8, st1_9, sti_9, st2_9, stj_9, kil_n, kil_i, kil_r, kil_l, kil_d, gl_0, gl_s, cat_i, cat_r, true_and, NF_gf]
  exact ⟨FP_mean n (by omega) h0 _ (wys_lt hG), out_RR⟩
theorem sp_mmean_no (h0 : n = 0) : Sp 20 93 [.ref m] (NF h m t t2 ns G th n) z 0 0 (RR (some (.double FP.dconst0)) (NF h m t t2 ns G 1 n) z) := by
  subst h0
  refine Sp_in (al := [some (.ref m)]) ?_
  simp only [s93_0, s93_1, s93_2, s93_5, s93_6, s93_7, s93_10, s93_13, s93_14, s93_17, s93_18, s93_22, s93_25, s93_26, s93_29, s93_30, s93_34, s93_35, s93_36, s93_37, s93_40, s93_41, s93_42, ldi_0, ldi_s, ldl_0, ldl_s, ldd_0, ldd_s, lda_0, lda_s, st1_0, st1_1, st2_0, st2_1, sti_0, sti_1, stj_0, stj_1, st1_2, sti_2, st2_2, stj_2, st1_3, sti_3, st2_3, stj_3, st1_4, sti_4, st2_4, stj_4, st1_5, sti_5, st2_5, stj_5, st1_6, sti_6, st2_6, stj_6, st1_7, sti_7, st2_7, stj_7, st1_8, sti_8, st2_8, stj_8, st1_9, sti_9, st2_9, stj_9, kil_n, kil_i, kil_r, kil_l, kil_d, gl_0, gl_s, cat_i, cat_r, true_and, NF_th, NF_gf]
  rw [br_0 (by decide)]
  refine c93_19r NF_m sp_throws_t ?_
  simp only [s93_0, s93_1, s93_2, s93_5, s93_6, s93_7, s93_10, s93_13, s93_14, s93_17, s93_18, s93_22, s93_25, s93_26, s93_29, s93_30, s93_34, s93_35, s93_36, s93_37, s93_40, s93_41, s93_42, ldi_0, ldi_s, ldl_0, ldl_s, ldd_0, ldd_s, lda_0, lda_s, st1_0, st1_1, st2_0, st2_1, sti_0, sti_1, stj_0, stj_1, st1_2, sti_2, st2_2, stj_2, st1_3, sti_3, st2_3, stj_3, st1_4, sti_4, st2_4, stj_4, st1_5, sti_5, st2_5, stj_5, st1_6, sti_6, st2_6, stj_6, st1_7, sti_7, st2_7, stj_7, st1_8, sti_8, st2_8, stj_8, st1_9, sti_9, st2_9, stj_9, kil_n, kil_i, kil_r, kil_l, kil_d, gl_0, gl_s, cat_i, cat_r, true_and]
  rw [br_0 (by decide)]
  exact out_RR
end Mod4
