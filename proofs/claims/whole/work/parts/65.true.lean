/-! Colourmap.isTrue -/
def lcF (x y : Int64) : Int32 := if y ≤ x then (if x = y then 0 else 1) else -1
theorem sp_lcompare {h : AH} {z : Nat} {x y : Int64} : Sp 1 199 [.long x, .long y] h z 0 0 (RR (some (.int (lcF x y))) h z) := by
  refine Sp_in (al := [some (.long x), none, some (.long y), none]) ?_
  simp only [s199_0, s199_1, s199_2, s199_3, s199_6, s199_7, s199_10, s199_11, s199_12, s199_13, s199_16, s199_17, s199_20, s199_21, ldi_0, ldi_s, ldl_0, ldl_s, ldd_0, ldd_s, lda_0, lda_s, st1_0, st1_1, st2_0, st2_1, sti_0, sti_1, stj_0, stj_1, st1_2, sti_2, st2_2, stj_2, st1_3, sti_3, st2_3, stj_3, st1_4, sti_4, st2_4, stj_4, st1_5, sti_5, st2_5, stj_5, st1_6, sti_6, st2_6, stj_6, st1_7, sti_7, st2_7, stj_7, st1_8, sti_8, st2_8, stj_8, st1_9, sti_9, st2_9, stj_9, kil_n, kil_i, kil_r, kil_l, kil_d, gl_0, gl_s, cat_i, cat_r, true_and, lg_cmp_ge, lg_cmp_eq]
  unfold lcF
  refine ⟨fun h1 => ⟨fun h2 => ?_, fun h2 => ?_⟩, fun h1 => ?_⟩
  · exact out_eq (by rw [if_pos h1, if_neg h2]) rfl rfl
  · exact out_eq (by rw [if_pos h1, if_pos (Decidable.not_not.mp h2)]) rfl rfl
  · exact out_eq (by rw [if_neg h1]) rfl rfl
/-- all of a row of tests -/
def alF (f : Nat → Bool) : Nat → Bool
  | 0 => true
  | i + 1 => alF f i && f i
theorem alF_f {f : Nat → Bool} {i j : Nat} (h : alF f i = false) (hj : i ≤ j) : alF f j = false := by
  induction hj with
  | refl => exact h
  | step _ ih => unfold alF; rw [ih]; rfl
def chI (F : Nat → Int64) (n pc i : Nat) : Bool := decide (lcF (F i) 0 = if i < pc then 0 else if (n - i) % 2 = 0 then 1 else -1)
def chF (F : Nat → Int64) (n w pc : Nat) : Bool := decide (F n = 1) && (decide (n = 0) || decide (F (n - 1) = (-(nI w)).toInt64)) && alF (chI F n pc) (n + 1)
/-- the polynomial is of the map -/
def PF (h : AH) (y n : Nat) (G : Nat → Nat → Bool) : Prop := h y = some (poO true (y + 1) (y + 3) (y + 4) (y + 5)) ∧ ChAt h (y + 1) (y + 2) n G ∧ h (y + 4) = some (na 10 (ptn n G)) ∧ h (y + 5) = some (la 10 (mlt (ptn n G) n n))
theorem PF.fr {h h' : AH} {y n : Nat} {G : Nat → Nat → Bool} (hp : PF h y n G) (hf : ∀ q, y ≤ q → q < y + 6 → h' q = h q) : PF h' y n G := ⟨(hf _ (by omega) (by omega)).trans hp.1, hp.2.1.fr (hf _ (by omega) (by omega)) (hf _ (by omega) (by omega)), (hf _ (by omega) (by omega)).trans hp.2.2.1, (hf _ (by omega) (by omega)).trans hp.2.2.2⟩
theorem RD_PF {h : AH} {y n : Nat} {G : Nat → Nat → Bool} : PF (RD h y n G) y n G := ⟨RD_po, RD_ch, RD_pa, RD_fa⟩
/-- the polynomial's value at k -/
def atF (n : Nat) (G : Nat → Nat → Bool) (k : Int64) : Int64 := hor (mlt (ptn n G) n n) k (n + 1) 0
section CTrue
variable {h : AH} {x c r c2 r2 n sn z : Nat} {G SG : Nat → Nat → Bool}
def KP (h : AH) (x c r c2 r2 n : Nat) (G : Nat → Nat → Bool) (sn : Nat) (SG : Nat → Nat → Bool) (z : Nat) (v : Option Value) : AP := fun o h' z' => o = .inl v ∧ z' = z ∧ K h' x c r c2 r2 n G sn SG ∧ Fr (x + 11) (x + 38) h h'
theorem sp_coeffHold (hK : K h x c r c2 r2 n G sn SG) (hP : PF h (x + 5) n G) : Sp 6 198 [.ref x] h z 0 0 (RR (some (.int (bI (chF (mlt (ptn n G) n n) n (ends G n / 2) (pcs n G n))))) h z) := by
  have hn := hK.hG.1
  have he := ends_le G n
  have hpc : pcs n G n ≤ n := cnt_le _ n
  obtain ⟨ho, hch, hpa, hfa⟩ := hP
  refine Sp_in (al := [some (.ref x), none, none, none, none]) ?_
  simp only [s198_0, s198_1, s198_7, s198_8, s198_9, s198_12, s198_16, s198_17, s198_18, s198_21, s198_22, s198_23, s198_24, s198_27, s198_28, s198_31, s198_32, s198_33, s198_37, s198_38, s198_44, s198_45, s198_46, s198_47, s198_50, s198_51, s198_52, s198_53, s198_59, s198_60, s198_61, s198_63, s198_64, s198_67, s198_68, s198_69, s198_72, s198_73, s198_76, s198_77, s198_78, s198_79, s198_80, s198_81, s198_84, s198_85, s198_88, s198_89, s198_91, s198_92, s198_95, s198_99, s198_103, s198_105, s198_108, s198_109, s198_110, s198_113, s198_116, s198_117, ldi_0, ldi_s, ldl_0, ldl_s, ldd_0, ldd_s, lda_0, lda_s, st1_0, st1_1, st2_0, st2_1, sti_0, sti_1, stj_0, stj_1, st1_2, sti_2, st2_2, stj_2, st1_3, sti_3, st2_3, stj_3, st1_4, sti_4, st2_4, stj_4, st1_5, sti_5, st2_5, stj_5, st1_6, sti_6, st2_6, stj_6, st1_7, sti_7, st2_7, stj_7, st1_8, sti_8, st2_8, stj_8, st1_9, sti_9, st2_9, stj_9, kil_n, kil_i, kil_r, kil_l, kil_d, gl_0, gl_s, cat_i, cat_r, true_and, gf_ob hK.hx]
  refine c198_4r hK.hc.1 (sp_size hK.hc.1) ?_
  simp only [s198_0, s198_1, s198_7, s198_8, s198_9, s198_12, s198_16, s198_17, s198_18, s198_21, s198_22, s198_23, s198_24, s198_27, s198_28, s198_31, s198_32, s198_33, s198_37, s198_38, s198_44, s198_45, s198_46, s198_47, s198_50, s198_51, s198_52, s198_53, s198_59, s198_60, s198_61, s198_63, s198_64, s198_67, s198_68, s198_69, s198_72, s198_73, s198_76, s198_77, s198_78, s198_79, s198_80, s198_81, s198_84, s198_85, s198_88, s198_89, s198_91, s198_92, s198_95, s198_99, s198_103, s198_105, s198_108, s198_109, s198_110, s198_113, s198_116, s198_117, ldi_0, ldi_s, ldl_0, ldl_s, ldd_0, ldd_s, lda_0, lda_s, st1_0, st1_1, st2_0, st2_1, sti_0, sti_1, stj_0, stj_1, st1_2, sti_2, st2_2, stj_2, st1_3, sti_3, st2_3, stj_3, st1_4, sti_4, st2_4, stj_4, st1_5, sti_5, st2_5, stj_5, st1_6, sti_6, st2_6, stj_6, st1_7, sti_7, st2_7, stj_7, st1_8, sti_8, st2_8, stj_8, st1_9, sti_9, st2_9, stj_9, kil_n, kil_i, kil_r, kil_l, kil_d, gl_0, gl_s, cat_i, cat_r, true_and, gf_ob hK.hx]
  refine c198_13r ho (sp_factor ho hfa (show n < 10 by omega)) ?_
  simp only [s198_0, s198_1, s198_7, s198_8, s198_9, s198_12, s198_16, s198_17, s198_18, s198_21, s198_22, s198_23, s198_24, s198_27, s198_28, s198_31, s198_32, s198_33, s198_37, s198_38, s198_44, s198_45, s198_46, s198_47, s198_50, s198_51, s198_52, s198_53, s198_59, s198_60, s198_61, s198_63, s198_64, s198_67, s198_68, s198_69, s198_72, s198_73, s198_76, s198_77, s198_78, s198_79, s198_80, s198_81, s198_84, s198_85, s198_88, s198_89, s198_91, s198_92, s198_95, s198_99, s198_103, s198_105, s198_108, s198_109, s198_110, s198_113, s198_116, s198_117, ldi_0, ldi_s, ldl_0, ldl_s, ldd_0, ldd_s, lda_0, lda_s, st1_0, st1_1, st2_0, st2_1, sti_0, sti_1, stj_0, stj_1, st1_2, sti_2, st2_2, stj_2, st1_3, sti_3, st2_3, stj_3, st1_4, sti_4, st2_4, stj_4, st1_5, sti_5, st2_5, stj_5, st1_6, sti_6, st2_6, stj_6, st1_7, sti_7, st2_7, stj_7, st1_8, sti_8, st2_8, stj_8, st1_9, sti_9, st2_9, stj_9, kil_n, kil_i, kil_r, kil_l, kil_d, gl_0, gl_s, cat_i, cat_r, true_and, gf_ob hK.hx, lg_cmp_eq]
  generalize mlt (ptn n G) n n = F at hfa ⊢
  have loop : (decide (F n = 1) && (decide (n = 0) || decide (F (n - 1) = (-(nI (ends G n / 2))).toInt64))) = true → aW (Sp 5) 198 0 0 (RR (some (.int (bI (chF F n (ends G n / 2) (pcs n G n))))) h z) 52 [some (.ref x), some (.int (nI n)), none, none, none] [] h z 0 0 := by
    intro h0
    simp only [s198_0, s198_1, s198_7, s198_8, s198_9, s198_12, s198_16, s198_17, s198_18, s198_21, s198_22, s198_23, s198_24, s198_27, s198_28, s198_31, s198_32, s198_33, s198_37, s198_38, s198_44, s198_45, s198_46, s198_47, s198_50, s198_51, s198_52, s198_53, s198_59, s198_60, s198_61, s198_63, s198_64, s198_67, s198_68, s198_69, s198_72, s198_73, s198_76, s198_77, s198_78, s198_79, s198_80, s198_81, s198_84, s198_85, s198_88, s198_89, s198_91, s198_92, s198_95, s198_99, s198_103, s198_105, s198_108, s198_109, s198_110, s198_113, s198_116, s198_117, ldi_0, ldi_s, ldl_0, ldl_s, ldd_0, ldd_s, lda_0, lda_s, st1_0, st1_1, st2_0, st2_1, sti_0, sti_1, stj_0, stj_1, st1_2, sti_2, st2_2, stj_2, st1_3, sti_3, st2_3, stj_3, st1_4, sti_4, st2_4, stj_4, st1_5, sti_5, st2_5, stj_5, st1_6, sti_6, st2_6, stj_6, st1_7, sti_7, st2_7, stj_7, st1_8, sti_8, st2_8, stj_8, st1_9, sti_9, st2_9, stj_9, kil_n, kil_i, kil_r, kil_l, kil_d, gl_0, gl_s, cat_i, cat_r, true_and, gf_ob hK.hx]
    refine c198_56r (sp_pieceCount hK.hc hK.hG) ?_
    simp only [s198_0, s198_1, s198_7, s198_8, s198_9, s198_12, s198_16, s198_17, s198_18, s198_21, s198_22, s198_23, s198_24, s198_27, s198_28, s198_31, s198_32, s198_33, s198_37, s198_38, s198_44, s198_45, s198_46, s198_47, s198_50, s198_51, s198_52, s198_53, s198_59, s198_60, s198_61, s198_63, s198_64, s198_67, s198_68, s198_69, s198_72, s198_73, s198_76, s198_77, s198_78, s198_79, s198_80, s198_81, s198_84, s198_85, s198_88, s198_89, s198_91, s198_92, s198_95, s198_99, s198_103, s198_105, s198_108, s198_109, s198_110, s198_113, s198_116, s198_117, ldi_0, ldi_s, ldl_0, ldl_s, ldd_0, ldd_s, lda_0, lda_s, st1_0, st1_1, st2_0, st2_1, sti_0, sti_1, stj_0, stj_1, st1_2, sti_2, st2_2, stj_2, st1_3, sti_3, st2_3, stj_3, st1_4, sti_4, st2_4, stj_4, st1_5, sti_5, st2_5, stj_5, st1_6, sti_6, st2_6, stj_6, st1_7, sti_7, st2_7, stj_7, st1_8, sti_8, st2_8, stj_8, st1_9, sti_9, st2_9, stj_9, kil_n, kil_i, kil_r, kil_l, kil_d, gl_0, gl_s, cat_i, cat_r, true_and]
    unfold chF
    rw [h0, Bool.true_and]
    have key : ∀ i, i ≤ n + 1 → alF (chI F n (pcs n G n)) i = true → ∀ b : Option Value, aW (Sp 5) 198 0 0 (RR (some (.int (bI (alF (chI F n (pcs n G n)) (n + 1))))) h z) 62 [some (.ref x), some (.int (nI n)), some (.int (nI (pcs n G n))), some (.int (nI i)), b] [] h z 0 0 := by
      refine aUp ?_ fun i hi ih => ?_
      · intro e b
        rw [s198_62]
        simp only [s198_0, s198_1, s198_7, s198_8, s198_9, s198_12, s198_16, s198_17, s198_18, s198_21, s198_22, s198_23, s198_24, s198_27, s198_28, s198_31, s198_32, s198_33, s198_37, s198_38, s198_44, s198_45, s198_46, s198_47, s198_50, s198_51, s198_52, s198_53, s198_59, s198_60, s198_61, s198_63, s198_64, s198_67, s198_68, s198_69, s198_72, s198_73, s198_76, s198_77, s198_78, s198_79, s198_80, s198_81, s198_84, s198_85, s198_88, s198_89, s198_91, s198_92, s198_95, s198_99, s198_103, s198_105, s198_108, s198_109, s198_110, s198_113, s198_116, s198_117, ldi_0, ldi_s, ldl_0, ldl_s, ldd_0, ldd_s, lda_0, lda_s, st1_0, st1_1, st2_0, st2_1, sti_0, sti_1, stj_0, stj_1, st1_2, sti_2, st2_2, stj_2, st1_3, sti_3, st2_3, stj_3, st1_4, sti_4, st2_4, stj_4, st1_5, sti_5, st2_5, stj_5, st1_6, sti_6, st2_6, stj_6, st1_7, sti_7, st2_7, stj_7, st1_8, sti_8, st2_8, stj_8, st1_9, sti_9, st2_9, stj_9, kil_n, kil_i, kil_r, kil_l, kil_d, gl_0, gl_s, cat_i, cat_r, true_and]
        rw [br_1 (nI_lt (Nat.lt_succ_self n) (by omega)), e]
        exact ⟨by decide, out_RR⟩
      · intro e b
        have tail : ∀ d : Int32, (if i < pcs n G n then 0 else if (n - i) % 2 = 0 then 1 else -1) = d → aW (Sp 5) 198 0 0 (RR (some (.int (bI (alF (chI F n (pcs n G n)) (n + 1))))) h z) 91 [some (.ref x), some (.int (nI n)), some (.int (nI (pcs n G n))), some (.int (nI i)), some (.int d)] [] h z 0 0 := by
          intro d hd
          simp only [s198_0, s198_1, s198_7, s198_8, s198_9, s198_12, s198_16, s198_17, s198_18, s198_21, s198_22, s198_23, s198_24, s198_27, s198_28, s198_31, s198_32, s198_33, s198_37, s198_38, s198_44, s198_45, s198_46, s198_47, s198_50, s198_51, s198_52, s198_53, s198_59, s198_60, s198_61, s198_63, s198_64, s198_67, s198_68, s198_69, s198_72, s198_73, s198_76, s198_77, s198_78, s198_79, s198_80, s198_81, s198_84, s198_85, s198_88, s198_89, s198_91, s198_92, s198_95, s198_99, s198_103, s198_105, s198_108, s198_109, s198_110, s198_113, s198_116, s198_117, ldi_0, ldi_s, ldl_0, ldl_s, ldd_0, ldd_s, lda_0, lda_s, st1_0, st1_1, st2_0, st2_1, sti_0, sti_1, stj_0, stj_1, st1_2, sti_2, st2_2, stj_2, st1_3, sti_3, st2_3, stj_3, st1_4, sti_4, st2_4, stj_4, st1_5, sti_5, st2_5, stj_5, st1_6, sti_6, st2_6, stj_6, st1_7, sti_7, st2_7, stj_7, st1_8, sti_8, st2_8, stj_8, st1_9, sti_9, st2_9, stj_9, kil_n, kil_i, kil_r, kil_l, kil_d, gl_0, gl_s, cat_i, cat_r, true_and, gf_ob hK.hx]
          refine c198_96r ho (sp_factor ho hfa (show i < 10 by omega)) ?_
          simp only [s198_0, s198_1, s198_7, s198_8, s198_9, s198_12, s198_16, s198_17, s198_18, s198_21, s198_22, s198_23, s198_24, s198_27, s198_28, s198_31, s198_32, s198_33, s198_37, s198_38, s198_44, s198_45, s198_46, s198_47, s198_50, s198_51, s198_52, s198_53, s198_59, s198_60, s198_61, s198_63, s198_64, s198_67, s198_68, s198_69, s198_72, s198_73, s198_76, s198_77, s198_78, s198_79, s198_80, s198_81, s198_84, s198_85, s198_88, s198_89, s198_91, s198_92, s198_95, s198_99, s198_103, s198_105, s198_108, s198_109, s198_110, s198_113, s198_116, s198_117, ldi_0, ldi_s, ldl_0, ldl_s, ldd_0, ldd_s, lda_0, lda_s, st1_0, st1_1, st2_0, st2_1, sti_0, sti_1, stj_0, stj_1, st1_2, sti_2, st2_2, stj_2, st1_3, sti_3, st2_3, stj_3, st1_4, sti_4, st2_4, stj_4, st1_5, sti_5, st2_5, stj_5, st1_6, sti_6, st2_6, stj_6, st1_7, sti_7, st2_7, stj_7, st1_8, sti_8, st2_8, stj_8, st1_9, sti_9, st2_9, stj_9, kil_n, kil_i, kil_r, kil_l, kil_d, gl_0, gl_s, cat_i, cat_r, true_and]
          refine c198_100r sp_lcompare ?_
          simp only [s198_0, s198_1, s198_7, s198_8, s198_9, s198_12, s198_16, s198_17, s198_18, s198_21, s198_22, s198_23, s198_24, s198_27, s198_28, s198_31, s198_32, s198_33, s198_37, s198_38, s198_44, s198_45, s198_46, s198_47, s198_50, s198_51, s198_52, s198_53, s198_59, s198_60, s198_61, s198_63, s198_64, s198_67, s198_68, s198_69, s198_72, s198_73, s198_76, s198_77, s198_78, s198_79, s198_80, s198_81, s198_84, s198_85, s198_88, s198_89, s198_91, s198_92, s198_95, s198_99, s198_103, s198_105, s198_108, s198_109, s198_110, s198_113, s198_116, s198_117, ldi_0, ldi_s, ldl_0, ldl_s, ldd_0, ldd_s, lda_0, lda_s, st1_0, st1_1, st2_0, st2_1, sti_0, sti_1, stj_0, stj_1, st1_2, sti_2, st2_2, stj_2, st1_3, sti_3, st2_3, stj_3, st1_4, sti_4, st2_4, stj_4, st1_5, sti_5, st2_5, stj_5, st1_6, sti_6, st2_6, stj_6, st1_7, sti_7, st2_7, stj_7, st1_8, sti_8, st2_8, stj_8, st1_9, sti_9, st2_9, stj_9, kil_n, kil_i, kil_r, kil_l, kil_d, gl_0, gl_s, cat_i, cat_r, true_and, nI_1]
          have ec : alF (chI F n (pcs n G n)) (i + 1) = decide (lcF (F i) 0 = d) := by
            show (alF (chI F n (pcs n G n)) i && chI F n (pcs n G n) i) = _
            rw [e, Bool.true_and]
            unfold chI
            rw [hd]
          refine ⟨fun h1 => ?_, fun h1 => ?_⟩
          · exact ih (by rw [ec]; exact decide_eq_true h1) _
          · exact ⟨by decide, out_eq (by rw [alF_f (i := i + 1) (by rw [ec]; exact decide_eq_false h1) (show i + 1 ≤ n + 1 from hi)]; rfl) rfl rfl⟩
        simp only [s198_0, s198_1, s198_7, s198_8, s198_9, s198_12, s198_16, s198_17, s198_18, s198_21, s198_22, s198_23, s198_24, s198_27, s198_28, s198_31, s198_32, s198_33, s198_37, s198_38, s198_44, s198_45, s198_46, s198_47, s198_50, s198_51, s198_52, s198_53, s198_59, s198_60, s198_61, s198_63, s198_64, s198_67, s198_68, s198_69, s198_72, s198_73, s198_76, s198_77, s198_78, s198_79, s198_80, s198_81, s198_84, s198_85, s198_88, s198_89, s198_91, s198_92, s198_95, s198_99, s198_103, s198_105, s198_108, s198_109, s198_110, s198_113, s198_116, s198_117, ldi_0, ldi_s, ldl_0, ldl_s, ldd_0, ldd_s, lda_0, lda_s, st1_0, st1_1, st2_0, st2_1, sti_0, sti_1, stj_0, stj_1, st1_2, sti_2, st2_2, stj_2, st1_3, sti_3, st2_3, stj_3, st1_4, sti_4, st2_4, stj_4, st1_5, sti_5, st2_5, stj_5, st1_6, sti_6, st2_6, stj_6, st1_7, sti_7, st2_7, stj_7, st1_8, sti_8, st2_8, stj_8, st1_9, sti_9, st2_9, stj_9, kil_n, kil_i, kil_r, kil_l, kil_d, gl_0, gl_s, cat_i, cat_r, true_and, gf_ob hK.hx] at tail
        rw [s198_62]
        simp only [s198_0, s198_1, s198_7, s198_8, s198_9, s198_12, s198_16, s198_17, s198_18, s198_21, s198_22, s198_23, s198_24, s198_27, s198_28, s198_31, s198_32, s198_33, s198_37, s198_38, s198_44, s198_45, s198_46, s198_47, s198_50, s198_51, s198_52, s198_53, s198_59, s198_60, s198_61, s198_63, s198_64, s198_67, s198_68, s198_69, s198_72, s198_73, s198_76, s198_77, s198_78, s198_79, s198_80, s198_81, s198_84, s198_85, s198_88, s198_89, s198_91, s198_92, s198_95, s198_99, s198_103, s198_105, s198_108, s198_109, s198_110, s198_113, s198_116, s198_117, ldi_0, ldi_s, ldl_0, ldl_s, ldd_0, ldd_s, lda_0, lda_s, st1_0, st1_1, st2_0, st2_1, sti_0, sti_1, stj_0, stj_1, st1_2, sti_2, st2_2, stj_2, st1_3, sti_3, st2_3, stj_3, st1_4, sti_4, st2_4, stj_4, st1_5, sti_5, st2_5, stj_5, st1_6, sti_6, st2_6, stj_6, st1_7, sti_7, st2_7, stj_7, st1_8, sti_8, st2_8, stj_8, st1_9, sti_9, st2_9, stj_9, kil_n, kil_i, kil_r, kil_l, kil_d, gl_0, gl_s, cat_i, cat_r, true_and, ne2, gf_ob hK.hx]
        rw [br_0 (nI_nlt (show i ≤ n by omega) (by omega)), nI_leI (by omega) (by omega)]
        refine ⟨fun h1 => ?_, fun h1 => tail 0 (if_pos (by omega))⟩
        rw [pk_sub (show i ≤ n by omega), nI_lit2, pk_rem (by omega) (by decide) (by decide), nI_z (by omega)]
        refine ⟨fun h2 => tail (-1) (by rw [if_neg (by omega), if_neg h2]), fun h2 => tail 1 (by rw [if_neg (by omega), if_pos (Decidable.not_not.mp h2)])⟩
    exact key 0 (by omega) rfl none
  simp only [s198_0, s198_1, s198_7, s198_8, s198_9, s198_12, s198_16, s198_17, s198_18, s198_21, s198_22, s198_23, s198_24, s198_27, s198_28, s198_31, s198_32, s198_33, s198_37, s198_38, s198_44, s198_45, s198_46, s198_47, s198_50, s198_51, s198_52, s198_53, s198_59, s198_60, s198_61, s198_63, s198_64, s198_67, s198_68, s198_69, s198_72, s198_73, s198_76, s198_77, s198_78, s198_79, s198_80, s198_81, s198_84, s198_85, s198_88, s198_89, s198_91, s198_92, s198_95, s198_99, s198_103, s198_105, s198_108, s198_109, s198_110, s198_113, s198_116, s198_117, ldi_0, ldi_s, ldl_0, ldl_s, ldd_0, ldd_s, lda_0, lda_s, st1_0, st1_1, st2_0, st2_1, sti_0, sti_1, stj_0, stj_1, st1_2, sti_2, st2_2, stj_2, st1_3, sti_3, st2_3, stj_3, st1_4, sti_4, st2_4, stj_4, st1_5, sti_5, st2_5, stj_5, st1_6, sti_6, st2_6, stj_6, st1_7, sti_7, st2_7, stj_7, st1_8, sti_8, st2_8, stj_8, st1_9, sti_9, st2_9, stj_9, kil_n, kil_i, kil_r, kil_l, kil_d, gl_0, gl_s, cat_i, cat_r, true_and, gf_ob hK.hx] at loop
  refine ⟨fun h1 => ?_, fun h1 => ?_⟩
  · rw [decide_eq_true h1, Bool.true_and] at loop
    refine ⟨fun h2 => ?_, fun h2 => ?_⟩
    · have h3 : n = 0 := Nat.le_zero.mp (Nat.le_of_not_lt fun w => nI_nle w (by omega) h2)
      exact loop (by rw [decide_eq_true h3]; rfl)
    · have h3 : 0 < n := by
        rcases Nat.eq_zero_or_pos n with h4 | h4
        · exact absurd (by rw [h4]; decide) h2
        · exact h4
      rw [nI_lit1, pk_sub h3]
      refine c198_34r ho (sp_factor ho hfa (show n - 1 < 10 by omega)) ?_
      simp only [s198_0, s198_1, s198_7, s198_8, s198_9, s198_12, s198_16, s198_17, s198_18, s198_21, s198_22, s198_23, s198_24, s198_27, s198_28, s198_31, s198_32, s198_33, s198_37, s198_38, s198_44, s198_45, s198_46, s198_47, s198_50, s198_51, s198_52, s198_53, s198_59, s198_60, s198_61, s198_63, s198_64, s198_67, s198_68, s198_69, s198_72, s198_73, s198_76, s198_77, s198_78, s198_79, s198_80, s198_81, s198_84, s198_85, s198_88, s198_89, s198_91, s198_92, s198_95, s198_99, s198_103, s198_105, s198_108, s198_109, s198_110, s198_113, s198_116, s198_117, ldi_0, ldi_s, ldl_0, ldl_s, ldd_0, ldd_s, lda_0, lda_s, st1_0, st1_1, st2_0, st2_1, sti_0, sti_1, stj_0, stj_1, st1_2, sti_2, st2_2, stj_2, st1_3, sti_3, st2_3, stj_3, st1_4, sti_4, st2_4, stj_4, st1_5, sti_5, st2_5, stj_5, st1_6, sti_6, st2_6, stj_6, st1_7, sti_7, st2_7, stj_7, st1_8, sti_8, st2_8, stj_8, st1_9, sti_9, st2_9, stj_9, kil_n, kil_i, kil_r, kil_l, kil_d, gl_0, gl_s, cat_i, cat_r, true_and, gf_ob hK.hx, lg_cmp_eq]
      refine c198_41r hK.hc.1 (sp_wayCount hK.hc hK.hG) ?_
      simp only [s198_0, s198_1, s198_7, s198_8, s198_9, s198_12, s198_16, s198_17, s198_18, s198_21, s198_22, s198_23, s198_24, s198_27, s198_28, s198_31, s198_32, s198_33, s198_37, s198_38, s198_44, s198_45, s198_46, s198_47, s198_50, s198_51, s198_52, s198_53, s198_59, s198_60, s198_61, s198_63, s198_64, s198_67, s198_68, s198_69, s198_72, s198_73, s198_76, s198_77, s198_78, s198_79, s198_80, s198_81, s198_84, s198_85, s198_88, s198_89, s198_91, s198_92, s198_95, s198_99, s198_103, s198_105, s198_108, s198_109, s198_110, s198_113, s198_116, s198_117, ldi_0, ldi_s, ldl_0, ldl_s, ldd_0, ldd_s, lda_0, lda_s, st1_0, st1_1, st2_0, st2_1, sti_0, sti_1, stj_0, stj_1, st1_2, sti_2, st2_2, stj_2, st1_3, sti_3, st2_3, stj_3, st1_4, sti_4, st2_4, stj_4, st1_5, sti_5, st2_5, stj_5, st1_6, sti_6, st2_6, stj_6, st1_7, sti_7, st2_7, stj_7, st1_8, sti_8, st2_8, stj_8, st1_9, sti_9, st2_9, stj_9, kil_n, kil_i, kil_r, kil_l, kil_d, gl_0, gl_s, cat_i, cat_r, true_and, gf_ob hK.hx, lg_cmp_eq]
      refine ⟨fun h4 => ?_, fun h4 => ?_⟩
      · exact loop (by rw [decide_eq_true h4, Bool.or_true])
      · refine ⟨by decide, out_eq ?_ rfl rfl⟩
        unfold chF
        rw [decide_eq_false (show ¬ n = 0 by omega), decide_eq_false h4, Bool.or_false, Bool.and_false, Bool.false_and]
        rfl
  · refine ⟨by decide, out_eq ?_ rfl rfl⟩
    unfold chF
    rw [decide_eq_false h1]
    rfl
def cnF (n : Nat) (G : Nat → Nat → Bool) (k : Nat) : Bool := decide (atF n G (nI k).toInt64 = (pnt G (nI k) n 0 0 (fun _ => 0)).toInt64)
theorem sp_countsHold (hK : K h x c r c2 r2 n G sn SG) (hP : PF h (x + 5) n G) : Sp 15 200 [.ref x] h z 0 0 (RR (some (.int (bI (alF (cnF n G) 4)))) h z) := by
  have e := hK.two'
  unfold Two at e
  obtain ⟨ho, hch, hpa, hfa⟩ := hP
  refine Sp_in (al := [some (.ref x), none]) ?_
  simp only [s200_0, s200_1, s200_3, s200_4, s200_7, s200_8, s200_11, s200_12, s200_16, s200_17, s200_20, s200_21, s200_24, s200_28, s200_29, s200_30, s200_33, s200_34, s200_35, s200_38, s200_41, s200_42, ldi_0, ldi_s, ldl_0, ldl_s, ldd_0, ldd_s, lda_0, lda_s, st1_0, st1_1, st2_0, st2_1, sti_0, sti_1, stj_0, stj_1, st1_2, sti_2, st2_2, stj_2, st1_3, sti_3, st2_3, stj_3, st1_4, sti_4, st2_4, stj_4, st1_5, sti_5, st2_5, stj_5, st1_6, sti_6, st2_6, stj_6, st1_7, sti_7, st2_7, stj_7, st1_8, sti_8, st2_8, stj_8, st1_9, sti_9, st2_9, stj_9, kil_n, kil_i, kil_r, kil_l, kil_d, gl_0, gl_s, cat_i, cat_r, true_and]
  have key : ∀ k, k ≤ 4 → alF (cnF n G) k = true → aW (Sp 14) 200 0 0 (RR (some (.int (bI (alF (cnF n G) 4)))) h z) 2 [some (.ref x), some (.int (nI k))] [] h z 0 0 := by
    refine aUp ?_ fun k hk ih => ?_
    · intro e
      rw [s200_2]
      simp only [s200_0, s200_1, s200_3, s200_4, s200_7, s200_8, s200_11, s200_12, s200_16, s200_17, s200_20, s200_21, s200_24, s200_28, s200_29, s200_30, s200_33, s200_34, s200_35, s200_38, s200_41, s200_42, ldi_0, ldi_s, ldl_0, ldl_s, ldd_0, ldd_s, lda_0, lda_s, st1_0, st1_1, st2_0, st2_1, sti_0, sti_1, stj_0, stj_1, st1_2, sti_2, st2_2, stj_2, st1_3, sti_3, st2_3, stj_3, st1_4, sti_4, st2_4, stj_4, st1_5, sti_5, st2_5, stj_5, st1_6, sti_6, st2_6, stj_6, st1_7, sti_7, st2_7, stj_7, st1_8, sti_8, st2_8, stj_8, st1_9, sti_9, st2_9, stj_9, kil_n, kil_i, kil_r, kil_l, kil_d, gl_0, gl_s, cat_i, cat_r, true_and]
      rw [br_1 (by decide), e]
      exact ⟨by decide, out_RR⟩
    · intro e2
      rw [s200_2]
      simp only [s200_0, s200_1, s200_3, s200_4, s200_7, s200_8, s200_11, s200_12, s200_16, s200_17, s200_20, s200_21, s200_24, s200_28, s200_29, s200_30, s200_33, s200_34, s200_35, s200_38, s200_41, s200_42, ldi_0, ldi_s, ldl_0, ldl_s, ldd_0, ldd_s, lda_0, lda_s, st1_0, st1_1, st2_0, st2_1, sti_0, sti_1, stj_0, stj_1, st1_2, sti_2, st2_2, stj_2, st1_3, sti_3, st2_3, stj_3, st1_4, sti_4, st2_4, stj_4, st1_5, sti_5, st2_5, stj_5, st1_6, sti_6, st2_6, stj_6, st1_7, sti_7, st2_7, stj_7, st1_8, sti_8, st2_8, stj_8, st1_9, sti_9, st2_9, stj_9, kil_n, kil_i, kil_r, kil_l, kil_d, gl_0, gl_s, cat_i, cat_r, true_and, gf_ob hK.hx]
      rw [show (3 : Int32) = nI 3 from rfl, br_0 (nI_nlt (show k ≤ 3 by omega) (by decide))]
      refine c200_13r ho (sp_at hch hK.hG ho hfa) ?_
      simp only [s200_0, s200_1, s200_3, s200_4, s200_7, s200_8, s200_11, s200_12, s200_16, s200_17, s200_20, s200_21, s200_24, s200_28, s200_29, s200_30, s200_33, s200_34, s200_35, s200_38, s200_41, s200_42, ldi_0, ldi_s, ldl_0, ldl_s, ldd_0, ldd_s, lda_0, lda_s, st1_0, st1_1, st2_0, st2_1, sti_0, sti_1, stj_0, stj_1, st1_2, sti_2, st2_2, stj_2, st1_3, sti_3, st2_3, stj_3, st1_4, sti_4, st2_4, stj_4, st1_5, sti_5, st2_5, stj_5, st1_6, sti_6, st2_6, stj_6, st1_7, sti_7, st2_7, stj_7, st1_8, sti_8, st2_8, stj_8, st1_9, sti_9, st2_9, stj_9, kil_n, kil_i, kil_r, kil_l, kil_d, gl_0, gl_s, cat_i, cat_r, true_and, gf_ob hK.hx]
      refine c200_25r hK.hcols.1 (sp_count hK.hc hK.hG hK.hcols.1 hK.hcols.2.2 (by omega)) ?_
      simp only [s200_0, s200_1, s200_3, s200_4, s200_7, s200_8, s200_11, s200_12, s200_16, s200_17, s200_20, s200_21, s200_24, s200_28, s200_29, s200_30, s200_33, s200_34, s200_35, s200_38, s200_41, s200_42, ldi_0, ldi_s, ldl_0, ldl_s, ldd_0, ldd_s, lda_0, lda_s, st1_0, st1_1, st2_0, st2_1, sti_0, sti_1, stj_0, stj_1, st1_2, sti_2, st2_2, stj_2, st1_3, sti_3, st2_3, stj_3, st1_4, sti_4, st2_4, stj_4, st1_5, sti_5, st2_5, stj_5, st1_6, sti_6, st2_6, stj_6, st1_7, sti_7, st2_7, stj_7, st1_8, sti_8, st2_8, stj_8, st1_9, sti_9, st2_9, stj_9, kil_n, kil_i, kil_r, kil_l, kil_d, gl_0, gl_s, cat_i, cat_r, true_and, lg_cmp_eq, nI_1]
      have ec : alF (cnF n G) (k + 1) = cnF n G k := by
        show (alF (cnF n G) k && cnF n G k) = _
        rw [e2, Bool.true_and]
      refine ⟨fun h1 => ?_, fun h1 => ?_⟩
      · exact ih (by rw [ec]; exact decide_eq_true h1)
      · exact ⟨by decide, out_eq (by rw [alF_f (i := k + 1) (by rw [ec]; exact decide_eq_false h1) (show k + 1 ≤ 4 from hk)]; rfl) rfl rfl⟩
  exact key 0 (by omega) rfl
/-- the directions as the class finds them, whatever its rows held before -/
def drC (n : Nat) (G : Nat → Nat → Bool) : Nat := trd n G (fun _ => 0) (fun _ => 0)
def dhF (n : Nat) (G : Nat → Nat → Bool) (d : Nat) : Bool := decide (10 < ends G n / 2) || decide (absL (atF n G (-1)) = (nI d).toInt64)
theorem sp_dirHold (hK : K h x c r c2 r2 n G sn SG) (hP : PF h (x + 5) n G) {d : Nat} (hd : ∀ A B, trd n G A B = d) : Sp 15 201 [.ref x] h z 0 0 (KP h x c r c2 r2 n G sn SG z (some (.int (bI (dhF n G d))))) := by
  have e := hK.two'
  unfold Two at e
  have he := ends_le G n
  have hn := hK.hG.1
  obtain ⟨ho, hch, hpa, hfa⟩ := hP
  obtain ⟨m, A, B, d1, d2, d3, d4⟩ := hK.hdirs
  refine Sp_in (al := [some (.ref x)]) ?_
  simp only [s201_0, s201_1, s201_7, s201_9, s201_12, s201_13, s201_16, s201_25, s201_26, s201_29, s201_30, s201_36, s201_37, s201_38, s201_41, s201_42, s201_45, s201_46, ldi_0, ldi_s, ldl_0, ldl_s, ldd_0, ldd_s, lda_0, lda_s, st1_0, st1_1, st2_0, st2_1, sti_0, sti_1, stj_0, stj_1, st1_2, sti_2, st2_2, stj_2, st1_3, sti_3, st2_3, stj_3, st1_4, sti_4, st2_4, stj_4, st1_5, sti_5, st2_5, stj_5, st1_6, sti_6, st2_6, stj_6, st1_7, sti_7, st2_7, stj_7, st1_8, sti_8, st2_8, stj_8, st1_9, sti_9, st2_9, stj_9, kil_n, kil_i, kil_r, kil_l, kil_d, gl_0, gl_s, cat_i, cat_r, true_and, gf_ob hK.hx]
  refine c201_4r hK.hc.1 (sp_wayCount hK.hc hK.hG) ?_
  simp only [s201_0, s201_1, s201_7, s201_9, s201_12, s201_13, s201_16, s201_25, s201_26, s201_29, s201_30, s201_36, s201_37, s201_38, s201_41, s201_42, s201_45, s201_46, ldi_0, ldi_s, ldl_0, ldl_s, ldd_0, ldd_s, lda_0, lda_s, st1_0, st1_1, st2_0, st2_1, sti_0, sti_1, stj_0, stj_1, st1_2, sti_2, st2_2, stj_2, st1_3, sti_3, st2_3, stj_3, st1_4, sti_4, st2_4, stj_4, st1_5, sti_5, st2_5, stj_5, st1_6, sti_6, st2_6, stj_6, st1_7, sti_7, st2_7, stj_7, st1_8, sti_8, st2_8, stj_8, st1_9, sti_9, st2_9, stj_9, kil_n, kil_i, kil_r, kil_l, kil_d, gl_0, gl_s, cat_i, cat_r, true_and, gf_ob hK.hx]
  rw [nI_lit10, nI_ltI (by decide) (by omega)]
  refine ⟨fun h1 => ?_, fun h1 => ?_⟩
  · refine ⟨by decide, by omega, by omega, ?_, rfl, hK, Fr.refl⟩
    unfold dhF
    rw [decide_eq_true h1]
    rfl
  · refine c201_19r ho (sp_at hch hK.hG ho hfa) ?_
    refine c201_22r sp_absL ?_
    simp only [s201_0, s201_1, s201_7, s201_9, s201_12, s201_13, s201_16, s201_25, s201_26, s201_29, s201_30, s201_36, s201_37, s201_38, s201_41, s201_42, s201_45, s201_46, ldi_0, ldi_s, ldl_0, ldl_s, ldd_0, ldd_s, lda_0, lda_s, st1_0, st1_1, st2_0, st2_1, sti_0, sti_1, stj_0, stj_1, st1_2, sti_2, st2_2, stj_2, st1_3, sti_3, st2_3, stj_3, st1_4, sti_4, st2_4, stj_4, st1_5, sti_5, st2_5, stj_5, st1_6, sti_6, st2_6, stj_6, st1_7, sti_7, st2_7, stj_7, st1_8, sti_8, st2_8, stj_8, st1_9, sti_9, st2_9, stj_9, kil_n, kil_i, kil_r, kil_l, kil_d, gl_0, gl_s, cat_i, cat_r, true_and, gf_ob hK.hx]
    refine c201_33r d1 (sp_countRingless hK.hc hK.hG d1 d2 d3 d4 (by omega) (by omega) (by omega) (by omega) (by omega) (by omega)) ?_
    simp only [s201_0, s201_1, s201_7, s201_9, s201_12, s201_13, s201_16, s201_25, s201_26, s201_29, s201_30, s201_36, s201_37, s201_38, s201_41, s201_42, s201_45, s201_46, ldi_0, ldi_s, ldl_0, ldl_s, ldd_0, ldd_s, lda_0, lda_s, st1_0, st1_1, st2_0, st2_1, sti_0, sti_1, stj_0, stj_1, st1_2, sti_2, st2_2, stj_2, st1_3, sti_3, st2_3, stj_3, st1_4, sti_4, st2_4, stj_4, st1_5, sti_5, st2_5, stj_5, st1_6, sti_6, st2_6, stj_6, st1_7, sti_7, st2_7, stj_7, st1_8, sti_8, st2_8, stj_8, st1_9, sti_9, st2_9, stj_9, kil_n, kil_i, kil_r, kil_l, kil_d, gl_0, gl_s, cat_i, cat_r, true_and, lg_cmp_eq]
    have k2 := hK.wy (s := wyA G n (0, A, B) n)
    rw [show dir (wyA G n (0, A, B) n).2.1 (wyA G n (0, A, B) n).2.2 (wyA G n (0, A, B) n).1 0 (fun _ => 0) = d from hd A B]
    refine ⟨fun h2 => ?_, fun h2 => ?_⟩
    · refine ⟨by decide, by omega, by omega, ?_, rfl, k2.1, k2.2.mono (by omega) (by omega)⟩
      unfold dhF
      rw [decide_eq_false h1, decide_eq_false (show ¬ absL (atF n G (-1)) = (nI d).toInt64 from h2)]
      rfl
    · refine ⟨by decide, by omega, by omega, ?_, rfl, k2.1, k2.2.mono (by omega) (by omega)⟩
      unfold dhF
      rw [decide_eq_true (show absL (atF n G (-1)) = (nI d).toInt64 from Decidable.not_not.mp h2), Bool.or_true]
      rfl
/-- a way taken out, and its ends drawn together -/
def wyT (n : Nat) (G : Nat → Nat → Bool) (a b k : Nat) : Bool := decide (atF n G (nI k).toInt64 = atF n (gCut a b G) (nI k).toInt64 - atF (n - 1) (gDel b (gMrg a b n G)) (nI k).toInt64)
theorem K.htorn (hK : K h x c r c2 r2 n G sn SG) : Cht h (x + 22) := hK.2.2.2.2.2.2.2.2.2.2.2.1
theorem K.hdrawn (hK : K h x c r c2 r2 n G sn SG) : Cht h (x + 24) := hK.2.2.2.2.2.2.2.2.2.2.2.2.1
theorem K.htp (hK : K h x c r c2 r2 n G sn SG) : Po h (x + 26) := hK.2.2.2.2.2.2.2.2.2.2.2.2.2.1
theorem K.hdp (hK : K h x c r c2 r2 n G sn SG) : Po h (x + 32) := hK.2.2.2.2.2.2.2.2.2.2.2.2.2.2
theorem K.setT (hK : K h x c r c2 r2 n G sn SG) {n' : Nat} {G' : Nat → Nat → Bool} (hG : GOK n' G') : K (chSet h (x + 22) (x + 23) n' G') x c r c2 r2 n G sn SG ∧ Fr (x + 22) (x + 24) h (chSet h (x + 22) (x + 23) n' G') := by
  have hf : Fr (x + 22) (x + 24) h (chSet h (x + 22) (x + 23) n' G') := Fr.ch (by omega) (by omega) (by omega) (by omega)
  exact ⟨hK.torn hf ⟨n', G', chSet_at (by omega), hG⟩, hf⟩
theorem K.setD (hK : K h x c r c2 r2 n G sn SG) {n' : Nat} {G' : Nat → Nat → Bool} (hG : GOK n' G') : K (chSet h (x + 24) (x + 25) n' G') x c r c2 r2 n G sn SG ∧ Fr (x + 24) (x + 26) h (chSet h (x + 24) (x + 25) n' G') := by
  have hf : Fr (x + 24) (x + 26) h (chSet h (x + 24) (x + 25) n' G') := Fr.ch (by omega) (by omega) (by omega) (by omega)
  exact ⟨hK.drawn hf ⟨n', G', chSet_at (by omega), hG⟩, hf⟩
theorem sp_wayHolds (hK : K h x c r c2 r2 n G sn SG) (hP : PF h (x + 5) n G) {a b : Nat} (ha : a < n) (hb : b < n) (hab : a ≠ b) : Sp 15 203 [.ref x, .int (nI a), .int (nI b)] h z 0 0 (KP h x c r c2 r2 n G sn SG z (some (.int (bI (alF (wyT n G a b) 10))))) := by
  have e := hK.two'
  unfold Two at e
  have hn := hK.hG.1
  have gC : GOK n (gCut a b G) := gCut_ok hK.hG
  have gD : GOK (n - 1) (gDel b (gMrg a b n G)) := gDel_ok (gMrg_ok (a := a) (b := b) (k := n) hK.hG ha) hb
  obtain ⟨tn, tG, t1, t2⟩ := hK.htorn
  refine Sp_in (al := [some (.ref x), some (.int (nI a)), some (.int (nI b)), none]) ?_
  simp only [s203_0, s203_1, s203_4, s203_5, s203_11, s203_12, s203_15, s203_16, s203_20, s203_21, s203_24, s203_25, s203_31, s203_32, s203_35, s203_36, s203_42, s203_43, s203_46, s203_47, s203_51, s203_52, s203_55, s203_56, s203_62, s203_63, s203_65, s203_67, s203_70, s203_71, s203_74, s203_75, s203_79, s203_80, s203_83, s203_84, s203_88, s203_89, s203_92, s203_93, s203_97, s203_98, s203_99, s203_102, s203_103, s203_104, s203_107, s203_110, s203_111, ldi_0, ldi_s, ldl_0, ldl_s, ldd_0, ldd_s, lda_0, lda_s, st1_0, st1_1, st2_0, st2_1, sti_0, sti_1, stj_0, stj_1, st1_2, sti_2, st2_2, stj_2, st1_3, sti_3, st2_3, stj_3, st1_4, sti_4, st2_4, stj_4, st1_5, sti_5, st2_5, stj_5, st1_6, sti_6, st2_6, stj_6, st1_7, sti_7, st2_7, stj_7, st1_8, sti_8, st2_8, stj_8, st1_9, sti_9, st2_9, stj_9, kil_n, kil_i, kil_r, kil_l, kil_d, gl_0, gl_s, cat_i, cat_r, true_and, gf_ob hK.hx]
  refine c203_8r t1.1 (sp_copyFrom t1 t2 hK.hc hK.hG (by omega) (by omega)) ?_
  have k1 := hK.setT hK.hG
  have p1 := hP.fr (h' := chSet h (x + 22) (x + 23) n G) fun q _ _ => k1.2 q (by omega)
  have j1 : ChAt (chSet h (x + 22) (x + 23) n G) (x + 22) (x + 23) n G := chSet_at (by omega)
  have f1 : Fr (x + 11) (x + 38) h (chSet h (x + 22) (x + 23) n G) := k1.2.mono (by omega) (by omega)
  generalize chSet h (x + 22) (x + 23) n G = h1 at k1 p1 j1 f1 ⊢
  simp only [s203_0, s203_1, s203_4, s203_5, s203_11, s203_12, s203_15, s203_16, s203_20, s203_21, s203_24, s203_25, s203_31, s203_32, s203_35, s203_36, s203_42, s203_43, s203_46, s203_47, s203_51, s203_52, s203_55, s203_56, s203_62, s203_63, s203_65, s203_67, s203_70, s203_71, s203_74, s203_75, s203_79, s203_80, s203_83, s203_84, s203_88, s203_89, s203_92, s203_93, s203_97, s203_98, s203_99, s203_102, s203_103, s203_104, s203_107, s203_110, s203_111, ldi_0, ldi_s, ldl_0, ldl_s, ldd_0, ldd_s, lda_0, lda_s, st1_0, st1_1, st2_0, st2_1, sti_0, sti_1, stj_0, stj_1, st1_2, sti_2, st2_2, stj_2, st1_3, sti_3, st2_3, stj_3, st1_4, sti_4, st2_4, stj_4, st1_5, sti_5, st2_5, stj_5, st1_6, sti_6, st2_6, stj_6, st1_7, sti_7, st2_7, stj_7, st1_8, sti_8, st2_8, stj_8, st1_9, sti_9, st2_9, stj_9, kil_n, kil_i, kil_r, kil_l, kil_d, gl_0, gl_s, cat_i, cat_r, true_and, gf_ob k1.1.hx]
  refine c203_17r j1.1 (sp_cut j1 hK.hG ha hb) ?_
  have k2 := k1.1.setT gC
  have p2 := p1.fr (h' := chSet h1 (x + 22) (x + 23) n (gCut a b G)) fun q _ _ => k2.2 q (by omega)
  have j2 : ChAt (chSet h1 (x + 22) (x + 23) n (gCut a b G)) (x + 22) (x + 23) n (gCut a b G) := chSet_at (by omega)
  have f2 := f1.trans (k2.2.mono (lo' := x + 11) (hi' := x + 38) (by omega) (by omega))
  generalize chSet h1 (x + 22) (x + 23) n (gCut a b G) = h2 at k2 p2 j2 f2 ⊢
  simp only [s203_0, s203_1, s203_4, s203_5, s203_11, s203_12, s203_15, s203_16, s203_20, s203_21, s203_24, s203_25, s203_31, s203_32, s203_35, s203_36, s203_42, s203_43, s203_46, s203_47, s203_51, s203_52, s203_55, s203_56, s203_62, s203_63, s203_65, s203_67, s203_70, s203_71, s203_74, s203_75, s203_79, s203_80, s203_83, s203_84, s203_88, s203_89, s203_92, s203_93, s203_97, s203_98, s203_99, s203_102, s203_103, s203_104, s203_107, s203_110, s203_111, ldi_0, ldi_s, ldl_0, ldl_s, ldd_0, ldd_s, lda_0, lda_s, st1_0, st1_1, st2_0, st2_1, sti_0, sti_1, stj_0, stj_1, st1_2, sti_2, st2_2, stj_2, st1_3, sti_3, st2_3, stj_3, st1_4, sti_4, st2_4, stj_4, st1_5, sti_5, st2_5, stj_5, st1_6, sti_6, st2_6, stj_6, st1_7, sti_7, st2_7, stj_7, st1_8, sti_8, st2_8, stj_8, st1_9, sti_9, st2_9, stj_9, kil_n, kil_i, kil_r, kil_l, kil_d, gl_0, gl_s, cat_i, cat_r, true_and, gf_ob k2.1.hx]
  obtain ⟨tb, tn0, tG0, tR, tF, tpo, -⟩ := k2.1.htp
  refine c203_28r tpo (sp_read j2 gC k2.1.htp (by omega) (by omega) (by omega) (by omega) (by omega) (by omega) (by omega)) ?_
  rw [show rdH h2 (x + 26) (x + 26 + 1) (x + 26 + 2) (x + 26 + 3) (x + 26 + 4) (x + 26 + 5) n (gCut a b G) = RD h2 (x + 26) n (gCut a b G) from rfl]
  have r3 : Fr (x + 26) (x + 32) h2 (RD h2 (x + 26) n (gCut a b G)) := RD_Fr
  have k3 := k2.1.tpoly r3 (RD_Po gC k2.1.htp)
  have p3 := p2.fr (h' := RD h2 (x + 26) n (gCut a b G)) fun q _ _ => r3 q (by omega)
  have q3 : PF (RD h2 (x + 26) n (gCut a b G)) (x + 26) n (gCut a b G) := RD_PF
  have f3 := f2.trans (r3.mono (lo' := x + 11) (hi' := x + 38) (by omega) (by omega))
  generalize RD h2 (x + 26) n (gCut a b G) = h3 at k3 p3 q3 f3 ⊢
  obtain ⟨dn, dG, d1, d2⟩ := k3.hdrawn
  simp only [s203_0, s203_1, s203_4, s203_5, s203_11, s203_12, s203_15, s203_16, s203_20, s203_21, s203_24, s203_25, s203_31, s203_32, s203_35, s203_36, s203_42, s203_43, s203_46, s203_47, s203_51, s203_52, s203_55, s203_56, s203_62, s203_63, s203_65, s203_67, s203_70, s203_71, s203_74, s203_75, s203_79, s203_80, s203_83, s203_84, s203_88, s203_89, s203_92, s203_93, s203_97, s203_98, s203_99, s203_102, s203_103, s203_104, s203_107, s203_110, s203_111, ldi_0, ldi_s, ldl_0, ldl_s, ldd_0, ldd_s, lda_0, lda_s, st1_0, st1_1, st2_0, st2_1, sti_0, sti_1, stj_0, stj_1, st1_2, sti_2, st2_2, stj_2, st1_3, sti_3, st2_3, stj_3, st1_4, sti_4, st2_4, stj_4, st1_5, sti_5, st2_5, stj_5, st1_6, sti_6, st2_6, stj_6, st1_7, sti_7, st2_7, stj_7, st1_8, sti_8, st2_8, stj_8, st1_9, sti_9, st2_9, stj_9, kil_n, kil_i, kil_r, kil_l, kil_d, gl_0, gl_s, cat_i, cat_r, true_and, gf_ob k3.hx]
  refine c203_39r d1.1 (sp_copyFrom d1 d2 k3.hc k3.hG (by omega) (by omega)) ?_
  have k4 := k3.setD k3.hG
  have p4 := p3.fr (h' := chSet h3 (x + 24) (x + 25) n G) fun q _ _ => k4.2 q (by omega)
  have q4 := q3.fr (h' := chSet h3 (x + 24) (x + 25) n G) fun q _ _ => k4.2 q (by omega)
  have j4 : ChAt (chSet h3 (x + 24) (x + 25) n G) (x + 24) (x + 25) n G := chSet_at (by omega)
  have f4 := f3.trans (k4.2.mono (lo' := x + 11) (hi' := x + 38) (by omega) (by omega))
  generalize chSet h3 (x + 24) (x + 25) n G = h4 at k4 p4 q4 j4 f4 ⊢
  simp only [s203_0, s203_1, s203_4, s203_5, s203_11, s203_12, s203_15, s203_16, s203_20, s203_21, s203_24, s203_25, s203_31, s203_32, s203_35, s203_36, s203_42, s203_43, s203_46, s203_47, s203_51, s203_52, s203_55, s203_56, s203_62, s203_63, s203_65, s203_67, s203_70, s203_71, s203_74, s203_75, s203_79, s203_80, s203_83, s203_84, s203_88, s203_89, s203_92, s203_93, s203_97, s203_98, s203_99, s203_102, s203_103, s203_104, s203_107, s203_110, s203_111, ldi_0, ldi_s, ldl_0, ldl_s, ldd_0, ldd_s, lda_0, lda_s, st1_0, st1_1, st2_0, st2_1, sti_0, sti_1, stj_0, stj_1, st1_2, sti_2, st2_2, stj_2, st1_3, sti_3, st2_3, stj_3, st1_4, sti_4, st2_4, stj_4, st1_5, sti_5, st2_5, stj_5, st1_6, sti_6, st2_6, stj_6, st1_7, sti_7, st2_7, stj_7, st1_8, sti_8, st2_8, stj_8, st1_9, sti_9, st2_9, stj_9, kil_n, kil_i, kil_r, kil_l, kil_d, gl_0, gl_s, cat_i, cat_r, true_and, gf_ob k4.1.hx]
  refine c203_48r j4.1 (sp_merge j4 hK.hG ha hb hab) ?_
  have k5 := k4.1.setD gD
  have p5 := p4.fr (h' := chSet h4 (x + 24) (x + 25) (n - 1) (gDel b (gMrg a b n G))) fun q _ _ => k5.2 q (by omega)
  have q5 := q4.fr (h' := chSet h4 (x + 24) (x + 25) (n - 1) (gDel b (gMrg a b n G))) fun q _ _ => k5.2 q (by omega)
  have j5 : ChAt (chSet h4 (x + 24) (x + 25) (n - 1) (gDel b (gMrg a b n G))) (x + 24) (x + 25) (n - 1) (gDel b (gMrg a b n G)) := chSet_at (by omega)
  have f5 := f4.trans (k5.2.mono (lo' := x + 11) (hi' := x + 38) (by omega) (by omega))
  generalize chSet h4 (x + 24) (x + 25) (n - 1) (gDel b (gMrg a b n G)) = h5 at k5 p5 q5 j5 f5 ⊢
  simp only [s203_0, s203_1, s203_4, s203_5, s203_11, s203_12, s203_15, s203_16, s203_20, s203_21, s203_24, s203_25, s203_31, s203_32, s203_35, s203_36, s203_42, s203_43, s203_46, s203_47, s203_51, s203_52, s203_55, s203_56, s203_62, s203_63, s203_65, s203_67, s203_70, s203_71, s203_74, s203_75, s203_79, s203_80, s203_83, s203_84, s203_88, s203_89, s203_92, s203_93, s203_97, s203_98, s203_99, s203_102, s203_103, s203_104, s203_107, s203_110, s203_111, ldi_0, ldi_s, ldl_0, ldl_s, ldd_0, ldd_s, lda_0, lda_s, st1_0, st1_1, st2_0, st2_1, sti_0, sti_1, stj_0, stj_1, st1_2, sti_2, st2_2, stj_2, st1_3, sti_3, st2_3, stj_3, st1_4, sti_4, st2_4, stj_4, st1_5, sti_5, st2_5, stj_5, st1_6, sti_6, st2_6, stj_6, st1_7, sti_7, st2_7, stj_7, st1_8, sti_8, st2_8, stj_8, st1_9, sti_9, st2_9, stj_9, kil_n, kil_i, kil_r, kil_l, kil_d, gl_0, gl_s, cat_i, cat_r, true_and, gf_ob k5.1.hx]
  obtain ⟨db, dn0, dG0, dR, dF, dpo, -⟩ := k5.1.hdp
  refine c203_59r dpo (sp_read j5 gD k5.1.hdp (by omega) (by omega) (by omega) (by omega) (by omega) (by omega) (by omega)) ?_
  rw [show rdH h5 (x + 32) (x + 32 + 1) (x + 32 + 2) (x + 32 + 3) (x + 32 + 4) (x + 32 + 5) (n - 1) (gDel b (gMrg a b n G)) = RD h5 (x + 32) (n - 1) (gDel b (gMrg a b n G)) from rfl]
  have r6 : Fr (x + 32) (x + 38) h5 (RD h5 (x + 32) (n - 1) (gDel b (gMrg a b n G))) := RD_Fr
  have k6 := k5.1.dpoly r6 (RD_Po gD k5.1.hdp)
  have p6 := p5.fr (h' := RD h5 (x + 32) (n - 1) (gDel b (gMrg a b n G))) fun q _ _ => r6 q (by omega)
  have q6 := q5.fr (h' := RD h5 (x + 32) (n - 1) (gDel b (gMrg a b n G))) fun q _ _ => r6 q (by omega)
  have s6 : PF (RD h5 (x + 32) (n - 1) (gDel b (gMrg a b n G))) (x + 32) (n - 1) (gDel b (gMrg a b n G)) := RD_PF
  have f6 := f5.trans (r6.mono (lo' := x + 11) (hi' := x + 38) (by omega) (by omega))
  generalize RD h5 (x + 32) (n - 1) (gDel b (gMrg a b n G)) = h6 at k6 p6 q6 s6 f6 ⊢
  simp only [s203_0, s203_1, s203_4, s203_5, s203_11, s203_12, s203_15, s203_16, s203_20, s203_21, s203_24, s203_25, s203_31, s203_32, s203_35, s203_36, s203_42, s203_43, s203_46, s203_47, s203_51, s203_52, s203_55, s203_56, s203_62, s203_63, s203_65, s203_67, s203_70, s203_71, s203_74, s203_75, s203_79, s203_80, s203_83, s203_84, s203_88, s203_89, s203_92, s203_93, s203_97, s203_98, s203_99, s203_102, s203_103, s203_104, s203_107, s203_110, s203_111, ldi_0, ldi_s, ldl_0, ldl_s, ldd_0, ldd_s, lda_0, lda_s, st1_0, st1_1, st2_0, st2_1, sti_0, sti_1, stj_0, stj_1, st1_2, sti_2, st2_2, stj_2, st1_3, sti_3, st2_3, stj_3, st1_4, sti_4, st2_4, stj_4, st1_5, sti_5, st2_5, stj_5, st1_6, sti_6, st2_6, stj_6, st1_7, sti_7, st2_7, stj_7, st1_8, sti_8, st2_8, stj_8, st1_9, sti_9, st2_9, stj_9, kil_n, kil_i, kil_r, kil_l, kil_d, gl_0, gl_s, cat_i, cat_r, true_and]
  obtain ⟨p6a, p6b, p6c, p6d⟩ := p6
  obtain ⟨q6a, q6b, q6c, q6d⟩ := q6
  obtain ⟨s6a, s6b, s6c, s6d⟩ := s6
  have key : ∀ k, k ≤ 10 → alF (wyT n G a b) k = true → aW (Sp 14) 203 0 0 (KP h x c r c2 r2 n G sn SG z (some (.int (bI (alF (wyT n G a b) 10))))) 64 [some (.ref x), some (.int (nI a)), some (.int (nI b)), some (.int (nI k))] [] h6 z 0 0 := by
    refine aUp ?_ fun k hk ih => ?_
    · intro e
      rw [s203_64]
      simp only [s203_0, s203_1, s203_4, s203_5, s203_11, s203_12, s203_15, s203_16, s203_20, s203_21, s203_24, s203_25, s203_31, s203_32, s203_35, s203_36, s203_42, s203_43, s203_46, s203_47, s203_51, s203_52, s203_55, s203_56, s203_62, s203_63, s203_65, s203_67, s203_70, s203_71, s203_74, s203_75, s203_79, s203_80, s203_83, s203_84, s203_88, s203_89, s203_92, s203_93, s203_97, s203_98, s203_99, s203_102, s203_103, s203_104, s203_107, s203_110, s203_111, ldi_0, ldi_s, ldl_0, ldl_s, ldd_0, ldd_s, lda_0, lda_s, st1_0, st1_1, st2_0, st2_1, sti_0, sti_1, stj_0, stj_1, st1_2, sti_2, st2_2, stj_2, st1_3, sti_3, st2_3, stj_3, st1_4, sti_4, st2_4, stj_4, st1_5, sti_5, st2_5, stj_5, st1_6, sti_6, st2_6, stj_6, st1_7, sti_7, st2_7, stj_7, st1_8, sti_8, st2_8, stj_8, st1_9, sti_9, st2_9, stj_9, kil_n, kil_i, kil_r, kil_l, kil_d, gl_0, gl_s, cat_i, cat_r, true_and]
      rw [br_1 (by decide), e]
      exact ⟨by decide, by omega, by omega, rfl, rfl, k6, f6⟩
    · intro e2
      rw [s203_64]
      simp only [s203_0, s203_1, s203_4, s203_5, s203_11, s203_12, s203_15, s203_16, s203_20, s203_21, s203_24, s203_25, s203_31, s203_32, s203_35, s203_36, s203_42, s203_43, s203_46, s203_47, s203_51, s203_52, s203_55, s203_56, s203_62, s203_63, s203_65, s203_67, s203_70, s203_71, s203_74, s203_75, s203_79, s203_80, s203_83, s203_84, s203_88, s203_89, s203_92, s203_93, s203_97, s203_98, s203_99, s203_102, s203_103, s203_104, s203_107, s203_110, s203_111, ldi_0, ldi_s, ldl_0, ldl_s, ldd_0, ldd_s, lda_0, lda_s, st1_0, st1_1, st2_0, st2_1, sti_0, sti_1, stj_0, stj_1, st1_2, sti_2, st2_2, stj_2, st1_3, sti_3, st2_3, stj_3, st1_4, sti_4, st2_4, stj_4, st1_5, sti_5, st2_5, stj_5, st1_6, sti_6, st2_6, stj_6, st1_7, sti_7, st2_7, stj_7, st1_8, sti_8, st2_8, stj_8, st1_9, sti_9, st2_9, stj_9, kil_n, kil_i, kil_r, kil_l, kil_d, gl_0, gl_s, cat_i, cat_r, true_and, gf_ob k6.hx]
      rw [nI_lit9, br_0 (nI_nlt (show k ≤ 9 by omega) (by decide))]
      refine c203_76r p6a (sp_at p6b hK.hG p6a p6d) ?_
      simp only [s203_0, s203_1, s203_4, s203_5, s203_11, s203_12, s203_15, s203_16, s203_20, s203_21, s203_24, s203_25, s203_31, s203_32, s203_35, s203_36, s203_42, s203_43, s203_46, s203_47, s203_51, s203_52, s203_55, s203_56, s203_62, s203_63, s203_65, s203_67, s203_70, s203_71, s203_74, s203_75, s203_79, s203_80, s203_83, s203_84, s203_88, s203_89, s203_92, s203_93, s203_97, s203_98, s203_99, s203_102, s203_103, s203_104, s203_107, s203_110, s203_111, ldi_0, ldi_s, ldl_0, ldl_s, ldd_0, ldd_s, lda_0, lda_s, st1_0, st1_1, st2_0, st2_1, sti_0, sti_1, stj_0, stj_1, st1_2, sti_2, st2_2, stj_2, st1_3, sti_3, st2_3, stj_3, st1_4, sti_4, st2_4, stj_4, st1_5, sti_5, st2_5, stj_5, st1_6, sti_6, st2_6, stj_6, st1_7, sti_7, st2_7, stj_7, st1_8, sti_8, st2_8, stj_8, st1_9, sti_9, st2_9, stj_9, kil_n, kil_i, kil_r, kil_l, kil_d, gl_0, gl_s, cat_i, cat_r, true_and, gf_ob k6.hx]
      refine c203_85r q6a (sp_at q6b gC q6a q6d) ?_
      simp only [s203_0, s203_1, s203_4, s203_5, s203_11, s203_12, s203_15, s203_16, s203_20, s203_21, s203_24, s203_25, s203_31, s203_32, s203_35, s203_36, s203_42, s203_43, s203_46, s203_47, s203_51, s203_52, s203_55, s203_56, s203_62, s203_63, s203_65, s203_67, s203_70, s203_71, s203_74, s203_75, s203_79, s203_80, s203_83, s203_84, s203_88, s203_89, s203_92, s203_93, s203_97, s203_98, s203_99, s203_102, s203_103, s203_104, s203_107, s203_110, s203_111, ldi_0, ldi_s, ldl_0, ldl_s, ldd_0, ldd_s, lda_0, lda_s, st1_0, st1_1, st2_0, st2_1, sti_0, sti_1, stj_0, stj_1, st1_2, sti_2, st2_2, stj_2, st1_3, sti_3, st2_3, stj_3, st1_4, sti_4, st2_4, stj_4, st1_5, sti_5, st2_5, stj_5, st1_6, sti_6, st2_6, stj_6, st1_7, sti_7, st2_7, stj_7, st1_8, sti_8, st2_8, stj_8, st1_9, sti_9, st2_9, stj_9, kil_n, kil_i, kil_r, kil_l, kil_d, gl_0, gl_s, cat_i, cat_r, true_and, gf_ob k6.hx]
      refine c203_94r s6a (sp_at s6b gD s6a s6d) ?_
      simp only [s203_0, s203_1, s203_4, s203_5, s203_11, s203_12, s203_15, s203_16, s203_20, s203_21, s203_24, s203_25, s203_31, s203_32, s203_35, s203_36, s203_42, s203_43, s203_46, s203_47, s203_51, s203_52, s203_55, s203_56, s203_62, s203_63, s203_65, s203_67, s203_70, s203_71, s203_74, s203_75, s203_79, s203_80, s203_83, s203_84, s203_88, s203_89, s203_92, s203_93, s203_97, s203_98, s203_99, s203_102, s203_103, s203_104, s203_107, s203_110, s203_111, ldi_0, ldi_s, ldl_0, ldl_s, ldd_0, ldd_s, lda_0, lda_s, st1_0, st1_1, st2_0, st2_1, sti_0, sti_1, stj_0, stj_1, st1_2, sti_2, st2_2, stj_2, st1_3, sti_3, st2_3, stj_3, st1_4, sti_4, st2_4, stj_4, st1_5, sti_5, st2_5, stj_5, st1_6, sti_6, st2_6, stj_6, st1_7, sti_7, st2_7, stj_7, st1_8, sti_8, st2_8, stj_8, st1_9, sti_9, st2_9, stj_9, kil_n, kil_i, kil_r, kil_l, kil_d, gl_0, gl_s, cat_i, cat_r, true_and, lg_cmp_eq, nI_1]
      have ec : alF (wyT n G a b) (k + 1) = wyT n G a b k := by
        show (alF (wyT n G a b) k && wyT n G a b k) = _
        rw [e2, Bool.true_and]
      refine ⟨fun h1 => ?_, fun h1 => ?_⟩
      · exact ih (by rw [ec]; exact decide_eq_true h1)
      · exact ⟨by decide, by omega, by omega, by rw [alF_f (i := k + 1) (by rw [ec]; exact decide_eq_false h1) (show k + 1 ≤ 10 from hk)]; rfl, rfl, k6, f6⟩
  exact key 0 (by omega) rfl
/-- the first way's test, looked for from place n - j on, b from n - i on -/
def fwB (n : Nat) (G : Nat → Nat → Bool) (a : Nat) (els : Bool) : Nat → Bool
  | 0 => els
  | i + 1 => if G a (n - (i + 1)) then alF (wyT n G a (n - (i + 1))) 10 else fwB n G a els i
def fwA (n : Nat) (G : Nat → Nat → Bool) : Nat → Bool
  | 0 => true
  | j + 1 => fwB n G (n - (j + 1)) (fwA n G j) j
theorem sp_firstWay (hK : K h x c r c2 r2 n G sn SG) (hP : PF h (x + 5) n G) : Sp 16 202 [.ref x] h z 0 0 (KP h x c r c2 r2 n G sn SG z (some (.int (bI (fwA n G n))))) := by
  have hn := hK.hG.1
  refine Sp_in (al := [some (.ref x), none, none]) ?_
  simp only [s202_0, s202_1, s202_3, s202_4, s202_10, s202_13, s202_14, s202_15, s202_16, s202_18, s202_19, s202_25, s202_28, s202_29, s202_32, s202_33, s202_37, s202_40, s202_41, s202_42, s202_46, s202_47, s202_50, s202_53, s202_56, s202_59, s202_60, ldi_0, ldi_s, ldl_0, ldl_s, ldd_0, ldd_s, lda_0, lda_s, st1_0, st1_1, st2_0, st2_1, sti_0, sti_1, stj_0, stj_1, st1_2, sti_2, st2_2, stj_2, st1_3, sti_3, st2_3, stj_3, st1_4, sti_4, st2_4, stj_4, st1_5, sti_5, st2_5, stj_5, st1_6, sti_6, st2_6, stj_6, st1_7, sti_7, st2_7, stj_7, st1_8, sti_8, st2_8, stj_8, st1_9, sti_9, st2_9, stj_9, kil_n, kil_i, kil_r, kil_l, kil_d, gl_0, gl_s, cat_i, cat_r, true_and]
  have key : ∀ a, a ≤ n → fwA n G n = fwA n G (n - a) → ∀ b : Option Value, aW (Sp 15) 202 0 0 (KP h x c r c2 r2 n G sn SG z (some (.int (bI (fwA n G n))))) 2 [some (.ref x), some (.int (nI a)), b] [] h z 0 0 := by
    refine aUp ?_ fun a ha ih => ?_
    · intro e b
      rw [s202_2]
      simp only [s202_0, s202_1, s202_3, s202_4, s202_10, s202_13, s202_14, s202_15, s202_16, s202_18, s202_19, s202_25, s202_28, s202_29, s202_32, s202_33, s202_37, s202_40, s202_41, s202_42, s202_46, s202_47, s202_50, s202_53, s202_56, s202_59, s202_60, ldi_0, ldi_s, ldl_0, ldl_s, ldd_0, ldd_s, lda_0, lda_s, st1_0, st1_1, st2_0, st2_1, sti_0, sti_1, stj_0, stj_1, st1_2, sti_2, st2_2, stj_2, st1_3, sti_3, st2_3, stj_3, st1_4, sti_4, st2_4, stj_4, st1_5, sti_5, st2_5, stj_5, st1_6, sti_6, st2_6, stj_6, st1_7, sti_7, st2_7, stj_7, st1_8, sti_8, st2_8, stj_8, st1_9, sti_9, st2_9, stj_9, kil_n, kil_i, kil_r, kil_l, kil_d, gl_0, gl_s, cat_i, cat_r, true_and, gf_ob hK.hx]
      refine c202_7r hK.hc.1 (sp_size hK.hc.1) ?_
      simp only [s202_0, s202_1, s202_3, s202_4, s202_10, s202_13, s202_14, s202_15, s202_16, s202_18, s202_19, s202_25, s202_28, s202_29, s202_32, s202_33, s202_37, s202_40, s202_41, s202_42, s202_46, s202_47, s202_50, s202_53, s202_56, s202_59, s202_60, ldi_0, ldi_s, ldl_0, ldl_s, ldd_0, ldd_s, lda_0, lda_s, st1_0, st1_1, st2_0, st2_1, sti_0, sti_1, stj_0, stj_1, st1_2, sti_2, st2_2, stj_2, st1_3, sti_3, st2_3, stj_3, st1_4, sti_4, st2_4, stj_4, st1_5, sti_5, st2_5, stj_5, st1_6, sti_6, st2_6, stj_6, st1_7, sti_7, st2_7, stj_7, st1_8, sti_8, st2_8, stj_8, st1_9, sti_9, st2_9, stj_9, kil_n, kil_i, kil_r, kil_l, kil_d, gl_0, gl_s, cat_i, cat_r, true_and]
      rw [br_1 (nI_le (Nat.le_refl _) (by omega)), e, Nat.sub_self]
      exact ⟨by decide, by omega, by omega, rfl, rfl, hK, Fr.refl⟩
    · intro e b
      rw [s202_2]
      simp only [s202_0, s202_1, s202_3, s202_4, s202_10, s202_13, s202_14, s202_15, s202_16, s202_18, s202_19, s202_25, s202_28, s202_29, s202_32, s202_33, s202_37, s202_40, s202_41, s202_42, s202_46, s202_47, s202_50, s202_53, s202_56, s202_59, s202_60, ldi_0, ldi_s, ldl_0, ldl_s, ldd_0, ldd_s, lda_0, lda_s, st1_0, st1_1, st2_0, st2_1, sti_0, sti_1, stj_0, stj_1, st1_2, sti_2, st2_2, stj_2, st1_3, sti_3, st2_3, stj_3, st1_4, sti_4, st2_4, stj_4, st1_5, sti_5, st2_5, stj_5, st1_6, sti_6, st2_6, stj_6, st1_7, sti_7, st2_7, stj_7, st1_8, sti_8, st2_8, stj_8, st1_9, sti_9, st2_9, stj_9, kil_n, kil_i, kil_r, kil_l, kil_d, gl_0, gl_s, cat_i, cat_r, true_and, gf_ob hK.hx]
      refine c202_7r hK.hc.1 (sp_size hK.hc.1) ?_
      simp only [s202_0, s202_1, s202_3, s202_4, s202_10, s202_13, s202_14, s202_15, s202_16, s202_18, s202_19, s202_25, s202_28, s202_29, s202_32, s202_33, s202_37, s202_40, s202_41, s202_42, s202_46, s202_47, s202_50, s202_53, s202_56, s202_59, s202_60, ldi_0, ldi_s, ldl_0, ldl_s, ldd_0, ldd_s, lda_0, lda_s, st1_0, st1_1, st2_0, st2_1, sti_0, sti_1, stj_0, stj_1, st1_2, sti_2, st2_2, stj_2, st1_3, sti_3, st2_3, stj_3, st1_4, sti_4, st2_4, stj_4, st1_5, sti_5, st2_5, stj_5, st1_6, sti_6, st2_6, stj_6, st1_7, sti_7, st2_7, stj_7, st1_8, sti_8, st2_8, stj_8, st1_9, sti_9, st2_9, stj_9, kil_n, kil_i, kil_r, kil_l, kil_d, gl_0, gl_s, cat_i, cat_r, true_and]
      rw [br_0 (nI_ge ha (by omega)), nI_1]
      rw [show n - a = (n - (a + 1)) + 1 by omega] at e
      have e2 : fwA n G ((n - (a + 1)) + 1) = fwB n G (n - ((n - (a + 1)) + 1)) (fwA n G (n - (a + 1))) (n - (a + 1)) := rfl
      rw [e2, show n - ((n - (a + 1)) + 1) = a by omega] at e
      have inn : ∀ b, b ≤ n → a < b → fwA n G n = fwB n G a (fwA n G (n - (a + 1))) (n - b) → aW (Sp 15) 202 0 0 (KP h x c r c2 r2 n G sn SG z (some (.int (bI (fwA n G n))))) 17 [some (.ref x), some (.int (nI a)), some (.int (nI b))] [] h z 0 0 := by
        refine aUp ?_ fun b hb ihb => ?_
        · intro _ eb
          rw [s202_17]
          simp only [s202_0, s202_1, s202_3, s202_4, s202_10, s202_13, s202_14, s202_15, s202_16, s202_18, s202_19, s202_25, s202_28, s202_29, s202_32, s202_33, s202_37, s202_40, s202_41, s202_42, s202_46, s202_47, s202_50, s202_53, s202_56, s202_59, s202_60, ldi_0, ldi_s, ldl_0, ldl_s, ldd_0, ldd_s, lda_0, lda_s, st1_0, st1_1, st2_0, st2_1, sti_0, sti_1, stj_0, stj_1, st1_2, sti_2, st2_2, stj_2, st1_3, sti_3, st2_3, stj_3, st1_4, sti_4, st2_4, stj_4, st1_5, sti_5, st2_5, stj_5, st1_6, sti_6, st2_6, stj_6, st1_7, sti_7, st2_7, stj_7, st1_8, sti_8, st2_8, stj_8, st1_9, sti_9, st2_9, stj_9, kil_n, kil_i, kil_r, kil_l, kil_d, gl_0, gl_s, cat_i, cat_r, true_and, gf_ob hK.hx]
          refine c202_22r hK.hc.1 (sp_size hK.hc.1) ?_
          simp only [s202_0, s202_1, s202_3, s202_4, s202_10, s202_13, s202_14, s202_15, s202_16, s202_18, s202_19, s202_25, s202_28, s202_29, s202_32, s202_33, s202_37, s202_40, s202_41, s202_42, s202_46, s202_47, s202_50, s202_53, s202_56, s202_59, s202_60, ldi_0, ldi_s, ldl_0, ldl_s, ldd_0, ldd_s, lda_0, lda_s, st1_0, st1_1, st2_0, st2_1, sti_0, sti_1, stj_0, stj_1, st1_2, sti_2, st2_2, stj_2, st1_3, sti_3, st2_3, stj_3, st1_4, sti_4, st2_4, stj_4, st1_5, sti_5, st2_5, stj_5, st1_6, sti_6, st2_6, stj_6, st1_7, sti_7, st2_7, stj_7, st1_8, sti_8, st2_8, stj_8, st1_9, sti_9, st2_9, stj_9, kil_n, kil_i, kil_r, kil_l, kil_d, gl_0, gl_s, cat_i, cat_r, true_and, nI_1]
          rw [br_1 (nI_le (Nat.le_refl _) (by omega))]
          rw [Nat.sub_self] at eb
          exact ih eb _
        · intro hab eb
          rw [show n - b = (n - (b + 1)) + 1 by omega] at eb
          have e3 : fwB n G a (fwA n G (n - (a + 1))) ((n - (b + 1)) + 1) = if G a (n - ((n - (b + 1)) + 1)) then alF (wyT n G a (n - ((n - (b + 1)) + 1))) 10 else fwB n G a (fwA n G (n - (a + 1))) (n - (b + 1)) := rfl
          rw [e3, show n - ((n - (b + 1)) + 1) = b by omega] at eb
          rw [s202_17]
          simp only [s202_0, s202_1, s202_3, s202_4, s202_10, s202_13, s202_14, s202_15, s202_16, s202_18, s202_19, s202_25, s202_28, s202_29, s202_32, s202_33, s202_37, s202_40, s202_41, s202_42, s202_46, s202_47, s202_50, s202_53, s202_56, s202_59, s202_60, ldi_0, ldi_s, ldl_0, ldl_s, ldd_0, ldd_s, lda_0, lda_s, st1_0, st1_1, st2_0, st2_1, sti_0, sti_1, stj_0, stj_1, st1_2, sti_2, st2_2, stj_2, st1_3, sti_3, st2_3, stj_3, st1_4, sti_4, st2_4, stj_4, st1_5, sti_5, st2_5, stj_5, st1_6, sti_6, st2_6, stj_6, st1_7, sti_7, st2_7, stj_7, st1_8, sti_8, st2_8, stj_8, st1_9, sti_9, st2_9, stj_9, kil_n, kil_i, kil_r, kil_l, kil_d, gl_0, gl_s, cat_i, cat_r, true_and, gf_ob hK.hx]
          refine c202_22r hK.hc.1 (sp_size hK.hc.1) ?_
          simp only [s202_0, s202_1, s202_3, s202_4, s202_10, s202_13, s202_14, s202_15, s202_16, s202_18, s202_19, s202_25, s202_28, s202_29, s202_32, s202_33, s202_37, s202_40, s202_41, s202_42, s202_46, s202_47, s202_50, s202_53, s202_56, s202_59, s202_60, ldi_0, ldi_s, ldl_0, ldl_s, ldd_0, ldd_s, lda_0, lda_s, st1_0, st1_1, st2_0, st2_1, sti_0, sti_1, stj_0, stj_1, st1_2, sti_2, st2_2, stj_2, st1_3, sti_3, st2_3, stj_3, st1_4, sti_4, st2_4, stj_4, st1_5, sti_5, st2_5, stj_5, st1_6, sti_6, st2_6, stj_6, st1_7, sti_7, st2_7, stj_7, st1_8, sti_8, st2_8, stj_8, st1_9, sti_9, st2_9, stj_9, kil_n, kil_i, kil_r, kil_l, kil_d, gl_0, gl_s, cat_i, cat_r, true_and, gf_ob hK.hx]
          rw [br_0 (nI_ge hb (by omega))]
          refine c202_34r hK.hc.1 (sp_joined hK.hc hK.hG ha hb) ?_
          simp only [s202_0, s202_1, s202_3, s202_4, s202_10, s202_13, s202_14, s202_15, s202_16, s202_18, s202_19, s202_25, s202_28, s202_29, s202_32, s202_33, s202_37, s202_40, s202_41, s202_42, s202_46, s202_47, s202_50, s202_53, s202_56, s202_59, s202_60, ldi_0, ldi_s, ldl_0, ldl_s, ldd_0, ldd_s, lda_0, lda_s, st1_0, st1_1, st2_0, st2_1, sti_0, sti_1, stj_0, stj_1, st1_2, sti_2, st2_2, stj_2, st1_3, sti_3, st2_3, stj_3, st1_4, sti_4, st2_4, stj_4, st1_5, sti_5, st2_5, stj_5, st1_6, sti_6, st2_6, stj_6, st1_7, sti_7, st2_7, stj_7, st1_8, sti_8, st2_8, stj_8, st1_9, sti_9, st2_9, stj_9, kil_n, kil_i, kil_r, kil_l, kil_d, gl_0, gl_s, cat_i, cat_r, true_and, nI_1, bI_0]
          refine ⟨fun h1 => ?_, fun h1 => ?_⟩
          · rw [if_neg (by rw [h1]; decide)] at eb
            exact ihb (by omega) eb
          · rw [if_pos (by simpa using h1)] at eb
            refine c202_43 hK.hx (sp_wayHolds hK hP ha hb (by omega)) (by omega) (by omega) ?_
            rintro _ h' z ⟨rfl, rfl, hK2, hF2⟩
            show aW (Sp 15) 202 0 0 _ 46 _ _ _ _ _ _
            simp only [s202_0, s202_1, s202_3, s202_4, s202_10, s202_13, s202_14, s202_15, s202_16, s202_18, s202_19, s202_25, s202_28, s202_29, s202_32, s202_33, s202_37, s202_40, s202_41, s202_42, s202_46, s202_47, s202_50, s202_53, s202_56, s202_59, s202_60, ldi_0, ldi_s, ldl_0, ldl_s, ldd_0, ldd_s, lda_0, lda_s, st1_0, st1_1, st2_0, st2_1, sti_0, sti_1, stj_0, stj_1, st1_2, sti_2, st2_2, stj_2, st1_3, sti_3, st2_3, stj_3, st1_4, sti_4, st2_4, stj_4, st1_5, sti_5, st2_5, stj_5, st1_6, sti_6, st2_6, stj_6, st1_7, sti_7, st2_7, stj_7, st1_8, sti_8, st2_8, stj_8, st1_9, sti_9, st2_9, stj_9, kil_n, kil_i, kil_r, kil_l, kil_d, gl_0, gl_s, cat_i, cat_r, true_and]
            exact ⟨nar_bI _, by omega, by omega, by rw [eb], rfl, hK2, hF2⟩
      exact inn (a + 1) (by omega) (by omega) e
  exact key 0 (by omega) rfl none
def fhF (n : Nat) (G : Nat → Nat → Bool) : Bool := decide (decide (0 < atF n G 2) = decide ((norF n G n).1 &&& (norF n G n).2 = 0)) && decide (n ≤ fsp (ptn n G) n n * mxF (apF n G) (2 ^ n)) && decide (mxF (togF n G) (2 ^ n) ≤ fsp (ptn n G) n n) && decide (fsp (ptn n G) n n ≤ mxR (colF G) n)
theorem fsp_le {R : Nat → Nat} {n : Nat} (j : Nat) : fsp R n j ≤ n := by
  induction j with
  | zero => exact Nat.le_refl _
  | succ j ih =>
    unfold fsp
    split
    · exact ih
    · omega
theorem mxR_congr {R R' : Nat → Nat} (p : Nat) (h : ∀ q, q < p → R q = R' q) : mxR R p = mxR R' p := by
  induction p with
  | zero => rfl
  | succ p ih =>
    unfold mxR
    rw [ih fun q hq => h q (by omega), h p (by omega)]
theorem sp_fewestHolds (hK : K h x c r c2 r2 n G sn SG) (hP : PF h (x + 5) n G) : Sp 8 204 [.ref x] h z 0 0 (KP h x c r c2 r2 n G sn SG z (some (.int (bI (fhF n G))))) := by
  have e := hK.two'
  unfold Two at e
  have hn := hK.hG.1
  have hf := fsp_le (R := ptn n G) (n := n) n
  have hm := mxF_le (f := apF n G) (2 ^ n)
  have hm2 := mxF_le (f := togF n G) (2 ^ n)
  obtain ⟨ho, hch, hpa, hfa⟩ := hP
  obtain ⟨R, hR⟩ := hK.hcols.2.1
  refine Sp_in (al := [some (.ref x), none]) ?_
  simp only [s204_0, s204_1, s204_7, s204_8, s204_9, s204_12, s204_18, s204_19, s204_20, s204_23, s204_24, s204_27, s204_28, s204_29, s204_35, s204_38, s204_39, s204_45, s204_46, s204_47, s204_53, s204_54, s204_57, s204_58, s204_59, s204_65, s204_68, s204_69, s204_72, s204_73, s204_79, s204_80, s204_83, s204_84, s204_87, s204_88, ldi_0, ldi_s, ldl_0, ldl_s, ldd_0, ldd_s, lda_0, lda_s, st1_0, st1_1, st2_0, st2_1, sti_0, sti_1, stj_0, stj_1, st1_2, sti_2, st2_2, stj_2, st1_3, sti_3, st2_3, stj_3, st1_4, sti_4, st2_4, stj_4, st1_5, sti_5, st2_5, stj_5, st1_6, sti_6, st2_6, stj_6, st1_7, sti_7, st2_7, stj_7, st1_8, sti_8, st2_8, stj_8, st1_9, sti_9, st2_9, stj_9, kil_n, kil_i, kil_r, kil_l, kil_d, gl_0, gl_s, cat_i, cat_r, true_and, gf_ob hK.hx]
  refine c204_4r ho (sp_leastSets hch hK.hG ho hpa (ptn_lt hn)) ?_
  simp only [s204_0, s204_1, s204_7, s204_8, s204_9, s204_12, s204_18, s204_19, s204_20, s204_23, s204_24, s204_27, s204_28, s204_29, s204_35, s204_38, s204_39, s204_45, s204_46, s204_47, s204_53, s204_54, s204_57, s204_58, s204_59, s204_65, s204_68, s204_69, s204_72, s204_73, s204_79, s204_80, s204_83, s204_84, s204_87, s204_88, ldi_0, ldi_s, ldl_0, ldl_s, ldd_0, ldd_s, lda_0, lda_s, st1_0, st1_1, st2_0, st2_1, sti_0, sti_1, stj_0, stj_1, st1_2, sti_2, st2_2, stj_2, st1_3, sti_3, st2_3, stj_3, st1_4, sti_4, st2_4, stj_4, st1_5, sti_5, st2_5, stj_5, st1_6, sti_6, st2_6, stj_6, st1_7, sti_7, st2_7, stj_7, st1_8, sti_8, st2_8, stj_8, st1_9, sti_9, st2_9, stj_9, kil_n, kil_i, kil_r, kil_l, kil_d, gl_0, gl_s, cat_i, cat_r, true_and, gf_ob hK.hx]
  refine c204_15r ho (sp_at hch hK.hG ho hfa) ?_
  simp only [s204_0, s204_1, s204_7, s204_8, s204_9, s204_12, s204_18, s204_19, s204_20, s204_23, s204_24, s204_27, s204_28, s204_29, s204_35, s204_38, s204_39, s204_45, s204_46, s204_47, s204_53, s204_54, s204_57, s204_58, s204_59, s204_65, s204_68, s204_69, s204_72, s204_73, s204_79, s204_80, s204_83, s204_84, s204_87, s204_88, ldi_0, ldi_s, ldl_0, ldl_s, ldd_0, ldd_s, lda_0, lda_s, st1_0, st1_1, st2_0, st2_1, sti_0, sti_1, stj_0, stj_1, st1_2, sti_2, st2_2, stj_2, st1_3, sti_3, st2_3, stj_3, st1_4, sti_4, st2_4, stj_4, st1_5, sti_5, st2_5, stj_5, st1_6, sti_6, st2_6, stj_6, st1_7, sti_7, st2_7, stj_7, st1_8, sti_8, st2_8, stj_8, st1_9, sti_9, st2_9, stj_9, kil_n, kil_i, kil_r, kil_l, kil_d, gl_0, gl_s, cat_i, cat_r, true_and, gf_ob hK.hx, lg_cmp_le]
  have tail : aW (Sp 7) 204 0 0 (KP h x c r c2 r2 n G sn SG z (some (.int (bI (fhF n G))))) 28 [some (.ref x), some (.int (nI (fsp (ptn n G) n n)))] [.int (bI (decide (0 < atF n G 2)))] h z 0 0 := by
    simp only [s204_0, s204_1, s204_7, s204_8, s204_9, s204_12, s204_18, s204_19, s204_20, s204_23, s204_24, s204_27, s204_28, s204_29, s204_35, s204_38, s204_39, s204_45, s204_46, s204_47, s204_53, s204_54, s204_57, s204_58, s204_59, s204_65, s204_68, s204_69, s204_72, s204_73, s204_79, s204_80, s204_83, s204_84, s204_87, s204_88, ldi_0, ldi_s, ldl_0, ldl_s, ldd_0, ldd_s, lda_0, lda_s, st1_0, st1_1, st2_0, st2_1, sti_0, sti_1, stj_0, stj_1, st1_2, sti_2, st2_2, stj_2, st1_3, sti_3, st2_3, stj_3, st1_4, sti_4, st2_4, stj_4, st1_5, sti_5, st2_5, stj_5, st1_6, sti_6, st2_6, stj_6, st1_7, sti_7, st2_7, stj_7, st1_8, sti_8, st2_8, stj_8, st1_9, sti_9, st2_9, stj_9, kil_n, kil_i, kil_r, kil_l, kil_d, gl_0, gl_s, cat_i, cat_r, true_and, gf_ob hK.hx]
    refine c204_32r (sp_noOddRing hK.hc hK.hG) ?_
    simp only [s204_0, s204_1, s204_7, s204_8, s204_9, s204_12, s204_18, s204_19, s204_20, s204_23, s204_24, s204_27, s204_28, s204_29, s204_35, s204_38, s204_39, s204_45, s204_46, s204_47, s204_53, s204_54, s204_57, s204_58, s204_59, s204_65, s204_68, s204_69, s204_72, s204_73, s204_79, s204_80, s204_83, s204_84, s204_87, s204_88, ldi_0, ldi_s, ldl_0, ldl_s, ldd_0, ldd_s, lda_0, lda_s, st1_0, st1_1, st2_0, st2_1, sti_0, sti_1, stj_0, stj_1, st1_2, sti_2, st2_2, stj_2, st1_3, sti_3, st2_3, stj_3, st1_4, sti_4, st2_4, stj_4, st1_5, sti_5, st2_5, stj_5, st1_6, sti_6, st2_6, stj_6, st1_7, sti_7, st2_7, stj_7, st1_8, sti_8, st2_8, stj_8, st1_9, sti_9, st2_9, stj_9, kil_n, kil_i, kil_r, kil_l, kil_d, gl_0, gl_s, cat_i, cat_r, true_and, gf_ob hK.hx, bI_inj]
    unfold fhF
    refine ⟨fun h1 => ?_, fun h1 => ?_⟩
    · rw [decide_eq_false h1]
      exact ⟨by decide, by omega, by omega, rfl, rfl, hK, Fr.refl⟩
    · rw [decide_eq_true (Decidable.not_not.mp h1), Bool.true_and]
      refine c204_42r hK.hc.1 (sp_size hK.hc.1) ?_
      simp only [s204_0, s204_1, s204_7, s204_8, s204_9, s204_12, s204_18, s204_19, s204_20, s204_23, s204_24, s204_27, s204_28, s204_29, s204_35, s204_38, s204_39, s204_45, s204_46, s204_47, s204_53, s204_54, s204_57, s204_58, s204_59, s204_65, s204_68, s204_69, s204_72, s204_73, s204_79, s204_80, s204_83, s204_84, s204_87, s204_88, ldi_0, ldi_s, ldl_0, ldl_s, ldd_0, ldd_s, lda_0, lda_s, st1_0, st1_1, st2_0, st2_1, sti_0, sti_1, stj_0, stj_1, st1_2, sti_2, st2_2, stj_2, st1_3, sti_3, st2_3, stj_3, st1_4, sti_4, st2_4, stj_4, st1_5, sti_5, st2_5, stj_5, st1_6, sti_6, st2_6, stj_6, st1_7, sti_7, st2_7, stj_7, st1_8, sti_8, st2_8, stj_8, st1_9, sti_9, st2_9, stj_9, kil_n, kil_i, kil_r, kil_l, kil_d, gl_0, gl_s, cat_i, cat_r, true_and, gf_ob hK.hx]
      refine c204_50r (sp_mostApart hK.hc hK.hG) ?_
      have hprod : fsp (ptn n G) n n * mxF (apF n G) (2 ^ n) ≤ 9 * 9 := Nat.mul_le_mul (by omega) hm
      simp only [s204_0, s204_1, s204_7, s204_8, s204_9, s204_12, s204_18, s204_19, s204_20, s204_23, s204_24, s204_27, s204_28, s204_29, s204_35, s204_38, s204_39, s204_45, s204_46, s204_47, s204_53, s204_54, s204_57, s204_58, s204_59, s204_65, s204_68, s204_69, s204_72, s204_73, s204_79, s204_80, s204_83, s204_84, s204_87, s204_88, ldi_0, ldi_s, ldl_0, ldl_s, ldd_0, ldd_s, lda_0, lda_s, st1_0, st1_1, st2_0, st2_1, sti_0, sti_1, stj_0, stj_1, st1_2, sti_2, st2_2, stj_2, st1_3, sti_3, st2_3, stj_3, st1_4, sti_4, st2_4, stj_4, st1_5, sti_5, st2_5, stj_5, st1_6, sti_6, st2_6, stj_6, st1_7, sti_7, st2_7, stj_7, st1_8, sti_8, st2_8, stj_8, st1_9, sti_9, st2_9, stj_9, kil_n, kil_i, kil_r, kil_l, kil_d, gl_0, gl_s, cat_i, cat_r, true_and, gf_ob hK.hx, pk_mul]
      rw [nI_ltI (by omega) (by omega)]
      refine ⟨fun h2 => ?_, fun h2 => ?_⟩
      · rw [decide_eq_false (show ¬ n ≤ fsp (ptn n G) n n * mxF (apF n G) (2 ^ n) by omega)]
        exact ⟨by decide, by omega, by omega, rfl, rfl, hK, Fr.refl⟩
      · rw [decide_eq_true (show n ≤ fsp (ptn n G) n n * mxF (apF n G) (2 ^ n) by omega), Bool.true_and]
        refine c204_62r (sp_mostTogether hK.hc hK.hG) ?_
        simp only [s204_0, s204_1, s204_7, s204_8, s204_9, s204_12, s204_18, s204_19, s204_20, s204_23, s204_24, s204_27, s204_28, s204_29, s204_35, s204_38, s204_39, s204_45, s204_46, s204_47, s204_53, s204_54, s204_57, s204_58, s204_59, s204_65, s204_68, s204_69, s204_72, s204_73, s204_79, s204_80, s204_83, s204_84, s204_87, s204_88, ldi_0, ldi_s, ldl_0, ldl_s, ldd_0, ldd_s, lda_0, lda_s, st1_0, st1_1, st2_0, st2_1, sti_0, sti_1, stj_0, stj_1, st1_2, sti_2, st2_2, stj_2, st1_3, sti_3, st2_3, stj_3, st1_4, sti_4, st2_4, stj_4, st1_5, sti_5, st2_5, stj_5, st1_6, sti_6, st2_6, stj_6, st1_7, sti_7, st2_7, stj_7, st1_8, sti_8, st2_8, stj_8, st1_9, sti_9, st2_9, stj_9, kil_n, kil_i, kil_r, kil_l, kil_d, gl_0, gl_s, cat_i, cat_r, true_and, gf_ob hK.hx]
        rw [nI_ltI (by omega) (by omega)]
        refine ⟨fun h3 => ?_, fun h3 => ?_⟩
        · rw [decide_eq_false (show ¬ mxF (togF n G) (2 ^ n) ≤ fsp (ptn n G) n n by omega)]
          exact ⟨by decide, by omega, by omega, rfl, rfl, hK, Fr.refl⟩
        · rw [decide_eq_true (show mxF (togF n G) (2 ^ n) ≤ fsp (ptn n G) n n by omega), Bool.true_and]
          refine c204_76r hK.hcols.1 (sp_countInRow hK.hc hK.hG hK.hcols.1 hR (by omega)) ?_
          have k2 := hK.gr (R := R) (m := n) (G' := G)
          rw [mxR_congr n (grR_col n)]
          have hc10 := mxR_le (R := colF G) n fun q hq => Nat.le_trans (colF_le q) (by omega)
          simp only [s204_0, s204_1, s204_7, s204_8, s204_9, s204_12, s204_18, s204_19, s204_20, s204_23, s204_24, s204_27, s204_28, s204_29, s204_35, s204_38, s204_39, s204_45, s204_46, s204_47, s204_53, s204_54, s204_57, s204_58, s204_59, s204_65, s204_68, s204_69, s204_72, s204_73, s204_79, s204_80, s204_83, s204_84, s204_87, s204_88, ldi_0, ldi_s, ldl_0, ldl_s, ldd_0, ldd_s, lda_0, lda_s, st1_0, st1_1, st2_0, st2_1, sti_0, sti_1, stj_0, stj_1, st1_2, sti_2, st2_2, stj_2, st1_3, sti_3, st2_3, stj_3, st1_4, sti_4, st2_4, stj_4, st1_5, sti_5, st2_5, stj_5, st1_6, sti_6, st2_6, stj_6, st1_7, sti_7, st2_7, stj_7, st1_8, sti_8, st2_8, stj_8, st1_9, sti_9, st2_9, stj_9, kil_n, kil_i, kil_r, kil_l, kil_d, gl_0, gl_s, cat_i, cat_r, true_and]
          rw [nI_ltI (by omega) (by omega)]
          refine ⟨fun h4 => ?_, fun h4 => ?_⟩
          · rw [decide_eq_false (show ¬ fsp (ptn n G) n n ≤ mxR (colF G) n by omega)]
            exact ⟨by decide, by omega, by omega, rfl, rfl, k2.1, k2.2.mono (by omega) (by omega)⟩
          · rw [decide_eq_true (show fsp (ptn n G) n n ≤ mxR (colF G) n by omega)]
            exact ⟨by decide, by omega, by omega, rfl, rfl, k2.1, k2.2.mono (by omega) (by omega)⟩
  simp only [s204_0, s204_1, s204_7, s204_8, s204_9, s204_12, s204_18, s204_19, s204_20, s204_23, s204_24, s204_27, s204_28, s204_29, s204_35, s204_38, s204_39, s204_45, s204_46, s204_47, s204_53, s204_54, s204_57, s204_58, s204_59, s204_65, s204_68, s204_69, s204_72, s204_73, s204_79, s204_80, s204_83, s204_84, s204_87, s204_88, ldi_0, ldi_s, ldl_0, ldl_s, ldd_0, ldd_s, lda_0, lda_s, st1_0, st1_1, st2_0, st2_1, sti_0, sti_1, stj_0, stj_1, st1_2, sti_2, st2_2, stj_2, st1_3, sti_3, st2_3, stj_3, st1_4, sti_4, st2_4, stj_4, st1_5, sti_5, st2_5, stj_5, st1_6, sti_6, st2_6, stj_6, st1_7, sti_7, st2_7, stj_7, st1_8, sti_8, st2_8, stj_8, st1_9, sti_9, st2_9, stj_9, kil_n, kil_i, kil_r, kil_l, kil_d, gl_0, gl_s, cat_i, cat_r, true_and, gf_ob hK.hx] at tail
  refine ⟨fun h1 => ?_, fun h1 => ?_⟩
  · rw [decide_eq_false (show ¬ 0 < atF n G 2 from Int64.not_lt.mpr h1)] at tail
    exact tail
  · rw [decide_eq_true (show 0 < atF n G 2 from Int64.not_le.mp h1)] at tail
    exact tail
/-- isTrue, as the class has it -/
def itC (n : Nat) (G : Nat → Nat → Bool) (d : Nat) : Bool := chF (mlt (ptn n G) n n) n (ends G n / 2) (pcs n G n) && (alF (cnF n G) 4 && (dhF n G d && (fwA n G n && fhF n G)))
theorem sp_cisTrue (hK : K h x c r c2 r2 n G sn SG) {d : Nat} (hd : ∀ A B, trd n G A B = d) : Sp 20 197 [.ref x] h z 0 0 (fun o h' z' => o = .inl (some (.int (bI (itC n G d)))) ∧ z' = z ∧ K h' x c r c2 r2 n G sn SG ∧ Fr x (x + 38) h h') := by
  have k1 := hK.rd
  have p1 : PF (RD h (x + 5) n G) (x + 5) n G := RD_PF
  have f1 : Fr x (x + 38) h (RD h (x + 5) n G) := k1.2.mono (by omega) (by omega)
  obtain ⟨b, ho⟩ := hK.ho
  refine Sp_in (al := [some (.ref x)]) ?_
  simp only [s197_0, s197_1, s197_4, s197_5, s197_11, s197_15, s197_18, s197_22, s197_25, s197_29, s197_32, s197_36, s197_39, s197_43, s197_46, s197_47, s197_50, s197_51, ldi_0, ldi_s, ldl_0, ldl_s, ldd_0, ldd_s, lda_0, lda_s, st1_0, st1_1, st2_0, st2_1, sti_0, sti_1, stj_0, stj_1, st1_2, sti_2, st2_2, stj_2, st1_3, sti_3, st2_3, stj_3, st1_4, sti_4, st2_4, stj_4, st1_5, sti_5, st2_5, stj_5, st1_6, sti_6, st2_6, stj_6, st1_7, sti_7, st2_7, stj_7, st1_8, sti_8, st2_8, stj_8, st1_9, sti_9, st2_9, stj_9, kil_n, kil_i, kil_r, kil_l, kil_d, gl_0, gl_s, cat_i, cat_r, true_and, gf_ob hK.hx]
  refine c197_8r ho (sp_rd hK) ?_
  generalize RD h (x + 5) n G = h1 at k1 p1 f1 ⊢
  simp only [s197_0, s197_1, s197_4, s197_5, s197_11, s197_15, s197_18, s197_22, s197_25, s197_29, s197_32, s197_36, s197_39, s197_43, s197_46, s197_47, s197_50, s197_51, ldi_0, ldi_s, ldl_0, ldl_s, ldd_0, ldd_s, lda_0, lda_s, st1_0, st1_1, st2_0, st2_1, sti_0, sti_1, stj_0, stj_1, st1_2, sti_2, st2_2, stj_2, st1_3, sti_3, st2_3, stj_3, st1_4, sti_4, st2_4, stj_4, st1_5, sti_5, st2_5, stj_5, st1_6, sti_6, st2_6, stj_6, st1_7, sti_7, st2_7, stj_7, st1_8, sti_8, st2_8, stj_8, st1_9, sti_9, st2_9, stj_9, kil_n, kil_i, kil_r, kil_l, kil_d, gl_0, gl_s, cat_i, cat_r, true_and]
  refine c197_12r k1.1.hx (sp_coeffHold k1.1 p1) ?_
  simp only [s197_0, s197_1, s197_4, s197_5, s197_11, s197_15, s197_18, s197_22, s197_25, s197_29, s197_32, s197_36, s197_39, s197_43, s197_46, s197_47, s197_50, s197_51, ldi_0, ldi_s, ldl_0, ldl_s, ldd_0, ldd_s, lda_0, lda_s, st1_0, st1_1, st2_0, st2_1, sti_0, sti_1, stj_0, stj_1, st1_2, sti_2, st2_2, stj_2, st1_3, sti_3, st2_3, stj_3, st1_4, sti_4, st2_4, stj_4, st1_5, sti_5, st2_5, stj_5, st1_6, sti_6, st2_6, stj_6, st1_7, sti_7, st2_7, stj_7, st1_8, sti_8, st2_8, stj_8, st1_9, sti_9, st2_9, stj_9, kil_n, kil_i, kil_r, kil_l, kil_d, gl_0, gl_s, cat_i, cat_r, true_and, bI_0]
  unfold itC
  refine ⟨fun h2 => ?_, fun h2 => ?_⟩
  · rw [h2]
    exact ⟨by decide, by omega, by omega, rfl, rfl, k1.1, f1⟩
  rw [Bool.not_eq_false] at h2
  rw [h2, Bool.true_and]
  refine c197_19r k1.1.hx (sp_countsHold k1.1 p1) ?_
  simp only [s197_0, s197_1, s197_4, s197_5, s197_11, s197_15, s197_18, s197_22, s197_25, s197_29, s197_32, s197_36, s197_39, s197_43, s197_46, s197_47, s197_50, s197_51, ldi_0, ldi_s, ldl_0, ldl_s, ldd_0, ldd_s, lda_0, lda_s, st1_0, st1_1, st2_0, st2_1, sti_0, sti_1, stj_0, stj_1, st1_2, sti_2, st2_2, stj_2, st1_3, sti_3, st2_3, stj_3, st1_4, sti_4, st2_4, stj_4, st1_5, sti_5, st2_5, stj_5, st1_6, sti_6, st2_6, stj_6, st1_7, sti_7, st2_7, stj_7, st1_8, sti_8, st2_8, stj_8, st1_9, sti_9, st2_9, stj_9, kil_n, kil_i, kil_r, kil_l, kil_d, gl_0, gl_s, cat_i, cat_r, true_and, bI_0]
  refine ⟨fun h3 => ?_, fun h3 => ?_⟩
  · rw [h3]
    exact ⟨by decide, by omega, by omega, rfl, rfl, k1.1, f1⟩
  rw [Bool.not_eq_false] at h3
  rw [h3, Bool.true_and]
  refine c197_26 k1.1.hx (sp_dirHold k1.1 p1 hd) (by omega) (by omega) ?_
  rintro _ hh2 z ⟨rfl, rfl, k2, f2⟩
  show aW (Sp 19) 197 0 0 _ 29 _ _ _ _ (0 + 0) (0 + 0)
  have p2 := p1.fr (h' := hh2) fun q _ _ => f2 q (by omega)
  have g2 := f1.trans (f2.mono (lo' := x) (hi' := x + 38) (by omega) (by omega))
  simp only [s197_0, s197_1, s197_4, s197_5, s197_11, s197_15, s197_18, s197_22, s197_25, s197_29, s197_32, s197_36, s197_39, s197_43, s197_46, s197_47, s197_50, s197_51, ldi_0, ldi_s, ldl_0, ldl_s, ldd_0, ldd_s, lda_0, lda_s, st1_0, st1_1, st2_0, st2_1, sti_0, sti_1, stj_0, stj_1, st1_2, sti_2, st2_2, stj_2, st1_3, sti_3, st2_3, stj_3, st1_4, sti_4, st2_4, stj_4, st1_5, sti_5, st2_5, stj_5, st1_6, sti_6, st2_6, stj_6, st1_7, sti_7, st2_7, stj_7, st1_8, sti_8, st2_8, stj_8, st1_9, sti_9, st2_9, stj_9, kil_n, kil_i, kil_r, kil_l, kil_d, gl_0, gl_s, cat_i, cat_r, true_and, bI_0]
  refine ⟨fun h4 => ?_, fun h4 => ?_⟩
  · rw [h4]
    exact ⟨by decide, by omega, by omega, rfl, rfl, k2, g2⟩
  rw [Bool.not_eq_false] at h4
  rw [h4, Bool.true_and]
  refine c197_33 k2.hx (sp_firstWay k2 p2) (by omega) (by omega) ?_
  rintro _ hh3 z ⟨rfl, rfl, k3, f3⟩
  show aW (Sp 19) 197 0 0 _ 36 _ _ _ _ (0 + 0) (0 + 0)
  have p3 := p2.fr (h' := hh3) fun q _ _ => f3 q (by omega)
  have g3 := g2.trans (f3.mono (lo' := x) (hi' := x + 38) (by omega) (by omega))
  simp only [s197_0, s197_1, s197_4, s197_5, s197_11, s197_15, s197_18, s197_22, s197_25, s197_29, s197_32, s197_36, s197_39, s197_43, s197_46, s197_47, s197_50, s197_51, ldi_0, ldi_s, ldl_0, ldl_s, ldd_0, ldd_s, lda_0, lda_s, st1_0, st1_1, st2_0, st2_1, sti_0, sti_1, stj_0, stj_1, st1_2, sti_2, st2_2, stj_2, st1_3, sti_3, st2_3, stj_3, st1_4, sti_4, st2_4, stj_4, st1_5, sti_5, st2_5, stj_5, st1_6, sti_6, st2_6, stj_6, st1_7, sti_7, st2_7, stj_7, st1_8, sti_8, st2_8, stj_8, st1_9, sti_9, st2_9, stj_9, kil_n, kil_i, kil_r, kil_l, kil_d, gl_0, gl_s, cat_i, cat_r, true_and, bI_0]
  refine ⟨fun h5 => ?_, fun h5 => ?_⟩
  · rw [h5]
    exact ⟨by decide, by omega, by omega, rfl, rfl, k3, g3⟩
  rw [Bool.not_eq_false] at h5
  rw [h5, Bool.true_and]
  refine c197_40 k3.hx (sp_fewestHolds k3 p3) (by omega) (by omega) ?_
  rintro _ hh4 z ⟨rfl, rfl, k4, f4⟩
  show aW (Sp 19) 197 0 0 _ 43 _ _ _ _ (0 + 0) (0 + 0)
  have g4 := g3.trans (f4.mono (lo' := x) (hi' := x + 38) (by omega) (by omega))
  simp only [s197_0, s197_1, s197_4, s197_5, s197_11, s197_15, s197_18, s197_22, s197_25, s197_29, s197_32, s197_36, s197_39, s197_43, s197_46, s197_47, s197_50, s197_51, ldi_0, ldi_s, ldl_0, ldl_s, ldd_0, ldd_s, lda_0, lda_s, st1_0, st1_1, st2_0, st2_1, sti_0, sti_1, stj_0, stj_1, st1_2, sti_2, st2_2, stj_2, st1_3, sti_3, st2_3, stj_3, st1_4, sti_4, st2_4, stj_4, st1_5, sti_5, st2_5, stj_5, st1_6, sti_6, st2_6, stj_6, st1_7, sti_7, st2_7, stj_7, st1_8, sti_8, st2_8, stj_8, st1_9, sti_9, st2_9, stj_9, kil_n, kil_i, kil_r, kil_l, kil_d, gl_0, gl_s, cat_i, cat_r, true_and, bI_0]
  refine ⟨fun h6 => ?_, fun h6 => ?_⟩
  · rw [h6]
    exact ⟨by decide, by omega, by omega, rfl, rfl, k4, g4⟩
  · rw [Bool.not_eq_false] at h6
    rw [h6]
    exact ⟨by decide, by omega, by omega, rfl, rfl, k4, g4⟩
end CTrue
