/-! ColourmapModel: partings counted one by one -/
def addL (C : Nat → Int64) (f : Nat → Nat) : Nat → Int64 := fun m => C m + lN (f m)
/-- may a place be of set k: none of its neighbours below q is -/
def mayk (G : Nat → Nat → Bool) (p : Nat) (S : Nat → Nat) (k : Nat) : Nat → Bool
  | 0 => true
  | q + 1 => mayk G p S k q && !(decide (S q = k) && G p q)
def prm (G : Nat → Nat → Bool) : Nat → Nat → Nat → (Nat → Nat) → Nat → Nat
  | 0, _, u, _, m => if m = u then 1 else 0
  | j + 1, p, u, S, m => sumV (fun k m => if mayk G p S k p = true then prm G j (p + 1) (if k = u then u + 1 else u) (updN S p k) m else 0) (u + 1) m
theorem mayk_congr {G : Nat → Nat → Bool} {p k : Nat} {S S' : Nat → Nat} (q : Nat) (h : ∀ i, i < q → S i = S' i) : mayk G p S k q = mayk G p S' k q := by
  induction q with
  | zero => rfl
  | succ q ih =>
    unfold mayk
    rw [ih fun i hi => h i (by omega), h q (by omega)]
theorem sumV_congr {f g : Nat → Nat → Nat} (u m : Nat) (h : ∀ s, s < u → f s m = g s m) : sumV f u m = sumV g u m := by
  induction u with
  | zero => rfl
  | succ u ih =>
    show sumV f u m + f u m = sumV g u m + g u m
    rw [ih fun s hs => h s (by omega), h u (by omega)]
theorem updN_cg {S S' : Nat → Nat} {p k : Nat} (h : ∀ i, i < p → S i = S' i) : ∀ i, i < p + 1 → updN S p k i = updN S' p k i := by
  intro i hi
  unfold updN
  split
  · rfl
  · exact h i (by omega)
theorem prm_congr {G : Nat → Nat → Bool} (j : Nat) : ∀ (p u : Nat) (S S' : Nat → Nat), (∀ i, i < p → S i = S' i) → prm G j p u S = prm G j p u S' := by
  induction j with
  | zero => intro p u S S' _; rfl
  | succ j ih =>
    intro p u S S' h
    funext m
    refine sumV_congr _ _ fun k _ => ?_
    rw [mayk_congr p h, ih (p + 1) _ (updN S p k) (updN S' p k) (updN_cg h)]
theorem addL_0 {C : Nat → Int64} {f : Nat → Nat → Nat} : addL C (sumV f 0) = C := by
  funext m
  show C m + lN 0 = C m
  exact Int64.add_zero _
theorem addL_s {C : Nat → Int64} {f : Nat → Nat → Nat} {q : Nat} : addL (addL C (sumV f q)) (f q) = addL C (sumV f (q + 1)) := by
  funext m
  show C m + lN (sumV f q m) + lN (f q m) = C m + lN (sumV f q m + f q m)
  rw [← lN_add, Int64.add_assoc]
theorem addL_z {C : Nat → Int64} {f : Nat → Nat} (h : ∀ m, f m = 0) : addL C f = C := by
  funext m
  unfold addL
  rw [h]
  exact Int64.add_zero _
theorem addL_1 {C : Nat → Int64} {u : Nat} : updL C u (C u + 1) = addL C (fun m => if m = u then 1 else 0) := by
  funext m
  unfold updL addL
  by_cases h : m = u
  · subst h
    show (if m = m then C m + 1 else C m) = C m + lN (if m = m then 1 else 0)
    rw [if_pos rfl, if_pos rfl]
    rfl
  · show (if m = u then C u + 1 else C m) = C m + lN (if m = u then 1 else 0)
    rw [if_neg h, if_neg h]
    exact (Int64.add_zero _).symm
section Mod6
variable {h : AH} {m t t2 ns n z T size : Nat} {G SG X : Nat → Nat → Bool} {th : Int32}
/-- the heap while partings are counted -/
def PH (h : AH) (m t t2 ns : Nat) (G : Nat → Nat → Bool) (th : Int32) (n : Nat) (S : Nat → Nat) (C : Nat → Int64) : AH := NF (hup (hup h (m + 22) (na 9 S)) (m + 23) (la 10 C)) m t t2 ns G th n
theorem PH_m {S : Nat → Nat} {C : Nat → Int64} : PH h m t t2 ns G th n S C m = some (moO m th n t ns t2) := NF_m
theorem PH_gf {S : Nat → Nat} {C : Nat → Int64} {k : Nat} {f : Value → Prop} : gf (PH h m t t2 ns G th n S C) m 6 k f = gl [.int th, .int (nI n), .ref t, .int (nI ns), .ref t2, .ref (m + 21), .ref (m + 22), .ref (m + 23), .ref (m + 24), .ref (m + 25), .ref (m + 26), .ref (m + 27), .ref (m + 28), .ref (m + 29), .ref (m + 30), .ref (m + 40)] k f := gf_ob NF_m
theorem PH_S (hT : TT m t t2) {S : Nat → Nat} {C : Nat → Int64} : PH h m t t2 ns G th n S C (m + 22) = some (na 9 S) := by
  unfold PH
  rw [NF_old hT (by omega), hup_ne (by omega), hup_same]
theorem PH_C (hT : TT m t t2) {S : Nat → Nat} {C : Nat → Int64} : PH h m t t2 ns G th n S C (m + 23) = some (la 10 C) := by
  unfold PH
  rw [NF_old hT (by omega), hup_same]
theorem PH_uS (hT : TT m t t2) {S S' : Nat → Nat} {C : Nat → Int64} : hup (PH h m t t2 ns G th n S C) (m + 22) (na 9 S') = PH h m t t2 ns G th n S' C := by
  unfold PH
  rw [NF_h1 hT (by omega), hup_comm (by omega), hup_hup]
theorem PH_uC (hT : TT m t t2) {S : Nat → Nat} {C C' : Nat → Int64} : hup (PH h m t t2 ns G th n S C) (m + 23) (la 10 C') = PH h m t t2 ns G th n S C' := by
  unfold PH
  rw [NF_h1 hT (by omega), hup_hup]
/-- what part leaves behind it -/
def PartP (h : AH) (m t t2 ns : Nat) (G : Nat → Nat → Bool) (th : Int32) (n p z : Nat) (S : Nat → Nat) (C : Nat → Int64) : AP := fun o h' z' => o = .inl none ∧ z' = z ∧ ∃ S' : Nat → Nat, (∀ i, i < p → S' i = S i) ∧ h' = PH h m t t2 ns G th n S' C
theorem sp_mpart (hB : MB h m t t2 SG) (hX : ∀ S C, Tb (PH h m t t2 ns G th n S C) T X) (h9 : size ≤ 9) : ∀ (j p u : Nat) (S : Nat → Nat) (C : Nat → Int64), p + j = size → u ≤ p → (∀ i, i < p → S i < u) → Sp (1 + j) 121 [.ref m, .ref T, .int (nI size), .int (nI p), .int (nI u), .ref (m + 23)] (PH h m t t2 ns G th n S C) z 0 0 (PartP h m t t2 ns G th n p z S (addL C (prm X j p u S))) := by
  have hT := hB.1
  intro j
  induction j with
  | zero =>
    intro p u S C hp hu hS
    have e : p = size := by omega
    subst e
    refine Sp_in (al := [some (.ref m), some (.ref T), some (.int (nI p)), some (.int (nI p)), some (.int (nI u)), some (.ref (m + 23)), none, none, none]) ?_
    simp only [s121_0, s121_1, s121_2, s121_5, s121_7, s121_9, s121_10, s121_11, s121_12, s121_13, s121_14, s121_15, s121_16, s121_20, s121_22, s121_25, s121_26, s121_28, s121_29, s121_33, s121_34, s121_37, s121_39, s121_42, s121_43, s121_46, s121_48, s121_49, s121_51, s121_54, s121_55, s121_56, s121_57, s121_59, s121_60, s121_63, s121_64, s121_67, s121_68, s121_70, s121_73, s121_76, s121_78, s121_81, s121_84, s121_85, s121_88, s121_89, s121_91, s121_92, s121_93, s121_94, s121_95, s121_96, s121_97, s121_98, s121_100, s121_102, s121_105, s121_107, s121_108, s121_109, s121_112, s121_114, s121_119, s121_122, s121_125, ldi_0, ldi_s, ldl_0, ldl_s, ldd_0, ldd_s, lda_0, lda_s, st1_0, st1_1, st2_0, st2_1, sti_0, sti_1, stj_0, stj_1, st1_2, sti_2, st2_2, stj_2, st1_3, sti_3, st2_3, stj_3, st1_4, sti_4, st2_4, stj_4, st1_5, sti_5, st2_5, stj_5, st1_6, sti_6, st2_6, stj_6, st1_7, sti_7, st2_7, stj_7, st1_8, sti_8, st2_8, stj_8, st1_9, sti_9, st2_9, stj_9, kil_n, kil_i, kil_r, kil_l, kil_d, gl_0, gl_s, cat_i, cat_r, true_and]
    rw [br_0 (by simp), ald_la (PH_C hT) (by omega)]
    simp only [s121_0, s121_1, s121_2, s121_5, s121_7, s121_9, s121_10, s121_11, s121_12, s121_13, s121_14, s121_15, s121_16, s121_20, s121_22, s121_25, s121_26, s121_28, s121_29, s121_33, s121_34, s121_37, s121_39, s121_42, s121_43, s121_46, s121_48, s121_49, s121_51, s121_54, s121_55, s121_56, s121_57, s121_59, s121_60, s121_63, s121_64, s121_67, s121_68, s121_70, s121_73, s121_76, s121_78, s121_81, s121_84, s121_85, s121_88, s121_89, s121_91, s121_92, s121_93, s121_94, s121_95, s121_96, s121_97, s121_98, s121_100, s121_102, s121_105, s121_107, s121_108, s121_109, s121_112, s121_114, s121_119, s121_122, s121_125, ldi_0, ldi_s, ldl_0, ldl_s, ldd_0, ldd_s, lda_0, lda_s, st1_0, st1_1, st2_0, st2_1, sti_0, sti_1, stj_0, stj_1, st1_2, sti_2, st2_2, stj_2, st1_3, sti_3, st2_3, stj_3, st1_4, sti_4, st2_4, stj_4, st1_5, sti_5, st2_5, stj_5, st1_6, sti_6, st2_6, stj_6, st1_7, sti_7, st2_7, stj_7, st1_8, sti_8, st2_8, stj_8, st1_9, sti_9, st2_9, stj_9, kil_n, kil_i, kil_r, kil_l, kil_d, gl_0, gl_s, cat_i, cat_r, true_and, ast_la (PH_C hT) (show u < 10 by omega), PH_uC hT]
    rw [addL_1]
    exact ⟨by omega, by omega, rfl, rfl, S, fun _ _ => rfl, rfl⟩
  | succ j ih =>
    intro p u S C hp hu hS
    show Sp (1 + j + 1) _ _ _ _ _ _ _
    have hp9 : p < 9 := by omega
    refine Sp_in (al := [some (.ref m), some (.ref T), some (.int (nI size)), some (.int (nI p)), some (.int (nI u)), some (.ref (m + 23)), none, none, none]) ?_
    simp only [s121_0, s121_1, s121_2, s121_5, s121_7, s121_9, s121_10, s121_11, s121_12, s121_13, s121_14, s121_15, s121_16, s121_20, s121_22, s121_25, s121_26, s121_28, s121_29, s121_33, s121_34, s121_37, s121_39, s121_42, s121_43, s121_46, s121_48, s121_49, s121_51, s121_54, s121_55, s121_56, s121_57, s121_59, s121_60, s121_63, s121_64, s121_67, s121_68, s121_70, s121_73, s121_76, s121_78, s121_81, s121_84, s121_85, s121_88, s121_89, s121_91, s121_92, s121_93, s121_94, s121_95, s121_96, s121_97, s121_98, s121_100, s121_102, s121_105, s121_107, s121_108, s121_109, s121_112, s121_114, s121_119, s121_122, s121_125, ldi_0, ldi_s, ldl_0, ldl_s, ldd_0, ldd_s, lda_0, lda_s, st1_0, st1_1, st2_0, st2_1, sti_0, sti_1, stj_0, stj_1, st1_2, sti_2, st2_2, stj_2, st1_3, sti_3, st2_3, stj_3, st1_4, sti_4, st2_4, stj_4, st1_5, sti_5, st2_5, stj_5, st1_6, sti_6, st2_6, stj_6, st1_7, sti_7, st2_7, stj_7, st1_8, sti_8, st2_8, stj_8, st1_9, sti_9, st2_9, stj_9, kil_n, kil_i, kil_r, kil_l, kil_d, gl_0, gl_s, cat_i, cat_r, true_and]
    rw [br_1 (by rw [nI_eq (by omega) (by omega)]; omega)]
    have key : ∀ k, k ≤ u + 1 → ∀ S', (∀ i, i < p → S' i = S i) → ∀ b1 b2 : Option Value, aW (Sp (1 + j)) 121 0 0 (PartP h m t t2 ns G th n p z S (addL C (prm X (j + 1) p u S))) 18 [some (.ref m), some (.ref T), some (.int (nI size)), some (.int (nI p)), some (.int (nI u)), some (.ref (m + 23)), some (.int (nI k)), kil b1, b2] [] (PH h m t t2 ns G th n S' (addL C (sumV (fun k m => if mayk X p S k p = true then prm X j (p + 1) (if k = u then u + 1 else u) (updN S p k) m else 0) k))) z 0 0 := by
      refine aUp ?_ fun k hk ihk => ?_
      · intro S' hS' b1 b2
        rw [s121_18]
        simp only [s121_0, s121_1, s121_2, s121_5, s121_7, s121_9, s121_10, s121_11, s121_12, s121_13, s121_14, s121_15, s121_16, s121_20, s121_22, s121_25, s121_26, s121_28, s121_29, s121_33, s121_34, s121_37, s121_39, s121_42, s121_43, s121_46, s121_48, s121_49, s121_51, s121_54, s121_55, s121_56, s121_57, s121_59, s121_60, s121_63, s121_64, s121_67, s121_68, s121_70, s121_73, s121_76, s121_78, s121_81, s121_84, s121_85, s121_88, s121_89, s121_91, s121_92, s121_93, s121_94, s121_95, s121_96, s121_97, s121_98, s121_100, s121_102, s121_105, s121_107, s121_108, s121_109, s121_112, s121_114, s121_119, s121_122, s121_125, ldi_0, ldi_s, ldl_0, ldl_s, ldd_0, ldd_s, lda_0, lda_s, st1_0, st1_1, st2_0, st2_1, sti_0, sti_1, stj_0, stj_1, st1_2, sti_2, st2_2, stj_2, st1_3, sti_3, st2_3, stj_3, st1_4, sti_4, st2_4, stj_4, st1_5, sti_5, st2_5, stj_5, st1_6, sti_6, st2_6, stj_6, st1_7, sti_7, st2_7, stj_7, st1_8, sti_8, st2_8, stj_8, st1_9, sti_9, st2_9, stj_9, kil_n, kil_i, kil_r, kil_l, kil_d, gl_0, gl_s, cat_i, cat_r, true_and]
        rw [br_1 (nI_lt (Nat.lt_succ_self u) (by omega))]
        exact ⟨by omega, by omega, rfl, rfl, S', hS', rfl⟩
      · intro S' hS' b1 b2
        rw [← addL_s] at ihk
        rw [s121_18]
        simp only [s121_0, s121_1, s121_2, s121_5, s121_7, s121_9, s121_10, s121_11, s121_12, s121_13, s121_14, s121_15, s121_16, s121_20, s121_22, s121_25, s121_26, s121_28, s121_29, s121_33, s121_34, s121_37, s121_39, s121_42, s121_43, s121_46, s121_48, s121_49, s121_51, s121_54, s121_55, s121_56, s121_57, s121_59, s121_60, s121_63, s121_64, s121_67, s121_68, s121_70, s121_73, s121_76, s121_78, s121_81, s121_84, s121_85, s121_88, s121_89, s121_91, s121_92, s121_93, s121_94, s121_95, s121_96, s121_97, s121_98, s121_100, s121_102, s121_105, s121_107, s121_108, s121_109, s121_112, s121_114, s121_119, s121_122, s121_125, ldi_0, ldi_s, ldl_0, ldl_s, ldd_0, ldd_s, lda_0, lda_s, st1_0, st1_1, st2_0, st2_1, sti_0, sti_1, stj_0, stj_1, st1_2, sti_2, st2_2, stj_2, st1_3, sti_3, st2_3, stj_3, st1_4, sti_4, st2_4, stj_4, st1_5, sti_5, st2_5, stj_5, st1_6, sti_6, st2_6, stj_6, st1_7, sti_7, st2_7, stj_7, st1_8, sti_8, st2_8, stj_8, st1_9, sti_9, st2_9, stj_9, kil_n, kil_i, kil_r, kil_l, kil_d, gl_0, gl_s, cat_i, cat_r, true_and]
        rw [br_0 (nI_nlt (show k ≤ u by omega) (by omega))]
        generalize addL C (sumV (fun k m => if mayk X p S k p = true then prm X j (p + 1) (if k = u then u + 1 else u) (updN S p k) m else 0) k) = D at ihk ⊢
        have inn : ∀ q, q ≤ p → aW (Sp (1 + j)) 121 0 0 (PartP h m t t2 ns G th n p z S (addL C (prm X (j + 1) p u S))) 31 [some (.ref m), some (.ref T), some (.int (nI size)), some (.int (nI p)), some (.int (nI u)), some (.ref (m + 23)), some (.int (nI k)), some (.int (bI (mayk X p S k q))), some (.int (nI q))] [] (PH h m t t2 ns G th n S' D) z 0 0 := by
          refine aUp ?_ fun q hq ihq => ?_
          · rw [s121_31]
            simp only [s121_0, s121_1, s121_2, s121_5, s121_7, s121_9, s121_10, s121_11, s121_12, s121_13, s121_14, s121_15, s121_16, s121_20, s121_22, s121_25, s121_26, s121_28, s121_29, s121_33, s121_34, s121_37, s121_39, s121_42, s121_43, s121_46, s121_48, s121_49, s121_51, s121_54, s121_55, s121_56, s121_57, s121_59, s121_60, s121_63, s121_64, s121_67, s121_68, s121_70, s121_73, s121_76, s121_78, s121_81, s121_84, s121_85, s121_88, s121_89, s121_91, s121_92, s121_93, s121_94, s121_95, s121_96, s121_97, s121_98, s121_100, s121_102, s121_105, s121_107, s121_108, s121_109, s121_112, s121_114, s121_119, s121_122, s121_125, ldi_0, ldi_s, ldl_0, ldl_s, ldd_0, ldd_s, lda_0, lda_s, st1_0, st1_1, st2_0, st2_1, sti_0, sti_1, stj_0, stj_1, st1_2, sti_2, st2_2, stj_2, st1_3, sti_3, st2_3, stj_3, st1_4, sti_4, st2_4, stj_4, st1_5, sti_5, st2_5, stj_5, st1_6, sti_6, st2_6, stj_6, st1_7, sti_7, st2_7, stj_7, st1_8, sti_8, st2_8, stj_8, st1_9, sti_9, st2_9, stj_9, kil_n, kil_i, kil_r, kil_l, kil_d, gl_0, gl_s, cat_i, cat_r, true_and, PH_gf, nI_1, ast_na (PH_S hT) hp9, PH_uS hT, bI_0]
            rw [br_1 (nI_le (Nat.le_refl _) (by omega)), nI_eq (by omega) (by omega)]
            by_cases hm : mayk X p S k p = true
            · rw [br_1 (by rw [hm]; decide)]
              simp only [hm, if_true] at ihk
              have call : ∀ u' : Nat, u' ≤ p + 1 → (∀ i, i < p + 1 → updN S' p k i < u') → (if k = u then u + 1 else u) = u' → aW (Sp (1 + j)) 121 0 0 (PartP h m t t2 ns G th n p z S (addL C (prm X (j + 1) p u S))) 116 [some (.ref m), some (.ref T), some (.int (nI size)), some (.int (nI p)), some (.int (nI u)), some (.ref (m + 23)), some (.int (nI k)), some (.int (bI true)), some (.int (nI p))] [.ref (m + 23), .int (nI u'), .int (nI (p + 1)), .int (nI size), .ref T, .ref m] (PH h m t t2 ns G th n (updN S' p k) D) z 0 0 := by
                intro u' hu' hS2 e
                refine c121_116 PH_m (ih (p + 1) u' (updN S' p k) D (by omega) hu' hS2) (by omega) (by omega) ?_
                rintro _ _ _ ⟨rfl, rfl, S2, h2, rfl⟩
                show aW (Sp (1 + j)) 121 0 0 _ 119 _ _ _ _ _ _
                simp only [s121_0, s121_1, s121_2, s121_5, s121_7, s121_9, s121_10, s121_11, s121_12, s121_13, s121_14, s121_15, s121_16, s121_20, s121_22, s121_25, s121_26, s121_28, s121_29, s121_33, s121_34, s121_37, s121_39, s121_42, s121_43, s121_46, s121_48, s121_49, s121_51, s121_54, s121_55, s121_56, s121_57, s121_59, s121_60, s121_63, s121_64, s121_67, s121_68, s121_70, s121_73, s121_76, s121_78, s121_81, s121_84, s121_85, s121_88, s121_89, s121_91, s121_92, s121_93, s121_94, s121_95, s121_96, s121_97, s121_98, s121_100, s121_102, s121_105, s121_107, s121_108, s121_109, s121_112, s121_114, s121_119, s121_122, s121_125, ldi_0, ldi_s, ldl_0, ldl_s, ldd_0, ldd_s, lda_0, lda_s, st1_0, st1_1, st2_0, st2_1, sti_0, sti_1, stj_0, stj_1, st1_2, sti_2, st2_2, stj_2, st1_3, sti_3, st2_3, stj_3, st1_4, sti_4, st2_4, stj_4, st1_5, sti_5, st2_5, stj_5, st1_6, sti_6, st2_6, stj_6, st1_7, sti_7, st2_7, stj_7, st1_8, sti_8, st2_8, stj_8, st1_9, sti_9, st2_9, stj_9, kil_n, kil_i, kil_r, kil_l, kil_d, gl_0, gl_s, cat_i, cat_r, true_and, nI_1]
                rw [prm_congr j (p + 1) u' (updN S' p k) (updN S p k) (updN_cg hS'), ← e]
                refine ihk S2 (fun i hi => ?_) (some (.int _)) _
                rw [h2 i (by omega)]
                unfold updN
                rw [if_neg (by omega)]
                exact hS' i hi
              have hSi : ∀ i, i < p + 1 → updN S' p k i = k ∧ i = p ∨ updN S' p k i < u := by
                intro i hi
                unfold updN
                by_cases hi2 : i = p
                · left
                  rw [if_pos hi2]
                  exact ⟨rfl, hi2⟩
                · right
                  rw [if_neg hi2, hS' i (by omega)]
                  exact hS i (by omega)
              rw [hm]
              refine ⟨fun h1 => ?_, fun h1 => ?_⟩
              · refine call u (by omega) (fun i hi => ?_) (if_neg h1)
                rcases hSi i hi with h3 | h3 <;> omega
              · refine call (u + 1) (by omega) (fun i hi => ?_) (if_pos (Decidable.not_not.mp h1))
                rcases hSi i hi with h3 | h3 <;> omega
            · rw [Bool.not_eq_true] at hm
              rw [hm, br_0 (by decide)]
              simp only [hm, Bool.false_eq_true, if_false] at ihk
              rw [addL_z (fun _ => rfl)] at ihk
              exact ihk S' hS' (some (.int _)) _
          · have e2 : mayk X p S k (q + 1) = (mayk X p S k q && !(decide (S q = k) && X p q)) := rfl
            rw [e2, ← hS' q (by omega)] at ihq
            have hq1 := hS q (by omega)
            have hq2 := hS' q (by omega)
            rw [s121_31]
            simp only [s121_0, s121_1, s121_2, s121_5, s121_7, s121_9, s121_10, s121_11, s121_12, s121_13, s121_14, s121_15, s121_16, s121_20, s121_22, s121_25, s121_26, s121_28, s121_29, s121_33, s121_34, s121_37, s121_39, s121_42, s121_43, s121_46, s121_48, s121_49, s121_51, s121_54, s121_55, s121_56, s121_57, s121_59, s121_60, s121_63, s121_64, s121_67, s121_68, s121_70, s121_73, s121_76, s121_78, s121_81, s121_84, s121_85, s121_88, s121_89, s121_91, s121_92, s121_93, s121_94, s121_95, s121_96, s121_97, s121_98, s121_100, s121_102, s121_105, s121_107, s121_108, s121_109, s121_112, s121_114, s121_119, s121_122, s121_125, ldi_0, ldi_s, ldl_0, ldl_s, ldd_0, ldd_s, lda_0, lda_s, st1_0, st1_1, st2_0, st2_1, sti_0, sti_1, stj_0, stj_1, st1_2, sti_2, st2_2, stj_2, st1_3, sti_3, st2_3, stj_3, st1_4, sti_4, st2_4, stj_4, st1_5, sti_5, st2_5, stj_5, st1_6, sti_6, st2_6, stj_6, st1_7, sti_7, st2_7, stj_7, st1_8, sti_8, st2_8, stj_8, st1_9, sti_9, st2_9, stj_9, kil_n, kil_i, kil_r, kil_l, kil_d, gl_0, gl_s, cat_i, cat_r, true_and, PH_gf, nI_1, ald_na (PH_S hT) (show q < 9 by omega), ald_tb (hX _ _) hp9, ald_tr (hX _ _) hp9 (show q < 9 by omega), bI_0]
            rw [br_0 (nI_ge hq (by omega)), nI_eq (by omega) (by omega)]
            refine ⟨fun h1 => ?_, fun h1 => ⟨fun h2 => ?_, fun h2 => ⟨fun h3 => ?_, fun h3 => ?_⟩⟩⟩
            · rw [h1] at ihq
              exact ihq
            · rw [Bool.not_eq_false] at h1
              rw [h1, decide_eq_false h2] at ihq
              exact ihq
            · rw [Bool.not_eq_false] at h3
              rw [decide_eq_true (Decidable.not_not.mp h2), h3, Bool.and_self, Bool.not_true, Bool.and_false] at ihq
              exact ihq
            · rw [Decidable.not_not] at h3
              rw [Bool.not_eq_false] at h1
              rw [h1, h3, Bool.and_false] at ihq
              exact ihq
        exact inn 0 (by omega)
    have k0 := key 0 (by omega) S (fun _ _ => rfl) none none
    rw [addL_0] at k0
    exact k0
/-- counts of a table's partings -/
def ptm (X : Nat → Nat → Bool) (size : Nat) : Nat → Nat := prm X size 0 0 (fun _ => 0)
def ctL (X : Nat → Nat → Bool) (size : Nat) : Nat → Int64 := addL (fun _ => 0) (ptm X size)
def CtP (h : AH) (m t t2 ns : Nat) (G : Nat → Nat → Bool) (th : Int32) (n z : Nat) (C : Nat → Int64) : AP := fun o h' z' => o = .inl none ∧ z' = z ∧ ∃ S' : Nat → Nat, h' = PH h m t t2 ns G th n S' C
theorem sp_counted {S : Nat → Nat} {C : Nat → Int64} (hB : MB h m t t2 SG) (hX : ∀ S C, Tb (PH h m t t2 ns G th n S C) T X) (h9 : size ≤ 9) (hC : ∀ q, 10 ≤ q → C q = 0) : Sp 11 120 [.ref m, .ref T, .int (nI size)] (PH h m t t2 ns G th n S C) z 0 0 (CtP h m t t2 ns G th n z (ctL X size)) := by
  have hT := hB.1
  refine Sp_in (al := [some (.ref m), some (.ref T), some (.int (nI size)), none]) ?_
  simp only [s120_0, s120_1, s120_3, s120_5, s120_8, s120_9, s120_12, s120_13, s120_14, s120_15, s120_18, s120_21, s120_22, s120_23, s120_24, s120_25, s120_26, s120_27, s120_33, ldi_0, ldi_s, ldl_0, ldl_s, ldd_0, ldd_s, lda_0, lda_s, st1_0, st1_1, st2_0, st2_1, sti_0, sti_1, stj_0, stj_1, st1_2, sti_2, st2_2, stj_2, st1_3, sti_3, st2_3, stj_3, st1_4, sti_4, st2_4, stj_4, st1_5, sti_5, st2_5, stj_5, st1_6, sti_6, st2_6, stj_6, st1_7, sti_7, st2_7, stj_7, st1_8, sti_8, st2_8, stj_8, st1_9, sti_9, st2_9, stj_9, kil_n, kil_i, kil_r, kil_l, kil_d, gl_0, gl_s, cat_i, cat_r, true_and]
  have key : ∀ k, k ≤ 10 → aW (Sp 10) 120 0 0 (CtP h m t t2 ns G th n z (ctL X size)) 2 [some (.ref m), some (.ref T), some (.int (nI size)), some (.int (nI k))] [] (PH h m t t2 ns G th n S (clrL C k)) z 0 0 := by
    refine aUp ?_ fun k hk ih => ?_
    · rw [s120_2]
      simp only [s120_0, s120_1, s120_3, s120_5, s120_8, s120_9, s120_12, s120_13, s120_14, s120_15, s120_18, s120_21, s120_22, s120_23, s120_24, s120_25, s120_26, s120_27, s120_33, ldi_0, ldi_s, ldl_0, ldl_s, ldd_0, ldd_s, lda_0, lda_s, st1_0, st1_1, st2_0, st2_1, sti_0, sti_1, stj_0, stj_1, st1_2, sti_2, st2_2, stj_2, st1_3, sti_3, st2_3, stj_3, st1_4, sti_4, st2_4, stj_4, st1_5, sti_5, st2_5, stj_5, st1_6, sti_6, st2_6, stj_6, st1_7, sti_7, st2_7, stj_7, st1_8, sti_8, st2_8, stj_8, st1_9, sti_9, st2_9, stj_9, kil_n, kil_i, kil_r, kil_l, kil_d, gl_0, gl_s, cat_i, cat_r, true_and, PH_gf]
      rw [br_1 (by decide), clrL_e hC]
      refine c120_30 PH_m (Sp_le (show 1 + size ≤ 10 by omega) (sp_mpart hB hX h9 size 0 0 S (fun _ => 0) (by omega) (by omega) (fun i hi => absurd hi (Nat.not_lt_zero i)))) (by omega) (by omega) ?_
      rintro _ _ _ ⟨rfl, rfl, S', h2, rfl⟩
      show aW (Sp 10) 120 0 0 _ 33 _ _ _ _ _ _
      simp only [s120_0, s120_1, s120_3, s120_5, s120_8, s120_9, s120_12, s120_13, s120_14, s120_15, s120_18, s120_21, s120_22, s120_23, s120_24, s120_25, s120_26, s120_27, s120_33, ldi_0, ldi_s, ldl_0, ldl_s, ldd_0, ldd_s, lda_0, lda_s, st1_0, st1_1, st2_0, st2_1, sti_0, sti_1, stj_0, stj_1, st1_2, sti_2, st2_2, stj_2, st1_3, sti_3, st2_3, stj_3, st1_4, sti_4, st2_4, stj_4, st1_5, sti_5, st2_5, stj_5, st1_6, sti_6, st2_6, stj_6, st1_7, sti_7, st2_7, stj_7, st1_8, sti_8, st2_8, stj_8, st1_9, sti_9, st2_9, stj_9, kil_n, kil_i, kil_r, kil_l, kil_d, gl_0, gl_s, cat_i, cat_r, true_and]
      refine ⟨by omega, by omega, rfl, rfl, S', ?_⟩
      rw [prm_congr size 0 0 S (fun _ => 0) (fun i hi => absurd hi (Nat.not_lt_zero i))]
      rfl
    · rw [s120_2]
      simp only [s120_0, s120_1, s120_3, s120_5, s120_8, s120_9, s120_12, s120_13, s120_14, s120_15, s120_18, s120_21, s120_22, s120_23, s120_24, s120_25, s120_26, s120_27, s120_33, ldi_0, ldi_s, ldl_0, ldl_s, ldd_0, ldd_s, lda_0, lda_s, st1_0, st1_1, st2_0, st2_1, sti_0, sti_1, stj_0, stj_1, st1_2, sti_2, st2_2, stj_2, st1_3, sti_3, st2_3, stj_3, st1_4, sti_4, st2_4, stj_4, st1_5, sti_5, st2_5, stj_5, st1_6, sti_6, st2_6, stj_6, st1_7, sti_7, st2_7, stj_7, st1_8, sti_8, st2_8, stj_8, st1_9, sti_9, st2_9, stj_9, kil_n, kil_i, kil_r, kil_l, kil_d, gl_0, gl_s, cat_i, cat_r, true_and, PH_gf, nI_1, ast_la (PH_C hT) hk, PH_uC hT, clrL_s]
      rw [nI_lit9, br_0 (nI_nlt (show k ≤ 9 by omega) (by decide))]
      exact ih
  have k0 := key 0 (by omega)
  rw [clrL_0] at k0
  exact k0
theorem PH_Tb (hB : MB h m t t2 SG) : ∀ S C, Tb (PH h m t t2 ns G th n S C) t G := fun S C => NF_Tb ((hB.sc (by omega)).sc (by omega))
theorem PH_e {S : Nat → Nat} {C : Nat → Int64} (e1 : h (m + 22) = some (na 9 S)) (e2 : h (m + 23) = some (la 10 C)) : NF h m t t2 ns G th n = PH h m t t2 ns G th n S C := by
  unfold PH
  rw [hup_id e1, hup_id e2]
/-- an answer, the counts left behind -/
def CtR (h : AH) (m t t2 ns : Nat) (G : Nat → Nat → Bool) (th : Int32) (n z : Nat) (C : Nat → Int64) (v : Option Value) : AP := fun o h' z' => o = .inl v ∧ z' = z ∧ ∃ S' : Nat → Nat, h' = PH h m t t2 ns G th n S' C
theorem lN_i32 (a : Nat) : (lN a).toInt32 = nI a := lN_i a
theorem sp_mpartings {S : Nat → Nat} {C : Nat → Int64} (hB : MB h m t t2 SG) (hn : n ≤ 9) (e1 : h (m + 22) = some (na 9 S)) (e2 : h (m + 23) = some (la 10 C)) (hC : ∀ q, 10 ≤ q → C q = 0) {k : Nat} (hk : k ≤ 9) : Sp 20 119 [.ref m, .int (nI k)] (NF h m t t2 ns G th n) z 0 0 (CtR h m t t2 ns G 0 n z (ctL G n) (some (.int (nI (ptm G n k))))) := by
  have hT := hB.1
  refine Sp_in (al := [some (.ref m), some (.int (nI k))]) ?_
  simp only [s119_0, s119_1, s119_2, s119_5, s119_6, s119_7, s119_8, s119_13, s119_16, s119_17, s119_20, s119_21, s119_25, s119_28, s119_29, s119_30, s119_31, s119_32, s119_35, s119_36, s119_42, s119_43, s119_46, s119_47, s119_48, s119_49, ldi_0, ldi_s, ldl_0, ldl_s, ldd_0, ldd_s, lda_0, lda_s, st1_0, st1_1, st2_0, st2_1, sti_0, sti_1, stj_0, stj_1, st1_2, sti_2, st2_2, stj_2, st1_3, sti_3, st2_3, stj_3, st1_4, sti_4, st2_4, stj_4, st1_5, sti_5, st2_5, stj_5, st1_6, sti_6, st2_6, stj_6, st1_7, sti_7, st2_7, stj_7, st1_8, sti_8, st2_8, stj_8, st1_9, sti_9, st2_9, stj_9, kil_n, kil_i, kil_r, kil_l, kil_d, gl_0, gl_s, cat_i, cat_r, true_and, NF_th]
  refine c119_10r sp_in ?_
  have e : decide (¬ nI k < 0 ∧ ¬ (9 : Int32) < nI k) = true := by
    rw [decide_eq_true_eq]
    exact ⟨nI_pos (by omega), nI_nlt hk (by decide)⟩
  simp only [s119_0, s119_1, s119_2, s119_5, s119_6, s119_7, s119_8, s119_13, s119_16, s119_17, s119_20, s119_21, s119_25, s119_28, s119_29, s119_30, s119_31, s119_32, s119_35, s119_36, s119_42, s119_43, s119_46, s119_47, s119_48, s119_49, ldi_0, ldi_s, ldl_0, ldl_s, ldd_0, ldd_s, lda_0, lda_s, st1_0, st1_1, st2_0, st2_1, sti_0, sti_1, stj_0, stj_1, st1_2, sti_2, st2_2, stj_2, st1_3, sti_3, st2_3, stj_3, st1_4, sti_4, st2_4, stj_4, st1_5, sti_5, st2_5, stj_5, st1_6, sti_6, st2_6, stj_6, st1_7, sti_7, st2_7, stj_7, st1_8, sti_8, st2_8, stj_8, st1_9, sti_9, st2_9, stj_9, kil_n, kil_i, kil_r, kil_l, kil_d, gl_0, gl_s, cat_i, cat_r, true_and]
  rw [e, br_1 (by decide)]
  refine c119_22r NF_m (sp_throws_f NF_m) ?_
  simp only [s119_0, s119_1, s119_2, s119_5, s119_6, s119_7, s119_8, s119_13, s119_16, s119_17, s119_20, s119_21, s119_25, s119_28, s119_29, s119_30, s119_31, s119_32, s119_35, s119_36, s119_42, s119_43, s119_46, s119_47, s119_48, s119_49, ldi_0, ldi_s, ldl_0, ldl_s, ldd_0, ldd_s, lda_0, lda_s, st1_0, st1_1, st2_0, st2_1, sti_0, sti_1, stj_0, stj_1, st1_2, sti_2, st2_2, stj_2, st1_3, sti_3, st2_3, stj_3, st1_4, sti_4, st2_4, stj_4, st1_5, sti_5, st2_5, stj_5, st1_6, sti_6, st2_6, stj_6, st1_7, sti_7, st2_7, stj_7, st1_8, sti_8, st2_8, stj_8, st1_9, sti_9, st2_9, stj_9, kil_n, kil_i, kil_r, kil_l, kil_d, gl_0, gl_s, cat_i, cat_r, true_and, NF_gf]
  rw [br_1 (by decide), PH_e e1 e2]
  refine c119_39 PH_m (sp_counted hB (PH_Tb hB) hn hC) (by omega) (by omega) ?_
  rintro _ _ z ⟨rfl, rfl, S', rfl⟩
  show aW (Sp 19) 119 0 0 _ 42 _ _ _ _ _ _
  simp only [s119_0, s119_1, s119_2, s119_5, s119_6, s119_7, s119_8, s119_13, s119_16, s119_17, s119_20, s119_21, s119_25, s119_28, s119_29, s119_30, s119_31, s119_32, s119_35, s119_36, s119_42, s119_43, s119_46, s119_47, s119_48, s119_49, ldi_0, ldi_s, ldl_0, ldl_s, ldd_0, ldd_s, lda_0, lda_s, st1_0, st1_1, st2_0, st2_1, sti_0, sti_1, stj_0, stj_1, st1_2, sti_2, st2_2, stj_2, st1_3, sti_3, st2_3, stj_3, st1_4, sti_4, st2_4, stj_4, st1_5, sti_5, st2_5, stj_5, st1_6, sti_6, st2_6, stj_6, st1_7, sti_7, st2_7, stj_7, st1_8, sti_8, st2_8, stj_8, st1_9, sti_9, st2_9, stj_9, kil_n, kil_i, kil_r, kil_l, kil_d, gl_0, gl_s, cat_i, cat_r, true_and, PH_gf, ald_la (PH_C hT) (show k < 10 by omega)]
  refine ⟨by omega, by omega, ?_, rfl, S', rfl⟩
  unfold ctL addL
  rw [Int64.zero_add, lN_i]
theorem sp_mpartings_no {p : Int32} (hp : p < 0 ∨ ¬ p ≤ 9) : Sp 20 119 [.ref m, .int p] (NF h m t t2 ns G th n) z 0 0 (RR (some (.int 0)) (NF h m t t2 ns G 1 n) z) := by
  refine Sp_in (al := [some (.ref m), some (.int p)]) ?_
  simp only [s119_0, s119_1, s119_2, s119_5, s119_6, s119_7, s119_8, s119_13, s119_16, s119_17, s119_20, s119_21, s119_25, s119_28, s119_29, s119_30, s119_31, s119_32, s119_35, s119_36, s119_42, s119_43, s119_46, s119_47, s119_48, s119_49, ldi_0, ldi_s, ldl_0, ldl_s, ldd_0, ldd_s, lda_0, lda_s, st1_0, st1_1, st2_0, st2_1, sti_0, sti_1, stj_0, stj_1, st1_2, sti_2, st2_2, stj_2, st1_3, sti_3, st2_3, stj_3, st1_4, sti_4, st2_4, stj_4, st1_5, sti_5, st2_5, stj_5, st1_6, sti_6, st2_6, stj_6, st1_7, sti_7, st2_7, stj_7, st1_8, sti_8, st2_8, stj_8, st1_9, sti_9, st2_9, stj_9, kil_n, kil_i, kil_r, kil_l, kil_d, gl_0, gl_s, cat_i, cat_r, true_and, NF_th]
  refine c119_10r sp_in ?_
  have e : decide (¬ p < 0 ∧ ¬ (9 : Int32) < p) = false := by
    rw [decide_eq_false_iff_not]
    rintro ⟨h1, h2⟩
    rcases hp with h3 | h3
    · exact h1 h3
    · exact h2 (Int32.not_le.mp h3)
  simp only [s119_0, s119_1, s119_2, s119_5, s119_6, s119_7, s119_8, s119_13, s119_16, s119_17, s119_20, s119_21, s119_25, s119_28, s119_29, s119_30, s119_31, s119_32, s119_35, s119_36, s119_42, s119_43, s119_46, s119_47, s119_48, s119_49, ldi_0, ldi_s, ldl_0, ldl_s, ldd_0, ldd_s, lda_0, lda_s, st1_0, st1_1, st2_0, st2_1, sti_0, sti_1, stj_0, stj_1, st1_2, sti_2, st2_2, stj_2, st1_3, sti_3, st2_3, stj_3, st1_4, sti_4, st2_4, stj_4, st1_5, sti_5, st2_5, stj_5, st1_6, sti_6, st2_6, stj_6, st1_7, sti_7, st2_7, stj_7, st1_8, sti_8, st2_8, stj_8, st1_9, sti_9, st2_9, stj_9, kil_n, kil_i, kil_r, kil_l, kil_d, gl_0, gl_s, cat_i, cat_r, true_and]
  rw [e, br_0 (by decide)]
  refine c119_22r NF_m sp_throws_t ?_
  simp only [s119_0, s119_1, s119_2, s119_5, s119_6, s119_7, s119_8, s119_13, s119_16, s119_17, s119_20, s119_21, s119_25, s119_28, s119_29, s119_30, s119_31, s119_32, s119_35, s119_36, s119_42, s119_43, s119_46, s119_47, s119_48, s119_49, ldi_0, ldi_s, ldl_0, ldl_s, ldd_0, ldd_s, lda_0, lda_s, st1_0, st1_1, st2_0, st2_1, sti_0, sti_1, stj_0, stj_1, st1_2, sti_2, st2_2, stj_2, st1_3, sti_3, st2_3, stj_3, st1_4, sti_4, st2_4, stj_4, st1_5, sti_5, st2_5, stj_5, st1_6, sti_6, st2_6, stj_6, st1_7, sti_7, st2_7, stj_7, st1_8, sti_8, st2_8, stj_8, st1_9, sti_9, st2_9, stj_9, kil_n, kil_i, kil_r, kil_l, kil_d, gl_0, gl_s, cat_i, cat_r, true_and]
  rw [br_0 (by decide)]
  exact out_RR
theorem mayk_new {p u : Nat} {S : Nat → Nat} (q : Nat) (h : ∀ i, i < q → S i < u) : mayk G p S u q = true := by
  induction q with
  | zero => rfl
  | succ q ih =>
    unfold mayk
    rw [ih fun i hi => h i (by omega), decide_eq_false (by have := h q (by omega); omega)]
    rfl
theorem sumV_le {f : Nat → Nat → Nat} {u m k : Nat} (h : k < u) : f k m ≤ sumV f u m := by
  induction u with
  | zero => omega
  | succ u ih =>
    show f k m ≤ sumV f u m + f u m
    by_cases hk : k = u
    · subst hk
      omega
    · have := ih (by omega)
      omega
theorem prm_pos (j : Nat) : ∀ (p u : Nat) (S : Nat → Nat), (∀ i, i < p → S i < u) → 1 ≤ prm G j p u S (u + j) := by
  induction j with
  | zero =>
    intro p u S h
    show 1 ≤ if u + 0 = u then 1 else 0
    rw [if_pos (by omega)]
    exact Nat.le_refl _
  | succ j ih =>
    intro p u S h
    have h1 := sumV_le (f := fun k m => if mayk G p S k p = true then prm G j (p + 1) (if k = u then u + 1 else u) (updN S p k) m else 0) (m := u + (j + 1)) (show u < u + 1 by omega)
    refine Nat.le_trans ?_ h1
    rw [mayk_new p h, if_pos rfl, if_pos rfl, show u + (j + 1) = u + 1 + j by omega]
    refine ih (p + 1) (u + 1) _ fun i hi => ?_
    unfold updN
    split
    · omega
    · have := h i (by omega)
      omega
theorem prm_le (j : Nat) : ∀ (p u : Nat) (S : Nat → Nat) (m : Nat), u + j ≤ 9 → prm G j p u S m ≤ 10 ^ j := by
  induction j with
  | zero =>
    intro p u P m h
    show (if m = u then 1 else 0) ≤ 1
    split <;> omega
  | succ j ih =>
    intro p u S m h
    have hs : ∀ (f : Nat → Nat → Nat) (B : Nat) (k : Nat), (∀ s, s < k → f s m ≤ B) → sumV f k m ≤ k * B := by
      intro f B k hf
      induction k with
      | zero => exact Nat.zero_le _
      | succ k ihk =>
        show sumV f k m + f k m ≤ (k + 1) * B
        have h1 := ihk fun s hs => hf s (by omega)
        have := hf k (by omega)
        rw [Nat.succ_mul]
        omega
    have h2 := hs (fun k m => if mayk G p S k p = true then prm G j (p + 1) (if k = u then u + 1 else u) (updN S p k) m else 0) (10 ^ j) (u + 1) (by
      intro s hs
      split
      · exact ih _ _ _ _ (by split <;> omega)
      · exact Nat.zero_le _)
    have h3 : (u + 1) * 10 ^ j ≤ 10 * 10 ^ j := Nat.mul_le_mul_right _ (by omega)
    rw [Nat.pow_succ, Nat.mul_comm (10 ^ j) 10]
    exact Nat.le_trans h2 h3
theorem ptm_lt (hn : n ≤ 9) (q : Nat) : ptm G n q < 2 ^ 31 := by
  have h1 := prm_le (G := G) n 0 0 (fun _ => 0) q (by omega)
  have h2 : 10 ^ n ≤ 10 ^ 9 := Nat.pow_le_pow_right (by decide) hn
  exact Nat.lt_of_le_of_lt (Nat.le_trans h1 h2) (by decide)
theorem ctL_z (hn : n ≤ 9) (q : Nat) : ctL G n q = 0 ↔ ptm G n q = 0 := by
  unfold ctL addL
  rw [Int64.zero_add, show (0 : Int64) = lN 0 from rfl, pk_lEQ (by have := ptm_lt (G := G) hn q; omega) (by decide)]
theorem sp_mfewest {S : Nat → Nat} {C : Nat → Int64} (hB : MB h m t t2 SG) (hn : n ≤ 9) (e1 : h (m + 22) = some (na 9 S)) (e2 : h (m + 23) = some (la 10 C)) (hC : ∀ q, 10 ≤ q → C q = 0) : Sp 20 128 [.ref m] (NF h m t t2 ns G th n) z 0 0 (CtR h m t t2 ns G th n z (ctL G n) (some (.int (nI (fsp (ptm G n) n n))))) := by
  have hT := hB.1
  have hpos := prm_pos (G := G) n 0 0 (fun _ => 0) (fun i hi => absurd hi (Nat.not_lt_zero i))
  rw [Nat.zero_add] at hpos
  refine Sp_in (al := [some (.ref m), none]) ?_
  simp only [s128_0, s128_1, s128_2, s128_5, s128_6, s128_12, s128_13, s128_15, s128_18, s128_19, s128_20, s128_21, s128_22, s128_25, s128_28, s128_31, s128_32, ldi_0, ldi_s, ldl_0, ldl_s, ldd_0, ldd_s, lda_0, lda_s, st1_0, st1_1, st2_0, st2_1, sti_0, sti_1, stj_0, stj_1, st1_2, sti_2, st2_2, stj_2, st1_3, sti_3, st2_3, stj_3, st1_4, sti_4, st2_4, stj_4, st1_5, sti_5, st2_5, stj_5, st1_6, sti_6, st2_6, stj_6, st1_7, sti_7, st2_7, stj_7, st1_8, sti_8, st2_8, stj_8, st1_9, sti_9, st2_9, stj_9, kil_n, kil_i, kil_r, kil_l, kil_d, gl_0, gl_s, cat_i, cat_r, true_and, NF_gf]
  rw [PH_e e1 e2]
  refine c128_9 PH_m (sp_counted hB (PH_Tb hB) hn hC) (by omega) (by omega) ?_
  rintro _ _ z ⟨rfl, rfl, S', rfl⟩
  show aW (Sp 19) 128 0 0 _ 12 _ _ _ _ _ _
  simp only [s128_0, s128_1, s128_2, s128_5, s128_6, s128_12, s128_13, s128_15, s128_18, s128_19, s128_20, s128_21, s128_22, s128_25, s128_28, s128_31, s128_32, ldi_0, ldi_s, ldl_0, ldl_s, ldd_0, ldd_s, lda_0, lda_s, st1_0, st1_1, st2_0, st2_1, sti_0, sti_1, stj_0, stj_1, st1_2, sti_2, st2_2, stj_2, st1_3, sti_3, st2_3, stj_3, st1_4, sti_4, st2_4, stj_4, st1_5, sti_5, st2_5, stj_5, st1_6, sti_6, st2_6, stj_6, st1_7, sti_7, st2_7, stj_7, st1_8, sti_8, st2_8, stj_8, st1_9, sti_9, st2_9, stj_9, kil_n, kil_i, kil_r, kil_l, kil_d, gl_0, gl_s, cat_i, cat_r, true_and]
  have key : ∀ j k, k + j = n → fsp (ptm G n) n n = fsp (ptm G n) n j → aW (Sp 19) 128 0 0 (CtR h m t t2 ns G th n z (ctL G n) (some (.int (nI (fsp (ptm G n) n n))))) 14 [some (.ref m), some (.int (nI k))] [] (PH h m t t2 ns G th n S' (ctL G n)) z (0 + 0) (0 + 0) := by
    intro j
    induction j with
    | zero =>
      intro k hk e
      have ek : k = n := by omega
      subst ek
      rw [s128_14]
      simp only [s128_0, s128_1, s128_2, s128_5, s128_6, s128_12, s128_13, s128_15, s128_18, s128_19, s128_20, s128_21, s128_22, s128_25, s128_28, s128_31, s128_32, ldi_0, ldi_s, ldl_0, ldl_s, ldd_0, ldd_s, lda_0, lda_s, st1_0, st1_1, st2_0, st2_1, sti_0, sti_1, stj_0, stj_1, st1_2, sti_2, st2_2, stj_2, st1_3, sti_3, st2_3, stj_3, st1_4, sti_4, st2_4, stj_4, st1_5, sti_5, st2_5, stj_5, st1_6, sti_6, st2_6, stj_6, st1_7, sti_7, st2_7, stj_7, st1_8, sti_8, st2_8, stj_8, st1_9, sti_9, st2_9, stj_9, kil_n, kil_i, kil_r, kil_l, kil_d, gl_0, gl_s, cat_i, cat_r, true_and, PH_gf, ald_la (PH_C hT) (show k < 10 by omega), lg_cmp_eq]
      rw [br_1 (by rw [ctL_z hn]; show ¬ prm G k 0 0 (fun _ => 0) k = 0; omega), e]
      exact ⟨by omega, by omega, rfl, rfl, S', rfl⟩
    | succ j ih =>
      intro k hk e
      rw [s128_14]
      simp only [s128_0, s128_1, s128_2, s128_5, s128_6, s128_12, s128_13, s128_15, s128_18, s128_19, s128_20, s128_21, s128_22, s128_25, s128_28, s128_31, s128_32, ldi_0, ldi_s, ldl_0, ldl_s, ldd_0, ldd_s, lda_0, lda_s, st1_0, st1_1, st2_0, st2_1, sti_0, sti_1, stj_0, stj_1, st1_2, sti_2, st2_2, stj_2, st1_3, sti_3, st2_3, stj_3, st1_4, sti_4, st2_4, stj_4, st1_5, sti_5, st2_5, stj_5, st1_6, sti_6, st2_6, stj_6, st1_7, sti_7, st2_7, stj_7, st1_8, sti_8, st2_8, stj_8, st1_9, sti_9, st2_9, stj_9, kil_n, kil_i, kil_r, kil_l, kil_d, gl_0, gl_s, cat_i, cat_r, true_and, PH_gf, nI_1, ald_la (PH_C hT) (show k < 10 by omega), lg_cmp_eq]
      rw [ctL_z hn]
      have ef : fsp (ptm G n) n (j + 1) = if ptm G n (n - (j + 1)) = 0 then fsp (ptm G n) n j else n - (j + 1) := rfl
      rw [ef, show n - (j + 1) = k by omega] at e
      refine ⟨fun h1 => ?_, fun h1 => ?_⟩
      · rw [if_neg h1] at e
        rw [e]
        exact ⟨by omega, by omega, rfl, rfl, S', rfl⟩
      · rw [if_pos (Decidable.not_not.mp h1)] at e
        exact ih (k + 1) (by omega) e
  exact key n 0 (by omega) rfl
end Mod6
