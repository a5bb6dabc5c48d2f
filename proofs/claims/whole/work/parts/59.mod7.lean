/-! ColourmapModel: painting -/
/-- ways to go on painting with k colours from place p on, the places before painted by S -/
def pam (G : Nat → Nat → Bool) (k : Nat) : Nat → Nat → (Nat → Nat) → Int32
  | 0, _, _ => 1
  | j + 1, p, S => sumI (fun c => if mayk G p S c p = true then pam G k j (p + 1) (updN S p c) else 0) k
theorem sumI_congr {f g : Nat → Int32} (u : Nat) (h : ∀ s, s < u → f s = g s) : sumI f u = sumI g u := by
  induction u with
  | zero => rfl
  | succ u ih =>
    show sumI f u + f u = sumI g u + g u
    rw [ih fun s hs => h s (by omega), h u (by omega)]
theorem pam_congr {G : Nat → Nat → Bool} {k : Nat} (j : Nat) : ∀ (p : Nat) (S S' : Nat → Nat), (∀ i, i < p → S i = S' i) → pam G k j p S = pam G k j p S' := by
  induction j with
  | zero => intro p S S' _; rfl
  | succ j ih =>
    intro p S S' h
    refine sumI_congr _ fun c _ => ?_
    rw [mayk_congr p h, ih (p + 1) (updN S p c) (updN S' p c) (updN_cg h)]
theorem lni_below {t : Nat} (j : Nat) : ∀ c, 9 - j ≤ c → c < lni t j → t.testBit c = true := by
  induction j with
  | zero =>
    intro c h1 h2
    have : lni t 0 = 9 := rfl
    omega
  | succ j ih =>
    intro c h1 h2
    unfold lni at h2
    by_cases hb : t.testBit (9 - (j + 1)) = true
    · rw [if_pos hb] at h2
      by_cases hc : c = 9 - (j + 1)
      · rw [hc]
        exact hb
      · exact ih c (by omega) h2
    · rw [if_neg hb] at h2
      omega
theorem cnt_or {f g : Nat → Bool} (k : Nat) : cnt (fun c => f c || g c) k ≤ cnt f k + cnt g k := by
  induction k with
  | zero => exact Nat.le_refl _
  | succ k ih =>
    show cnt (fun c => f c || g c) k + (if (f k || g k) = true then 1 else 0) ≤ cnt f k + (if f k = true then 1 else 0) + (cnt g k + (if g k = true then 1 else 0))
    cases f k <;> cases g k <;> simp <;> omega
theorem cnt_0 (k : Nat) : cnt (fun _ => false) k = 0 := by
  induction k with
  | zero => rfl
  | succ k ih => rw [cnt_f rfl, ih]
theorem cnt_one (r k : Nat) : cnt (fun c => decide (r = c)) k ≤ 1 := by
  have key : ∀ k, cnt (fun c => decide (r = c)) k = if r < k then 1 else 0 := by
    intro k
    induction k with
    | zero => rfl
    | succ k ih =>
      by_cases h : r = k
      · rw [cnt_t (decide_eq_true h), ih, if_neg (by omega), if_pos (by omega)]
      · rw [cnt_f (decide_eq_false h), ih]
        by_cases h2 : r < k
        · rw [if_pos h2, if_pos (by omega)]
        · rw [if_neg h2, if_neg (by omega)]
  rw [key]
  split <;> omega
theorem tak_cnt {f : Nat → Bool} {R : Nat → Nat} (k a : Nat) : cnt (fun c => (tak f R a).testBit c) k ≤ a := by
  induction a with
  | zero =>
    rw [show (fun c => (tak f R 0).testBit c) = fun _ => false from funext fun c => Nat.zero_testBit c, cnt_0]
    exact Nat.le_refl _
  | succ a ih =>
    refine Nat.le_trans (Nat.le_of_eq (cnt_congr (g := fun c => (tak f R a).testBit c || (if f a then 2 ^ R a else 0).testBit c) fun c _ => ?_)) ?_
    · show (tak f R a ||| (if f a then 2 ^ R a else 0)).testBit c = _
      rw [Nat.testBit_or]
    · have h2 : cnt (fun c => (if f a then 2 ^ R a else 0).testBit c) k ≤ 1 := by
        by_cases hf : f a = true
        · rw [cnt_congr (g := fun c => decide (R a = c)) (fun c _ => by rw [if_pos hf, Nat.testBit_two_pow])]
          exact cnt_one _ _
        · rw [cnt_congr (g := fun _ => false) (fun c _ => by rw [if_neg hf, Nat.zero_testBit]), cnt_0]
          exact Nat.zero_le _
      exact Nat.le_trans (cnt_or k) (Nat.add_le_add ih h2)
theorem cnt_all {g : Nat → Bool} (k : Nat) (h : ∀ c, c < k → g c = true) : cnt g k = k := by
  induction k with
  | zero => rfl
  | succ k ih => rw [cnt_t (h k (by omega)), ih fun c hc => h c (by omega)]
theorem lni_tak {f : Nat → Bool} {R : Nat → Nat} (a : Nat) : lni (tak f R a) 9 ≤ a := by
  apply Decidable.byContradiction
  intro h
  have h1 := cnt_all (g := fun c => (tak f R a).testBit c) (a + 1) fun c hc => lni_below 9 c (by omega) (by omega)
  have h2 := tak_cnt (f := f) (R := R) (a + 1) a
  omega
/-- the row colouring -/
def colF (G : Nat → Nat → Bool) (a : Nat) : Nat := lni (tak (G a) (grR G (fun _ => 0) a) a) 9
theorem colF_le {G : Nat → Nat → Bool} (a : Nat) : colF G a ≤ a := lni_tak a
theorem grR_col {G : Nat → Nat → Bool} {R : Nat → Nat} (p : Nat) : ∀ q, q < p → grR G R p q = colF G q := by
  induction p with
  | zero => exact fun q hq => absurd hq (Nat.not_lt_zero q)
  | succ p ih =>
    intro q hq
    show updN (grR G R p) p (lni (tak (G p) (grR G R p) p) 9) q = colF G q
    unfold updN
    by_cases h : q = p
    · rw [if_pos h, h]
      unfold colF
      rw [tak_congr p (grR_any p)]
    · rw [if_neg h]
      exact ih q (by omega)
section Mod7
variable {h : AH} {m t t2 ns n z : Nat} {G SG : Nat → Nat → Bool} {th : Int32}
def QH (h : AH) (m t t2 ns : Nat) (G : Nat → Nat → Bool) (th : Int32) (n : Nat) (S : Nat → Nat) : AH := NF (hup h (m + 24) (na 9 S)) m t t2 ns G th n
theorem QH_m {S : Nat → Nat} : QH h m t t2 ns G th n S m = some (moO m th n t ns t2) := NF_m
theorem QH_gf {S : Nat → Nat} {k : Nat} {f : Value → Prop} : gf (QH h m t t2 ns G th n S) m 6 k f = gl [.int th, .int (nI n), .ref t, .int (nI ns), .ref t2, .ref (m + 21), .ref (m + 22), .ref (m + 23), .ref (m + 24), .ref (m + 25), .ref (m + 26), .ref (m + 27), .ref (m + 28), .ref (m + 29), .ref (m + 30), .ref (m + 40)] k f := gf_ob NF_m
theorem QH_S (hT : TT m t t2) {S : Nat → Nat} : QH h m t t2 ns G th n S (m + 24) = some (na 9 S) := NF_at hT (by omega)
theorem QH_u (hT : TT m t t2) {S S' : Nat → Nat} : hup (QH h m t t2 ns G th n S) (m + 24) (na 9 S') = QH h m t t2 ns G th n S' := NF_hh hT (by omega)
theorem QH_T (hB : MB h m t t2 SG) {S : Nat → Nat} : Tb (QH h m t t2 ns G th n S) t G := NF_Tb (hB.sc (by omega))
theorem QH_e {S : Nat → Nat} (e : h (m + 24) = some (na 9 S)) : NF h m t t2 ns G th n = QH h m t t2 ns G th n S := by
  unfold QH
  rw [hup_id e]
def PaintP (h : AH) (m t t2 ns : Nat) (G : Nat → Nat → Bool) (th : Int32) (n p z : Nat) (S : Nat → Nat) (v : Int32) : AP := fun o h' z' => o = .inl (some (.int v)) ∧ z' = z ∧ ∃ S' : Nat → Nat, (∀ i, i < p → S' i = S i) ∧ h' = QH h m t t2 ns G th n S'
theorem sp_mpaint (hB : MB h m t t2 SG) (hn : n ≤ 9) {k : Nat} (hk : k < 2 ^ 30) : ∀ (j p : Nat) (S : Nat → Nat), p + j = n → (∀ i, i < p → S i < k) → Sp (1 + j) 125 [.ref m, .int (nI p), .int (nI k)] (QH h m t t2 ns G th n S) z 0 0 (PaintP h m t t2 ns G th n p z S (pam G k j p S)) := by
  have hT := hB.1
  intro j
  induction j with
  | zero =>
    intro p S hp hS
    have e : p = n := by omega
    subst e
    refine Sp_in (al := [some (.ref m), some (.int (nI p)), some (.int (nI k)), none, none, none, none]) ?_
    simp only [s125_0, s125_1, s125_2, s125_5, s125_8, s125_9, s125_10, s125_11, s125_12, s125_13, s125_17, s125_18, s125_21, s125_22, s125_24, s125_25, s125_29, s125_30, s125_33, s125_35, s125_38, s125_39, s125_42, s125_43, s125_44, s125_46, s125_47, s125_50, s125_51, s125_54, s125_56, s125_57, s125_59, s125_62, s125_63, s125_66, s125_67, s125_69, s125_72, s125_75, s125_77, s125_80, s125_83, s125_84, s125_87, s125_88, s125_90, s125_91, s125_92, s125_93, s125_94, s125_95, s125_96, s125_100, s125_101, s125_102, s125_105, s125_108, s125_109, ldi_0, ldi_s, ldl_0, ldl_s, ldd_0, ldd_s, lda_0, lda_s, st1_0, st1_1, st2_0, st2_1, sti_0, sti_1, stj_0, stj_1, st1_2, sti_2, st2_2, stj_2, st1_3, sti_3, st2_3, stj_3, st1_4, sti_4, st2_4, stj_4, st1_5, sti_5, st2_5, stj_5, st1_6, sti_6, st2_6, stj_6, st1_7, sti_7, st2_7, stj_7, st1_8, sti_8, st2_8, stj_8, st1_9, sti_9, st2_9, stj_9, kil_n, kil_i, kil_r, kil_l, kil_d, gl_0, gl_s, cat_i, cat_r, true_and, QH_gf]
    rw [br_0 (by simp)]
    exact ⟨by omega, by omega, rfl, rfl, S, fun _ _ => rfl, rfl⟩
  | succ j ih =>
    intro p S hp hS
    show Sp (1 + j + 1) _ _ _ _ _ _ _
    have hp9 : p < 9 := by omega
    refine Sp_in (al := [some (.ref m), some (.int (nI p)), some (.int (nI k)), none, none, none, none]) ?_
    simp only [s125_0, s125_1, s125_2, s125_5, s125_8, s125_9, s125_10, s125_11, s125_12, s125_13, s125_17, s125_18, s125_21, s125_22, s125_24, s125_25, s125_29, s125_30, s125_33, s125_35, s125_38, s125_39, s125_42, s125_43, s125_44, s125_46, s125_47, s125_50, s125_51, s125_54, s125_56, s125_57, s125_59, s125_62, s125_63, s125_66, s125_67, s125_69, s125_72, s125_75, s125_77, s125_80, s125_83, s125_84, s125_87, s125_88, s125_90, s125_91, s125_92, s125_93, s125_94, s125_95, s125_96, s125_100, s125_101, s125_102, s125_105, s125_108, s125_109, ldi_0, ldi_s, ldl_0, ldl_s, ldd_0, ldd_s, lda_0, lda_s, st1_0, st1_1, st2_0, st2_1, sti_0, sti_1, stj_0, stj_1, st1_2, sti_2, st2_2, stj_2, st1_3, sti_3, st2_3, stj_3, st1_4, sti_4, st2_4, stj_4, st1_5, sti_5, st2_5, stj_5, st1_6, sti_6, st2_6, stj_6, st1_7, sti_7, st2_7, stj_7, st1_8, sti_8, st2_8, stj_8, st1_9, sti_9, st2_9, stj_9, kil_n, kil_i, kil_r, kil_l, kil_d, gl_0, gl_s, cat_i, cat_r, true_and, QH_gf]
    rw [br_1 (by rw [nI_eq (by omega) (by omega)]; omega)]
    have key : ∀ c, c ≤ k → ∀ S', (∀ i, i < p → S' i = S i) → ∀ b1 b2 : Option Value, aW (Sp (1 + j)) 125 0 0 (PaintP h m t t2 ns G th n p z S (pam G k (j + 1) p S)) 15 [some (.ref m), some (.int (nI p)), some (.int (nI k)), some (.int (sumI (fun c => if mayk G p S c p = true then pam G k j (p + 1) (updN S p c) else 0) c)), some (.int (nI c)), kil b1, b2] [] (QH h m t t2 ns G th n S') z 0 0 := by
      refine aUp ?_ fun c hc ihc => ?_
      · intro S' hS' b1 b2
        rw [s125_15]
        simp only [s125_0, s125_1, s125_2, s125_5, s125_8, s125_9, s125_10, s125_11, s125_12, s125_13, s125_17, s125_18, s125_21, s125_22, s125_24, s125_25, s125_29, s125_30, s125_33, s125_35, s125_38, s125_39, s125_42, s125_43, s125_44, s125_46, s125_47, s125_50, s125_51, s125_54, s125_56, s125_57, s125_59, s125_62, s125_63, s125_66, s125_67, s125_69, s125_72, s125_75, s125_77, s125_80, s125_83, s125_84, s125_87, s125_88, s125_90, s125_91, s125_92, s125_93, s125_94, s125_95, s125_96, s125_100, s125_101, s125_102, s125_105, s125_108, s125_109, ldi_0, ldi_s, ldl_0, ldl_s, ldd_0, ldd_s, lda_0, lda_s, st1_0, st1_1, st2_0, st2_1, sti_0, sti_1, stj_0, stj_1, st1_2, sti_2, st2_2, stj_2, st1_3, sti_3, st2_3, stj_3, st1_4, sti_4, st2_4, stj_4, st1_5, sti_5, st2_5, stj_5, st1_6, sti_6, st2_6, stj_6, st1_7, sti_7, st2_7, stj_7, st1_8, sti_8, st2_8, stj_8, st1_9, sti_9, st2_9, stj_9, kil_n, kil_i, kil_r, kil_l, kil_d, gl_0, gl_s, cat_i, cat_r, true_and]
        rw [br_1 (nI_le (Nat.le_refl _) (by omega))]
        exact ⟨by omega, by omega, rfl, rfl, S', hS', rfl⟩
      · intro S' hS' b1 b2
        rw [show sumI (fun c => if mayk G p S c p = true then pam G k j (p + 1) (updN S p c) else 0) (c + 1) = sumI (fun c => if mayk G p S c p = true then pam G k j (p + 1) (updN S p c) else 0) c + (if mayk G p S c p = true then pam G k j (p + 1) (updN S p c) else 0) from rfl] at ihc
        rw [s125_15]
        simp only [s125_0, s125_1, s125_2, s125_5, s125_8, s125_9, s125_10, s125_11, s125_12, s125_13, s125_17, s125_18, s125_21, s125_22, s125_24, s125_25, s125_29, s125_30, s125_33, s125_35, s125_38, s125_39, s125_42, s125_43, s125_44, s125_46, s125_47, s125_50, s125_51, s125_54, s125_56, s125_57, s125_59, s125_62, s125_63, s125_66, s125_67, s125_69, s125_72, s125_75, s125_77, s125_80, s125_83, s125_84, s125_87, s125_88, s125_90, s125_91, s125_92, s125_93, s125_94, s125_95, s125_96, s125_100, s125_101, s125_102, s125_105, s125_108, s125_109, ldi_0, ldi_s, ldl_0, ldl_s, ldd_0, ldd_s, lda_0, lda_s, st1_0, st1_1, st2_0, st2_1, sti_0, sti_1, stj_0, stj_1, st1_2, sti_2, st2_2, stj_2, st1_3, sti_3, st2_3, stj_3, st1_4, sti_4, st2_4, stj_4, st1_5, sti_5, st2_5, stj_5, st1_6, sti_6, st2_6, stj_6, st1_7, sti_7, st2_7, stj_7, st1_8, sti_8, st2_8, stj_8, st1_9, sti_9, st2_9, stj_9, kil_n, kil_i, kil_r, kil_l, kil_d, gl_0, gl_s, cat_i, cat_r, true_and]
        rw [br_0 (nI_ge hc (by omega))]
        generalize sumI (fun c => if mayk G p S c p = true then pam G k j (p + 1) (updN S p c) else 0) c = D at ihc ⊢
        have inn : ∀ q, q ≤ p → aW (Sp (1 + j)) 125 0 0 (PaintP h m t t2 ns G th n p z S (pam G k (j + 1) p S)) 27 [some (.ref m), some (.int (nI p)), some (.int (nI k)), some (.int D), some (.int (nI c)), some (.int (bI (mayk G p S c q))), some (.int (nI q))] [] (QH h m t t2 ns G th n S') z 0 0 := by
          refine aUp ?_ fun q hq ihq => ?_
          · rw [s125_27]
            simp only [s125_0, s125_1, s125_2, s125_5, s125_8, s125_9, s125_10, s125_11, s125_12, s125_13, s125_17, s125_18, s125_21, s125_22, s125_24, s125_25, s125_29, s125_30, s125_33, s125_35, s125_38, s125_39, s125_42, s125_43, s125_44, s125_46, s125_47, s125_50, s125_51, s125_54, s125_56, s125_57, s125_59, s125_62, s125_63, s125_66, s125_67, s125_69, s125_72, s125_75, s125_77, s125_80, s125_83, s125_84, s125_87, s125_88, s125_90, s125_91, s125_92, s125_93, s125_94, s125_95, s125_96, s125_100, s125_101, s125_102, s125_105, s125_108, s125_109, ldi_0, ldi_s, ldl_0, ldl_s, ldd_0, ldd_s, lda_0, lda_s, st1_0, st1_1, st2_0, st2_1, sti_0, sti_1, stj_0, stj_1, st1_2, sti_2, st2_2, stj_2, st1_3, sti_3, st2_3, stj_3, st1_4, sti_4, st2_4, stj_4, st1_5, sti_5, st2_5, stj_5, st1_6, sti_6, st2_6, stj_6, st1_7, sti_7, st2_7, stj_7, st1_8, sti_8, st2_8, stj_8, st1_9, sti_9, st2_9, stj_9, kil_n, kil_i, kil_r, kil_l, kil_d, gl_0, gl_s, cat_i, cat_r, true_and, QH_gf, nI_1, ast_na (QH_S hT) hp9, QH_u hT, bI_0]
            rw [br_1 (nI_le (Nat.le_refl _) (by omega))]
            by_cases hm : mayk G p S c p = true
            · rw [br_1 (by rw [hm]; decide)]
              rw [if_pos hm] at ihc
              have hS2 : ∀ i, i < p + 1 → updN S' p c i < k := by
                intro i hi
                unfold updN
                by_cases hi2 : i = p
                · rw [if_pos hi2]
                  exact hc
                · rw [if_neg hi2, hS' i (by omega)]
                  exact hS i (by omega)
              refine c125_97 QH_m (ih (p + 1) (updN S' p c) (by omega) hS2) (by omega) (by omega) ?_
              rintro _ _ z ⟨rfl, rfl, S2, h2, rfl⟩
              show aW (Sp (1 + j)) 125 0 0 _ 100 _ _ _ _ _ _
              simp only [s125_0, s125_1, s125_2, s125_5, s125_8, s125_9, s125_10, s125_11, s125_12, s125_13, s125_17, s125_18, s125_21, s125_22, s125_24, s125_25, s125_29, s125_30, s125_33, s125_35, s125_38, s125_39, s125_42, s125_43, s125_44, s125_46, s125_47, s125_50, s125_51, s125_54, s125_56, s125_57, s125_59, s125_62, s125_63, s125_66, s125_67, s125_69, s125_72, s125_75, s125_77, s125_80, s125_83, s125_84, s125_87, s125_88, s125_90, s125_91, s125_92, s125_93, s125_94, s125_95, s125_96, s125_100, s125_101, s125_102, s125_105, s125_108, s125_109, ldi_0, ldi_s, ldl_0, ldl_s, ldd_0, ldd_s, lda_0, lda_s, st1_0, st1_1, st2_0, st2_1, sti_0, sti_1, stj_0, stj_1, st1_2, sti_2, st2_2, stj_2, st1_3, sti_3, st2_3, stj_3, st1_4, sti_4, st2_4, stj_4, st1_5, sti_5, st2_5, stj_5, st1_6, sti_6, st2_6, stj_6, st1_7, sti_7, st2_7, stj_7, st1_8, sti_8, st2_8, stj_8, st1_9, sti_9, st2_9, stj_9, kil_n, kil_i, kil_r, kil_l, kil_d, gl_0, gl_s, cat_i, cat_r, true_and, nI_1]
              rw [pam_congr j (p + 1) (updN S' p c) (updN S p c) (updN_cg hS')]
              refine ihc S2 (fun i hi => ?_) (some (.int _)) _
              rw [h2 i (by omega)]
              unfold updN
              rw [if_neg (by omega)]
              exact hS' i hi
            · rw [if_neg hm, Int32.add_zero] at ihc
              rw [Bool.not_eq_true] at hm
              rw [hm, br_0 (by decide)]
              exact ihc S' hS' (some (.int _)) _
          · have e2 : mayk G p S c (q + 1) = (mayk G p S c q && !(decide (S q = c) && G p q)) := rfl
            rw [e2, ← hS' q (by omega)] at ihq
            have hq1 := hS q (by omega)
            have hq2 := hS' q (by omega)
            rw [s125_27]
            simp only [s125_0, s125_1, s125_2, s125_5, s125_8, s125_9, s125_10, s125_11, s125_12, s125_13, s125_17, s125_18, s125_21, s125_22, s125_24, s125_25, s125_29, s125_30, s125_33, s125_35, s125_38, s125_39, s125_42, s125_43, s125_44, s125_46, s125_47, s125_50, s125_51, s125_54, s125_56, s125_57, s125_59, s125_62, s125_63, s125_66, s125_67, s125_69, s125_72, s125_75, s125_77, s125_80, s125_83, s125_84, s125_87, s125_88, s125_90, s125_91, s125_92, s125_93, s125_94, s125_95, s125_96, s125_100, s125_101, s125_102, s125_105, s125_108, s125_109, ldi_0, ldi_s, ldl_0, ldl_s, ldd_0, ldd_s, lda_0, lda_s, st1_0, st1_1, st2_0, st2_1, sti_0, sti_1, stj_0, stj_1, st1_2, sti_2, st2_2, stj_2, st1_3, sti_3, st2_3, stj_3, st1_4, sti_4, st2_4, stj_4, st1_5, sti_5, st2_5, stj_5, st1_6, sti_6, st2_6, stj_6, st1_7, sti_7, st2_7, stj_7, st1_8, sti_8, st2_8, stj_8, st1_9, sti_9, st2_9, stj_9, kil_n, kil_i, kil_r, kil_l, kil_d, gl_0, gl_s, cat_i, cat_r, true_and, QH_gf, nI_1, ald_na (QH_S hT) (show q < 9 by omega), ald_tb (QH_T hB) hp9, ald_tr (QH_T hB) hp9 (show q < 9 by omega), bI_0]
            rw [br_0 (nI_ge hq (by omega)), nI_eq (by omega) (by omega)]
            refine ⟨fun h1 => ?_, fun h1 => ⟨fun h3 => ?_, fun h3 => ⟨fun h2 => ?_, fun h2 => ?_⟩⟩⟩
            · rw [h1] at ihq
              exact ihq
            · rw [Bool.not_eq_false] at h1
              rw [h1, h3, Bool.and_false] at ihq
              exact ihq
            · rw [Bool.not_eq_false] at h3
              rw [decide_eq_true h2, h3, Bool.and_self, Bool.not_true, Bool.and_false] at ihq
              exact ihq
            · rw [Bool.not_eq_false] at h1
              rw [h1, decide_eq_false h2] at ihq
              exact ihq
        exact inn 0 (by omega)
    exact key 0 (by omega) S (fun _ _ => rfl) none none
/-- how many ways to paint with k colours -/
def pnm (n : Nat) (G : Nat → Nat → Bool) (k : Nat) : Int32 := pam G k n 0 (fun _ => 0)
def QtR (h : AH) (m t t2 ns : Nat) (G : Nat → Nat → Bool) (th : Int32) (n z : Nat) (v : Option Value) : AP := fun o h' z' => o = .inl v ∧ z' = z ∧ ∃ S' : Nat → Nat, h' = QH h m t t2 ns G th n S'
theorem sp_mpaint0 (hB : MB h m t t2 SG) (hn : n ≤ 9) {k : Nat} (hk : k < 2 ^ 30) {S : Nat → Nat} : Sp 10 125 [.ref m, .int (nI 0), .int (nI k)] (QH h m t t2 ns G th n S) z 0 0 (QtR h m t t2 ns G th n z (some (.int (pnm n G k)))) := by
  have e := sp_mpaint (z := z) (G := G) (th := th) (ns := ns) hB hn hk n 0 S (by omega) (fun i hi => absurd hi (Nat.not_lt_zero i))
  rw [pam_congr n 0 S (fun _ => 0) (fun i hi => absurd hi (Nat.not_lt_zero i))] at e
  refine Sp_conseq ?_ (Sp_le (show 1 + n ≤ 10 by omega) e)
  rintro _ _ z ⟨rfl, rfl, S2, h2, rfl⟩
  exact ⟨rfl, rfl, S2, rfl⟩
theorem sp_misTwo (hB : MB h m t t2 SG) (hn : n ≤ 9) {S : Nat → Nat} (e : h (m + 24) = some (na 9 S)) : Sp 20 124 [.ref m] (NF h m t t2 ns G th n) z 0 0 (QtR h m t t2 ns G th n z (some (.int (bI (decide (¬ pnm n G 2 ≤ 0)))))) := by
  rw [QH_e e]
  refine Sp_in (al := [some (.ref m)]) ?_
  simp only [s124_0, s124_1, s124_2, s124_6, s124_9, s124_10, s124_13, s124_14, ldi_0, ldi_s, ldl_0, ldl_s, ldd_0, ldd_s, lda_0, lda_s, st1_0, st1_1, st2_0, st2_1, sti_0, sti_1, stj_0, stj_1, st1_2, sti_2, st2_2, stj_2, st1_3, sti_3, st2_3, stj_3, st1_4, sti_4, st2_4, stj_4, st1_5, sti_5, st2_5, stj_5, st1_6, sti_6, st2_6, stj_6, st1_7, sti_7, st2_7, stj_7, st1_8, sti_8, st2_8, stj_8, st1_9, sti_9, st2_9, stj_9, kil_n, kil_i, kil_r, kil_l, kil_d, gl_0, gl_s, cat_i, cat_r, true_and]
  refine c124_3 QH_m (sp_mpaint0 (k := 2) hB hn (by decide)) (by omega) (by omega) ?_
  rintro _ _ z ⟨rfl, rfl, S2, rfl⟩
  show aW (Sp 19) 124 0 0 _ 6 _ _ _ _ _ _
  simp only [s124_0, s124_1, s124_2, s124_6, s124_9, s124_10, s124_13, s124_14, ldi_0, ldi_s, ldl_0, ldl_s, ldd_0, ldd_s, lda_0, lda_s, st1_0, st1_1, st2_0, st2_1, sti_0, sti_1, stj_0, stj_1, st1_2, sti_2, st2_2, stj_2, st1_3, sti_3, st2_3, stj_3, st1_4, sti_4, st2_4, stj_4, st1_5, sti_5, st2_5, stj_5, st1_6, sti_6, st2_6, stj_6, st1_7, sti_7, st2_7, stj_7, st1_8, sti_8, st2_8, stj_8, st1_9, sti_9, st2_9, stj_9, kil_n, kil_i, kil_r, kil_l, kil_d, gl_0, gl_s, cat_i, cat_r, true_and]
  refine ⟨fun h1 => ?_, fun h1 => ?_⟩
  · exact ⟨by decide, by omega, by omega, by rw [decide_eq_false (fun w => w h1)]; rfl, rfl, S2, rfl⟩
  · exact ⟨by decide, by omega, by omega, by rw [decide_eq_true h1]; rfl, rfl, S2, rfl⟩
theorem sp_mcolourings (hB : MB h m t t2 SG) (hn : n ≤ 9) {S : Nat → Nat} (e : h (m + 24) = some (na 9 S)) {k : Nat} (hk : k ≤ 4) : Sp 20 140 [.ref m, .int (nI k)] (NF h m t t2 ns G th n) z 0 0 (QtR h m t t2 ns G 0 n z (some (.int (pnm n G k)))) := by
  refine Sp_in (al := [some (.ref m), some (.int (nI k))]) ?_
  simp only [s140_0, s140_1, s140_2, s140_5, s140_6, s140_7, s140_8, s140_12, s140_15, s140_16, s140_19, s140_20, s140_24, s140_27, s140_28, s140_31, s140_32, s140_33, s140_37, ldi_0, ldi_s, ldl_0, ldl_s, ldd_0, ldd_s, lda_0, lda_s, st1_0, st1_1, st2_0, st2_1, sti_0, sti_1, stj_0, stj_1, st1_2, sti_2, st2_2, stj_2, st1_3, sti_3, st2_3, stj_3, st1_4, sti_4, st2_4, stj_4, st1_5, sti_5, st2_5, stj_5, st1_6, sti_6, st2_6, stj_6, st1_7, sti_7, st2_7, stj_7, st1_8, sti_8, st2_8, stj_8, st1_9, sti_9, st2_9, stj_9, kil_n, kil_i, kil_r, kil_l, kil_d, gl_0, gl_s, cat_i, cat_r, true_and, NF_th]
  refine c140_9r sp_in ?_
  have e1 : decide (¬ nI k < 0 ∧ ¬ (4 : Int32) < nI k) = true := by
    rw [decide_eq_true_eq]
    exact ⟨nI_pos (by omega), nI_nlt hk (by decide)⟩
  simp only [s140_0, s140_1, s140_2, s140_5, s140_6, s140_7, s140_8, s140_12, s140_15, s140_16, s140_19, s140_20, s140_24, s140_27, s140_28, s140_31, s140_32, s140_33, s140_37, ldi_0, ldi_s, ldl_0, ldl_s, ldd_0, ldd_s, lda_0, lda_s, st1_0, st1_1, st2_0, st2_1, sti_0, sti_1, stj_0, stj_1, st1_2, sti_2, st2_2, stj_2, st1_3, sti_3, st2_3, stj_3, st1_4, sti_4, st2_4, stj_4, st1_5, sti_5, st2_5, stj_5, st1_6, sti_6, st2_6, stj_6, st1_7, sti_7, st2_7, stj_7, st1_8, sti_8, st2_8, stj_8, st1_9, sti_9, st2_9, stj_9, kil_n, kil_i, kil_r, kil_l, kil_d, gl_0, gl_s, cat_i, cat_r, true_and]
  rw [e1, br_1 (by decide)]
  refine c140_21r NF_m (sp_throws_f NF_m) ?_
  simp only [s140_0, s140_1, s140_2, s140_5, s140_6, s140_7, s140_8, s140_12, s140_15, s140_16, s140_19, s140_20, s140_24, s140_27, s140_28, s140_31, s140_32, s140_33, s140_37, ldi_0, ldi_s, ldl_0, ldl_s, ldd_0, ldd_s, lda_0, lda_s, st1_0, st1_1, st2_0, st2_1, sti_0, sti_1, stj_0, stj_1, st1_2, sti_2, st2_2, stj_2, st1_3, sti_3, st2_3, stj_3, st1_4, sti_4, st2_4, stj_4, st1_5, sti_5, st2_5, stj_5, st1_6, sti_6, st2_6, stj_6, st1_7, sti_7, st2_7, stj_7, st1_8, sti_8, st2_8, stj_8, st1_9, sti_9, st2_9, stj_9, kil_n, kil_i, kil_r, kil_l, kil_d, gl_0, gl_s, cat_i, cat_r, true_and]
  rw [br_1 (by decide), QH_e e]
  refine c140_34 QH_m (sp_mpaint0 hB hn (by omega)) (by omega) (by omega) ?_
  rintro _ _ z ⟨rfl, rfl, S2, rfl⟩
  show aW (Sp 19) 140 0 0 _ 37 _ _ _ _ _ _
  simp only [s140_0, s140_1, s140_2, s140_5, s140_6, s140_7, s140_8, s140_12, s140_15, s140_16, s140_19, s140_20, s140_24, s140_27, s140_28, s140_31, s140_32, s140_33, s140_37, ldi_0, ldi_s, ldl_0, ldl_s, ldd_0, ldd_s, lda_0, lda_s, st1_0, st1_1, st2_0, st2_1, sti_0, sti_1, stj_0, stj_1, st1_2, sti_2, st2_2, stj_2, st1_3, sti_3, st2_3, stj_3, st1_4, sti_4, st2_4, stj_4, st1_5, sti_5, st2_5, stj_5, st1_6, sti_6, st2_6, stj_6, st1_7, sti_7, st2_7, stj_7, st1_8, sti_8, st2_8, stj_8, st1_9, sti_9, st2_9, stj_9, kil_n, kil_i, kil_r, kil_l, kil_d, gl_0, gl_s, cat_i, cat_r, true_and]
  exact ⟨by omega, by omega, rfl, rfl, S2, rfl⟩
theorem sp_mcolourings_no {p : Int32} (hp : p < 0 ∨ ¬ p ≤ 4) : Sp 20 140 [.ref m, .int p] (NF h m t t2 ns G th n) z 0 0 (RR (some (.int 0)) (NF h m t t2 ns G 1 n) z) := by
  refine Sp_in (al := [some (.ref m), some (.int p)]) ?_
  simp only [s140_0, s140_1, s140_2, s140_5, s140_6, s140_7, s140_8, s140_12, s140_15, s140_16, s140_19, s140_20, s140_24, s140_27, s140_28, s140_31, s140_32, s140_33, s140_37, ldi_0, ldi_s, ldl_0, ldl_s, ldd_0, ldd_s, lda_0, lda_s, st1_0, st1_1, st2_0, st2_1, sti_0, sti_1, stj_0, stj_1, st1_2, sti_2, st2_2, stj_2, st1_3, sti_3, st2_3, stj_3, st1_4, sti_4, st2_4, stj_4, st1_5, sti_5, st2_5, stj_5, st1_6, sti_6, st2_6, stj_6, st1_7, sti_7, st2_7, stj_7, st1_8, sti_8, st2_8, stj_8, st1_9, sti_9, st2_9, stj_9, kil_n, kil_i, kil_r, kil_l, kil_d, gl_0, gl_s, cat_i, cat_r, true_and, NF_th]
  refine c140_9r sp_in ?_
  have e : decide (¬ p < 0 ∧ ¬ (4 : Int32) < p) = false := by
    rw [decide_eq_false_iff_not]
    rintro ⟨h1, h2⟩
    rcases hp with h3 | h3
    · exact h1 h3
    · exact h2 (Int32.not_le.mp h3)
  simp only [s140_0, s140_1, s140_2, s140_5, s140_6, s140_7, s140_8, s140_12, s140_15, s140_16, s140_19, s140_20, s140_24, s140_27, s140_28, s140_31, s140_32, s140_33, s140_37, ldi_0, ldi_s, ldl_0, ldl_s, ldd_0, ldd_s, lda_0, lda_s, st1_0, st1_1, st2_0, st2_1, sti_0, sti_1, stj_0, stj_1, st1_2, sti_2, st2_2, stj_2, st1_3, sti_3, st2_3, stj_3, st1_4, sti_4, st2_4, stj_4, st1_5, sti_5, st2_5, stj_5, st1_6, sti_6, st2_6, stj_6, st1_7, sti_7, st2_7, stj_7, st1_8, sti_8, st2_8, stj_8, st1_9, sti_9, st2_9, stj_9, kil_n, kil_i, kil_r, kil_l, kil_d, gl_0, gl_s, cat_i, cat_r, true_and]
  rw [e, br_0 (by decide)]
  refine c140_21r NF_m sp_throws_t ?_
  simp only [s140_0, s140_1, s140_2, s140_5, s140_6, s140_7, s140_8, s140_12, s140_15, s140_16, s140_19, s140_20, s140_24, s140_27, s140_28, s140_31, s140_32, s140_33, s140_37, ldi_0, ldi_s, ldl_0, ldl_s, ldd_0, ldd_s, lda_0, lda_s, st1_0, st1_1, st2_0, st2_1, sti_0, sti_1, stj_0, stj_1, st1_2, sti_2, st2_2, stj_2, st1_3, sti_3, st2_3, stj_3, st1_4, sti_4, st2_4, stj_4, st1_5, sti_5, st2_5, stj_5, st1_6, sti_6, st2_6, stj_6, st1_7, sti_7, st2_7, stj_7, st1_8, sti_8, st2_8, stj_8, st1_9, sti_9, st2_9, stj_9, kil_n, kil_i, kil_r, kil_l, kil_d, gl_0, gl_s, cat_i, cat_r, true_and]
  rw [br_0 (by decide)]
  exact out_RR
theorem tak_bit {f : Nat → Bool} {R : Nat → Nat} {b c : Nat} : (tak f R (b + 1)).testBit c = ((tak f R b).testBit c || (f b && decide (R b = c))) := by
  show (tak f R b ||| (if f b then 2 ^ R b else 0)).testBit c = _
  rw [Nat.testBit_or]
  cases f b
  · simp
  · simp [Nat.testBit_two_pow]
theorem sp_inRow_m (hB : MB h m t t2 SG) {p : Nat} (hp : p < 9) {S : Nat → Nat} : Sp 1 135 [.ref m, .int (nI p)] (QH h m t t2 ns G th n S) z 0 0 (RR (some (.int (nI (colF G p)))) (QH h m t t2 ns G th n (stg S (colF G) (p + 1))) z) := by
  have hT := hB.1
  refine Sp_in (al := [some (.ref m), some (.int (nI p)), none, none, none, none]) ?_
  simp only [s135_0, s135_1, s135_3, s135_4, s135_7, s135_8, s135_9, s135_10, s135_14, s135_17, s135_18, s135_20, s135_21, s135_25, s135_26, s135_29, s135_31, s135_34, s135_35, s135_38, s135_39, s135_40, s135_42, s135_43, s135_46, s135_47, s135_50, s135_52, s135_53, s135_54, s135_57, s135_58, s135_61, s135_62, s135_64, s135_67, s135_70, s135_72, s135_75, s135_78, s135_81, s135_82, s135_85, s135_86, s135_87, s135_88, s135_91, s135_94, s135_95, s135_98, s135_99, s135_100, ldi_0, ldi_s, ldl_0, ldl_s, ldd_0, ldd_s, lda_0, lda_s, st1_0, st1_1, st2_0, st2_1, sti_0, sti_1, stj_0, stj_1, st1_2, sti_2, st2_2, stj_2, st1_3, sti_3, st2_3, stj_3, st1_4, sti_4, st2_4, stj_4, st1_5, sti_5, st2_5, stj_5, st1_6, sti_6, st2_6, stj_6, st1_7, sti_7, st2_7, stj_7, st1_8, sti_8, st2_8, stj_8, st1_9, sti_9, st2_9, stj_9, kil_n, kil_i, kil_r, kil_l, kil_d, gl_0, gl_s, cat_i, cat_r, true_and]
  have key : ∀ a, a ≤ p + 1 → ∀ b1 b2 b3 : Option Value, aW (Sp 0) 135 0 0 (RR (some (.int (nI (colF G p)))) (QH h m t t2 ns G th n (stg S (colF G) (p + 1))) z) 2 [some (.ref m), some (.int (nI p)), some (.int (nI a)), kil b1, kil b2, b3] [] (QH h m t t2 ns G th n (stg S (colF G) a)) z 0 0 := by
    refine aUp ?_ fun a ha ih => ?_
    · intro b1 b2 b3
      rw [s135_2]
      simp only [s135_0, s135_1, s135_3, s135_4, s135_7, s135_8, s135_9, s135_10, s135_14, s135_17, s135_18, s135_20, s135_21, s135_25, s135_26, s135_29, s135_31, s135_34, s135_35, s135_38, s135_39, s135_40, s135_42, s135_43, s135_46, s135_47, s135_50, s135_52, s135_53, s135_54, s135_57, s135_58, s135_61, s135_62, s135_64, s135_67, s135_70, s135_72, s135_75, s135_78, s135_81, s135_82, s135_85, s135_86, s135_87, s135_88, s135_91, s135_94, s135_95, s135_98, s135_99, s135_100, ldi_0, ldi_s, ldl_0, ldl_s, ldd_0, ldd_s, lda_0, lda_s, st1_0, st1_1, st2_0, st2_1, sti_0, sti_1, stj_0, stj_1, st1_2, sti_2, st2_2, stj_2, st1_3, sti_3, st2_3, stj_3, st1_4, sti_4, st2_4, stj_4, st1_5, sti_5, st2_5, stj_5, st1_6, sti_6, st2_6, stj_6, st1_7, sti_7, st2_7, stj_7, st1_8, sti_8, st2_8, stj_8, st1_9, sti_9, st2_9, stj_9, kil_n, kil_i, kil_r, kil_l, kil_d, gl_0, gl_s, cat_i, cat_r, true_and, QH_gf, ald_na (QH_S hT) hp]
      rw [br_1 (nI_lt (Nat.lt_succ_self p) (by omega))]
      have e : stg S (colF G) (p + 1) p = colF G p := if_pos (Nat.lt_succ_self p)
      rw [e]
      exact out_RR
    · intro b1 b2 b3
      have ha9 : a < 9 := by omega
      have eC : colF G a = lni (tak (G a) (stg S (colF G) a) a) 9 := by
        unfold colF
        rw [tak_congr a fun q hq => ?_]
        rw [grR_col a q hq]
        exact (if_pos hq).symm
      have small : ∀ q, q < a → stg S (colF G) a q ≤ 8 := by
        intro q hq
        have := colF_le (G := G) q
        rw [show stg S (colF G) a q = colF G q from if_pos hq]
        omega
      rw [← stgN_s (i := a), eC] at ih
      rw [s135_2]
      simp only [s135_0, s135_1, s135_3, s135_4, s135_7, s135_8, s135_9, s135_10, s135_14, s135_17, s135_18, s135_20, s135_21, s135_25, s135_26, s135_29, s135_31, s135_34, s135_35, s135_38, s135_39, s135_40, s135_42, s135_43, s135_46, s135_47, s135_50, s135_52, s135_53, s135_54, s135_57, s135_58, s135_61, s135_62, s135_64, s135_67, s135_70, s135_72, s135_75, s135_78, s135_81, s135_82, s135_85, s135_86, s135_87, s135_88, s135_91, s135_94, s135_95, s135_98, s135_99, s135_100, ldi_0, ldi_s, ldl_0, ldl_s, ldd_0, ldd_s, lda_0, lda_s, st1_0, st1_1, st2_0, st2_1, sti_0, sti_1, stj_0, stj_1, st1_2, sti_2, st2_2, stj_2, st1_3, sti_3, st2_3, stj_3, st1_4, sti_4, st2_4, stj_4, st1_5, sti_5, st2_5, stj_5, st1_6, sti_6, st2_6, stj_6, st1_7, sti_7, st2_7, stj_7, st1_8, sti_8, st2_8, stj_8, st1_9, sti_9, st2_9, stj_9, kil_n, kil_i, kil_r, kil_l, kil_d, gl_0, gl_s, cat_i, cat_r, true_and]
      rw [br_0 (nI_nlt (show a ≤ p by omega) (by omega))]
      generalize stg S (colF G) a = U at ih eC small ⊢
      have t9 : tak (G a) U a < 512 := by
        have gen : ∀ k, k ≤ a → tak (G a) U k < 2 ^ 9 := by
          intro k
          induction k with
          | zero => intro _; show 0 < 2 ^ 9; decide
          | succ k ihk =>
            intro hk
            refine Nat.or_lt_two_pow (ihk (by omega)) ?_
            split
            · exact Nat.pow_lt_pow_right (by decide) (by have := small k (by omega); omega)
            · decide
        exact gen a (Nat.le_refl _)
      have wh : ∀ j c, c + j = 9 → lni (tak (G a) U a) 9 = lni (tak (G a) U a) j → ∀ b3 : Option Value, aW (Sp 0) 135 0 0 (RR (some (.int (nI (colF G p)))) (QH h m t t2 ns G th n (stg S (colF G) (p + 1))) z) 12 [some (.ref m), some (.int (nI p)), some (.int (nI a)), some (.int (nI c)), some (.int (bI true)), b3] [] (QH h m t t2 ns G th n U) z 0 0 := by
        intro j
        induction j with
        | zero =>
          intro c hc e b3
          have hcf : (tak (G a) U a).testBit c = false := Nat.testBit_lt_two_pow (Nat.lt_of_lt_of_le t9 (Nat.pow_le_pow_right (n := 2) (i := 9) (by decide) (by omega)))
          rw [s135_12]
          simp only [s135_0, s135_1, s135_3, s135_4, s135_7, s135_8, s135_9, s135_10, s135_14, s135_17, s135_18, s135_20, s135_21, s135_25, s135_26, s135_29, s135_31, s135_34, s135_35, s135_38, s135_39, s135_40, s135_42, s135_43, s135_46, s135_47, s135_50, s135_52, s135_53, s135_54, s135_57, s135_58, s135_61, s135_62, s135_64, s135_67, s135_70, s135_72, s135_75, s135_78, s135_81, s135_82, s135_85, s135_86, s135_87, s135_88, s135_91, s135_94, s135_95, s135_98, s135_99, s135_100, ldi_0, ldi_s, ldl_0, ldl_s, ldd_0, ldd_s, lda_0, lda_s, st1_0, st1_1, st2_0, st2_1, sti_0, sti_1, stj_0, stj_1, st1_2, sti_2, st2_2, stj_2, st1_3, sti_3, st2_3, stj_3, st1_4, sti_4, st2_4, stj_4, st1_5, sti_5, st2_5, stj_5, st1_6, sti_6, st2_6, stj_6, st1_7, sti_7, st2_7, stj_7, st1_8, sti_8, st2_8, stj_8, st1_9, sti_9, st2_9, stj_9, kil_n, kil_i, kil_r, kil_l, kil_d, gl_0, gl_s, cat_i, cat_r, true_and]
          rw [br_0 (by decide)]
          have inn : ∀ b, b ≤ a → aW (Sp 0) 135 0 0 (RR (some (.int (nI (colF G p)))) (QH h m t t2 ns G th n (stg S (colF G) (p + 1))) z) 23 [some (.ref m), some (.int (nI p)), some (.int (nI a)), some (.int (nI c)), some (.int (bI ((tak (G a) U b).testBit c))), some (.int (nI b))] [] (QH h m t t2 ns G th n U) z 0 0 := by
            refine aUp ?_ fun b hb ihb => ?_
            · rw [s135_23]
              simp only [s135_0, s135_1, s135_3, s135_4, s135_7, s135_8, s135_9, s135_10, s135_14, s135_17, s135_18, s135_20, s135_21, s135_25, s135_26, s135_29, s135_31, s135_34, s135_35, s135_38, s135_39, s135_40, s135_42, s135_43, s135_46, s135_47, s135_50, s135_52, s135_53, s135_54, s135_57, s135_58, s135_61, s135_62, s135_64, s135_67, s135_70, s135_72, s135_75, s135_78, s135_81, s135_82, s135_85, s135_86, s135_87, s135_88, s135_91, s135_94, s135_95, s135_98, s135_99, s135_100, ldi_0, ldi_s, ldl_0, ldl_s, ldd_0, ldd_s, lda_0, lda_s, st1_0, st1_1, st2_0, st2_1, sti_0, sti_1, stj_0, stj_1, st1_2, sti_2, st2_2, stj_2, st1_3, sti_3, st2_3, stj_3, st1_4, sti_4, st2_4, stj_4, st1_5, sti_5, st2_5, stj_5, st1_6, sti_6, st2_6, stj_6, st1_7, sti_7, st2_7, stj_7, st1_8, sti_8, st2_8, stj_8, st1_9, sti_9, st2_9, stj_9, kil_n, kil_i, kil_r, kil_l, kil_d, gl_0, gl_s, cat_i, cat_r, true_and, nI_1]
              rw [br_1 (nI_le (Nat.le_refl _) (by omega)), hcf, br_1 (by decide), s135_12]
              simp only [s135_0, s135_1, s135_3, s135_4, s135_7, s135_8, s135_9, s135_10, s135_14, s135_17, s135_18, s135_20, s135_21, s135_25, s135_26, s135_29, s135_31, s135_34, s135_35, s135_38, s135_39, s135_40, s135_42, s135_43, s135_46, s135_47, s135_50, s135_52, s135_53, s135_54, s135_57, s135_58, s135_61, s135_62, s135_64, s135_67, s135_70, s135_72, s135_75, s135_78, s135_81, s135_82, s135_85, s135_86, s135_87, s135_88, s135_91, s135_94, s135_95, s135_98, s135_99, s135_100, ldi_0, ldi_s, ldl_0, ldl_s, ldd_0, ldd_s, lda_0, lda_s, st1_0, st1_1, st2_0, st2_1, sti_0, sti_1, stj_0, stj_1, st1_2, sti_2, st2_2, stj_2, st1_3, sti_3, st2_3, stj_3, st1_4, sti_4, st2_4, stj_4, st1_5, sti_5, st2_5, stj_5, st1_6, sti_6, st2_6, stj_6, st1_7, sti_7, st2_7, stj_7, st1_8, sti_8, st2_8, stj_8, st1_9, sti_9, st2_9, stj_9, kil_n, kil_i, kil_r, kil_l, kil_d, gl_0, gl_s, cat_i, cat_r, true_and, QH_gf, nI_1, ast_na (QH_S hT) ha9, QH_u hT]
              rw [br_1 (by decide)]
              rw [e, show lni (tak (G a) U a) 0 = c by show 9 = c; omega] at ih
              exact ih (some (.int _)) (some (.int _)) _
            · rw [tak_bit] at ihb
              have := small b hb
              rw [s135_23]
              simp only [s135_0, s135_1, s135_3, s135_4, s135_7, s135_8, s135_9, s135_10, s135_14, s135_17, s135_18, s135_20, s135_21, s135_25, s135_26, s135_29, s135_31, s135_34, s135_35, s135_38, s135_39, s135_40, s135_42, s135_43, s135_46, s135_47, s135_50, s135_52, s135_53, s135_54, s135_57, s135_58, s135_61, s135_62, s135_64, s135_67, s135_70, s135_72, s135_75, s135_78, s135_81, s135_82, s135_85, s135_86, s135_87, s135_88, s135_91, s135_94, s135_95, s135_98, s135_99, s135_100, ldi_0, ldi_s, ldl_0, ldl_s, ldd_0, ldd_s, lda_0, lda_s, st1_0, st1_1, st2_0, st2_1, sti_0, sti_1, stj_0, stj_1, st1_2, sti_2, st2_2, stj_2, st1_3, sti_3, st2_3, stj_3, st1_4, sti_4, st2_4, stj_4, st1_5, sti_5, st2_5, stj_5, st1_6, sti_6, st2_6, stj_6, st1_7, sti_7, st2_7, stj_7, st1_8, sti_8, st2_8, stj_8, st1_9, sti_9, st2_9, stj_9, kil_n, kil_i, kil_r, kil_l, kil_d, gl_0, gl_s, cat_i, cat_r, true_and, QH_gf, nI_1, ald_na (QH_S hT) (show b < 9 by omega), ald_tb (QH_T hB) ha9, ald_tr (QH_T hB) ha9 (show b < 9 by omega), bI_0]
              rw [br_0 (nI_ge hb (by omega)), nI_eq (by omega) (by omega)]
              refine ⟨fun h1 => ?_, fun h1 => ⟨fun h3 => ?_, fun h3 => ⟨fun h2 => ?_, fun h2 => ?_⟩⟩⟩
              · rw [Bool.not_eq_false] at h1
                rw [h1] at ihb
                exact ihb
              · rw [Decidable.not_not] at h1
                rw [h1, h3] at ihb
                exact ihb
              · rw [Decidable.not_not] at h1
                rw [h1, decide_eq_false h2, Bool.and_false] at ihb
                exact ihb
              · rw [Bool.not_eq_false] at h3
                rw [h3, decide_eq_true (Decidable.not_not.mp h2), Bool.and_true, Bool.or_true] at ihb
                exact ihb
          have i0 := inn 0 (by omega)
          rw [show tak (G a) U 0 = 0 from rfl, Nat.zero_testBit] at i0
          exact i0
        | succ j ihj =>
          intro c hc e b3
          have e2 : lni (tak (G a) U a) (j + 1) = if (tak (G a) U a).testBit (9 - (j + 1)) then lni (tak (G a) U a) j else 9 - (j + 1) := rfl
          rw [show 9 - (j + 1) = c by omega] at e2
          rw [s135_12]
          simp only [s135_0, s135_1, s135_3, s135_4, s135_7, s135_8, s135_9, s135_10, s135_14, s135_17, s135_18, s135_20, s135_21, s135_25, s135_26, s135_29, s135_31, s135_34, s135_35, s135_38, s135_39, s135_40, s135_42, s135_43, s135_46, s135_47, s135_50, s135_52, s135_53, s135_54, s135_57, s135_58, s135_61, s135_62, s135_64, s135_67, s135_70, s135_72, s135_75, s135_78, s135_81, s135_82, s135_85, s135_86, s135_87, s135_88, s135_91, s135_94, s135_95, s135_98, s135_99, s135_100, ldi_0, ldi_s, ldl_0, ldl_s, ldd_0, ldd_s, lda_0, lda_s, st1_0, st1_1, st2_0, st2_1, sti_0, sti_1, stj_0, stj_1, st1_2, sti_2, st2_2, stj_2, st1_3, sti_3, st2_3, stj_3, st1_4, sti_4, st2_4, stj_4, st1_5, sti_5, st2_5, stj_5, st1_6, sti_6, st2_6, stj_6, st1_7, sti_7, st2_7, stj_7, st1_8, sti_8, st2_8, stj_8, st1_9, sti_9, st2_9, stj_9, kil_n, kil_i, kil_r, kil_l, kil_d, gl_0, gl_s, cat_i, cat_r, true_and]
          rw [br_0 (by decide)]
          have inn : ∀ b, b ≤ a → aW (Sp 0) 135 0 0 (RR (some (.int (nI (colF G p)))) (QH h m t t2 ns G th n (stg S (colF G) (p + 1))) z) 23 [some (.ref m), some (.int (nI p)), some (.int (nI a)), some (.int (nI c)), some (.int (bI ((tak (G a) U b).testBit c))), some (.int (nI b))] [] (QH h m t t2 ns G th n U) z 0 0 := by
            refine aUp ?_ fun b hb ihb => ?_
            · rw [s135_23]
              simp only [s135_0, s135_1, s135_3, s135_4, s135_7, s135_8, s135_9, s135_10, s135_14, s135_17, s135_18, s135_20, s135_21, s135_25, s135_26, s135_29, s135_31, s135_34, s135_35, s135_38, s135_39, s135_40, s135_42, s135_43, s135_46, s135_47, s135_50, s135_52, s135_53, s135_54, s135_57, s135_58, s135_61, s135_62, s135_64, s135_67, s135_70, s135_72, s135_75, s135_78, s135_81, s135_82, s135_85, s135_86, s135_87, s135_88, s135_91, s135_94, s135_95, s135_98, s135_99, s135_100, ldi_0, ldi_s, ldl_0, ldl_s, ldd_0, ldd_s, lda_0, lda_s, st1_0, st1_1, st2_0, st2_1, sti_0, sti_1, stj_0, stj_1, st1_2, sti_2, st2_2, stj_2, st1_3, sti_3, st2_3, stj_3, st1_4, sti_4, st2_4, stj_4, st1_5, sti_5, st2_5, stj_5, st1_6, sti_6, st2_6, stj_6, st1_7, sti_7, st2_7, stj_7, st1_8, sti_8, st2_8, stj_8, st1_9, sti_9, st2_9, stj_9, kil_n, kil_i, kil_r, kil_l, kil_d, gl_0, gl_s, cat_i, cat_r, true_and, nI_1]
              rw [br_1 (nI_le (Nat.le_refl _) (by omega))]
              by_cases hcf : (tak (G a) U a).testBit c = true
              · rw [hcf, br_0 (by decide)]
                exact ihj (c + 1) (by omega) (by rw [e, e2, if_pos hcf]) _
              · rw [if_neg hcf] at e2
                rw [Bool.not_eq_true] at hcf
                rw [hcf, br_1 (by decide), s135_12]
                simp only [s135_0, s135_1, s135_3, s135_4, s135_7, s135_8, s135_9, s135_10, s135_14, s135_17, s135_18, s135_20, s135_21, s135_25, s135_26, s135_29, s135_31, s135_34, s135_35, s135_38, s135_39, s135_40, s135_42, s135_43, s135_46, s135_47, s135_50, s135_52, s135_53, s135_54, s135_57, s135_58, s135_61, s135_62, s135_64, s135_67, s135_70, s135_72, s135_75, s135_78, s135_81, s135_82, s135_85, s135_86, s135_87, s135_88, s135_91, s135_94, s135_95, s135_98, s135_99, s135_100, ldi_0, ldi_s, ldl_0, ldl_s, ldd_0, ldd_s, lda_0, lda_s, st1_0, st1_1, st2_0, st2_1, sti_0, sti_1, stj_0, stj_1, st1_2, sti_2, st2_2, stj_2, st1_3, sti_3, st2_3, stj_3, st1_4, sti_4, st2_4, stj_4, st1_5, sti_5, st2_5, stj_5, st1_6, sti_6, st2_6, stj_6, st1_7, sti_7, st2_7, stj_7, st1_8, sti_8, st2_8, stj_8, st1_9, sti_9, st2_9, stj_9, kil_n, kil_i, kil_r, kil_l, kil_d, gl_0, gl_s, cat_i, cat_r, true_and, QH_gf, nI_1, ast_na (QH_S hT) ha9, QH_u hT]
                rw [br_1 (by decide)]
                rw [e, e2] at ih
                exact ih (some (.int _)) (some (.int _)) _
            · rw [tak_bit] at ihb
              have := small b hb
              rw [s135_23]
              simp only [s135_0, s135_1, s135_3, s135_4, s135_7, s135_8, s135_9, s135_10, s135_14, s135_17, s135_18, s135_20, s135_21, s135_25, s135_26, s135_29, s135_31, s135_34, s135_35, s135_38, s135_39, s135_40, s135_42, s135_43, s135_46, s135_47, s135_50, s135_52, s135_53, s135_54, s135_57, s135_58, s135_61, s135_62, s135_64, s135_67, s135_70, s135_72, s135_75, s135_78, s135_81, s135_82, s135_85, s135_86, s135_87, s135_88, s135_91, s135_94, s135_95, s135_98, s135_99, s135_100, ldi_0, ldi_s, ldl_0, ldl_s, ldd_0, ldd_s, lda_0, lda_s, st1_0, st1_1, st2_0, st2_1, sti_0, sti_1, stj_0, stj_1, st1_2, sti_2, st2_2, stj_2, st1_3, sti_3, st2_3, stj_3, st1_4, sti_4, st2_4, stj_4, st1_5, sti_5, st2_5, stj_5, st1_6, sti_6, st2_6, stj_6, st1_7, sti_7, st2_7, stj_7, st1_8, sti_8, st2_8, stj_8, st1_9, sti_9, st2_9, stj_9, kil_n, kil_i, kil_r, kil_l, kil_d, gl_0, gl_s, cat_i, cat_r, true_and, QH_gf, nI_1, ald_na (QH_S hT) (show b < 9 by omega), ald_tb (QH_T hB) ha9, ald_tr (QH_T hB) ha9 (show b < 9 by omega), bI_0]
              rw [br_0 (nI_ge hb (by omega)), nI_eq (by omega) (by omega)]
              refine ⟨fun h1 => ?_, fun h1 => ⟨fun h3 => ?_, fun h3 => ⟨fun h2 => ?_, fun h2 => ?_⟩⟩⟩
              · rw [Bool.not_eq_false] at h1
                rw [h1] at ihb
                exact ihb
              · rw [Decidable.not_not] at h1
                rw [h1, h3] at ihb
                exact ihb
              · rw [Decidable.not_not] at h1
                rw [h1, decide_eq_false h2, Bool.and_false] at ihb
                exact ihb
              · rw [Bool.not_eq_false] at h3
                rw [h3, decide_eq_true (Decidable.not_not.mp h2), Bool.and_true, Bool.or_true] at ihb
                exact ihb
          have i0 := inn 0 (by omega)
          rw [show tak (G a) U 0 = 0 from rfl, Nat.zero_testBit] at i0
          exact i0
      exact wh 9 0 (by omega) rfl _
  have k0 := key 0 (by omega) none none none
  rw [stg_0] at k0
  exact k0
theorem sp_mcolour (hB : MB h m t t2 SG) (hn : n ≤ 9) {S : Nat → Nat} (e : h (m + 24) = some (na 9 S)) {p : Nat} (hp : p < n) : Sp 20 134 [.ref m, .int (nI p)] (NF h m t t2 ns G th n) z 0 0 (QtR h m t t2 ns G 0 n z (some (.int (nI (colF G p))))) := by
  refine Sp_in (al := [some (.ref m), some (.int (nI p))]) ?_
  simp only [s134_0, s134_1, s134_2, s134_5, s134_6, s134_7, s134_11, s134_14, s134_15, s134_18, s134_19, s134_23, s134_26, s134_27, s134_30, s134_31, s134_35, ldi_0, ldi_s, ldl_0, ldl_s, ldd_0, ldd_s, lda_0, lda_s, st1_0, st1_1, st2_0, st2_1, sti_0, sti_1, stj_0, stj_1, st1_2, sti_2, st2_2, stj_2, st1_3, sti_3, st2_3, stj_3, st1_4, sti_4, st2_4, stj_4, st1_5, sti_5, st2_5, stj_5, st1_6, sti_6, st2_6, stj_6, st1_7, sti_7, st2_7, stj_7, st1_8, sti_8, st2_8, stj_8, st1_9, sti_9, st2_9, stj_9, kil_n, kil_i, kil_r, kil_l, kil_d, gl_0, gl_s, cat_i, cat_r, true_and, NF_th]
  refine c134_8r NF_m (sp_is hn) ?_
  simp only [s134_0, s134_1, s134_2, s134_5, s134_6, s134_7, s134_11, s134_14, s134_15, s134_18, s134_19, s134_23, s134_26, s134_27, s134_30, s134_31, s134_35, ldi_0, ldi_s, ldl_0, ldl_s, ldd_0, ldd_s, lda_0, lda_s, st1_0, st1_1, st2_0, st2_1, sti_0, sti_1, stj_0, stj_1, st1_2, sti_2, st2_2, stj_2, st1_3, sti_3, st2_3, stj_3, st1_4, sti_4, st2_4, stj_4, st1_5, sti_5, st2_5, stj_5, st1_6, sti_6, st2_6, stj_6, st1_7, sti_7, st2_7, stj_7, st1_8, sti_8, st2_8, stj_8, st1_9, sti_9, st2_9, stj_9, kil_n, kil_i, kil_r, kil_l, kil_d, gl_0, gl_s, cat_i, cat_r, true_and, pl_nat hn hp]
  rw [br_1 (by decide)]
  refine c134_20r NF_m (sp_throws_f NF_m) ?_
  simp only [s134_0, s134_1, s134_2, s134_5, s134_6, s134_7, s134_11, s134_14, s134_15, s134_18, s134_19, s134_23, s134_26, s134_27, s134_30, s134_31, s134_35, ldi_0, ldi_s, ldl_0, ldl_s, ldd_0, ldd_s, lda_0, lda_s, st1_0, st1_1, st2_0, st2_1, sti_0, sti_1, stj_0, stj_1, st1_2, sti_2, st2_2, stj_2, st1_3, sti_3, st2_3, stj_3, st1_4, sti_4, st2_4, stj_4, st1_5, sti_5, st2_5, stj_5, st1_6, sti_6, st2_6, stj_6, st1_7, sti_7, st2_7, stj_7, st1_8, sti_8, st2_8, stj_8, st1_9, sti_9, st2_9, stj_9, kil_n, kil_i, kil_r, kil_l, kil_d, gl_0, gl_s, cat_i, cat_r, true_and]
  rw [br_1 (by decide), QH_e e]
  refine c134_32r QH_m (sp_inRow_m hB (by omega)) ?_
  simp only [s134_0, s134_1, s134_2, s134_5, s134_6, s134_7, s134_11, s134_14, s134_15, s134_18, s134_19, s134_23, s134_26, s134_27, s134_30, s134_31, s134_35, ldi_0, ldi_s, ldl_0, ldl_s, ldd_0, ldd_s, lda_0, lda_s, st1_0, st1_1, st2_0, st2_1, sti_0, sti_1, stj_0, stj_1, st1_2, sti_2, st2_2, stj_2, st1_3, sti_3, st2_3, stj_3, st1_4, sti_4, st2_4, stj_4, st1_5, sti_5, st2_5, stj_5, st1_6, sti_6, st2_6, stj_6, st1_7, sti_7, st2_7, stj_7, st1_8, sti_8, st2_8, stj_8, st1_9, sti_9, st2_9, stj_9, kil_n, kil_i, kil_r, kil_l, kil_d, gl_0, gl_s, cat_i, cat_r, true_and]
  exact ⟨by omega, by omega, rfl, rfl, _, rfl⟩
theorem sp_mcolour_no (hn : n ≤ 9) {p : Int32} (hp : pl n p = false) : Sp 20 134 [.ref m, .int p] (NF h m t t2 ns G th n) z 0 0 (RR (some (.int 0)) (NF h m t t2 ns G 1 n) z) := by
  refine Sp_in (al := [some (.ref m), some (.int p)]) ?_
  simp only [s134_0, s134_1, s134_2, s134_5, s134_6, s134_7, s134_11, s134_14, s134_15, s134_18, s134_19, s134_23, s134_26, s134_27, s134_30, s134_31, s134_35, ldi_0, ldi_s, ldl_0, ldl_s, ldd_0, ldd_s, lda_0, lda_s, st1_0, st1_1, st2_0, st2_1, sti_0, sti_1, stj_0, stj_1, st1_2, sti_2, st2_2, stj_2, st1_3, sti_3, st2_3, stj_3, st1_4, sti_4, st2_4, stj_4, st1_5, sti_5, st2_5, stj_5, st1_6, sti_6, st2_6, stj_6, st1_7, sti_7, st2_7, stj_7, st1_8, sti_8, st2_8, stj_8, st1_9, sti_9, st2_9, stj_9, kil_n, kil_i, kil_r, kil_l, kil_d, gl_0, gl_s, cat_i, cat_r, true_and, NF_th]
  refine c134_8r NF_m (sp_is hn) ?_
  simp only [s134_0, s134_1, s134_2, s134_5, s134_6, s134_7, s134_11, s134_14, s134_15, s134_18, s134_19, s134_23, s134_26, s134_27, s134_30, s134_31, s134_35, ldi_0, ldi_s, ldl_0, ldl_s, ldd_0, ldd_s, lda_0, lda_s, st1_0, st1_1, st2_0, st2_1, sti_0, sti_1, stj_0, stj_1, st1_2, sti_2, st2_2, stj_2, st1_3, sti_3, st2_3, stj_3, st1_4, sti_4, st2_4, stj_4, st1_5, sti_5, st2_5, stj_5, st1_6, sti_6, st2_6, stj_6, st1_7, sti_7, st2_7, stj_7, st1_8, sti_8, st2_8, stj_8, st1_9, sti_9, st2_9, stj_9, kil_n, kil_i, kil_r, kil_l, kil_d, gl_0, gl_s, cat_i, cat_r, true_and, hp]
  rw [br_0 (by decide)]
  refine c134_20r NF_m sp_throws_t ?_
  simp only [s134_0, s134_1, s134_2, s134_5, s134_6, s134_7, s134_11, s134_14, s134_15, s134_18, s134_19, s134_23, s134_26, s134_27, s134_30, s134_31, s134_35, ldi_0, ldi_s, ldl_0, ldl_s, ldd_0, ldd_s, lda_0, lda_s, st1_0, st1_1, st2_0, st2_1, sti_0, sti_1, stj_0, stj_1, st1_2, sti_2, st2_2, stj_2, st1_3, sti_3, st2_3, stj_3, st1_4, sti_4, st2_4, stj_4, st1_5, sti_5, st2_5, stj_5, st1_6, sti_6, st2_6, stj_6, st1_7, sti_7, st2_7, stj_7, st1_8, sti_8, st2_8, stj_8, st1_9, sti_9, st2_9, stj_9, kil_n, kil_i, kil_r, kil_l, kil_d, gl_0, gl_s, cat_i, cat_r, true_and]
  rw [br_0 (by decide)]
  exact out_RR
end Mod7
