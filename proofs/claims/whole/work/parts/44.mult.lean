/-! Colourmap$Polynomial.multiplyOut -/
def la (n : Nat) (F : Nat → Int64) : AC := ra 1 n (fun p => .long (F p))
def updL (f : Nat → Int64) (i : Nat) (x : Int64) : Nat → Int64 := fun j => if j = i then x else f j
theorem la_upd {n i : Nat} {x : Int64} {F : Nat → Int64} : ra 1 n (updV' (fun p => .long (F p)) i (.long x)) = la n (updL F i x) := by
  unfold la updV' updL
  congr 1
  funext j
  split <;> rfl
theorem ald_la {h : AH} {a n p : Nat} {F : Nat → Int64} {f : Value → Prop} (e : h a = some (la n F)) (hp : p < n) (hn : n < 2 ^ 31 := by decide) : ald h a 1 (nI p) f = f (.long (F p)) := ald_at (k0 := 1) e hp hn
theorem ast_la {h : AH} {a n p : Nat} {x : Int64} {F : Nat → Int64} {f : AH → Prop} (e : h a = some (la n F)) (hp : p < n) (hn : n < 2 ^ 31 := by decide) : ast h a 1 (nI p) (.long x) f = f (hup h a (la n (updL F p x))) := by
  rw [ast_at e hp hn, la_upd]
def nL (x : Nat) : Int64 := (nI x).toInt64
def clrL (F : Nat → Int64) (p : Nat) : Nat → Int64 := fun q => if q < p then 0 else F q
theorem clrL_0 {F : Nat → Int64} : clrL F 0 = F := by
  funext q
  unfold clrL
  rw [if_neg (Nat.not_lt_zero q)]
theorem clrL_s {F : Nat → Int64} {p : Nat} : updL (clrL F p) p 0 = clrL F (p + 1) := by
  funext q
  unfold updL clrL
  by_cases h : q = p
  · rw [if_pos h, if_pos (by omega)]
  · rw [if_neg h]
    by_cases h2 : q < p
    · rw [if_pos h2, if_pos (by omega)]
    · rw [if_neg h2, if_neg (by omega)]
theorem clrL_e {F : Nat → Int64} {n : Nat} (h : ∀ q, n ≤ q → F q = 0) : clrL F n = fun _ => 0 := by
  funext q
  unfold clrL
  split
  · rfl
  · exact h q (by omega)
/-- one step: times (k - a), plus b -/
def dsc (F : Nat → Int64) (a : Int64) (t i : Nat) : Nat → Int64 := fun x => if i < x ∧ x ≤ t then F (x - 1) - a * F x else F x
theorem dsc_t {F : Nat → Int64} {a : Int64} {t : Nat} : dsc F a t t = F := by
  funext x
  unfold dsc
  rw [if_neg (by omega)]
theorem dsc_s {F : Nat → Int64} {a : Int64} {t i : Nat} (h : i + 1 ≤ t) : updL (dsc F a t (i + 1)) (i + 1) (dsc F a t (i + 1) i - a * dsc F a t (i + 1) (i + 1)) = dsc F a t i := by
  funext x
  unfold updL dsc
  by_cases e : x = i + 1
  · subst e
    rw [if_pos rfl, if_neg (by omega), if_neg (by omega), if_pos (by omega)]
    rfl
  · rw [if_neg e]
    by_cases e2 : i + 1 < x ∧ x ≤ t
    · rw [if_pos e2, if_pos (by omega)]
    · rw [if_neg e2, if_neg (by omega)]
def mst (F : Nat → Int64) (a b : Int64) (t : Nat) : Nat → Int64 := updL (dsc F a t 0) 0 (b - a * dsc F a t 0 0)
/-- after the steps for top - 1 .. top - k -/
def mlt (R : Nat → Nat) (top : Nat) : Nat → Nat → Int64
  | 0 => updL (fun _ => 0) 0 (nL (R top))
  | k + 1 => mst (mlt R top k) (nL (top - (k + 1))) (nL (R (top - (k + 1)))) (k + 1)
theorem nI_pm {k : Nat} : nI (k + 1) + (-1) = nI k := by
  rw [← nI_1, Int32.add_assoc]
  show nI k + 0 = nI k
  exact Int32.add_zero _
theorem nI_m1' {n : Nat} : nI n - 1 = nI n + (-1) := Int32.sub_eq_add_neg _ _
section Mult
variable {h : AH} {c r n z po se pa fa : Nat} {G : Nat → Nat → Bool} {R : Nat → Nat} {b : Bool} {F : Nat → Int64}
theorem sp_multiplyOut (hc : ChAt h c r n G) (hG : GOK n G) (ho : h po = some (poO b c se pa fa)) (hpa : h pa = some (na 10 R)) (hfa : h fa = some (la 10 F)) (hF : ∀ q, 10 ≤ q → F q = 0) : Sp 2 117 [.ref po] h z 0 0 (RR none (hup h fa (la 10 (mlt R n n))) z) := by
  have hn := hG.1
  have npf : pa ≠ fa := by
    intro e
    rw [e, hfa] at hpa
    exact absurd hpa (by unfold la na; intro q; cases q)
  have nrf : r ≠ fa := by
    intro e
    have := hc.2
    rw [e, hfa] at this
    exact absurd this (by unfold la na; intro q; cases q)
  have ds : ∀ X, hup h fa X po = some (poO b c se pa fa) := fun X => by rw [hup_ne (kind_ne ho hfa), ho]
  have hcs : ∀ X, ChAt (hup h fa X) c r n G := fun X => ⟨by rw [hup_ne (kind_ne hc.1 hfa), hc.1], by rw [hup_ne nrf, hc.2]⟩
  have hps : ∀ X, hup h fa X pa = some (na 10 R) := fun X => by rw [hup_ne npf, hpa]
  refine Sp_in (al := [some (.ref po), none, none, none]) ?_
  simp only [s117_0, s117_1, s117_3, s117_5, s117_8, s117_9, s117_12, s117_13, s117_14, s117_15, s117_18, s117_21, s117_22, s117_28, s117_29, s117_30, s117_33, s117_34, s117_35, s117_38, s117_39, s117_40, s117_41, s117_42, s117_43, s117_44, s117_45, s117_47, s117_50, s117_51, s117_52, s117_53, s117_55, s117_56, s117_59, s117_60, s117_63, s117_64, s117_65, s117_68, s117_69, s117_70, s117_71, s117_72, s117_73, s117_74, s117_75, s117_78, s117_79, s117_80, s117_81, s117_82, s117_83, s117_86, s117_89, s117_90, s117_93, s117_94, s117_95, s117_98, s117_99, s117_100, s117_101, s117_102, s117_103, s117_104, s117_107, s117_108, s117_109, s117_110, s117_111, s117_112, s117_115, s117_118, ldi_0, ldi_s, ldl_0, ldl_s, ldd_0, ldd_s, lda_0, lda_s, st1_0, st1_1, st2_0, st2_1, sti_0, sti_1, stj_0, stj_1, st1_2, sti_2, st2_2, stj_2, st1_3, sti_3, st2_3, stj_3, st1_4, sti_4, st2_4, stj_4, st1_5, sti_5, st2_5, stj_5, st1_6, sti_6, st2_6, stj_6, st1_7, sti_7, st2_7, stj_7, st1_8, sti_8, st2_8, stj_8, st1_9, sti_9, st2_9, stj_9, kil_n, kil_i, kil_r, kil_l, kil_d, gl_0, gl_s, cat_i, cat_r, true_and]
  have outer : ∀ (j k : Nat) (y : Option Value), k + j = n → aW (Sp 1) 117 0 0 (RR none (hup h fa (la 10 (mlt R n n))) z) 46 [some (.ref po), some (.int (nI n)), some (.int (nI j + (-1))), y] [] (hup h fa (la 10 (mlt R n k))) z 0 0 := by
    intro j
    induction j with
    | zero =>
      intro k y hk
      have e : k = n := by omega
      subst e
      rw [s117_46]
      simp only [s117_0, s117_1, s117_3, s117_5, s117_8, s117_9, s117_12, s117_13, s117_14, s117_15, s117_18, s117_21, s117_22, s117_28, s117_29, s117_30, s117_33, s117_34, s117_35, s117_38, s117_39, s117_40, s117_41, s117_42, s117_43, s117_44, s117_45, s117_47, s117_50, s117_51, s117_52, s117_53, s117_55, s117_56, s117_59, s117_60, s117_63, s117_64, s117_65, s117_68, s117_69, s117_70, s117_71, s117_72, s117_73, s117_74, s117_75, s117_78, s117_79, s117_80, s117_81, s117_82, s117_83, s117_86, s117_89, s117_90, s117_93, s117_94, s117_95, s117_98, s117_99, s117_100, s117_101, s117_102, s117_103, s117_104, s117_107, s117_108, s117_109, s117_110, s117_111, s117_112, s117_115, s117_118, ldi_0, ldi_s, ldl_0, ldl_s, ldd_0, ldd_s, lda_0, lda_s, st1_0, st1_1, st2_0, st2_1, sti_0, sti_1, stj_0, stj_1, st1_2, sti_2, st2_2, stj_2, st1_3, sti_3, st2_3, stj_3, st1_4, sti_4, st2_4, stj_4, st1_5, sti_5, st2_5, stj_5, st1_6, sti_6, st2_6, stj_6, st1_7, sti_7, st2_7, stj_7, st1_8, sti_8, st2_8, stj_8, st1_9, sti_9, st2_9, stj_9, kil_n, kil_i, kil_r, kil_l, kil_d, gl_0, gl_s, cat_i, cat_r, true_and]
      rw [br_1 (by decide)]
      exact out_RR
    | succ j ih =>
      intro k y hk
      rw [nI_pm]
      rw [s117_46]
      simp only [s117_0, s117_1, s117_3, s117_5, s117_8, s117_9, s117_12, s117_13, s117_14, s117_15, s117_18, s117_21, s117_22, s117_28, s117_29, s117_30, s117_33, s117_34, s117_35, s117_38, s117_39, s117_40, s117_41, s117_42, s117_43, s117_44, s117_45, s117_47, s117_50, s117_51, s117_52, s117_53, s117_55, s117_56, s117_59, s117_60, s117_63, s117_64, s117_65, s117_68, s117_69, s117_70, s117_71, s117_72, s117_73, s117_74, s117_75, s117_78, s117_79, s117_80, s117_81, s117_82, s117_83, s117_86, s117_89, s117_90, s117_93, s117_94, s117_95, s117_98, s117_99, s117_100, s117_101, s117_102, s117_103, s117_104, s117_107, s117_108, s117_109, s117_110, s117_111, s117_112, s117_115, s117_118, ldi_0, ldi_s, ldl_0, ldl_s, ldd_0, ldd_s, lda_0, lda_s, st1_0, st1_1, st2_0, st2_1, sti_0, sti_1, stj_0, stj_1, st1_2, sti_2, st2_2, stj_2, st1_3, sti_3, st2_3, stj_3, st1_4, sti_4, st2_4, stj_4, st1_5, sti_5, st2_5, stj_5, st1_6, sti_6, st2_6, stj_6, st1_7, sti_7, st2_7, stj_7, st1_8, sti_8, st2_8, stj_8, st1_9, sti_9, st2_9, stj_9, kil_n, kil_i, kil_r, kil_l, kil_d, gl_0, gl_s, cat_i, cat_r, true_and]
      rw [br_0 (by rw [nI_lit0]; exact nI_nlt (Nat.zero_le j) (by omega)), pk_sub (show j ≤ n by omega), show n - j = k + 1 by omega]
      have key := ih (k + 1)
      have em : mlt R n (k + 1) = mst (mlt R n k) (nL (n - (k + 1))) (nL (R (n - (k + 1)))) (k + 1) := rfl
      rw [em, show n - (k + 1) = j by omega] at key
      generalize mlt R n k = F0 at key ⊢
      have inner : ∀ (i : Nat), i ≤ k + 1 → aW (Sp 1) 117 0 0 (RR none (hup h fa (la 10 (mlt R n n))) z) 54 [some (.ref po), some (.int (nI n)), some (.int (nI j)), some (.int (nI i))] [] (hup h fa (la 10 (dsc F0 (nL j) (k + 1) i))) z 0 0 := by
        intro i
        induction i with
        | zero =>
          intro hi
          rw [s117_54]
          simp only [s117_0, s117_1, s117_3, s117_5, s117_8, s117_9, s117_12, s117_13, s117_14, s117_15, s117_18, s117_21, s117_22, s117_28, s117_29, s117_30, s117_33, s117_34, s117_35, s117_38, s117_39, s117_40, s117_41, s117_42, s117_43, s117_44, s117_45, s117_47, s117_50, s117_51, s117_52, s117_53, s117_55, s117_56, s117_59, s117_60, s117_63, s117_64, s117_65, s117_68, s117_69, s117_70, s117_71, s117_72, s117_73, s117_74, s117_75, s117_78, s117_79, s117_80, s117_81, s117_82, s117_83, s117_86, s117_89, s117_90, s117_93, s117_94, s117_95, s117_98, s117_99, s117_100, s117_101, s117_102, s117_103, s117_104, s117_107, s117_108, s117_109, s117_110, s117_111, s117_112, s117_115, s117_118, ldi_0, ldi_s, ldl_0, ldl_s, ldd_0, ldd_s, lda_0, lda_s, st1_0, st1_1, st2_0, st2_1, sti_0, sti_1, stj_0, stj_1, st1_2, sti_2, st2_2, stj_2, st1_3, sti_3, st2_3, stj_3, st1_4, sti_4, st2_4, stj_4, st1_5, sti_5, st2_5, stj_5, st1_6, sti_6, st2_6, stj_6, st1_7, sti_7, st2_7, stj_7, st1_8, sti_8, st2_8, stj_8, st1_9, sti_9, st2_9, stj_9, kil_n, kil_i, kil_r, kil_l, kil_d, gl_0, gl_s, cat_i, cat_r, true_and, gf_ob (ds _), ald_na (hps _) (show j < 10 by omega)]
          rw [br_1 (by decide), nI_lit0]
          simp only [s117_0, s117_1, s117_3, s117_5, s117_8, s117_9, s117_12, s117_13, s117_14, s117_15, s117_18, s117_21, s117_22, s117_28, s117_29, s117_30, s117_33, s117_34, s117_35, s117_38, s117_39, s117_40, s117_41, s117_42, s117_43, s117_44, s117_45, s117_47, s117_50, s117_51, s117_52, s117_53, s117_55, s117_56, s117_59, s117_60, s117_63, s117_64, s117_65, s117_68, s117_69, s117_70, s117_71, s117_72, s117_73, s117_74, s117_75, s117_78, s117_79, s117_80, s117_81, s117_82, s117_83, s117_86, s117_89, s117_90, s117_93, s117_94, s117_95, s117_98, s117_99, s117_100, s117_101, s117_102, s117_103, s117_104, s117_107, s117_108, s117_109, s117_110, s117_111, s117_112, s117_115, s117_118, ldi_0, ldi_s, ldl_0, ldl_s, ldd_0, ldd_s, lda_0, lda_s, st1_0, st1_1, st2_0, st2_1, sti_0, sti_1, stj_0, stj_1, st1_2, sti_2, st2_2, stj_2, st1_3, sti_3, st2_3, stj_3, st1_4, sti_4, st2_4, stj_4, st1_5, sti_5, st2_5, stj_5, st1_6, sti_6, st2_6, stj_6, st1_7, sti_7, st2_7, stj_7, st1_8, sti_8, st2_8, stj_8, st1_9, sti_9, st2_9, stj_9, kil_n, kil_i, kil_r, kil_l, kil_d, gl_0, gl_s, cat_i, cat_r, true_and, ald_la hup_same (show 0 < 10 by decide), ast_la hup_same (show 0 < 10 by decide)]
          rw [hup_hup]
          exact key _ (by omega)
        | succ i ih2 =>
          intro hi
          rw [s117_54]
          have ei : nI (i + 1) - 1 = nI i := by rw [nI_m1', nI_pm]
          simp only [s117_0, s117_1, s117_3, s117_5, s117_8, s117_9, s117_12, s117_13, s117_14, s117_15, s117_18, s117_21, s117_22, s117_28, s117_29, s117_30, s117_33, s117_34, s117_35, s117_38, s117_39, s117_40, s117_41, s117_42, s117_43, s117_44, s117_45, s117_47, s117_50, s117_51, s117_52, s117_53, s117_55, s117_56, s117_59, s117_60, s117_63, s117_64, s117_65, s117_68, s117_69, s117_70, s117_71, s117_72, s117_73, s117_74, s117_75, s117_78, s117_79, s117_80, s117_81, s117_82, s117_83, s117_86, s117_89, s117_90, s117_93, s117_94, s117_95, s117_98, s117_99, s117_100, s117_101, s117_102, s117_103, s117_104, s117_107, s117_108, s117_109, s117_110, s117_111, s117_112, s117_115, s117_118, ldi_0, ldi_s, ldl_0, ldl_s, ldd_0, ldd_s, lda_0, lda_s, st1_0, st1_1, st2_0, st2_1, sti_0, sti_1, stj_0, stj_1, st1_2, sti_2, st2_2, stj_2, st1_3, sti_3, st2_3, stj_3, st1_4, sti_4, st2_4, stj_4, st1_5, sti_5, st2_5, stj_5, st1_6, sti_6, st2_6, stj_6, st1_7, sti_7, st2_7, stj_7, st1_8, sti_8, st2_8, stj_8, st1_9, sti_9, st2_9, stj_9, kil_n, kil_i, kil_r, kil_l, kil_d, gl_0, gl_s, cat_i, cat_r, true_and, gf_ob (ds _), ei, ald_la hup_same (show i < 10 by omega), ald_la hup_same (show i + 1 < 10 by omega), ast_la hup_same (show i + 1 < 10 by omega), nI_pm, hup_hup]
          rw [br_0 (by rw [nI_lit1]; exact nI_nlt (show 1 ≤ i + 1 by omega) (by omega))]
          have k2 := ih2 (by omega)
          rw [← dsc_s (show i + 1 ≤ k + 1 by omega)] at k2
          exact k2
      have k3 := inner (k + 1) (Nat.le_refl _)
      rw [dsc_t] at k3
      exact k3
  have loop : ∀ (j p : Nat), p + j = 10 → aW (Sp 1) 117 0 0 (RR none (hup h fa (la 10 (mlt R n n))) z) 2 [some (.ref po), some (.int (nI p)), none, none] [] (hup h fa (la 10 (clrL F p))) z 0 0 := by
    intro j
    induction j with
    | zero =>
      intro p hp
      have e : p = 10 := by omega
      subst e
      rw [clrL_e hF]
      rw [s117_2]
      simp only [s117_0, s117_1, s117_3, s117_5, s117_8, s117_9, s117_12, s117_13, s117_14, s117_15, s117_18, s117_21, s117_22, s117_28, s117_29, s117_30, s117_33, s117_34, s117_35, s117_38, s117_39, s117_40, s117_41, s117_42, s117_43, s117_44, s117_45, s117_47, s117_50, s117_51, s117_52, s117_53, s117_55, s117_56, s117_59, s117_60, s117_63, s117_64, s117_65, s117_68, s117_69, s117_70, s117_71, s117_72, s117_73, s117_74, s117_75, s117_78, s117_79, s117_80, s117_81, s117_82, s117_83, s117_86, s117_89, s117_90, s117_93, s117_94, s117_95, s117_98, s117_99, s117_100, s117_101, s117_102, s117_103, s117_104, s117_107, s117_108, s117_109, s117_110, s117_111, s117_112, s117_115, s117_118, ldi_0, ldi_s, ldl_0, ldl_s, ldd_0, ldd_s, lda_0, lda_s, st1_0, st1_1, st2_0, st2_1, sti_0, sti_1, stj_0, stj_1, st1_2, sti_2, st2_2, stj_2, st1_3, sti_3, st2_3, stj_3, st1_4, sti_4, st2_4, stj_4, st1_5, sti_5, st2_5, stj_5, st1_6, sti_6, st2_6, stj_6, st1_7, sti_7, st2_7, stj_7, st1_8, sti_8, st2_8, stj_8, st1_9, sti_9, st2_9, stj_9, kil_n, kil_i, kil_r, kil_l, kil_d, gl_0, gl_s, cat_i, cat_r, true_and, gf_ob (ds _)]
      rw [br_1 (by decide)]
      refine c117_25r (hcs _).1 (sp_size (hcs _).1) ?_
      simp only [s117_0, s117_1, s117_3, s117_5, s117_8, s117_9, s117_12, s117_13, s117_14, s117_15, s117_18, s117_21, s117_22, s117_28, s117_29, s117_30, s117_33, s117_34, s117_35, s117_38, s117_39, s117_40, s117_41, s117_42, s117_43, s117_44, s117_45, s117_47, s117_50, s117_51, s117_52, s117_53, s117_55, s117_56, s117_59, s117_60, s117_63, s117_64, s117_65, s117_68, s117_69, s117_70, s117_71, s117_72, s117_73, s117_74, s117_75, s117_78, s117_79, s117_80, s117_81, s117_82, s117_83, s117_86, s117_89, s117_90, s117_93, s117_94, s117_95, s117_98, s117_99, s117_100, s117_101, s117_102, s117_103, s117_104, s117_107, s117_108, s117_109, s117_110, s117_111, s117_112, s117_115, s117_118, ldi_0, ldi_s, ldl_0, ldl_s, ldd_0, ldd_s, lda_0, lda_s, st1_0, st1_1, st2_0, st2_1, sti_0, sti_1, stj_0, stj_1, st1_2, sti_2, st2_2, stj_2, st1_3, sti_3, st2_3, stj_3, st1_4, sti_4, st2_4, stj_4, st1_5, sti_5, st2_5, stj_5, st1_6, sti_6, st2_6, stj_6, st1_7, sti_7, st2_7, stj_7, st1_8, sti_8, st2_8, stj_8, st1_9, sti_9, st2_9, stj_9, kil_n, kil_i, kil_r, kil_l, kil_d, gl_0, gl_s, cat_i, cat_r, true_and, gf_ob (ds _), ald_na (hps _) (show n < 10 by omega)]
      rw [nI_lit0]
      simp only [s117_0, s117_1, s117_3, s117_5, s117_8, s117_9, s117_12, s117_13, s117_14, s117_15, s117_18, s117_21, s117_22, s117_28, s117_29, s117_30, s117_33, s117_34, s117_35, s117_38, s117_39, s117_40, s117_41, s117_42, s117_43, s117_44, s117_45, s117_47, s117_50, s117_51, s117_52, s117_53, s117_55, s117_56, s117_59, s117_60, s117_63, s117_64, s117_65, s117_68, s117_69, s117_70, s117_71, s117_72, s117_73, s117_74, s117_75, s117_78, s117_79, s117_80, s117_81, s117_82, s117_83, s117_86, s117_89, s117_90, s117_93, s117_94, s117_95, s117_98, s117_99, s117_100, s117_101, s117_102, s117_103, s117_104, s117_107, s117_108, s117_109, s117_110, s117_111, s117_112, s117_115, s117_118, ldi_0, ldi_s, ldl_0, ldl_s, ldd_0, ldd_s, lda_0, lda_s, st1_0, st1_1, st2_0, st2_1, sti_0, sti_1, stj_0, stj_1, st1_2, sti_2, st2_2, stj_2, st1_3, sti_3, st2_3, stj_3, st1_4, sti_4, st2_4, stj_4, st1_5, sti_5, st2_5, stj_5, st1_6, sti_6, st2_6, stj_6, st1_7, sti_7, st2_7, stj_7, st1_8, sti_8, st2_8, stj_8, st1_9, sti_9, st2_9, stj_9, kil_n, kil_i, kil_r, kil_l, kil_d, gl_0, gl_s, cat_i, cat_r, true_and, ast_la hup_same (show 0 < 10 by decide), hup_hup]
      rw [nI_m1']
      exact outer n 0 _ (by omega)
    | succ j ih =>
      intro p hp
      rw [s117_2]
      simp only [s117_0, s117_1, s117_3, s117_5, s117_8, s117_9, s117_12, s117_13, s117_14, s117_15, s117_18, s117_21, s117_22, s117_28, s117_29, s117_30, s117_33, s117_34, s117_35, s117_38, s117_39, s117_40, s117_41, s117_42, s117_43, s117_44, s117_45, s117_47, s117_50, s117_51, s117_52, s117_53, s117_55, s117_56, s117_59, s117_60, s117_63, s117_64, s117_65, s117_68, s117_69, s117_70, s117_71, s117_72, s117_73, s117_74, s117_75, s117_78, s117_79, s117_80, s117_81, s117_82, s117_83, s117_86, s117_89, s117_90, s117_93, s117_94, s117_95, s117_98, s117_99, s117_100, s117_101, s117_102, s117_103, s117_104, s117_107, s117_108, s117_109, s117_110, s117_111, s117_112, s117_115, s117_118, ldi_0, ldi_s, ldl_0, ldl_s, ldd_0, ldd_s, lda_0, lda_s, st1_0, st1_1, st2_0, st2_1, sti_0, sti_1, stj_0, stj_1, st1_2, sti_2, st2_2, stj_2, st1_3, sti_3, st2_3, stj_3, st1_4, sti_4, st2_4, stj_4, st1_5, sti_5, st2_5, stj_5, st1_6, sti_6, st2_6, stj_6, st1_7, sti_7, st2_7, stj_7, st1_8, sti_8, st2_8, stj_8, st1_9, sti_9, st2_9, stj_9, kil_n, kil_i, kil_r, kil_l, kil_d, gl_0, gl_s, cat_i, cat_r, true_and, gf_ob (ds _), ast_la hup_same (show p < 10 by omega), hup_hup, clrL_s]
      rw [nI_lit9, br_0 (nI_nlt (show p ≤ 9 by omega) (by decide)), nI_1]
      exact ih (p + 1) (by omega)
  have key := loop 10 0 (by omega)
  rw [clrL_0, hup_id hfa] at key
  exact key
end Mult
