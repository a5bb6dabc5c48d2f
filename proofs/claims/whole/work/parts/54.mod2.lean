/-! ColourmapModel: the calls that change the map -/
theorem NF_gf {h : AH} {m t t2 ns n k : Nat} {G : Nat → Nat → Bool} {th : Int32} {f : Value → Prop} : gf (NF h m t t2 ns G th n) m 6 k f = gl [.int th, .int (nI n), .ref t, .int (nI ns), .ref t2, .ref (m + 21), .ref (m + 22), .ref (m + 23), .ref (m + 24), .ref (m + 25), .ref (m + 26), .ref (m + 27), .ref (m + 28), .ref (m + 29), .ref (m + 30), .ref (m + 40)] k f := gf_ob NF_m
theorem nI_lt_pred {n : Nat} {p : Int32} (hn : n ≤ 9) : (nI n - 1 < p) ↔ nI n ≤ p := by
  have e1 : (nI n - 1).toInt = (n : Int) - 1 := by
    rw [nI_lit1, pk_sub_toInt (by omega) (by omega)]
    rfl
  rw [Int32.lt_iff_toInt_lt, Int32.le_iff_toInt_le, e1, nI_toInt (by omega)]
  omega
theorem sp_in {h : AH} {z : Nat} {v lo hi : Int32} : Sp 1 14 [.int v, .int lo, .int hi] h z 0 0 (RR (some (.int (bI (decide (¬ v < lo ∧ ¬ hi < v))))) h z) := by
  refine Sp_in (al := [some (.int v), some (.int lo), some (.int hi)]) ?_
  simp only [s14_0, s14_1, s14_2, s14_5, s14_6, s14_7, s14_10, s14_11, s14_14, s14_15, ldi_0, ldi_s, ldl_0, ldl_s, ldd_0, ldd_s, lda_0, lda_s, st1_0, st1_1, st2_0, st2_1, sti_0, sti_1, stj_0, stj_1, st1_2, sti_2, st2_2, stj_2, st1_3, sti_3, st2_3, stj_3, st1_4, sti_4, st2_4, stj_4, st1_5, sti_5, st2_5, stj_5, st1_6, sti_6, st2_6, stj_6, st1_7, sti_7, st2_7, stj_7, st1_8, sti_8, st2_8, stj_8, st1_9, sti_9, st2_9, stj_9, kil_n, kil_i, kil_r, kil_l, kil_d, gl_0, gl_s, cat_i, cat_r, true_and]
  refine ⟨fun h1 => ?_, fun h1 => ⟨fun h2 => ?_, fun h2 => ?_⟩⟩
  · exact ⟨rfl, out_eq (by simp [h1, bI]) rfl rfl⟩
  · exact ⟨rfl, out_eq (by simp [h2, bI]) rfl rfl⟩
  · exact ⟨rfl, out_eq (by simp [h1, h2, bI]) rfl rfl⟩
section Mod2
variable {h : AH} {m t t2 ns n z : Nat} {G SG : Nat → Nat → Bool} {th : Int32}
theorem sp_throws_f {hh : AH} {fs : List Value} {k : Int32} (hm : hh m = some (ob 6 fs)) : Sp 1 15 [.ref m, .int 0, .int k] hh z 0 0 (RR (some (.int 0)) hh z) := by
  refine Sp_in (al := [some (.ref m), some (.int 0), some (.int k)]) ?_
  simp only [s15_0, s15_1, s15_4, s15_5, s15_8, s15_11, s15_12, s15_13, s15_16, s15_17, ldi_0, ldi_s, ldl_0, ldl_s, ldd_0, ldd_s, lda_0, lda_s, st1_0, st1_1, st2_0, st2_1, sti_0, sti_1, stj_0, stj_1, st1_2, sti_2, st2_2, stj_2, st1_3, sti_3, st2_3, stj_3, st1_4, sti_4, st2_4, stj_4, st1_5, sti_5, st2_5, stj_5, st1_6, sti_6, st2_6, stj_6, st1_7, sti_7, st2_7, stj_7, st1_8, sti_8, st2_8, stj_8, st1_9, sti_9, st2_9, stj_9, kil_n, kil_i, kil_r, kil_l, kil_d, gl_0, gl_s, cat_i, cat_r, true_and]
  rw [br_1 (by decide)]
  exact ⟨rfl, out_RR⟩
theorem sp_throws_t {k : Int32} : Sp 1 15 [.ref m, .int 1, .int k] (NF h m t t2 ns G 0 n) z 0 0 (RR (some (.int 1)) (NF h m t t2 ns G k n) z) := by
  refine Sp_in (al := [some (.ref m), some (.int 1), some (.int k)]) ?_
  simp only [s15_0, s15_1, s15_4, s15_5, s15_8, s15_11, s15_12, s15_13, s15_16, s15_17, ldi_0, ldi_s, ldl_0, ldl_s, ldd_0, ldd_s, lda_0, lda_s, st1_0, st1_1, st2_0, st2_1, sti_0, sti_1, stj_0, stj_1, st1_2, sti_2, st2_2, stj_2, st1_3, sti_3, st2_3, stj_3, st1_4, sti_4, st2_4, stj_4, st1_5, sti_5, st2_5, stj_5, st1_6, sti_6, st2_6, stj_6, st1_7, sti_7, st2_7, stj_7, st1_8, sti_8, st2_8, stj_8, st1_9, sti_9, st2_9, stj_9, kil_n, kil_i, kil_r, kil_l, kil_d, gl_0, gl_s, cat_i, cat_r, true_and, NF_gf, NF_th]
  rw [br_0 (by decide), br_0 (by decide)]
  exact ⟨rfl, out_RR⟩
theorem sp_is (hn : n ≤ 9) {p : Int32} : Sp 2 39 [.ref m, .int p] (NF h m t t2 ns G th n) z 0 0 (RR (some (.int (bI (pl n p)))) (NF h m t t2 ns G th n) z) := by
  refine Sp_in (al := [some (.ref m), some (.int p)]) ?_
  simp only [s39_0, s39_1, s39_2, s39_3, s39_6, s39_7, s39_11, ldi_0, ldi_s, ldl_0, ldl_s, ldd_0, ldd_s, lda_0, lda_s, st1_0, st1_1, st2_0, st2_1, sti_0, sti_1, stj_0, stj_1, st1_2, sti_2, st2_2, stj_2, st1_3, sti_3, st2_3, stj_3, st1_4, sti_4, st2_4, stj_4, st1_5, sti_5, st2_5, stj_5, st1_6, sti_6, st2_6, stj_6, st1_7, sti_7, st2_7, stj_7, st1_8, sti_8, st2_8, stj_8, st1_9, sti_9, st2_9, stj_9, kil_n, kil_i, kil_r, kil_l, kil_d, gl_0, gl_s, cat_i, cat_r, true_and, NF_gf]
  refine c39_8r sp_in ?_
  simp only [s39_0, s39_1, s39_2, s39_3, s39_6, s39_7, s39_11, ldi_0, ldi_s, ldl_0, ldl_s, ldd_0, ldd_s, lda_0, lda_s, st1_0, st1_1, st2_0, st2_1, sti_0, sti_1, stj_0, stj_1, st1_2, sti_2, st2_2, stj_2, st1_3, sti_3, st2_3, stj_3, st1_4, sti_4, st2_4, stj_4, st1_5, sti_5, st2_5, stj_5, st1_6, sti_6, st2_6, stj_6, st1_7, sti_7, st2_7, stj_7, st1_8, sti_8, st2_8, stj_8, st1_9, sti_9, st2_9, stj_9, kil_n, kil_i, kil_r, kil_l, kil_d, gl_0, gl_s, cat_i, cat_r, true_and, nI_lt_pred hn]
  exact ⟨nar_bI _, out_RR⟩
theorem sp_mthrown : Sp 1 17 [.ref m] (NF h m t t2 ns G th n) z 0 0 (RR (some (.int th)) (NF h m t t2 ns G th n) z) := by
  refine Sp_in (al := [some (.ref m)]) ?_
  simp only [s17_0, s17_1, s17_4, ldi_0, ldi_s, ldl_0, ldl_s, ldd_0, ldd_s, lda_0, lda_s, st1_0, st1_1, st2_0, st2_1, sti_0, sti_1, stj_0, stj_1, st1_2, sti_2, st2_2, stj_2, st1_3, sti_3, st2_3, stj_3, st1_4, sti_4, st2_4, stj_4, st1_5, sti_5, st2_5, stj_5, st1_6, sti_6, st2_6, stj_6, st1_7, sti_7, st2_7, stj_7, st1_8, sti_8, st2_8, stj_8, st1_9, sti_9, st2_9, stj_9, kil_n, kil_i, kil_r, kil_l, kil_d, gl_0, gl_s, cat_i, cat_r, true_and, NF_gf]
  exact out_RR
theorem sp_mways (hB : MB h m t t2 SG) (hn : n ≤ 9) : Sp 2 29 [.ref m] (NF h m t t2 ns G th n) z 0 0 (RR (some (.int (nI (wys G n)))) (NF h m t t2 ns G th n) z) := by
  refine Sp_in (al := [some (.ref m)]) ?_
  simp only [s29_0, s29_1, s29_4, s29_5, s29_11, ldi_0, ldi_s, ldl_0, ldl_s, ldd_0, ldd_s, lda_0, lda_s, st1_0, st1_1, st2_0, st2_1, sti_0, sti_1, stj_0, stj_1, st1_2, sti_2, st2_2, stj_2, st1_3, sti_3, st2_3, stj_3, st1_4, sti_4, st2_4, stj_4, st1_5, sti_5, st2_5, stj_5, st1_6, sti_6, st2_6, stj_6, st1_7, sti_7, st2_7, stj_7, st1_8, sti_8, st2_8, stj_8, st1_9, sti_9, st2_9, stj_9, kil_n, kil_i, kil_r, kil_l, kil_d, gl_0, gl_s, cat_i, cat_r, true_and, NF_gf]
  refine c29_8r (sp_waysOf (NF_Tb hB) hn) ?_
  simp only [s29_0, s29_1, s29_4, s29_5, s29_11, ldi_0, ldi_s, ldl_0, ldl_s, ldd_0, ldd_s, lda_0, lda_s, st1_0, st1_1, st2_0, st2_1, sti_0, sti_1, stj_0, stj_1, st1_2, sti_2, st2_2, stj_2, st1_3, sti_3, st2_3, stj_3, st1_4, sti_4, st2_4, stj_4, st1_5, sti_5, st2_5, stj_5, st1_6, sti_6, st2_6, stj_6, st1_7, sti_7, st2_7, stj_7, st1_8, sti_8, st2_8, stj_8, st1_9, sti_9, st2_9, stj_9, kil_n, kil_i, kil_r, kil_l, kil_d, gl_0, gl_s, cat_i, cat_r, true_and]
  exact out_RR
theorem sp_mplaces : Sp 1 76 [.ref m] (NF h m t t2 ns G th n) z 0 0 (RR (some (.int (nI n))) (NF h m t t2 ns G th n) z) := by
  refine Sp_in (al := [some (.ref m)]) ?_
  simp only [s76_0, s76_1, s76_4, ldi_0, ldi_s, ldl_0, ldl_s, ldd_0, ldd_s, lda_0, lda_s, st1_0, st1_1, st2_0, st2_1, sti_0, sti_1, stj_0, stj_1, st1_2, sti_2, st2_2, stj_2, st1_3, sti_3, st2_3, stj_3, st1_4, sti_4, st2_4, stj_4, st1_5, sti_5, st2_5, stj_5, st1_6, sti_6, st2_6, stj_6, st1_7, sti_7, st2_7, stj_7, st1_8, sti_8, st2_8, stj_8, st1_9, sti_9, st2_9, stj_9, kil_n, kil_i, kil_r, kil_l, kil_d, gl_0, gl_s, cat_i, cat_r, true_and, NF_gf]
  exact out_RR
theorem sp_mbegin (hB : MB h m t t2 SG) (hG : GOK n G) {k : Nat} (hk : k ≤ 9) : Sp 20 13 [.ref m, .int (nI k)] (NF h m t t2 ns G th n) z 0 0 (RR (some (.int (nI n))) (NF h m t t2 ns gE 0 k) z) := by
  refine Sp_in (al := [some (.ref m), some (.int (nI k)), none]) ?_
  simp only [s13_0, s13_1, s13_2, s13_5, s13_6, s13_7, s13_8, s13_13, s13_16, s13_17, s13_20, s13_21, s13_25, s13_28, s13_29, s13_30, s13_31, s13_34, s13_35, s13_36, s13_37, s13_40, s13_41, s13_42, s13_48, s13_49, ldi_0, ldi_s, ldl_0, ldl_s, ldd_0, ldd_s, lda_0, lda_s, st1_0, st1_1, st2_0, st2_1, sti_0, sti_1, stj_0, stj_1, st1_2, sti_2, st2_2, stj_2, st1_3, sti_3, st2_3, stj_3, st1_4, sti_4, st2_4, stj_4, st1_5, sti_5, st2_5, stj_5, st1_6, sti_6, st2_6, stj_6, st1_7, sti_7, st2_7, stj_7, st1_8, sti_8, st2_8, stj_8, st1_9, sti_9, st2_9, stj_9, kil_n, kil_i, kil_r, kil_l, kil_d, gl_0, gl_s, cat_i, cat_r, true_and, NF_th]
  refine c13_10r sp_in ?_
  have e : decide (¬ nI k < 0 ∧ ¬ (9 : Int32) < nI k) = true := by
    rw [decide_eq_true_eq]
    exact ⟨nI_pos (by omega), nI_nlt hk (by decide)⟩
  simp only [s13_0, s13_1, s13_2, s13_5, s13_6, s13_7, s13_8, s13_13, s13_16, s13_17, s13_20, s13_21, s13_25, s13_28, s13_29, s13_30, s13_31, s13_34, s13_35, s13_36, s13_37, s13_40, s13_41, s13_42, s13_48, s13_49, ldi_0, ldi_s, ldl_0, ldl_s, ldd_0, ldd_s, lda_0, lda_s, st1_0, st1_1, st2_0, st2_1, sti_0, sti_1, stj_0, stj_1, st1_2, sti_2, st2_2, stj_2, st1_3, sti_3, st2_3, stj_3, st1_4, sti_4, st2_4, stj_4, st1_5, sti_5, st2_5, stj_5, st1_6, sti_6, st2_6, stj_6, st1_7, sti_7, st2_7, stj_7, st1_8, sti_8, st2_8, stj_8, st1_9, sti_9, st2_9, stj_9, kil_n, kil_i, kil_r, kil_l, kil_d, gl_0, gl_s, cat_i, cat_r, true_and]
  rw [e, br_1 (by decide)]
  refine c13_22r NF_m (sp_throws_f NF_m) ?_
  simp only [s13_0, s13_1, s13_2, s13_5, s13_6, s13_7, s13_8, s13_13, s13_16, s13_17, s13_20, s13_21, s13_25, s13_28, s13_29, s13_30, s13_31, s13_34, s13_35, s13_36, s13_37, s13_40, s13_41, s13_42, s13_48, s13_49, ldi_0, ldi_s, ldl_0, ldl_s, ldd_0, ldd_s, lda_0, lda_s, st1_0, st1_1, st2_0, st2_1, sti_0, sti_1, stj_0, stj_1, st1_2, sti_2, st2_2, stj_2, st1_3, sti_3, st2_3, stj_3, st1_4, sti_4, st2_4, stj_4, st1_5, sti_5, st2_5, stj_5, st1_6, sti_6, st2_6, stj_6, st1_7, sti_7, st2_7, stj_7, st1_8, sti_8, st2_8, stj_8, st1_9, sti_9, st2_9, stj_9, kil_n, kil_i, kil_r, kil_l, kil_d, gl_0, gl_s, cat_i, cat_r, true_and, NF_gf, NF_n]
  rw [br_1 (by decide)]
  refine c13_45r NF_m (sp_clears (NF_Tb hB) hG.z9) ?_
  simp only [s13_0, s13_1, s13_2, s13_5, s13_6, s13_7, s13_8, s13_13, s13_16, s13_17, s13_20, s13_21, s13_25, s13_28, s13_29, s13_30, s13_31, s13_34, s13_35, s13_36, s13_37, s13_40, s13_41, s13_42, s13_48, s13_49, ldi_0, ldi_s, ldl_0, ldl_s, ldd_0, ldd_s, lda_0, lda_s, st1_0, st1_1, st2_0, st2_1, sti_0, sti_1, stj_0, stj_1, st1_2, sti_2, st2_2, stj_2, st1_3, sti_3, st2_3, stj_3, st1_4, sti_4, st2_4, stj_4, st1_5, sti_5, st2_5, stj_5, st1_6, sti_6, st2_6, stj_6, st1_7, sti_7, st2_7, stj_7, st1_8, sti_8, st2_8, stj_8, st1_9, sti_9, st2_9, stj_9, kil_n, kil_i, kil_r, kil_l, kil_d, gl_0, gl_s, cat_i, cat_r, true_and]
  exact out_eq rfl (NF_tab hB) rfl
theorem sp_mbegin_no {p : Int32} (hp : p < 0 ∨ ¬ p ≤ 9) : Sp 20 13 [.ref m, .int p] (NF h m t t2 ns G th n) z 0 0 (RR (some (.int 0)) (NF h m t t2 ns G 1 n) z) := by
  refine Sp_in (al := [some (.ref m), some (.int p), none]) ?_
  simp only [s13_0, s13_1, s13_2, s13_5, s13_6, s13_7, s13_8, s13_13, s13_16, s13_17, s13_20, s13_21, s13_25, s13_28, s13_29, s13_30, s13_31, s13_34, s13_35, s13_36, s13_37, s13_40, s13_41, s13_42, s13_48, s13_49, ldi_0, ldi_s, ldl_0, ldl_s, ldd_0, ldd_s, lda_0, lda_s, st1_0, st1_1, st2_0, st2_1, sti_0, sti_1, stj_0, stj_1, st1_2, sti_2, st2_2, stj_2, st1_3, sti_3, st2_3, stj_3, st1_4, sti_4, st2_4, stj_4, st1_5, sti_5, st2_5, stj_5, st1_6, sti_6, st2_6, stj_6, st1_7, sti_7, st2_7, stj_7, st1_8, sti_8, st2_8, stj_8, st1_9, sti_9, st2_9, stj_9, kil_n, kil_i, kil_r, kil_l, kil_d, gl_0, gl_s, cat_i, cat_r, true_and, NF_th]
  refine c13_10r sp_in ?_
  have e : decide (¬ p < 0 ∧ ¬ (9 : Int32) < p) = false := by
    rw [decide_eq_false_iff_not]
    rintro ⟨h1, h2⟩
    rcases hp with h3 | h3
    · exact h1 h3
    · exact h2 (Int32.not_le.mp h3)
  simp only [s13_0, s13_1, s13_2, s13_5, s13_6, s13_7, s13_8, s13_13, s13_16, s13_17, s13_20, s13_21, s13_25, s13_28, s13_29, s13_30, s13_31, s13_34, s13_35, s13_36, s13_37, s13_40, s13_41, s13_42, s13_48, s13_49, ldi_0, ldi_s, ldl_0, ldl_s, ldd_0, ldd_s, lda_0, lda_s, st1_0, st1_1, st2_0, st2_1, sti_0, sti_1, stj_0, stj_1, st1_2, sti_2, st2_2, stj_2, st1_3, sti_3, st2_3, stj_3, st1_4, sti_4, st2_4, stj_4, st1_5, sti_5, st2_5, stj_5, st1_6, sti_6, st2_6, stj_6, st1_7, sti_7, st2_7, stj_7, st1_8, sti_8, st2_8, stj_8, st1_9, sti_9, st2_9, stj_9, kil_n, kil_i, kil_r, kil_l, kil_d, gl_0, gl_s, cat_i, cat_r, true_and]
  rw [e, br_0 (by decide)]
  refine c13_22r NF_m sp_throws_t ?_
  simp only [s13_0, s13_1, s13_2, s13_5, s13_6, s13_7, s13_8, s13_13, s13_16, s13_17, s13_20, s13_21, s13_25, s13_28, s13_29, s13_30, s13_31, s13_34, s13_35, s13_36, s13_37, s13_40, s13_41, s13_42, s13_48, s13_49, ldi_0, ldi_s, ldl_0, ldl_s, ldd_0, ldd_s, lda_0, lda_s, st1_0, st1_1, st2_0, st2_1, sti_0, sti_1, stj_0, stj_1, st1_2, sti_2, st2_2, stj_2, st1_3, sti_3, st2_3, stj_3, st1_4, sti_4, st2_4, stj_4, st1_5, sti_5, st2_5, stj_5, st1_6, sti_6, st2_6, stj_6, st1_7, sti_7, st2_7, stj_7, st1_8, sti_8, st2_8, stj_8, st1_9, sti_9, st2_9, stj_9, kil_n, kil_i, kil_r, kil_l, kil_d, gl_0, gl_s, cat_i, cat_r, true_and]
  rw [br_0 (by decide)]
  exact out_RR
theorem sp_mplace (h8 : n < 9) : Sp 20 23 [.ref m] (NF h m t t2 ns G th n) z 0 0 (RR (some (.int (nI (n + 1)))) (NF h m t t2 ns G 0 (n + 1)) z) := by
  refine Sp_in (al := [some (.ref m)]) ?_
  simp only [s23_0, s23_1, s23_2, s23_5, s23_6, s23_7, s23_10, s23_12, s23_15, s23_16, s23_19, s23_20, s23_24, s23_27, s23_28, s23_29, s23_30, s23_31, s23_34, s23_35, s23_36, s23_39, s23_40, s23_43, ldi_0, ldi_s, ldl_0, ldl_s, ldd_0, ldd_s, lda_0, lda_s, st1_0, st1_1, st2_0, st2_1, sti_0, sti_1, stj_0, stj_1, st1_2, sti_2, st2_2, stj_2, st1_3, sti_3, st2_3, stj_3, st1_4, sti_4, st2_4, stj_4, st1_5, sti_5, st2_5, stj_5, st1_6, sti_6, st2_6, stj_6, st1_7, sti_7, st2_7, stj_7, st1_8, sti_8, st2_8, stj_8, st1_9, sti_9, st2_9, stj_9, kil_n, kil_i, kil_r, kil_l, kil_d, gl_0, gl_s, cat_i, cat_r, true_and, NF_th, NF_gf]
  rw [nI_lit9, br_1 (by rw [nI_eq (by omega) (by decide)]; omega)]
  refine c23_21r NF_m (sp_throws_f NF_m) ?_
  simp only [s23_0, s23_1, s23_2, s23_5, s23_6, s23_7, s23_10, s23_12, s23_15, s23_16, s23_19, s23_20, s23_24, s23_27, s23_28, s23_29, s23_30, s23_31, s23_34, s23_35, s23_36, s23_39, s23_40, s23_43, ldi_0, ldi_s, ldl_0, ldl_s, ldd_0, ldd_s, lda_0, lda_s, st1_0, st1_1, st2_0, st2_1, sti_0, sti_1, stj_0, stj_1, st1_2, sti_2, st2_2, stj_2, st1_3, sti_3, st2_3, stj_3, st1_4, sti_4, st2_4, stj_4, st1_5, sti_5, st2_5, stj_5, st1_6, sti_6, st2_6, stj_6, st1_7, sti_7, st2_7, stj_7, st1_8, sti_8, st2_8, stj_8, st1_9, sti_9, st2_9, stj_9, kil_n, kil_i, kil_r, kil_l, kil_d, gl_0, gl_s, cat_i, cat_r, true_and, NF_gf, nI_1, NF_n]
  rw [br_1 (by decide)]
  exact out_RR
theorem sp_mplace_no (h8 : n = 9) : Sp 20 23 [.ref m] (NF h m t t2 ns G th n) z 0 0 (RR (some (.int 0)) (NF h m t t2 ns G 1 n) z) := by
  subst h8
  refine Sp_in (al := [some (.ref m)]) ?_
  simp only [s23_0, s23_1, s23_2, s23_5, s23_6, s23_7, s23_10, s23_12, s23_15, s23_16, s23_19, s23_20, s23_24, s23_27, s23_28, s23_29, s23_30, s23_31, s23_34, s23_35, s23_36, s23_39, s23_40, s23_43, ldi_0, ldi_s, ldl_0, ldl_s, ldd_0, ldd_s, lda_0, lda_s, st1_0, st1_1, st2_0, st2_1, sti_0, sti_1, stj_0, stj_1, st1_2, sti_2, st2_2, stj_2, st1_3, sti_3, st2_3, stj_3, st1_4, sti_4, st2_4, stj_4, st1_5, sti_5, st2_5, stj_5, st1_6, sti_6, st2_6, stj_6, st1_7, sti_7, st2_7, stj_7, st1_8, sti_8, st2_8, stj_8, st1_9, sti_9, st2_9, stj_9, kil_n, kil_i, kil_r, kil_l, kil_d, gl_0, gl_s, cat_i, cat_r, true_and, NF_th, NF_gf]
  rw [br_0 (by decide)]
  refine c23_21r NF_m sp_throws_t ?_
  simp only [s23_0, s23_1, s23_2, s23_5, s23_6, s23_7, s23_10, s23_12, s23_15, s23_16, s23_19, s23_20, s23_24, s23_27, s23_28, s23_29, s23_30, s23_31, s23_34, s23_35, s23_36, s23_39, s23_40, s23_43, ldi_0, ldi_s, ldl_0, ldl_s, ldd_0, ldd_s, lda_0, lda_s, st1_0, st1_1, st2_0, st2_1, sti_0, sti_1, stj_0, stj_1, st1_2, sti_2, st2_2, stj_2, st1_3, sti_3, st2_3, stj_3, st1_4, sti_4, st2_4, stj_4, st1_5, sti_5, st2_5, stj_5, st1_6, sti_6, st2_6, stj_6, st1_7, sti_7, st2_7, stj_7, st1_8, sti_8, st2_8, stj_8, st1_9, sti_9, st2_9, stj_9, kil_n, kil_i, kil_r, kil_l, kil_d, gl_0, gl_s, cat_i, cat_r, true_and]
  rw [br_0 (by decide)]
  exact out_RR
def gSt (n k : Nat) (G : Nat → Nat → Bool) : Nat → Nat → Bool := fun p q => decide (p = n ∧ q < k) || decide (q = n ∧ p < k) || G p q
theorem gSt_0 : gSt n 0 G = G := by
  funext p q
  unfold gSt
  simp
theorem gSt_s {k : Nat} : gUpd (gUpd (gSt n k G) k n true) n k true = gSt n (k + 1) G := by
  funext p q
  unfold gUpd gSt
  by_cases h1 : p = n ∧ q = k
  · rw [if_pos h1, h1.1, h1.2]
    simp
  · rw [if_neg h1]
    by_cases h2 : p = k ∧ q = n
    · rw [if_pos h2, h2.1, h2.2]
      simp
    · rw [if_neg h2]
      congr 2
      · rw [decide_eq_decide]
        omega
      · rw [decide_eq_decide]
        omega
theorem gSt_n (hG : GOK n G) : gSt n n G = gStar n G := by
  funext p q
  unfold gSt gStar
  by_cases h1 : p = n
  · rw [if_pos h1, h1, hG.lt' (Nat.le_refl _)]
    simp
  · rw [if_neg h1]
    by_cases h2 : q = n
    · rw [if_pos h2, h2, hG.lt (Nat.le_refl _)]
      simp [h1]
    · rw [if_neg h2]
      simp [h1, h2]
theorem sp_mstar (hB : MB h m t t2 SG) (hG : GOK n G) (h8 : n < 9) : Sp 20 28 [.ref m] (NF h m t t2 ns G th n) z 0 0 (RR (some (.int (nI (wys (gStar n G) (n + 1))))) (NF h m t t2 ns (gStar n G) 0 (n + 1)) z) := by
  refine Sp_in (al := [some (.ref m), none]) ?_
  simp only [s28_0, s28_1, s28_2, s28_5, s28_6, s28_7, s28_10, s28_12, s28_15, s28_16, s28_19, s28_20, s28_24, s28_27, s28_28, s28_29, s28_30, s28_32, s28_33, s28_36, s28_39, s28_40, s28_43, s28_44, s28_45, s28_46, s28_49, s28_50, s28_51, s28_52, s28_55, s28_56, s28_59, s28_60, s28_61, s28_62, s28_63, s28_66, s28_69, s28_70, s28_71, s28_74, s28_75, s28_76, s28_79, s28_83, ldi_0, ldi_s, ldl_0, ldl_s, ldd_0, ldd_s, lda_0, lda_s, st1_0, st1_1, st2_0, st2_1, sti_0, sti_1, stj_0, stj_1, st1_2, sti_2, st2_2, stj_2, st1_3, sti_3, st2_3, stj_3, st1_4, sti_4, st2_4, stj_4, st1_5, sti_5, st2_5, stj_5, st1_6, sti_6, st2_6, stj_6, st1_7, sti_7, st2_7, stj_7, st1_8, sti_8, st2_8, stj_8, st1_9, sti_9, st2_9, stj_9, kil_n, kil_i, kil_r, kil_l, kil_d, gl_0, gl_s, cat_i, cat_r, true_and, NF_th, NF_gf]
  rw [nI_lit9, br_1 (by rw [nI_eq (by omega) (by decide)]; omega)]
  refine c28_21r NF_m (sp_throws_f NF_m) ?_
  simp only [s28_0, s28_1, s28_2, s28_5, s28_6, s28_7, s28_10, s28_12, s28_15, s28_16, s28_19, s28_20, s28_24, s28_27, s28_28, s28_29, s28_30, s28_32, s28_33, s28_36, s28_39, s28_40, s28_43, s28_44, s28_45, s28_46, s28_49, s28_50, s28_51, s28_52, s28_55, s28_56, s28_59, s28_60, s28_61, s28_62, s28_63, s28_66, s28_69, s28_70, s28_71, s28_74, s28_75, s28_76, s28_79, s28_83, ldi_0, ldi_s, ldl_0, ldl_s, ldd_0, ldd_s, lda_0, lda_s, st1_0, st1_1, st2_0, st2_1, sti_0, sti_1, stj_0, stj_1, st1_2, sti_2, st2_2, stj_2, st1_3, sti_3, st2_3, stj_3, st1_4, sti_4, st2_4, stj_4, st1_5, sti_5, st2_5, stj_5, st1_6, sti_6, st2_6, stj_6, st1_7, sti_7, st2_7, stj_7, st1_8, sti_8, st2_8, stj_8, st1_9, sti_9, st2_9, stj_9, kil_n, kil_i, kil_r, kil_l, kil_d, gl_0, gl_s, cat_i, cat_r, true_and]
  rw [br_1 (by decide)]
  have key : ∀ k, k ≤ n → aW (Sp 19) 28 0 0 (RR (some (.int (nI (wys (gStar n G) (n + 1))))) (NF h m t t2 ns (gStar n G) 0 (n + 1)) z) 31 [some (.ref m), some (.int (nI k))] [] (NF h m t t2 ns (gSt n k G) 0 n) z 0 0 := by
    refine aUp ?_ fun k hk ih => ?_
    · rw [s28_31]
      simp only [s28_0, s28_1, s28_2, s28_5, s28_6, s28_7, s28_10, s28_12, s28_15, s28_16, s28_19, s28_20, s28_24, s28_27, s28_28, s28_29, s28_30, s28_32, s28_33, s28_36, s28_39, s28_40, s28_43, s28_44, s28_45, s28_46, s28_49, s28_50, s28_51, s28_52, s28_55, s28_56, s28_59, s28_60, s28_61, s28_62, s28_63, s28_66, s28_69, s28_70, s28_71, s28_74, s28_75, s28_76, s28_79, s28_83, ldi_0, ldi_s, ldl_0, ldl_s, ldd_0, ldd_s, lda_0, lda_s, st1_0, st1_1, st2_0, st2_1, sti_0, sti_1, stj_0, stj_1, st1_2, sti_2, st2_2, stj_2, st1_3, sti_3, st2_3, stj_3, st1_4, sti_4, st2_4, stj_4, st1_5, sti_5, st2_5, stj_5, st1_6, sti_6, st2_6, stj_6, st1_7, sti_7, st2_7, stj_7, st1_8, sti_8, st2_8, stj_8, st1_9, sti_9, st2_9, stj_9, kil_n, kil_i, kil_r, kil_l, kil_d, gl_0, gl_s, cat_i, cat_r, true_and, NF_gf, nI_1, NF_n]
      rw [br_1 (nI_le (Nat.le_refl _) (by omega)), gSt_n hG]
      refine c28_80r NF_m (sp_mways hB (by omega)) ?_
      simp only [s28_0, s28_1, s28_2, s28_5, s28_6, s28_7, s28_10, s28_12, s28_15, s28_16, s28_19, s28_20, s28_24, s28_27, s28_28, s28_29, s28_30, s28_32, s28_33, s28_36, s28_39, s28_40, s28_43, s28_44, s28_45, s28_46, s28_49, s28_50, s28_51, s28_52, s28_55, s28_56, s28_59, s28_60, s28_61, s28_62, s28_63, s28_66, s28_69, s28_70, s28_71, s28_74, s28_75, s28_76, s28_79, s28_83, ldi_0, ldi_s, ldl_0, ldl_s, ldd_0, ldd_s, lda_0, lda_s, st1_0, st1_1, st2_0, st2_1, sti_0, sti_1, stj_0, stj_1, st1_2, sti_2, st2_2, stj_2, st1_3, sti_3, st2_3, stj_3, st1_4, sti_4, st2_4, stj_4, st1_5, sti_5, st2_5, stj_5, st1_6, sti_6, st2_6, stj_6, st1_7, sti_7, st2_7, stj_7, st1_8, sti_8, st2_8, stj_8, st1_9, sti_9, st2_9, stj_9, kil_n, kil_i, kil_r, kil_l, kil_d, gl_0, gl_s, cat_i, cat_r, true_and]
      exact out_RR
    · rw [s28_31]
      simp only [s28_0, s28_1, s28_2, s28_5, s28_6, s28_7, s28_10, s28_12, s28_15, s28_16, s28_19, s28_20, s28_24, s28_27, s28_28, s28_29, s28_30, s28_32, s28_33, s28_36, s28_39, s28_40, s28_43, s28_44, s28_45, s28_46, s28_49, s28_50, s28_51, s28_52, s28_55, s28_56, s28_59, s28_60, s28_61, s28_62, s28_63, s28_66, s28_69, s28_70, s28_71, s28_74, s28_75, s28_76, s28_79, s28_83, ldi_0, ldi_s, ldl_0, ldl_s, ldd_0, ldd_s, lda_0, lda_s, st1_0, st1_1, st2_0, st2_1, sti_0, sti_1, stj_0, stj_1, st1_2, sti_2, st2_2, stj_2, st1_3, sti_3, st2_3, stj_3, st1_4, sti_4, st2_4, stj_4, st1_5, sti_5, st2_5, stj_5, st1_6, sti_6, st2_6, stj_6, st1_7, sti_7, st2_7, stj_7, st1_8, sti_8, st2_8, stj_8, st1_9, sti_9, st2_9, stj_9, kil_n, kil_i, kil_r, kil_l, kil_d, gl_0, gl_s, cat_i, cat_r, true_and, NF_gf, nI_1, ald_tb (NF_Tb hB) (show k < 9 by omega), ald_tb (NF_Tb hB) h8, narT, ast_tr (NF_Tb hB) (show k < 9 by omega) h8, NF_tab hB, ast_tr (NF_Tb hB) h8 (show k < 9 by omega)]
      rw [br_0 (nI_ge hk (by omega)), gSt_s]
      exact ih
  have k0 := key 0 (by omega)
  rw [gSt_0] at k0
  exact k0
theorem sp_mstar_no (h8 : n = 9) : Sp 20 28 [.ref m] (NF h m t t2 ns G th n) z 0 0 (RR (some (.int 0)) (NF h m t t2 ns G 1 n) z) := by
  subst h8
  refine Sp_in (al := [some (.ref m), none]) ?_
  simp only [s28_0, s28_1, s28_2, s28_5, s28_6, s28_7, s28_10, s28_12, s28_15, s28_16, s28_19, s28_20, s28_24, s28_27, s28_28, s28_29, s28_30, s28_32, s28_33, s28_36, s28_39, s28_40, s28_43, s28_44, s28_45, s28_46, s28_49, s28_50, s28_51, s28_52, s28_55, s28_56, s28_59, s28_60, s28_61, s28_62, s28_63, s28_66, s28_69, s28_70, s28_71, s28_74, s28_75, s28_76, s28_79, s28_83, ldi_0, ldi_s, ldl_0, ldl_s, ldd_0, ldd_s, lda_0, lda_s, st1_0, st1_1, st2_0, st2_1, sti_0, sti_1, stj_0, stj_1, st1_2, sti_2, st2_2, stj_2, st1_3, sti_3, st2_3, stj_3, st1_4, sti_4, st2_4, stj_4, st1_5, sti_5, st2_5, stj_5, st1_6, sti_6, st2_6, stj_6, st1_7, sti_7, st2_7, stj_7, st1_8, sti_8, st2_8, stj_8, st1_9, sti_9, st2_9, stj_9, kil_n, kil_i, kil_r, kil_l, kil_d, gl_0, gl_s, cat_i, cat_r, true_and, NF_th, NF_gf]
  rw [br_0 (by decide)]
  refine c28_21r NF_m sp_throws_t ?_
  simp only [s28_0, s28_1, s28_2, s28_5, s28_6, s28_7, s28_10, s28_12, s28_15, s28_16, s28_19, s28_20, s28_24, s28_27, s28_28, s28_29, s28_30, s28_32, s28_33, s28_36, s28_39, s28_40, s28_43, s28_44, s28_45, s28_46, s28_49, s28_50, s28_51, s28_52, s28_55, s28_56, s28_59, s28_60, s28_61, s28_62, s28_63, s28_66, s28_69, s28_70, s28_71, s28_74, s28_75, s28_76, s28_79, s28_83, ldi_0, ldi_s, ldl_0, ldl_s, ldd_0, ldd_s, lda_0, lda_s, st1_0, st1_1, st2_0, st2_1, sti_0, sti_1, stj_0, stj_1, st1_2, sti_2, st2_2, stj_2, st1_3, sti_3, st2_3, stj_3, st1_4, sti_4, st2_4, stj_4, st1_5, sti_5, st2_5, stj_5, st1_6, sti_6, st2_6, stj_6, st1_7, sti_7, st2_7, stj_7, st1_8, sti_8, st2_8, stj_8, st1_9, sti_9, st2_9, stj_9, kil_n, kil_i, kil_r, kil_l, kil_d, gl_0, gl_s, cat_i, cat_r, true_and]
  rw [br_0 (by decide)]
  exact out_RR
theorem sp_degreeOf (hB : MB h m t t2 SG) (hn : n ≤ 9) {p : Nat} (hp : p < 9) : Sp 1 40 [.ref m, .int (nI p)] (NF h m t t2 ns G th n) z 0 0 (RR (some (.int (nI (cnt (G p) n)))) (NF h m t t2 ns G th n) z) := by
  refine Sp_in (al := [some (.ref m), some (.int (nI p)), none, none]) ?_
  simp only [s40_0, s40_1, s40_2, s40_3, s40_5, s40_6, s40_9, s40_12, s40_13, s40_14, s40_17, s40_18, s40_19, s40_20, s40_21, s40_24, s40_25, s40_28, s40_29, s40_30, s40_31, s40_34, s40_37, s40_38, ldi_0, ldi_s, ldl_0, ldl_s, ldd_0, ldd_s, lda_0, lda_s, st1_0, st1_1, st2_0, st2_1, sti_0, sti_1, stj_0, stj_1, st1_2, sti_2, st2_2, stj_2, st1_3, sti_3, st2_3, stj_3, st1_4, sti_4, st2_4, stj_4, st1_5, sti_5, st2_5, stj_5, st1_6, sti_6, st2_6, stj_6, st1_7, sti_7, st2_7, stj_7, st1_8, sti_8, st2_8, stj_8, st1_9, sti_9, st2_9, stj_9, kil_n, kil_i, kil_r, kil_l, kil_d, gl_0, gl_s, cat_i, cat_r, true_and]
  have key : ∀ k, k ≤ n → aW (Sp 0) 40 0 0 (RR (some (.int (nI (cnt (G p) n)))) (NF h m t t2 ns G th n) z) 4 [some (.ref m), some (.int (nI p)), some (.int (nI (cnt (G p) k))), some (.int (nI k))] [] (NF h m t t2 ns G th n) z 0 0 := by
    refine aUp ?_ fun k hk ih => ?_
    · rw [s40_4]
      simp only [s40_0, s40_1, s40_2, s40_3, s40_5, s40_6, s40_9, s40_12, s40_13, s40_14, s40_17, s40_18, s40_19, s40_20, s40_21, s40_24, s40_25, s40_28, s40_29, s40_30, s40_31, s40_34, s40_37, s40_38, ldi_0, ldi_s, ldl_0, ldl_s, ldd_0, ldd_s, lda_0, lda_s, st1_0, st1_1, st2_0, st2_1, sti_0, sti_1, stj_0, stj_1, st1_2, sti_2, st2_2, stj_2, st1_3, sti_3, st2_3, stj_3, st1_4, sti_4, st2_4, stj_4, st1_5, sti_5, st2_5, stj_5, st1_6, sti_6, st2_6, stj_6, st1_7, sti_7, st2_7, stj_7, st1_8, sti_8, st2_8, stj_8, st1_9, sti_9, st2_9, stj_9, kil_n, kil_i, kil_r, kil_l, kil_d, gl_0, gl_s, cat_i, cat_r, true_and, NF_gf]
      rw [br_1 (nI_le (Nat.le_refl _) (by omega))]
      exact out_RR
    · rw [s40_4]
      simp only [s40_0, s40_1, s40_2, s40_3, s40_5, s40_6, s40_9, s40_12, s40_13, s40_14, s40_17, s40_18, s40_19, s40_20, s40_21, s40_24, s40_25, s40_28, s40_29, s40_30, s40_31, s40_34, s40_37, s40_38, ldi_0, ldi_s, ldl_0, ldl_s, ldd_0, ldd_s, lda_0, lda_s, st1_0, st1_1, st2_0, st2_1, sti_0, sti_1, stj_0, stj_1, st1_2, sti_2, st2_2, stj_2, st1_3, sti_3, st2_3, stj_3, st1_4, sti_4, st2_4, stj_4, st1_5, sti_5, st2_5, stj_5, st1_6, sti_6, st2_6, stj_6, st1_7, sti_7, st2_7, stj_7, st1_8, sti_8, st2_8, stj_8, st1_9, sti_9, st2_9, stj_9, kil_n, kil_i, kil_r, kil_l, kil_d, gl_0, gl_s, cat_i, cat_r, true_and, NF_gf, nI_1, Int32.add_zero, ald_tb (NF_Tb hB) hp, ald_tr (NF_Tb hB) hp (show k < 9 by omega), bI_0]
      rw [br_0 (nI_ge hk (by omega))]
      refine ⟨fun h1 => ?_, fun h1 => ?_⟩
      · rw [cnt_f h1] at ih
        exact ih
      · rw [Bool.not_eq_false] at h1
        rw [cnt_t h1] at ih
        exact ih
  exact key 0 (by omega)
theorem sp_mleave (hB : MB h m t t2 SG) (hG : GOK n G) {p : Nat} (hp : p < n) : Sp 20 38 [.ref m, .int (nI p)] (NF h m t t2 ns G th n) z 0 0 (RR (some (.int (nI (cnt (G p) n)))) (NF h m t t2 ns (gDel p G) 0 (n - 1)) z) := by
  have hn := hG.1
  refine Sp_in (al := [some (.ref m), some (.int (nI p)), none]) ?_
  simp only [s38_0, s38_1, s38_2, s38_5, s38_6, s38_7, s38_11, s38_14, s38_15, s38_18, s38_19, s38_23, s38_26, s38_27, s38_28, s38_29, s38_33, s38_34, s38_35, s38_38, s38_39, s38_42, s38_46, s38_47, s38_48, s38_51, s38_52, s38_53, s38_56, s38_57, ldi_0, ldi_s, ldl_0, ldl_s, ldd_0, ldd_s, lda_0, lda_s, st1_0, st1_1, st2_0, st2_1, sti_0, sti_1, stj_0, stj_1, st1_2, sti_2, st2_2, stj_2, st1_3, sti_3, st2_3, stj_3, st1_4, sti_4, st2_4, stj_4, st1_5, sti_5, st2_5, stj_5, st1_6, sti_6, st2_6, stj_6, st1_7, sti_7, st2_7, stj_7, st1_8, sti_8, st2_8, stj_8, st1_9, sti_9, st2_9, stj_9, kil_n, kil_i, kil_r, kil_l, kil_d, gl_0, gl_s, cat_i, cat_r, true_and, NF_th]
  refine c38_8r NF_m (sp_is hn) ?_
  simp only [s38_0, s38_1, s38_2, s38_5, s38_6, s38_7, s38_11, s38_14, s38_15, s38_18, s38_19, s38_23, s38_26, s38_27, s38_28, s38_29, s38_33, s38_34, s38_35, s38_38, s38_39, s38_42, s38_46, s38_47, s38_48, s38_51, s38_52, s38_53, s38_56, s38_57, ldi_0, ldi_s, ldl_0, ldl_s, ldd_0, ldd_s, lda_0, lda_s, st1_0, st1_1, st2_0, st2_1, sti_0, sti_1, stj_0, stj_1, st1_2, sti_2, st2_2, stj_2, st1_3, sti_3, st2_3, stj_3, st1_4, sti_4, st2_4, stj_4, st1_5, sti_5, st2_5, stj_5, st1_6, sti_6, st2_6, stj_6, st1_7, sti_7, st2_7, stj_7, st1_8, sti_8, st2_8, stj_8, st1_9, sti_9, st2_9, stj_9, kil_n, kil_i, kil_r, kil_l, kil_d, gl_0, gl_s, cat_i, cat_r, true_and, pl_nat hn hp]
  rw [br_1 (by decide)]
  refine c38_20r NF_m (sp_throws_f NF_m) ?_
  simp only [s38_0, s38_1, s38_2, s38_5, s38_6, s38_7, s38_11, s38_14, s38_15, s38_18, s38_19, s38_23, s38_26, s38_27, s38_28, s38_29, s38_33, s38_34, s38_35, s38_38, s38_39, s38_42, s38_46, s38_47, s38_48, s38_51, s38_52, s38_53, s38_56, s38_57, ldi_0, ldi_s, ldl_0, ldl_s, ldd_0, ldd_s, lda_0, lda_s, st1_0, st1_1, st2_0, st2_1, sti_0, sti_1, stj_0, stj_1, st1_2, sti_2, st2_2, stj_2, st1_3, sti_3, st2_3, stj_3, st1_4, sti_4, st2_4, stj_4, st1_5, sti_5, st2_5, stj_5, st1_6, sti_6, st2_6, stj_6, st1_7, sti_7, st2_7, stj_7, st1_8, sti_8, st2_8, stj_8, st1_9, sti_9, st2_9, stj_9, kil_n, kil_i, kil_r, kil_l, kil_d, gl_0, gl_s, cat_i, cat_r, true_and]
  rw [br_1 (by decide)]
  refine c38_30r NF_m (sp_degreeOf hB hn (by omega)) ?_
  simp only [s38_0, s38_1, s38_2, s38_5, s38_6, s38_7, s38_11, s38_14, s38_15, s38_18, s38_19, s38_23, s38_26, s38_27, s38_28, s38_29, s38_33, s38_34, s38_35, s38_38, s38_39, s38_42, s38_46, s38_47, s38_48, s38_51, s38_52, s38_53, s38_56, s38_57, ldi_0, ldi_s, ldl_0, ldl_s, ldd_0, ldd_s, lda_0, lda_s, st1_0, st1_1, st2_0, st2_1, sti_0, sti_1, stj_0, stj_1, st1_2, sti_2, st2_2, stj_2, st1_3, sti_3, st2_3, stj_3, st1_4, sti_4, st2_4, stj_4, st1_5, sti_5, st2_5, stj_5, st1_6, sti_6, st2_6, stj_6, st1_7, sti_7, st2_7, stj_7, st1_8, sti_8, st2_8, stj_8, st1_9, sti_9, st2_9, stj_9, kil_n, kil_i, kil_r, kil_l, kil_d, gl_0, gl_s, cat_i, cat_r, true_and, NF_gf]
  refine c38_43r (sp_goes (NF_Tb hB) hG.z9 (by omega)) ?_
  rw [NF_tab hB, show n = n - 1 + 1 by omega]
  simp only [s38_0, s38_1, s38_2, s38_5, s38_6, s38_7, s38_11, s38_14, s38_15, s38_18, s38_19, s38_23, s38_26, s38_27, s38_28, s38_29, s38_33, s38_34, s38_35, s38_38, s38_39, s38_42, s38_46, s38_47, s38_48, s38_51, s38_52, s38_53, s38_56, s38_57, ldi_0, ldi_s, ldl_0, ldl_s, ldd_0, ldd_s, lda_0, lda_s, st1_0, st1_1, st2_0, st2_1, sti_0, sti_1, stj_0, stj_1, st1_2, sti_2, st2_2, stj_2, st1_3, sti_3, st2_3, stj_3, st1_4, sti_4, st2_4, stj_4, st1_5, sti_5, st2_5, stj_5, st1_6, sti_6, st2_6, stj_6, st1_7, sti_7, st2_7, stj_7, st1_8, sti_8, st2_8, stj_8, st1_9, sti_9, st2_9, stj_9, kil_n, kil_i, kil_r, kil_l, kil_d, gl_0, gl_s, cat_i, cat_r, true_and, NF_gf, nI_pred, NF_n]
  exact out_RR
theorem sp_mleave_no (hn : n ≤ 9) {p : Int32} (hp : pl n p = false) : Sp 20 38 [.ref m, .int p] (NF h m t t2 ns G th n) z 0 0 (RR (some (.int 0)) (NF h m t t2 ns G 1 n) z) := by
  refine Sp_in (al := [some (.ref m), some (.int p), none]) ?_
  simp only [s38_0, s38_1, s38_2, s38_5, s38_6, s38_7, s38_11, s38_14, s38_15, s38_18, s38_19, s38_23, s38_26, s38_27, s38_28, s38_29, s38_33, s38_34, s38_35, s38_38, s38_39, s38_42, s38_46, s38_47, s38_48, s38_51, s38_52, s38_53, s38_56, s38_57, ldi_0, ldi_s, ldl_0, ldl_s, ldd_0, ldd_s, lda_0, lda_s, st1_0, st1_1, st2_0, st2_1, sti_0, sti_1, stj_0, stj_1, st1_2, sti_2, st2_2, stj_2, st1_3, sti_3, st2_3, stj_3, st1_4, sti_4, st2_4, stj_4, st1_5, sti_5, st2_5, stj_5, st1_6, sti_6, st2_6, stj_6, st1_7, sti_7, st2_7, stj_7, st1_8, sti_8, st2_8, stj_8, st1_9, sti_9, st2_9, stj_9, kil_n, kil_i, kil_r, kil_l, kil_d, gl_0, gl_s, cat_i, cat_r, true_and, NF_th]
  refine c38_8r NF_m (sp_is hn) ?_
  simp only [s38_0, s38_1, s38_2, s38_5, s38_6, s38_7, s38_11, s38_14, s38_15, s38_18, s38_19, s38_23, s38_26, s38_27, s38_28, s38_29, s38_33, s38_34, s38_35, s38_38, s38_39, s38_42, s38_46, s38_47, s38_48, s38_51, s38_52, s38_53, s38_56, s38_57, ldi_0, ldi_s, ldl_0, ldl_s, ldd_0, ldd_s, lda_0, lda_s, st1_0, st1_1, st2_0, st2_1, sti_0, sti_1, stj_0, stj_1, st1_2, sti_2, st2_2, stj_2, st1_3, sti_3, st2_3, stj_3, st1_4, sti_4, st2_4, stj_4, st1_5, sti_5, st2_5, stj_5, st1_6, sti_6, st2_6, stj_6, st1_7, sti_7, st2_7, stj_7, st1_8, sti_8, st2_8, stj_8, st1_9, sti_9, st2_9, stj_9, kil_n, kil_i, kil_r, kil_l, kil_d, gl_0, gl_s, cat_i, cat_r, true_and, hp]
  rw [br_0 (by decide)]
  refine c38_20r NF_m sp_throws_t ?_
  simp only [s38_0, s38_1, s38_2, s38_5, s38_6, s38_7, s38_11, s38_14, s38_15, s38_18, s38_19, s38_23, s38_26, s38_27, s38_28, s38_29, s38_33, s38_34, s38_35, s38_38, s38_39, s38_42, s38_46, s38_47, s38_48, s38_51, s38_52, s38_53, s38_56, s38_57, ldi_0, ldi_s, ldl_0, ldl_s, ldd_0, ldd_s, lda_0, lda_s, st1_0, st1_1, st2_0, st2_1, sti_0, sti_1, stj_0, stj_1, st1_2, sti_2, st2_2, stj_2, st1_3, sti_3, st2_3, stj_3, st1_4, sti_4, st2_4, stj_4, st1_5, sti_5, st2_5, stj_5, st1_6, sti_6, st2_6, stj_6, st1_7, sti_7, st2_7, stj_7, st1_8, sti_8, st2_8, stj_8, st1_9, sti_9, st2_9, stj_9, kil_n, kil_i, kil_r, kil_l, kil_d, gl_0, gl_s, cat_i, cat_r, true_and]
  rw [br_0 (by decide)]
  exact out_RR
theorem sp_mway (hB : MB h m t t2 SG) (hG : GOK n G) {p q : Nat} (hp : p < n) (hq : q < n) (hpq : p ≠ q) : Sp 20 47 [.ref m, .int (nI p), .int (nI q)] (NF h m t t2 ns G th n) z 0 0 (RR (some (.int (bI (!G p q)))) (NF h m t t2 ns (gJoin p q G) 0 n) z) := by
  have hn := hG.1
  refine Sp_in (al := [some (.ref m), some (.int (nI p)), some (.int (nI q)), none]) ?_
  simp only [s47_0, s47_1, s47_2, s47_5, s47_6, s47_7, s47_11, s47_14, s47_15, s47_19, s47_22, s47_23, s47_26, s47_27, s47_31, s47_34, s47_35, s47_36, s47_37, s47_40, s47_41, s47_44, s47_45, s47_49, s47_52, s47_53, s47_54, s47_55, s47_58, s47_59, s47_60, s47_61, s47_62, s47_65, s47_66, s47_69, s47_70, s47_71, s47_72, s47_75, s47_76, s47_77, s47_78, s47_79, s47_80, s47_81, s47_84, s47_85, s47_86, s47_87, s47_88, s47_89, s47_90, ldi_0, ldi_s, ldl_0, ldl_s, ldd_0, ldd_s, lda_0, lda_s, st1_0, st1_1, st2_0, st2_1, sti_0, sti_1, stj_0, stj_1, st1_2, sti_2, st2_2, stj_2, st1_3, sti_3, st2_3, stj_3, st1_4, sti_4, st2_4, stj_4, st1_5, sti_5, st2_5, stj_5, st1_6, sti_6, st2_6, stj_6, st1_7, sti_7, st2_7, stj_7, st1_8, sti_8, st2_8, stj_8, st1_9, sti_9, st2_9, stj_9, kil_n, kil_i, kil_r, kil_l, kil_d, gl_0, gl_s, cat_i, cat_r, true_and, NF_th]
  refine c47_8r NF_m (sp_is hn) ?_
  simp only [s47_0, s47_1, s47_2, s47_5, s47_6, s47_7, s47_11, s47_14, s47_15, s47_19, s47_22, s47_23, s47_26, s47_27, s47_31, s47_34, s47_35, s47_36, s47_37, s47_40, s47_41, s47_44, s47_45, s47_49, s47_52, s47_53, s47_54, s47_55, s47_58, s47_59, s47_60, s47_61, s47_62, s47_65, s47_66, s47_69, s47_70, s47_71, s47_72, s47_75, s47_76, s47_77, s47_78, s47_79, s47_80, s47_81, s47_84, s47_85, s47_86, s47_87, s47_88, s47_89, s47_90, ldi_0, ldi_s, ldl_0, ldl_s, ldd_0, ldd_s, lda_0, lda_s, st1_0, st1_1, st2_0, st2_1, sti_0, sti_1, stj_0, stj_1, st1_2, sti_2, st2_2, stj_2, st1_3, sti_3, st2_3, stj_3, st1_4, sti_4, st2_4, stj_4, st1_5, sti_5, st2_5, stj_5, st1_6, sti_6, st2_6, stj_6, st1_7, sti_7, st2_7, stj_7, st1_8, sti_8, st2_8, stj_8, st1_9, sti_9, st2_9, stj_9, kil_n, kil_i, kil_r, kil_l, kil_d, gl_0, gl_s, cat_i, cat_r, true_and, pl_nat hn hp]
  rw [br_0 (by decide)]
  refine c47_16r NF_m (sp_is hn) ?_
  simp only [s47_0, s47_1, s47_2, s47_5, s47_6, s47_7, s47_11, s47_14, s47_15, s47_19, s47_22, s47_23, s47_26, s47_27, s47_31, s47_34, s47_35, s47_36, s47_37, s47_40, s47_41, s47_44, s47_45, s47_49, s47_52, s47_53, s47_54, s47_55, s47_58, s47_59, s47_60, s47_61, s47_62, s47_65, s47_66, s47_69, s47_70, s47_71, s47_72, s47_75, s47_76, s47_77, s47_78, s47_79, s47_80, s47_81, s47_84, s47_85, s47_86, s47_87, s47_88, s47_89, s47_90, ldi_0, ldi_s, ldl_0, ldl_s, ldd_0, ldd_s, lda_0, lda_s, st1_0, st1_1, st2_0, st2_1, sti_0, sti_1, stj_0, stj_1, st1_2, sti_2, st2_2, stj_2, st1_3, sti_3, st2_3, stj_3, st1_4, sti_4, st2_4, stj_4, st1_5, sti_5, st2_5, stj_5, st1_6, sti_6, st2_6, stj_6, st1_7, sti_7, st2_7, stj_7, st1_8, sti_8, st2_8, stj_8, st1_9, sti_9, st2_9, stj_9, kil_n, kil_i, kil_r, kil_l, kil_d, gl_0, gl_s, cat_i, cat_r, true_and, pl_nat hn hq]
  rw [br_1 (by decide)]
  refine c47_28r NF_m (sp_throws_f NF_m) ?_
  simp only [s47_0, s47_1, s47_2, s47_5, s47_6, s47_7, s47_11, s47_14, s47_15, s47_19, s47_22, s47_23, s47_26, s47_27, s47_31, s47_34, s47_35, s47_36, s47_37, s47_40, s47_41, s47_44, s47_45, s47_49, s47_52, s47_53, s47_54, s47_55, s47_58, s47_59, s47_60, s47_61, s47_62, s47_65, s47_66, s47_69, s47_70, s47_71, s47_72, s47_75, s47_76, s47_77, s47_78, s47_79, s47_80, s47_81, s47_84, s47_85, s47_86, s47_87, s47_88, s47_89, s47_90, ldi_0, ldi_s, ldl_0, ldl_s, ldd_0, ldd_s, lda_0, lda_s, st1_0, st1_1, st2_0, st2_1, sti_0, sti_1, stj_0, stj_1, st1_2, sti_2, st2_2, stj_2, st1_3, sti_3, st2_3, stj_3, st1_4, sti_4, st2_4, stj_4, st1_5, sti_5, st2_5, stj_5, st1_6, sti_6, st2_6, stj_6, st1_7, sti_7, st2_7, stj_7, st1_8, sti_8, st2_8, stj_8, st1_9, sti_9, st2_9, stj_9, kil_n, kil_i, kil_r, kil_l, kil_d, gl_0, gl_s, cat_i, cat_r, true_and]
  rw [br_0 (by decide), br_1 (nI_inj9 hp hq hn hpq)]
  refine c47_46r NF_m (sp_throws_f NF_m) ?_
  simp only [s47_0, s47_1, s47_2, s47_5, s47_6, s47_7, s47_11, s47_14, s47_15, s47_19, s47_22, s47_23, s47_26, s47_27, s47_31, s47_34, s47_35, s47_36, s47_37, s47_40, s47_41, s47_44, s47_45, s47_49, s47_52, s47_53, s47_54, s47_55, s47_58, s47_59, s47_60, s47_61, s47_62, s47_65, s47_66, s47_69, s47_70, s47_71, s47_72, s47_75, s47_76, s47_77, s47_78, s47_79, s47_80, s47_81, s47_84, s47_85, s47_86, s47_87, s47_88, s47_89, s47_90, ldi_0, ldi_s, ldl_0, ldl_s, ldd_0, ldd_s, lda_0, lda_s, st1_0, st1_1, st2_0, st2_1, sti_0, sti_1, stj_0, stj_1, st1_2, sti_2, st2_2, stj_2, st1_3, sti_3, st2_3, stj_3, st1_4, sti_4, st2_4, stj_4, st1_5, sti_5, st2_5, stj_5, st1_6, sti_6, st2_6, stj_6, st1_7, sti_7, st2_7, stj_7, st1_8, sti_8, st2_8, stj_8, st1_9, sti_9, st2_9, stj_9, kil_n, kil_i, kil_r, kil_l, kil_d, gl_0, gl_s, cat_i, cat_r, true_and, NF_gf, ald_tb (NF_Tb hB) (show p < 9 by omega), ald_tb (NF_Tb hB) (show q < 9 by omega), ald_tr (NF_Tb hB) (show p < 9 by omega) (show q < 9 by omega), narT, ast_tr (NF_Tb hB) (show p < 9 by omega) (show q < 9 by omega), NF_tab hB, ast_tr (NF_Tb hB) (show q < 9 by omega) (show p < 9 by omega), gUpd_join hpq]
  rw [br_1 (by decide)]
  refine ⟨fun h1 => ?_, fun h1 => ?_⟩
  · rw [bI_0, Bool.not_eq_false] at h1
    exact ⟨by decide, out_eq (by rw [h1]; rfl) rfl rfl⟩
  · rw [bI_0, Decidable.not_not] at h1
    exact ⟨by decide, out_eq (by rw [h1]; rfl) rfl rfl⟩
end Mod2
