/-! Colourmap: the map's calls -/
def pl (n : Nat) (p : Int32) : Bool := decide (¬ p < 0 ∧ ¬ nI n ≤ p)
theorem pl_nat {n p : Nat} (hn : n ≤ 9) (hp : p < n) : pl n (nI p) = true := hasN hn hp
theorem pl_ex {n : Nat} {p : Int32} (hn : n ≤ 9) (h : pl n p = true) : ∃ q, q < n ∧ p = nI q := by
  unfold pl at h
  rw [decide_eq_true_eq] at h
  rcases pk_ix p (n := n) (by omega) with h1 | h1 | h1
  · exact absurd h1 h.1
  · exact absurd h1 h.2
  · exact h1
theorem RX_ret {m mc ms E : Nat} {X : AX} {h1 : AH} {z1 pc : Nat} {al : AL} {r : List Value} {k n : Nat} (hh : hdl m E pc = none) (hm : mhh m = []) (hk : k ≤ mc) (hn : n ≤ ms) : ∀ (o : AO) (h' : AH) (z' : Nat), RX E h1 z1 o h' z' → aRet m mc ms (RX E h1 z1) X pc al r k n o h' z' := by
  rintro _ h' z' ⟨rfl, rfl, hz⟩
  unfold aRet
  dsimp only
  rw [hh]
  exact ⟨hm, hk, hn, rfl, rfl, hz⟩
section CM
variable {h : AH} {x c r c2 r2 n sn z : Nat} {G SG : Nat → Nat → Bool}
theorem K.hx (hK : K h x c r c2 r2 n G sn SG) : h x = some (coM x c c2) := hK.1
theorem K.two' (hK : K h x c r c2 r2 n G sn SG) : Two x c r c2 r2 := hK.2.1
theorem K.hc (hK : K h x c r c2 r2 n G sn SG) : ChAt h c r n G := hK.2.2.1
theorem K.hG (hK : K h x c r c2 r2 n G sn SG) : GOK n G := hK.2.2.2.1
theorem K.hc2 (hK : K h x c r c2 r2 n G sn SG) : ChAt h c2 r2 sn SG := hK.2.2.2.2.1
theorem K.hG2 (hK : K h x c r c2 r2 n G sn SG) : GOK sn SG := hK.2.2.2.2.2.1
theorem K.hpo (hK : K h x c r c2 r2 n G sn SG) : Po h (x + 5) := hK.2.2.2.2.2.2.1
theorem sp_needP_ok (hK : K h x c r c2 r2 n G sn SG) {p : Int32} (hp : pl n p = true) : Sp 2 33 [.ref x, .int p] h z 0 0 (RR none h z) := by
  refine Sp_in (al := [some (.ref x), some (.int p)]) ?_
  simp only [s33_0, s33_1, s33_4, s33_8, s33_14, s33_22, ldi_0, ldi_s, ldl_0, ldl_s, ldd_0, ldd_s, lda_0, lda_s, st1_0, st1_1, st2_0, st2_1, sti_0, sti_1, stj_0, stj_1, st1_2, sti_2, st2_2, stj_2, st1_3, sti_3, st2_3, stj_3, st1_4, sti_4, st2_4, stj_4, st1_5, sti_5, st2_5, stj_5, st1_6, sti_6, st2_6, stj_6, st1_7, sti_7, st2_7, stj_7, st1_8, sti_8, st2_8, stj_8, st1_9, sti_9, st2_9, stj_9, kil_n, kil_i, kil_r, kil_l, kil_d, gl_0, gl_s, cat_i, cat_r, true_and, gf_ob hK.hx]
  refine c33_5r hK.hc.1 (sp_has hK.hc.1) ?_
  simp only [s33_0, s33_1, s33_4, s33_8, s33_14, s33_22, ldi_0, ldi_s, ldl_0, ldl_s, ldd_0, ldd_s, lda_0, lda_s, st1_0, st1_1, st2_0, st2_1, sti_0, sti_1, stj_0, stj_1, st1_2, sti_2, st2_2, stj_2, st1_3, sti_3, st2_3, stj_3, st1_4, sti_4, st2_4, stj_4, st1_5, sti_5, st2_5, stj_5, st1_6, sti_6, st2_6, stj_6, st1_7, sti_7, st2_7, stj_7, st1_8, sti_8, st2_8, stj_8, st1_9, sti_9, st2_9, stj_9, kil_n, kil_i, kil_r, kil_l, kil_d, gl_0, gl_s, cat_i, cat_r, true_and]
  rw [show decide (¬ p < 0 ∧ ¬ nI n ≤ p) = true from hp, br_1 (by decide)]
  exact out_RR
theorem sp_needP_no (hK : K h x c r c2 r2 n G sn SG) {p : Int32} (hp : pl n p = false) : Sp 2 33 [.ref x, .int p] h z 1 6 (RX 2 h z) := by
  refine Sp_in (al := [some (.ref x), some (.int p)]) ?_
  simp only [s33_0, s33_1, s33_4, s33_8, s33_14, s33_22, ldi_0, ldi_s, ldl_0, ldl_s, ldd_0, ldd_s, lda_0, lda_s, st1_0, st1_1, st2_0, st2_1, sti_0, sti_1, stj_0, stj_1, st1_2, sti_2, st2_2, stj_2, st1_3, sti_3, st2_3, stj_3, st1_4, sti_4, st2_4, stj_4, st1_5, sti_5, st2_5, stj_5, st1_6, sti_6, st2_6, stj_6, st1_7, sti_7, st2_7, stj_7, st1_8, sti_8, st2_8, stj_8, st1_9, sti_9, st2_9, stj_9, kil_n, kil_i, kil_r, kil_l, kil_d, gl_0, gl_s, cat_i, cat_r, true_and, gf_ob hK.hx]
  refine c33_5r hK.hc.1 (sp_has hK.hc.1) ?_
  simp only [s33_0, s33_1, s33_4, s33_8, s33_14, s33_22, ldi_0, ldi_s, ldl_0, ldl_s, ldd_0, ldd_s, lda_0, lda_s, st1_0, st1_1, st2_0, st2_1, sti_0, sti_1, stj_0, stj_1, st1_2, sti_2, st2_2, stj_2, st1_3, sti_3, st2_3, stj_3, st1_4, sti_4, st2_4, stj_4, st1_5, sti_5, st2_5, stj_5, st1_6, sti_6, st2_6, stj_6, st1_7, sti_7, st2_7, stj_7, st1_8, sti_8, st2_8, stj_8, st1_9, sti_9, st2_9, stj_9, kil_n, kil_i, kil_r, kil_l, kil_d, gl_0, gl_s, cat_i, cat_r, true_and]
  rw [show decide (¬ p < 0 ∧ ¬ nI n ≤ p) = false from hp, br_0 (by decide)]
  exact s33_11 (by decide) (by omega) (by omega) fun z' hz => ⟨rfl, rfl, hz⟩
theorem sp_needT_ok (hK : K h x c r c2 r2 n G sn SG) {p q : Int32} (hp : pl n p = true) (hq : pl n q = true) (hn : ¬ p = q) : Sp 3 44 [.ref x, .int p, .int q] h z 0 0 (RR none h z) := by
  refine Sp_in (al := [some (.ref x), some (.int p), some (.int q)]) ?_
  simp only [s44_0, s44_1, s44_5, s44_6, s44_10, s44_11, s44_12, s44_18, s44_26, ldi_0, ldi_s, ldl_0, ldl_s, ldd_0, ldd_s, lda_0, lda_s, st1_0, st1_1, st2_0, st2_1, sti_0, sti_1, stj_0, stj_1, st1_2, sti_2, st2_2, stj_2, st1_3, sti_3, st2_3, stj_3, st1_4, sti_4, st2_4, stj_4, st1_5, sti_5, st2_5, stj_5, st1_6, sti_6, st2_6, stj_6, st1_7, sti_7, st2_7, stj_7, st1_8, sti_8, st2_8, stj_8, st1_9, sti_9, st2_9, stj_9, kil_n, kil_i, kil_r, kil_l, kil_d, gl_0, gl_s, cat_i, cat_r, true_and]
  refine c44_2r hK.hx (sp_needP_ok hK hp) ?_
  simp only [s44_0, s44_1, s44_5, s44_6, s44_10, s44_11, s44_12, s44_18, s44_26, ldi_0, ldi_s, ldl_0, ldl_s, ldd_0, ldd_s, lda_0, lda_s, st1_0, st1_1, st2_0, st2_1, sti_0, sti_1, stj_0, stj_1, st1_2, sti_2, st2_2, stj_2, st1_3, sti_3, st2_3, stj_3, st1_4, sti_4, st2_4, stj_4, st1_5, sti_5, st2_5, stj_5, st1_6, sti_6, st2_6, stj_6, st1_7, sti_7, st2_7, stj_7, st1_8, sti_8, st2_8, stj_8, st1_9, sti_9, st2_9, stj_9, kil_n, kil_i, kil_r, kil_l, kil_d, gl_0, gl_s, cat_i, cat_r, true_and]
  refine c44_7r hK.hx (sp_needP_ok hK hq) ?_
  simp only [s44_0, s44_1, s44_5, s44_6, s44_10, s44_11, s44_12, s44_18, s44_26, ldi_0, ldi_s, ldl_0, ldl_s, ldd_0, ldd_s, lda_0, lda_s, st1_0, st1_1, st2_0, st2_1, sti_0, sti_1, stj_0, stj_1, st1_2, sti_2, st2_2, stj_2, st1_3, sti_3, st2_3, stj_3, st1_4, sti_4, st2_4, stj_4, st1_5, sti_5, st2_5, stj_5, st1_6, sti_6, st2_6, stj_6, st1_7, sti_7, st2_7, stj_7, st1_8, sti_8, st2_8, stj_8, st1_9, sti_9, st2_9, stj_9, kil_n, kil_i, kil_r, kil_l, kil_d, gl_0, gl_s, cat_i, cat_r, true_and]
  rw [br_1 hn]
  exact out_RR
theorem sp_needT_no (hK : K h x c r c2 r2 n G sn SG) {p q : Int32} (hp : pl n p = false ∨ pl n q = false) : Sp 3 44 [.ref x, .int p, .int q] h z 1 6 (RX 2 h z) := by
  refine Sp_in (al := [some (.ref x), some (.int p), some (.int q)]) ?_
  simp only [s44_0, s44_1, s44_5, s44_6, s44_10, s44_11, s44_12, s44_18, s44_26, ldi_0, ldi_s, ldl_0, ldl_s, ldd_0, ldd_s, lda_0, lda_s, st1_0, st1_1, st2_0, st2_1, sti_0, sti_1, stj_0, stj_1, st1_2, sti_2, st2_2, stj_2, st1_3, sti_3, st2_3, stj_3, st1_4, sti_4, st2_4, stj_4, st1_5, sti_5, st2_5, stj_5, st1_6, sti_6, st2_6, stj_6, st1_7, sti_7, st2_7, stj_7, st1_8, sti_8, st2_8, stj_8, st1_9, sti_9, st2_9, stj_9, kil_n, kil_i, kil_r, kil_l, kil_d, gl_0, gl_s, cat_i, cat_r, true_and]
  by_cases h1 : pl n p = false
  · exact c44_2 hK.hx (sp_needP_no hK h1) (by omega) (by omega) (RX_ret rfl rfl (by omega) (by omega))
  · refine c44_2r hK.hx (sp_needP_ok hK (by simpa using h1)) ?_
    simp only [s44_0, s44_1, s44_5, s44_6, s44_10, s44_11, s44_12, s44_18, s44_26, ldi_0, ldi_s, ldl_0, ldl_s, ldd_0, ldd_s, lda_0, lda_s, st1_0, st1_1, st2_0, st2_1, sti_0, sti_1, stj_0, stj_1, st1_2, sti_2, st2_2, stj_2, st1_3, sti_3, st2_3, stj_3, st1_4, sti_4, st2_4, stj_4, st1_5, sti_5, st2_5, stj_5, st1_6, sti_6, st2_6, stj_6, st1_7, sti_7, st2_7, stj_7, st1_8, sti_8, st2_8, stj_8, st1_9, sti_9, st2_9, stj_9, kil_n, kil_i, kil_r, kil_l, kil_d, gl_0, gl_s, cat_i, cat_r, true_and]
    exact c44_7 hK.hx (sp_needP_no hK (hp.resolve_left h1)) (by omega) (by omega) (RX_ret rfl rfl (by omega) (by omega))
theorem sp_needT_eq (hK : K h x c r c2 r2 n G sn SG) {p : Int32} (hp : pl n p = true) : Sp 3 44 [.ref x, .int p, .int p] h z 1 6 (RX 0 h z) := by
  refine Sp_in (al := [some (.ref x), some (.int p), some (.int p)]) ?_
  simp only [s44_0, s44_1, s44_5, s44_6, s44_10, s44_11, s44_12, s44_18, s44_26, ldi_0, ldi_s, ldl_0, ldl_s, ldd_0, ldd_s, lda_0, lda_s, st1_0, st1_1, st2_0, st2_1, sti_0, sti_1, stj_0, stj_1, st1_2, sti_2, st2_2, stj_2, st1_3, sti_3, st2_3, stj_3, st1_4, sti_4, st2_4, stj_4, st1_5, sti_5, st2_5, stj_5, st1_6, sti_6, st2_6, stj_6, st1_7, sti_7, st2_7, stj_7, st1_8, sti_8, st2_8, stj_8, st1_9, sti_9, st2_9, stj_9, kil_n, kil_i, kil_r, kil_l, kil_d, gl_0, gl_s, cat_i, cat_r, true_and]
  refine c44_2r hK.hx (sp_needP_ok hK hp) ?_
  simp only [s44_0, s44_1, s44_5, s44_6, s44_10, s44_11, s44_12, s44_18, s44_26, ldi_0, ldi_s, ldl_0, ldl_s, ldd_0, ldd_s, lda_0, lda_s, st1_0, st1_1, st2_0, st2_1, sti_0, sti_1, stj_0, stj_1, st1_2, sti_2, st2_2, stj_2, st1_3, sti_3, st2_3, stj_3, st1_4, sti_4, st2_4, stj_4, st1_5, sti_5, st2_5, stj_5, st1_6, sti_6, st2_6, stj_6, st1_7, sti_7, st2_7, stj_7, st1_8, sti_8, st2_8, stj_8, st1_9, sti_9, st2_9, stj_9, kil_n, kil_i, kil_r, kil_l, kil_d, gl_0, gl_s, cat_i, cat_r, true_and]
  refine c44_7r hK.hx (sp_needP_ok hK hp) ?_
  simp only [s44_0, s44_1, s44_5, s44_6, s44_10, s44_11, s44_12, s44_18, s44_26, ldi_0, ldi_s, ldl_0, ldl_s, ldd_0, ldd_s, lda_0, lda_s, st1_0, st1_1, st2_0, st2_1, sti_0, sti_1, stj_0, stj_1, st1_2, sti_2, st2_2, stj_2, st1_3, sti_3, st2_3, stj_3, st1_4, sti_4, st2_4, stj_4, st1_5, sti_5, st2_5, stj_5, st1_6, sti_6, st2_6, stj_6, st1_7, sti_7, st2_7, stj_7, st1_8, sti_8, st2_8, stj_8, st1_9, sti_9, st2_9, stj_9, kil_n, kil_i, kil_r, kil_l, kil_d, gl_0, gl_s, cat_i, cat_r, true_and]
  rw [br_0 (by simp)]
  exact s44_15 (by decide) (by omega) (by omega) fun z' hz => ⟨rfl, rfl, hz⟩
theorem sp_needR_ok (hK : K h x c r c2 r2 n G sn SG) {m : Nat} (hm : n + m ≤ 9) : Sp 2 20 [.ref x, .int (nI m)] h z 0 0 (RR none h z) := by
  refine Sp_in (al := [some (.ref x), some (.int (nI m))]) ?_
  simp only [s20_0, s20_1, s20_7, s20_8, s20_9, s20_11, s20_17, s20_25, ldi_0, ldi_s, ldl_0, ldl_s, ldd_0, ldd_s, lda_0, lda_s, st1_0, st1_1, st2_0, st2_1, sti_0, sti_1, stj_0, stj_1, st1_2, sti_2, st2_2, stj_2, st1_3, sti_3, st2_3, stj_3, st1_4, sti_4, st2_4, stj_4, st1_5, sti_5, st2_5, stj_5, st1_6, sti_6, st2_6, stj_6, st1_7, sti_7, st2_7, stj_7, st1_8, sti_8, st2_8, stj_8, st1_9, sti_9, st2_9, stj_9, kil_n, kil_i, kil_r, kil_l, kil_d, gl_0, gl_s, cat_i, cat_r, true_and, gf_ob hK.hx]
  refine c20_4r hK.hc.1 (sp_size hK.hc.1) ?_
  simp only [s20_0, s20_1, s20_7, s20_8, s20_9, s20_11, s20_17, s20_25, ldi_0, ldi_s, ldl_0, ldl_s, ldd_0, ldd_s, lda_0, lda_s, st1_0, st1_1, st2_0, st2_1, sti_0, sti_1, stj_0, stj_1, st1_2, sti_2, st2_2, stj_2, st1_3, sti_3, st2_3, stj_3, st1_4, sti_4, st2_4, stj_4, st1_5, sti_5, st2_5, stj_5, st1_6, sti_6, st2_6, stj_6, st1_7, sti_7, st2_7, stj_7, st1_8, sti_8, st2_8, stj_8, st1_9, sti_9, st2_9, stj_9, kil_n, kil_i, kil_r, kil_l, kil_d, gl_0, gl_s, cat_i, cat_r, true_and]
  rw [nI_add, nI_lit9, br_1 (nI_le hm (by decide))]
  exact out_RR
theorem sp_needR_no (hK : K h x c r c2 r2 n G sn SG) {m : Nat} (hm : 9 < n + m) (hm2 : m ≤ 9) : Sp 2 20 [.ref x, .int (nI m)] h z 1 6 (RX 1 h z) := by
  have hn := hK.hG.1
  refine Sp_in (al := [some (.ref x), some (.int (nI m))]) ?_
  simp only [s20_0, s20_1, s20_7, s20_8, s20_9, s20_11, s20_17, s20_25, ldi_0, ldi_s, ldl_0, ldl_s, ldd_0, ldd_s, lda_0, lda_s, st1_0, st1_1, st2_0, st2_1, sti_0, sti_1, stj_0, stj_1, st1_2, sti_2, st2_2, stj_2, st1_3, sti_3, st2_3, stj_3, st1_4, sti_4, st2_4, stj_4, st1_5, sti_5, st2_5, stj_5, st1_6, sti_6, st2_6, stj_6, st1_7, sti_7, st2_7, stj_7, st1_8, sti_8, st2_8, stj_8, st1_9, sti_9, st2_9, stj_9, kil_n, kil_i, kil_r, kil_l, kil_d, gl_0, gl_s, cat_i, cat_r, true_and, gf_ob hK.hx]
  refine c20_4r hK.hc.1 (sp_size hK.hc.1) ?_
  simp only [s20_0, s20_1, s20_7, s20_8, s20_9, s20_11, s20_17, s20_25, ldi_0, ldi_s, ldl_0, ldl_s, ldd_0, ldd_s, lda_0, lda_s, st1_0, st1_1, st2_0, st2_1, sti_0, sti_1, stj_0, stj_1, st1_2, sti_2, st2_2, stj_2, st1_3, sti_3, st2_3, stj_3, st1_4, sti_4, st2_4, stj_4, st1_5, sti_5, st2_5, stj_5, st1_6, sti_6, st2_6, stj_6, st1_7, sti_7, st2_7, stj_7, st1_8, sti_8, st2_8, stj_8, st1_9, sti_9, st2_9, stj_9, kil_n, kil_i, kil_r, kil_l, kil_d, gl_0, gl_s, cat_i, cat_r, true_and]
  rw [nI_add, nI_lit9, br_0 (nI_ge hm (by omega))]
  exact s20_14 (by decide) (by omega) (by omega) fun z' hz => ⟨rfl, rfl, hz⟩
theorem sp_needN_ok {p q : Int32} (hp : q ≤ p) : Sp 2 86 [.ref x, .int p, .int q] h z 0 0 (RR none h z) := by
  refine Sp_in (al := [some (.ref x), some (.int p), some (.int q)]) ?_
  simp only [s86_0, s86_1, s86_2, s86_8, s86_16, ldi_0, ldi_s, ldl_0, ldl_s, ldd_0, ldd_s, lda_0, lda_s, st1_0, st1_1, st2_0, st2_1, sti_0, sti_1, stj_0, stj_1, st1_2, sti_2, st2_2, stj_2, st1_3, sti_3, st2_3, stj_3, st1_4, sti_4, st2_4, stj_4, st1_5, sti_5, st2_5, stj_5, st1_6, sti_6, st2_6, stj_6, st1_7, sti_7, st2_7, stj_7, st1_8, sti_8, st2_8, stj_8, st1_9, sti_9, st2_9, stj_9, kil_n, kil_i, kil_r, kil_l, kil_d, gl_0, gl_s, cat_i, cat_r, true_and]
  rw [br_1 hp]
  exact out_RR
theorem sp_needN_no {p q : Int32} (hp : ¬ q ≤ p) : Sp 2 86 [.ref x, .int p, .int q] h z 1 6 (RX 2 h z) := by
  refine Sp_in (al := [some (.ref x), some (.int p), some (.int q)]) ?_
  simp only [s86_0, s86_1, s86_2, s86_8, s86_16, ldi_0, ldi_s, ldl_0, ldl_s, ldd_0, ldd_s, lda_0, lda_s, st1_0, st1_1, st2_0, st2_1, sti_0, sti_1, stj_0, stj_1, st1_2, sti_2, st2_2, stj_2, st1_3, sti_3, st2_3, stj_3, st1_4, sti_4, st2_4, stj_4, st1_5, sti_5, st2_5, stj_5, st1_6, sti_6, st2_6, stj_6, st1_7, sti_7, st2_7, stj_7, st1_8, sti_8, st2_8, stj_8, st1_9, sti_9, st2_9, stj_9, kil_n, kil_i, kil_r, kil_l, kil_d, gl_0, gl_s, cat_i, cat_r, true_and]
  rw [br_0 hp]
  exact s86_5 (by decide) (by omega) (by omega) fun z' hz => ⟨rfl, rfl, hz⟩
theorem sp_cbegin (hK : K h x c r c2 r2 n G sn SG) {k : Nat} (hk : k ≤ 9) : Sp 20 8 [.ref x, .int (nI k)] h z 0 0 (RR (some (.int (nI n))) (chSet h c r k gE) z) := by
  refine Sp_in (al := [some (.ref x), some (.int (nI k)), none]) ?_
  simp only [s8_0, s8_1, s8_4, s8_5, s8_7, s8_13, s8_20, s8_21, s8_27, s8_28, s8_29, s8_32, s8_36, s8_37, ldi_0, ldi_s, ldl_0, ldl_s, ldd_0, ldd_s, lda_0, lda_s, st1_0, st1_1, st2_0, st2_1, sti_0, sti_1, stj_0, stj_1, st1_2, sti_2, st2_2, stj_2, st1_3, sti_3, st2_3, stj_3, st1_4, sti_4, st2_4, stj_4, st1_5, sti_5, st2_5, stj_5, st1_6, sti_6, st2_6, stj_6, st1_7, sti_7, st2_7, stj_7, st1_8, sti_8, st2_8, stj_8, st1_9, sti_9, st2_9, stj_9, kil_n, kil_i, kil_r, kil_l, kil_d, gl_0, gl_s, cat_i, cat_r, true_and, gf_ob hK.hx]
  rw [nI_lit0, br_0 (nI_nlt (Nat.zero_le k) (by omega)), nI_lit9, br_1 (nI_le hk (by decide))]
  refine c8_24r hK.hc.1 (sp_size hK.hc.1) ?_
  simp only [s8_0, s8_1, s8_4, s8_5, s8_7, s8_13, s8_20, s8_21, s8_27, s8_28, s8_29, s8_32, s8_36, s8_37, ldi_0, ldi_s, ldl_0, ldl_s, ldd_0, ldd_s, lda_0, lda_s, st1_0, st1_1, st2_0, st2_1, sti_0, sti_1, stj_0, stj_1, st1_2, sti_2, st2_2, stj_2, st1_3, sti_3, st2_3, stj_3, st1_4, sti_4, st2_4, stj_4, st1_5, sti_5, st2_5, stj_5, st1_6, sti_6, st2_6, stj_6, st1_7, sti_7, st2_7, stj_7, st1_8, sti_8, st2_8, stj_8, st1_9, sti_9, st2_9, stj_9, kil_n, kil_i, kil_r, kil_l, kil_d, gl_0, gl_s, cat_i, cat_r, true_and, gf_ob hK.hx]
  refine c8_33r hK.hc.1 (sp_reset hK.hc hK.hG hk) ?_
  simp only [s8_0, s8_1, s8_4, s8_5, s8_7, s8_13, s8_20, s8_21, s8_27, s8_28, s8_29, s8_32, s8_36, s8_37, ldi_0, ldi_s, ldl_0, ldl_s, ldd_0, ldd_s, lda_0, lda_s, st1_0, st1_1, st2_0, st2_1, sti_0, sti_1, stj_0, stj_1, st1_2, sti_2, st2_2, stj_2, st1_3, sti_3, st2_3, stj_3, st1_4, sti_4, st2_4, stj_4, st1_5, sti_5, st2_5, stj_5, st1_6, sti_6, st2_6, stj_6, st1_7, sti_7, st2_7, stj_7, st1_8, sti_8, st2_8, stj_8, st1_9, sti_9, st2_9, stj_9, kil_n, kil_i, kil_r, kil_l, kil_d, gl_0, gl_s, cat_i, cat_r, true_and]
  exact out_RR
theorem sp_cbegin_no {p : Int32} (hp : p < 0 ∨ ¬ p ≤ 9) : Sp 20 8 [.ref x, .int p] h z 1 6 (RX 0 h z) := by
  refine Sp_in (al := [some (.ref x), some (.int p), none]) ?_
  simp only [s8_0, s8_1, s8_4, s8_5, s8_7, s8_13, s8_20, s8_21, s8_27, s8_28, s8_29, s8_32, s8_36, s8_37, ldi_0, ldi_s, ldl_0, ldl_s, ldd_0, ldd_s, lda_0, lda_s, st1_0, st1_1, st2_0, st2_1, sti_0, sti_1, stj_0, stj_1, st1_2, sti_2, st2_2, stj_2, st1_3, sti_3, st2_3, stj_3, st1_4, sti_4, st2_4, stj_4, st1_5, sti_5, st2_5, stj_5, st1_6, sti_6, st2_6, stj_6, st1_7, sti_7, st2_7, stj_7, st1_8, sti_8, st2_8, stj_8, st1_9, sti_9, st2_9, stj_9, kil_n, kil_i, kil_r, kil_l, kil_d, gl_0, gl_s, cat_i, cat_r, true_and]
  refine ⟨fun _ => s8_10 (by decide) (by omega) (by omega) fun z' hz => ⟨rfl, rfl, hz⟩, fun h1 => ⟨fun h2 => ?_, fun _ => s8_10 (by decide) (by omega) (by omega) fun z' hz => ⟨rfl, rfl, hz⟩⟩⟩
  exact absurd h2 (hp.resolve_left h1)
theorem gAdd_0 (hG : GOK n G) {nb : Nat → Bool} (h0 : ∀ q, nb q = false) : gAdd n nb G = G := by
  funext p q
  unfold gAdd
  by_cases hp : p = n
  · rw [if_pos hp, h0, hG.lt' (by omega)]
    simp
  · rw [if_neg hp]
    by_cases hq : q = n
    · rw [if_pos hq, h0, hG.lt (by omega)]
      simp
    · rw [if_neg hq]
theorem GOK.up (hG : GOK n G) (h8 : n < 9) : GOK (n + 1) G := ⟨by omega, fun p q h => by obtain ⟨a, b, c, d⟩ := hG.2 p q h; exact ⟨by omega, by omega, c, d⟩⟩
theorem sp_cplace (hK : K h x c r c2 r2 n G sn SG) (h8 : n < 9) : Sp 20 19 [.ref x] h z 0 0 (RR (some (.int (nI (n + 1)))) (chSet h c r (n + 1) G) z) := by
  refine Sp_in (al := [some (.ref x)]) ?_
  simp only [s19_0, s19_1, s19_5, s19_6, s19_9, s19_13, s19_14, s19_20, ldi_0, ldi_s, ldl_0, ldl_s, ldd_0, ldd_s, lda_0, lda_s, st1_0, st1_1, st2_0, st2_1, sti_0, sti_1, stj_0, stj_1, st1_2, sti_2, st2_2, stj_2, st1_3, sti_3, st2_3, stj_3, st1_4, sti_4, st2_4, stj_4, st1_5, sti_5, st2_5, stj_5, st1_6, sti_6, st2_6, stj_6, st1_7, sti_7, st2_7, stj_7, st1_8, sti_8, st2_8, stj_8, st1_9, sti_9, st2_9, stj_9, kil_n, kil_i, kil_r, kil_l, kil_d, gl_0, gl_s, cat_i, cat_r, true_and, gf_ob hK.hx]
  refine c19_2r hK.hx (sp_needR_ok (m := 1) hK (by omega)) ?_
  simp only [s19_0, s19_1, s19_5, s19_6, s19_9, s19_13, s19_14, s19_20, ldi_0, ldi_s, ldl_0, ldl_s, ldd_0, ldd_s, lda_0, lda_s, st1_0, st1_1, st2_0, st2_1, sti_0, sti_1, stj_0, stj_1, st1_2, sti_2, st2_2, stj_2, st1_3, sti_3, st2_3, stj_3, st1_4, sti_4, st2_4, stj_4, st1_5, sti_5, st2_5, stj_5, st1_6, sti_6, st2_6, stj_6, st1_7, sti_7, st2_7, stj_7, st1_8, sti_8, st2_8, stj_8, st1_9, sti_9, st2_9, stj_9, kil_n, kil_i, kil_r, kil_l, kil_d, gl_0, gl_s, cat_i, cat_r, true_and, gf_ob hK.hx]
  have e := sp_append (z := z) hK.hc hK.hG h8 (x := 0) (by decide)
  rw [gAdd_0 hK.hG (fun q => Nat.zero_testBit q)] at e
  refine c19_10r hK.hc.1 e ?_
  have k2 := (hK.map (hK.hG.up h8)).1
  simp only [s19_0, s19_1, s19_5, s19_6, s19_9, s19_13, s19_14, s19_20, ldi_0, ldi_s, ldl_0, ldl_s, ldd_0, ldd_s, lda_0, lda_s, st1_0, st1_1, st2_0, st2_1, sti_0, sti_1, stj_0, stj_1, st1_2, sti_2, st2_2, stj_2, st1_3, sti_3, st2_3, stj_3, st1_4, sti_4, st2_4, stj_4, st1_5, sti_5, st2_5, stj_5, st1_6, sti_6, st2_6, stj_6, st1_7, sti_7, st2_7, stj_7, st1_8, sti_8, st2_8, stj_8, st1_9, sti_9, st2_9, stj_9, kil_n, kil_i, kil_r, kil_l, kil_d, gl_0, gl_s, cat_i, cat_r, true_and, gf_ob k2.hx]
  refine c19_17r k2.hc.1 (sp_size k2.hc.1) ?_
  simp only [s19_0, s19_1, s19_5, s19_6, s19_9, s19_13, s19_14, s19_20, ldi_0, ldi_s, ldl_0, ldl_s, ldd_0, ldd_s, lda_0, lda_s, st1_0, st1_1, st2_0, st2_1, sti_0, sti_1, stj_0, stj_1, st1_2, sti_2, st2_2, stj_2, st1_3, sti_3, st2_3, stj_3, st1_4, sti_4, st2_4, stj_4, st1_5, sti_5, st2_5, stj_5, st1_6, sti_6, st2_6, stj_6, st1_7, sti_7, st2_7, stj_7, st1_8, sti_8, st2_8, stj_8, st1_9, sti_9, st2_9, stj_9, kil_n, kil_i, kil_r, kil_l, kil_d, gl_0, gl_s, cat_i, cat_r, true_and]
  exact out_RR
theorem sp_cplace_no (hK : K h x c r c2 r2 n G sn SG) (h8 : n = 9) : Sp 20 19 [.ref x] h z 1 6 (RX 1 h z) := by
  refine Sp_in (al := [some (.ref x)]) ?_
  simp only [s19_0, s19_1, s19_5, s19_6, s19_9, s19_13, s19_14, s19_20, ldi_0, ldi_s, ldl_0, ldl_s, ldd_0, ldd_s, lda_0, lda_s, st1_0, st1_1, st2_0, st2_1, sti_0, sti_1, stj_0, stj_1, st1_2, sti_2, st2_2, stj_2, st1_3, sti_3, st2_3, stj_3, st1_4, sti_4, st2_4, stj_4, st1_5, sti_5, st2_5, stj_5, st1_6, sti_6, st2_6, stj_6, st1_7, sti_7, st2_7, stj_7, st1_8, sti_8, st2_8, stj_8, st1_9, sti_9, st2_9, stj_9, kil_n, kil_i, kil_r, kil_l, kil_d, gl_0, gl_s, cat_i, cat_r, true_and]
  exact c19_2 hK.hx (sp_needR_no (m := 1) hK (by omega) (by decide)) (by omega) (by omega) (RX_ret rfl rfl (by omega) (by omega))
/-- with a new place that has ways to all others -/
def gStar (n : Nat) (G : Nat → Nat → Bool) : Nat → Nat → Bool := fun p q => if p = n then decide (q < n) else if q = n then decide (p < n) else G p q
theorem gStar_e (hn : n ≤ 9) : gAdd n (fun q => (2 ^ n - 1).testBit q) G = gStar n G := by
  funext p q
  unfold gAdd gStar
  simp only [Nat.testBit_two_pow_sub_one, Bool.and_self]
theorem gStar_ok (hG : GOK n G) (h8 : n < 9) : GOK (n + 1) (gStar n G) := by
  rw [← gStar_e hG.1]
  exact gAdd_ok hG h8
theorem sp_cstar (hK : K h x c r c2 r2 n G sn SG) (h8 : n < 9) : Sp 20 25 [.ref x] h z 0 0 (RR (some (.int (nI (ends (gStar n G) (n + 1) / 2)))) (chSet h c r (n + 1) (gStar n G)) z) := by
  refine Sp_in (al := [some (.ref x)]) ?_
  simp only [s25_0, s25_1, s25_5, s25_6, s25_9, s25_10, s25_19, s25_20, s25_26, ldi_0, ldi_s, ldl_0, ldl_s, ldd_0, ldd_s, lda_0, lda_s, st1_0, st1_1, st2_0, st2_1, sti_0, sti_1, stj_0, stj_1, st1_2, sti_2, st2_2, stj_2, st1_3, sti_3, st2_3, stj_3, st1_4, sti_4, st2_4, stj_4, st1_5, sti_5, st2_5, stj_5, st1_6, sti_6, st2_6, stj_6, st1_7, sti_7, st2_7, stj_7, st1_8, sti_8, st2_8, stj_8, st1_9, sti_9, st2_9, stj_9, kil_n, kil_i, kil_r, kil_l, kil_d, gl_0, gl_s, cat_i, cat_r, true_and, gf_ob hK.hx]
  refine c25_2r hK.hx (sp_needR_ok (m := 1) hK (by omega)) ?_
  simp only [s25_0, s25_1, s25_5, s25_6, s25_9, s25_10, s25_19, s25_20, s25_26, ldi_0, ldi_s, ldl_0, ldl_s, ldd_0, ldd_s, lda_0, lda_s, st1_0, st1_1, st2_0, st2_1, sti_0, sti_1, stj_0, stj_1, st1_2, sti_2, st2_2, stj_2, st1_3, sti_3, st2_3, stj_3, st1_4, sti_4, st2_4, stj_4, st1_5, sti_5, st2_5, stj_5, st1_6, sti_6, st2_6, stj_6, st1_7, sti_7, st2_7, stj_7, st1_8, sti_8, st2_8, stj_8, st1_9, sti_9, st2_9, stj_9, kil_n, kil_i, kil_r, kil_l, kil_d, gl_0, gl_s, cat_i, cat_r, true_and, gf_ob hK.hx]
  refine c25_13r hK.hc.1 (sp_all hK.hc.1 hK.hG.1) ?_
  have hx : 2 ^ n - 1 < 512 := by
    have : 2 ^ n ≤ 2 ^ 9 := Nat.pow_le_pow_right (by decide) hK.hG.1
    omega
  have e := sp_append (z := z) hK.hc hK.hG h8 hx
  rw [gStar_e hK.hG.1] at e
  refine c25_16r hK.hc.1 e ?_
  have k2 := (hK.map (gStar_ok hK.hG h8)).1
  simp only [s25_0, s25_1, s25_5, s25_6, s25_9, s25_10, s25_19, s25_20, s25_26, ldi_0, ldi_s, ldl_0, ldl_s, ldd_0, ldd_s, lda_0, lda_s, st1_0, st1_1, st2_0, st2_1, sti_0, sti_1, stj_0, stj_1, st1_2, sti_2, st2_2, stj_2, st1_3, sti_3, st2_3, stj_3, st1_4, sti_4, st2_4, stj_4, st1_5, sti_5, st2_5, stj_5, st1_6, sti_6, st2_6, stj_6, st1_7, sti_7, st2_7, stj_7, st1_8, sti_8, st2_8, stj_8, st1_9, sti_9, st2_9, stj_9, kil_n, kil_i, kil_r, kil_l, kil_d, gl_0, gl_s, cat_i, cat_r, true_and, gf_ob k2.hx]
  refine c25_23r k2.hc.1 (sp_wayCount k2.hc k2.hG) ?_
  simp only [s25_0, s25_1, s25_5, s25_6, s25_9, s25_10, s25_19, s25_20, s25_26, ldi_0, ldi_s, ldl_0, ldl_s, ldd_0, ldd_s, lda_0, lda_s, st1_0, st1_1, st2_0, st2_1, sti_0, sti_1, stj_0, stj_1, st1_2, sti_2, st2_2, stj_2, st1_3, sti_3, st2_3, stj_3, st1_4, sti_4, st2_4, stj_4, st1_5, sti_5, st2_5, stj_5, st1_6, sti_6, st2_6, stj_6, st1_7, sti_7, st2_7, stj_7, st1_8, sti_8, st2_8, stj_8, st1_9, sti_9, st2_9, stj_9, kil_n, kil_i, kil_r, kil_l, kil_d, gl_0, gl_s, cat_i, cat_r, true_and]
  exact out_RR
theorem sp_cstar_no (hK : K h x c r c2 r2 n G sn SG) (h8 : n = 9) : Sp 20 25 [.ref x] h z 1 6 (RX 1 h z) := by
  refine Sp_in (al := [some (.ref x)]) ?_
  simp only [s25_0, s25_1, s25_5, s25_6, s25_9, s25_10, s25_19, s25_20, s25_26, ldi_0, ldi_s, ldl_0, ldl_s, ldd_0, ldd_s, lda_0, lda_s, st1_0, st1_1, st2_0, st2_1, sti_0, sti_1, stj_0, stj_1, st1_2, sti_2, st2_2, stj_2, st1_3, sti_3, st2_3, stj_3, st1_4, sti_4, st2_4, stj_4, st1_5, sti_5, st2_5, stj_5, st1_6, sti_6, st2_6, stj_6, st1_7, sti_7, st2_7, stj_7, st1_8, sti_8, st2_8, stj_8, st1_9, sti_9, st2_9, stj_9, kil_n, kil_i, kil_r, kil_l, kil_d, gl_0, gl_s, cat_i, cat_r, true_and]
  exact c25_2 hK.hx (sp_needR_no (m := 1) hK (by omega) (by decide)) (by omega) (by omega) (RX_ret rfl rfl (by omega) (by omega))
theorem sp_cleave (hK : K h x c r c2 r2 n G sn SG) {p : Nat} (hp : p < n) : Sp 20 32 [.ref x, .int (nI p)] h z 0 0 (RR (some (.int (nI (cnt (G p) 9)))) (chSet h c r (n - 1) (gDel p G)) z) := by
  refine Sp_in (al := [some (.ref x), some (.int (nI p)), none]) ?_
  simp only [s32_0, s32_1, s32_5, s32_6, s32_9, s32_16, s32_17, s32_18, s32_21, s32_25, s32_26, ldi_0, ldi_s, ldl_0, ldl_s, ldd_0, ldd_s, lda_0, lda_s, st1_0, st1_1, st2_0, st2_1, sti_0, sti_1, stj_0, stj_1, st1_2, sti_2, st2_2, stj_2, st1_3, sti_3, st2_3, stj_3, st1_4, sti_4, st2_4, stj_4, st1_5, sti_5, st2_5, stj_5, st1_6, sti_6, st2_6, stj_6, st1_7, sti_7, st2_7, stj_7, st1_8, sti_8, st2_8, stj_8, st1_9, sti_9, st2_9, stj_9, kil_n, kil_i, kil_r, kil_l, kil_d, gl_0, gl_s, cat_i, cat_r, true_and]
  refine c32_2r hK.hx (sp_needP_ok hK (pl_nat hK.hG.1 hp)) ?_
  simp only [s32_0, s32_1, s32_5, s32_6, s32_9, s32_16, s32_17, s32_18, s32_21, s32_25, s32_26, ldi_0, ldi_s, ldl_0, ldl_s, ldd_0, ldd_s, lda_0, lda_s, st1_0, st1_1, st2_0, st2_1, sti_0, sti_1, stj_0, stj_1, st1_2, sti_2, st2_2, stj_2, st1_3, sti_3, st2_3, stj_3, st1_4, sti_4, st2_4, stj_4, st1_5, sti_5, st2_5, stj_5, st1_6, sti_6, st2_6, stj_6, st1_7, sti_7, st2_7, stj_7, st1_8, sti_8, st2_8, stj_8, st1_9, sti_9, st2_9, stj_9, kil_n, kil_i, kil_r, kil_l, kil_d, gl_0, gl_s, cat_i, cat_r, true_and, gf_ob hK.hx]
  refine c32_10r hK.hc.1 (sp_near hK.hc hK.hG hp) ?_
  refine c32_13r (sp_bitCount (mk9 _)) ?_
  simp only [s32_0, s32_1, s32_5, s32_6, s32_9, s32_16, s32_17, s32_18, s32_21, s32_25, s32_26, ldi_0, ldi_s, ldl_0, ldl_s, ldd_0, ldd_s, lda_0, lda_s, st1_0, st1_1, st2_0, st2_1, sti_0, sti_1, stj_0, stj_1, st1_2, sti_2, st2_2, stj_2, st1_3, sti_3, st2_3, stj_3, st1_4, sti_4, st2_4, stj_4, st1_5, sti_5, st2_5, stj_5, st1_6, sti_6, st2_6, stj_6, st1_7, sti_7, st2_7, stj_7, st1_8, sti_8, st2_8, stj_8, st1_9, sti_9, st2_9, stj_9, kil_n, kil_i, kil_r, kil_l, kil_d, gl_0, gl_s, cat_i, cat_r, true_and, gf_ob hK.hx]
  refine c32_22r hK.hc.1 (sp_remove hK.hc hK.hG hp) ?_
  simp only [s32_0, s32_1, s32_5, s32_6, s32_9, s32_16, s32_17, s32_18, s32_21, s32_25, s32_26, ldi_0, ldi_s, ldl_0, ldl_s, ldd_0, ldd_s, lda_0, lda_s, st1_0, st1_1, st2_0, st2_1, sti_0, sti_1, stj_0, stj_1, st1_2, sti_2, st2_2, stj_2, st1_3, sti_3, st2_3, stj_3, st1_4, sti_4, st2_4, stj_4, st1_5, sti_5, st2_5, stj_5, st1_6, sti_6, st2_6, stj_6, st1_7, sti_7, st2_7, stj_7, st1_8, sti_8, st2_8, stj_8, st1_9, sti_9, st2_9, stj_9, kil_n, kil_i, kil_r, kil_l, kil_d, gl_0, gl_s, cat_i, cat_r, true_and]
  exact out_eq (by rw [ones_mk]) rfl rfl
theorem sp_cleave_no (hK : K h x c r c2 r2 n G sn SG) {p : Int32} (hp : pl n p = false) : Sp 20 32 [.ref x, .int p] h z 1 6 (RX 2 h z) := by
  refine Sp_in (al := [some (.ref x), some (.int p), none]) ?_
  simp only [s32_0, s32_1, s32_5, s32_6, s32_9, s32_16, s32_17, s32_18, s32_21, s32_25, s32_26, ldi_0, ldi_s, ldl_0, ldl_s, ldd_0, ldd_s, lda_0, lda_s, st1_0, st1_1, st2_0, st2_1, sti_0, sti_1, stj_0, stj_1, st1_2, sti_2, st2_2, stj_2, st1_3, sti_3, st2_3, stj_3, st1_4, sti_4, st2_4, stj_4, st1_5, sti_5, st2_5, stj_5, st1_6, sti_6, st2_6, stj_6, st1_7, sti_7, st2_7, stj_7, st1_8, sti_8, st2_8, stj_8, st1_9, sti_9, st2_9, stj_9, kil_n, kil_i, kil_r, kil_l, kil_d, gl_0, gl_s, cat_i, cat_r, true_and]
  exact c32_2 hK.hx (sp_needP_no hK hp) (by omega) (by omega) (RX_ret rfl rfl (by omega) (by omega))
theorem nI_inj9 {p q : Nat} (hp : p < n) (hq : q < n) (hn : n ≤ 9) (h : p ≠ q) : ¬ nI p = nI q := by
  rw [nI_eq (by omega) (by omega)]
  exact h
theorem sp_cway (hK : K h x c r c2 r2 n G sn SG) {p q : Nat} (hp : p < n) (hq : q < n) (hpq : p ≠ q) : Sp 20 43 [.ref x, .int (nI p), .int (nI q)] h z 0 0 (RR (some (.int (bI (!G p q)))) (chSet h c r n (gJoin p q G)) z) := by
  have hn := hK.hG.1
  refine Sp_in (al := [some (.ref x), some (.int (nI p)), some (.int (nI q)), none]) ?_
  simp only [s43_0, s43_1, s43_2, s43_6, s43_7, s43_10, s43_11, s43_15, s43_18, s43_19, s43_22, s43_23, s43_24, s43_25, s43_28, s43_29, s43_33, s43_34, ldi_0, ldi_s, ldl_0, ldl_s, ldd_0, ldd_s, lda_0, lda_s, st1_0, st1_1, st2_0, st2_1, sti_0, sti_1, stj_0, stj_1, st1_2, sti_2, st2_2, stj_2, st1_3, sti_3, st2_3, stj_3, st1_4, sti_4, st2_4, stj_4, st1_5, sti_5, st2_5, stj_5, st1_6, sti_6, st2_6, stj_6, st1_7, sti_7, st2_7, stj_7, st1_8, sti_8, st2_8, stj_8, st1_9, sti_9, st2_9, stj_9, kil_n, kil_i, kil_r, kil_l, kil_d, gl_0, gl_s, cat_i, cat_r, true_and]
  refine c43_3r hK.hx (sp_needT_ok hK (pl_nat hn hp) (pl_nat hn hq) (nI_inj9 hp hq hn hpq)) ?_
  simp only [s43_0, s43_1, s43_2, s43_6, s43_7, s43_10, s43_11, s43_15, s43_18, s43_19, s43_22, s43_23, s43_24, s43_25, s43_28, s43_29, s43_33, s43_34, ldi_0, ldi_s, ldl_0, ldl_s, ldd_0, ldd_s, lda_0, lda_s, st1_0, st1_1, st2_0, st2_1, sti_0, sti_1, stj_0, stj_1, st1_2, sti_2, st2_2, stj_2, st1_3, sti_3, st2_3, stj_3, st1_4, sti_4, st2_4, stj_4, st1_5, sti_5, st2_5, stj_5, st1_6, sti_6, st2_6, stj_6, st1_7, sti_7, st2_7, stj_7, st1_8, sti_8, st2_8, stj_8, st1_9, sti_9, st2_9, stj_9, kil_n, kil_i, kil_r, kil_l, kil_d, gl_0, gl_s, cat_i, cat_r, true_and, gf_ob hK.hx]
  refine c43_12r hK.hc.1 (sp_joined hK.hc hK.hG hp hq) ?_
  simp only [s43_0, s43_1, s43_2, s43_6, s43_7, s43_10, s43_11, s43_15, s43_18, s43_19, s43_22, s43_23, s43_24, s43_25, s43_28, s43_29, s43_33, s43_34, ldi_0, ldi_s, ldl_0, ldl_s, ldd_0, ldd_s, lda_0, lda_s, st1_0, st1_1, st2_0, st2_1, sti_0, sti_1, stj_0, stj_1, st1_2, sti_2, st2_2, stj_2, st1_3, sti_3, st2_3, stj_3, st1_4, sti_4, st2_4, stj_4, st1_5, sti_5, st2_5, stj_5, st1_6, sti_6, st2_6, stj_6, st1_7, sti_7, st2_7, stj_7, st1_8, sti_8, st2_8, stj_8, st1_9, sti_9, st2_9, stj_9, kil_n, kil_i, kil_r, kil_l, kil_d, gl_0, gl_s, cat_i, cat_r, true_and]
  refine ⟨fun h1 => ?_, fun h1 => ?_⟩
  · rw [bI_0, Bool.not_eq_false] at h1
    simp only [gf_ob hK.hx, s43_0, s43_1, s43_2, s43_6, s43_7, s43_10, s43_11, s43_15, s43_18, s43_19, s43_22, s43_23, s43_24, s43_25, s43_28, s43_29, s43_33, s43_34, ldi_0, ldi_s, ldl_0, ldl_s, ldd_0, ldd_s, lda_0, lda_s, st1_0, st1_1, st2_0, st2_1, sti_0, sti_1, stj_0, stj_1, st1_2, sti_2, st2_2, stj_2, st1_3, sti_3, st2_3, stj_3, st1_4, sti_4, st2_4, stj_4, st1_5, sti_5, st2_5, stj_5, st1_6, sti_6, st2_6, stj_6, st1_7, sti_7, st2_7, stj_7, st1_8, sti_8, st2_8, stj_8, st1_9, sti_9, st2_9, stj_9, kil_n, kil_i, kil_r, kil_l, kil_d, gl_0, gl_s, cat_i, cat_r, true_and]
    refine c43_30r hK.hc.1 (sp_join hK.hc hK.hG hp hq) ?_
    simp only [s43_0, s43_1, s43_2, s43_6, s43_7, s43_10, s43_11, s43_15, s43_18, s43_19, s43_22, s43_23, s43_24, s43_25, s43_28, s43_29, s43_33, s43_34, ldi_0, ldi_s, ldl_0, ldl_s, ldd_0, ldd_s, lda_0, lda_s, st1_0, st1_1, st2_0, st2_1, sti_0, sti_1, stj_0, stj_1, st1_2, sti_2, st2_2, stj_2, st1_3, sti_3, st2_3, stj_3, st1_4, sti_4, st2_4, stj_4, st1_5, sti_5, st2_5, stj_5, st1_6, sti_6, st2_6, stj_6, st1_7, sti_7, st2_7, stj_7, st1_8, sti_8, st2_8, stj_8, st1_9, sti_9, st2_9, stj_9, kil_n, kil_i, kil_r, kil_l, kil_d, gl_0, gl_s, cat_i, cat_r, true_and]
    exact ⟨by decide, out_eq (by rw [h1]; rfl) rfl rfl⟩
  · rw [bI_0, Decidable.not_not] at h1
    simp only [gf_ob hK.hx, s43_0, s43_1, s43_2, s43_6, s43_7, s43_10, s43_11, s43_15, s43_18, s43_19, s43_22, s43_23, s43_24, s43_25, s43_28, s43_29, s43_33, s43_34, ldi_0, ldi_s, ldl_0, ldl_s, ldd_0, ldd_s, lda_0, lda_s, st1_0, st1_1, st2_0, st2_1, sti_0, sti_1, stj_0, stj_1, st1_2, sti_2, st2_2, stj_2, st1_3, sti_3, st2_3, stj_3, st1_4, sti_4, st2_4, stj_4, st1_5, sti_5, st2_5, stj_5, st1_6, sti_6, st2_6, stj_6, st1_7, sti_7, st2_7, stj_7, st1_8, sti_8, st2_8, stj_8, st1_9, sti_9, st2_9, stj_9, kil_n, kil_i, kil_r, kil_l, kil_d, gl_0, gl_s, cat_i, cat_r, true_and]
    refine c43_30r hK.hc.1 (sp_join hK.hc hK.hG hp hq) ?_
    simp only [s43_0, s43_1, s43_2, s43_6, s43_7, s43_10, s43_11, s43_15, s43_18, s43_19, s43_22, s43_23, s43_24, s43_25, s43_28, s43_29, s43_33, s43_34, ldi_0, ldi_s, ldl_0, ldl_s, ldd_0, ldd_s, lda_0, lda_s, st1_0, st1_1, st2_0, st2_1, sti_0, sti_1, stj_0, stj_1, st1_2, sti_2, st2_2, stj_2, st1_3, sti_3, st2_3, stj_3, st1_4, sti_4, st2_4, stj_4, st1_5, sti_5, st2_5, stj_5, st1_6, sti_6, st2_6, stj_6, st1_7, sti_7, st2_7, stj_7, st1_8, sti_8, st2_8, stj_8, st1_9, sti_9, st2_9, stj_9, kil_n, kil_i, kil_r, kil_l, kil_d, gl_0, gl_s, cat_i, cat_r, true_and]
    exact ⟨by decide, out_eq (by rw [h1]; rfl) rfl rfl⟩
theorem sp_cway_no (hK : K h x c r c2 r2 n G sn SG) {p q : Int32} (hp : pl n p = false ∨ pl n q = false) : Sp 20 43 [.ref x, .int p, .int q] h z 1 6 (RX 2 h z) := by
  refine Sp_in (al := [some (.ref x), some (.int p), some (.int q), none]) ?_
  simp only [s43_0, s43_1, s43_2, s43_6, s43_7, s43_10, s43_11, s43_15, s43_18, s43_19, s43_22, s43_23, s43_24, s43_25, s43_28, s43_29, s43_33, s43_34, ldi_0, ldi_s, ldl_0, ldl_s, ldd_0, ldd_s, lda_0, lda_s, st1_0, st1_1, st2_0, st2_1, sti_0, sti_1, stj_0, stj_1, st1_2, sti_2, st2_2, stj_2, st1_3, sti_3, st2_3, stj_3, st1_4, sti_4, st2_4, stj_4, st1_5, sti_5, st2_5, stj_5, st1_6, sti_6, st2_6, stj_6, st1_7, sti_7, st2_7, stj_7, st1_8, sti_8, st2_8, stj_8, st1_9, sti_9, st2_9, stj_9, kil_n, kil_i, kil_r, kil_l, kil_d, gl_0, gl_s, cat_i, cat_r, true_and]
  exact c43_3 hK.hx (sp_needT_no hK hp) (by omega) (by omega) (RX_ret rfl rfl (by omega) (by omega))
theorem sp_cway_eq (hK : K h x c r c2 r2 n G sn SG) {p : Int32} (hp : pl n p = true) : Sp 20 43 [.ref x, .int p, .int p] h z 1 6 (RX 0 h z) := by
  refine Sp_in (al := [some (.ref x), some (.int p), some (.int p), none]) ?_
  simp only [s43_0, s43_1, s43_2, s43_6, s43_7, s43_10, s43_11, s43_15, s43_18, s43_19, s43_22, s43_23, s43_24, s43_25, s43_28, s43_29, s43_33, s43_34, ldi_0, ldi_s, ldl_0, ldl_s, ldd_0, ldd_s, lda_0, lda_s, st1_0, st1_1, st2_0, st2_1, sti_0, sti_1, stj_0, stj_1, st1_2, sti_2, st2_2, stj_2, st1_3, sti_3, st2_3, stj_3, st1_4, sti_4, st2_4, stj_4, st1_5, sti_5, st2_5, stj_5, st1_6, sti_6, st2_6, stj_6, st1_7, sti_7, st2_7, stj_7, st1_8, sti_8, st2_8, stj_8, st1_9, sti_9, st2_9, stj_9, kil_n, kil_i, kil_r, kil_l, kil_d, gl_0, gl_s, cat_i, cat_r, true_and]
  exact c43_3 hK.hx (sp_needT_eq hK hp) (by omega) (by omega) (RX_ret rfl rfl (by omega) (by omega))
theorem sp_ctear (hK : K h x c r c2 r2 n G sn SG) {p q : Nat} (hp : p < n) (hq : q < n) (hg : G p q = true) : Sp 20 49 [.ref x, .int (nI p), .int (nI q)] h z 0 0 (RR (some (.int (nI (ends (gCut p q G) n / 2)))) (chSet h c r n (gCut p q G)) z) := by
  have hn := hK.hG.1
  refine Sp_in (al := [some (.ref x), some (.int (nI p)), some (.int (nI q))]) ?_
  simp only [s49_0, s49_1, s49_5, s49_6, s49_10, s49_11, s49_14, s49_15, s49_19, s49_25, s49_32, s49_33, s49_36, s49_37, s49_41, s49_42, s49_48, ldi_0, ldi_s, ldl_0, ldl_s, ldd_0, ldd_s, lda_0, lda_s, st1_0, st1_1, st2_0, st2_1, sti_0, sti_1, stj_0, stj_1, st1_2, sti_2, st2_2, stj_2, st1_3, sti_3, st2_3, stj_3, st1_4, sti_4, st2_4, stj_4, st1_5, sti_5, st2_5, stj_5, st1_6, sti_6, st2_6, stj_6, st1_7, sti_7, st2_7, stj_7, st1_8, sti_8, st2_8, stj_8, st1_9, sti_9, st2_9, stj_9, kil_n, kil_i, kil_r, kil_l, kil_d, gl_0, gl_s, cat_i, cat_r, true_and]
  refine c49_2r hK.hx (sp_needP_ok hK (pl_nat hn hp)) ?_
  simp only [s49_0, s49_1, s49_5, s49_6, s49_10, s49_11, s49_14, s49_15, s49_19, s49_25, s49_32, s49_33, s49_36, s49_37, s49_41, s49_42, s49_48, ldi_0, ldi_s, ldl_0, ldl_s, ldd_0, ldd_s, lda_0, lda_s, st1_0, st1_1, st2_0, st2_1, sti_0, sti_1, stj_0, stj_1, st1_2, sti_2, st2_2, stj_2, st1_3, sti_3, st2_3, stj_3, st1_4, sti_4, st2_4, stj_4, st1_5, sti_5, st2_5, stj_5, st1_6, sti_6, st2_6, stj_6, st1_7, sti_7, st2_7, stj_7, st1_8, sti_8, st2_8, stj_8, st1_9, sti_9, st2_9, stj_9, kil_n, kil_i, kil_r, kil_l, kil_d, gl_0, gl_s, cat_i, cat_r, true_and]
  refine c49_7r hK.hx (sp_needP_ok hK (pl_nat hn hq)) ?_
  simp only [s49_0, s49_1, s49_5, s49_6, s49_10, s49_11, s49_14, s49_15, s49_19, s49_25, s49_32, s49_33, s49_36, s49_37, s49_41, s49_42, s49_48, ldi_0, ldi_s, ldl_0, ldl_s, ldd_0, ldd_s, lda_0, lda_s, st1_0, st1_1, st2_0, st2_1, sti_0, sti_1, stj_0, stj_1, st1_2, sti_2, st2_2, stj_2, st1_3, sti_3, st2_3, stj_3, st1_4, sti_4, st2_4, stj_4, st1_5, sti_5, st2_5, stj_5, st1_6, sti_6, st2_6, stj_6, st1_7, sti_7, st2_7, stj_7, st1_8, sti_8, st2_8, stj_8, st1_9, sti_9, st2_9, stj_9, kil_n, kil_i, kil_r, kil_l, kil_d, gl_0, gl_s, cat_i, cat_r, true_and, gf_ob hK.hx]
  refine c49_16r hK.hc.1 (sp_joined hK.hc hK.hG hp hq) ?_
  simp only [s49_0, s49_1, s49_5, s49_6, s49_10, s49_11, s49_14, s49_15, s49_19, s49_25, s49_32, s49_33, s49_36, s49_37, s49_41, s49_42, s49_48, ldi_0, ldi_s, ldl_0, ldl_s, ldd_0, ldd_s, lda_0, lda_s, st1_0, st1_1, st2_0, st2_1, sti_0, sti_1, stj_0, stj_1, st1_2, sti_2, st2_2, stj_2, st1_3, sti_3, st2_3, stj_3, st1_4, sti_4, st2_4, stj_4, st1_5, sti_5, st2_5, stj_5, st1_6, sti_6, st2_6, stj_6, st1_7, sti_7, st2_7, stj_7, st1_8, sti_8, st2_8, stj_8, st1_9, sti_9, st2_9, stj_9, kil_n, kil_i, kil_r, kil_l, kil_d, gl_0, gl_s, cat_i, cat_r, true_and, gf_ob hK.hx]
  rw [hg, br_1 (by decide)]
  refine c49_38r hK.hc.1 (sp_cut hK.hc hK.hG hp hq) ?_
  have k2 := (hK.map (gCut_ok (a := p) (b := q) hK.hG)).1
  simp only [s49_0, s49_1, s49_5, s49_6, s49_10, s49_11, s49_14, s49_15, s49_19, s49_25, s49_32, s49_33, s49_36, s49_37, s49_41, s49_42, s49_48, ldi_0, ldi_s, ldl_0, ldl_s, ldd_0, ldd_s, lda_0, lda_s, st1_0, st1_1, st2_0, st2_1, sti_0, sti_1, stj_0, stj_1, st1_2, sti_2, st2_2, stj_2, st1_3, sti_3, st2_3, stj_3, st1_4, sti_4, st2_4, stj_4, st1_5, sti_5, st2_5, stj_5, st1_6, sti_6, st2_6, stj_6, st1_7, sti_7, st2_7, stj_7, st1_8, sti_8, st2_8, stj_8, st1_9, sti_9, st2_9, stj_9, kil_n, kil_i, kil_r, kil_l, kil_d, gl_0, gl_s, cat_i, cat_r, true_and, gf_ob k2.hx]
  refine c49_45r k2.hc.1 (sp_wayCount k2.hc k2.hG) ?_
  simp only [s49_0, s49_1, s49_5, s49_6, s49_10, s49_11, s49_14, s49_15, s49_19, s49_25, s49_32, s49_33, s49_36, s49_37, s49_41, s49_42, s49_48, ldi_0, ldi_s, ldl_0, ldl_s, ldd_0, ldd_s, lda_0, lda_s, st1_0, st1_1, st2_0, st2_1, sti_0, sti_1, stj_0, stj_1, st1_2, sti_2, st2_2, stj_2, st1_3, sti_3, st2_3, stj_3, st1_4, sti_4, st2_4, stj_4, st1_5, sti_5, st2_5, stj_5, st1_6, sti_6, st2_6, stj_6, st1_7, sti_7, st2_7, stj_7, st1_8, sti_8, st2_8, stj_8, st1_9, sti_9, st2_9, stj_9, kil_n, kil_i, kil_r, kil_l, kil_d, gl_0, gl_s, cat_i, cat_r, true_and]
  exact out_RR
theorem sp_ctear_no (hK : K h x c r c2 r2 n G sn SG) {p q : Int32} (hp : pl n p = false ∨ pl n q = false) : Sp 20 49 [.ref x, .int p, .int q] h z 1 6 (RX 2 h z) := by
  refine Sp_in (al := [some (.ref x), some (.int p), some (.int q)]) ?_
  simp only [s49_0, s49_1, s49_5, s49_6, s49_10, s49_11, s49_14, s49_15, s49_19, s49_25, s49_32, s49_33, s49_36, s49_37, s49_41, s49_42, s49_48, ldi_0, ldi_s, ldl_0, ldl_s, ldd_0, ldd_s, lda_0, lda_s, st1_0, st1_1, st2_0, st2_1, sti_0, sti_1, stj_0, stj_1, st1_2, sti_2, st2_2, stj_2, st1_3, sti_3, st2_3, stj_3, st1_4, sti_4, st2_4, stj_4, st1_5, sti_5, st2_5, stj_5, st1_6, sti_6, st2_6, stj_6, st1_7, sti_7, st2_7, stj_7, st1_8, sti_8, st2_8, stj_8, st1_9, sti_9, st2_9, stj_9, kil_n, kil_i, kil_r, kil_l, kil_d, gl_0, gl_s, cat_i, cat_r, true_and]
  by_cases h1 : pl n p = false
  · exact c49_2 hK.hx (sp_needP_no hK h1) (by omega) (by omega) (RX_ret rfl rfl (by omega) (by omega))
  · refine c49_2r hK.hx (sp_needP_ok hK (by simpa using h1)) ?_
    simp only [s49_0, s49_1, s49_5, s49_6, s49_10, s49_11, s49_14, s49_15, s49_19, s49_25, s49_32, s49_33, s49_36, s49_37, s49_41, s49_42, s49_48, ldi_0, ldi_s, ldl_0, ldl_s, ldd_0, ldd_s, lda_0, lda_s, st1_0, st1_1, st2_0, st2_1, sti_0, sti_1, stj_0, stj_1, st1_2, sti_2, st2_2, stj_2, st1_3, sti_3, st2_3, stj_3, st1_4, sti_4, st2_4, stj_4, st1_5, sti_5, st2_5, stj_5, st1_6, sti_6, st2_6, stj_6, st1_7, sti_7, st2_7, stj_7, st1_8, sti_8, st2_8, stj_8, st1_9, sti_9, st2_9, stj_9, kil_n, kil_i, kil_r, kil_l, kil_d, gl_0, gl_s, cat_i, cat_r, true_and]
    exact c49_7 hK.hx (sp_needP_no hK (hp.resolve_left h1)) (by omega) (by omega) (RX_ret rfl rfl (by omega) (by omega))
theorem sp_ctear_none (hK : K h x c r c2 r2 n G sn SG) {p q : Nat} (hp : p < n) (hq : q < n) (hg : G p q = false) : Sp 20 49 [.ref x, .int (nI p), .int (nI q)] h z 1 6 (RX 3 h z) := by
  have hn := hK.hG.1
  refine Sp_in (al := [some (.ref x), some (.int (nI p)), some (.int (nI q))]) ?_
  simp only [s49_0, s49_1, s49_5, s49_6, s49_10, s49_11, s49_14, s49_15, s49_19, s49_25, s49_32, s49_33, s49_36, s49_37, s49_41, s49_42, s49_48, ldi_0, ldi_s, ldl_0, ldl_s, ldd_0, ldd_s, lda_0, lda_s, st1_0, st1_1, st2_0, st2_1, sti_0, sti_1, stj_0, stj_1, st1_2, sti_2, st2_2, stj_2, st1_3, sti_3, st2_3, stj_3, st1_4, sti_4, st2_4, stj_4, st1_5, sti_5, st2_5, stj_5, st1_6, sti_6, st2_6, stj_6, st1_7, sti_7, st2_7, stj_7, st1_8, sti_8, st2_8, stj_8, st1_9, sti_9, st2_9, stj_9, kil_n, kil_i, kil_r, kil_l, kil_d, gl_0, gl_s, cat_i, cat_r, true_and]
  refine c49_2r hK.hx (sp_needP_ok hK (pl_nat hn hp)) ?_
  simp only [s49_0, s49_1, s49_5, s49_6, s49_10, s49_11, s49_14, s49_15, s49_19, s49_25, s49_32, s49_33, s49_36, s49_37, s49_41, s49_42, s49_48, ldi_0, ldi_s, ldl_0, ldl_s, ldd_0, ldd_s, lda_0, lda_s, st1_0, st1_1, st2_0, st2_1, sti_0, sti_1, stj_0, stj_1, st1_2, sti_2, st2_2, stj_2, st1_3, sti_3, st2_3, stj_3, st1_4, sti_4, st2_4, stj_4, st1_5, sti_5, st2_5, stj_5, st1_6, sti_6, st2_6, stj_6, st1_7, sti_7, st2_7, stj_7, st1_8, sti_8, st2_8, stj_8, st1_9, sti_9, st2_9, stj_9, kil_n, kil_i, kil_r, kil_l, kil_d, gl_0, gl_s, cat_i, cat_r, true_and]
  refine c49_7r hK.hx (sp_needP_ok hK (pl_nat hn hq)) ?_
  simp only [s49_0, s49_1, s49_5, s49_6, s49_10, s49_11, s49_14, s49_15, s49_19, s49_25, s49_32, s49_33, s49_36, s49_37, s49_41, s49_42, s49_48, ldi_0, ldi_s, ldl_0, ldl_s, ldd_0, ldd_s, lda_0, lda_s, st1_0, st1_1, st2_0, st2_1, sti_0, sti_1, stj_0, stj_1, st1_2, sti_2, st2_2, stj_2, st1_3, sti_3, st2_3, stj_3, st1_4, sti_4, st2_4, stj_4, st1_5, sti_5, st2_5, stj_5, st1_6, sti_6, st2_6, stj_6, st1_7, sti_7, st2_7, stj_7, st1_8, sti_8, st2_8, stj_8, st1_9, sti_9, st2_9, stj_9, kil_n, kil_i, kil_r, kil_l, kil_d, gl_0, gl_s, cat_i, cat_r, true_and, gf_ob hK.hx]
  refine c49_16r hK.hc.1 (sp_joined hK.hc hK.hG hp hq) ?_
  simp only [s49_0, s49_1, s49_5, s49_6, s49_10, s49_11, s49_14, s49_15, s49_19, s49_25, s49_32, s49_33, s49_36, s49_37, s49_41, s49_42, s49_48, ldi_0, ldi_s, ldl_0, ldl_s, ldd_0, ldd_s, lda_0, lda_s, st1_0, st1_1, st2_0, st2_1, sti_0, sti_1, stj_0, stj_1, st1_2, sti_2, st2_2, stj_2, st1_3, sti_3, st2_3, stj_3, st1_4, sti_4, st2_4, stj_4, st1_5, sti_5, st2_5, stj_5, st1_6, sti_6, st2_6, stj_6, st1_7, sti_7, st2_7, stj_7, st1_8, sti_8, st2_8, stj_8, st1_9, sti_9, st2_9, stj_9, kil_n, kil_i, kil_r, kil_l, kil_d, gl_0, gl_s, cat_i, cat_r, true_and, gf_ob hK.hx]
  rw [hg, br_0 (by decide)]
  exact s49_22 (by decide) (by omega) (by omega) fun z' hz => ⟨rfl, rfl, hz⟩
theorem sp_cdraw (hK : K h x c r c2 r2 n G sn SG) {p q : Nat} (hp : p < n) (hq : q < n) (hpq : p ≠ q) : Sp 20 53 [.ref x, .int (nI p), .int (nI q)] h z 0 0 (RR (some (.int (nI (ends (gDel q (gMrg p q n G)) (n - 1) / 2)))) (chSet h c r (n - 1) (gDel q (gMrg p q n G))) z) := by
  have hn := hK.hG.1
  refine Sp_in (al := [some (.ref x), some (.int (nI p)), some (.int (nI q))]) ?_
  simp only [s53_0, s53_1, s53_2, s53_6, s53_7, s53_10, s53_11, s53_15, s53_16, s53_22, ldi_0, ldi_s, ldl_0, ldl_s, ldd_0, ldd_s, lda_0, lda_s, st1_0, st1_1, st2_0, st2_1, sti_0, sti_1, stj_0, stj_1, st1_2, sti_2, st2_2, stj_2, st1_3, sti_3, st2_3, stj_3, st1_4, sti_4, st2_4, stj_4, st1_5, sti_5, st2_5, stj_5, st1_6, sti_6, st2_6, stj_6, st1_7, sti_7, st2_7, stj_7, st1_8, sti_8, st2_8, stj_8, st1_9, sti_9, st2_9, stj_9, kil_n, kil_i, kil_r, kil_l, kil_d, gl_0, gl_s, cat_i, cat_r, true_and]
  refine c53_3r hK.hx (sp_needT_ok hK (pl_nat hn hp) (pl_nat hn hq) (nI_inj9 hp hq hn hpq)) ?_
  simp only [s53_0, s53_1, s53_2, s53_6, s53_7, s53_10, s53_11, s53_15, s53_16, s53_22, ldi_0, ldi_s, ldl_0, ldl_s, ldd_0, ldd_s, lda_0, lda_s, st1_0, st1_1, st2_0, st2_1, sti_0, sti_1, stj_0, stj_1, st1_2, sti_2, st2_2, stj_2, st1_3, sti_3, st2_3, stj_3, st1_4, sti_4, st2_4, stj_4, st1_5, sti_5, st2_5, stj_5, st1_6, sti_6, st2_6, stj_6, st1_7, sti_7, st2_7, stj_7, st1_8, sti_8, st2_8, stj_8, st1_9, sti_9, st2_9, stj_9, kil_n, kil_i, kil_r, kil_l, kil_d, gl_0, gl_s, cat_i, cat_r, true_and, gf_ob hK.hx]
  refine c53_12r hK.hc.1 (sp_merge hK.hc hK.hG hp hq hpq) ?_
  have k2 := (hK.map (gDel_ok (gMrg_ok (a := p) (b := q) (k := n) hK.hG hp) hq)).1
  simp only [s53_0, s53_1, s53_2, s53_6, s53_7, s53_10, s53_11, s53_15, s53_16, s53_22, ldi_0, ldi_s, ldl_0, ldl_s, ldd_0, ldd_s, lda_0, lda_s, st1_0, st1_1, st2_0, st2_1, sti_0, sti_1, stj_0, stj_1, st1_2, sti_2, st2_2, stj_2, st1_3, sti_3, st2_3, stj_3, st1_4, sti_4, st2_4, stj_4, st1_5, sti_5, st2_5, stj_5, st1_6, sti_6, st2_6, stj_6, st1_7, sti_7, st2_7, stj_7, st1_8, sti_8, st2_8, stj_8, st1_9, sti_9, st2_9, stj_9, kil_n, kil_i, kil_r, kil_l, kil_d, gl_0, gl_s, cat_i, cat_r, true_and, gf_ob k2.hx]
  refine c53_19r k2.hc.1 (sp_wayCount k2.hc k2.hG) ?_
  simp only [s53_0, s53_1, s53_2, s53_6, s53_7, s53_10, s53_11, s53_15, s53_16, s53_22, ldi_0, ldi_s, ldl_0, ldl_s, ldd_0, ldd_s, lda_0, lda_s, st1_0, st1_1, st2_0, st2_1, sti_0, sti_1, stj_0, stj_1, st1_2, sti_2, st2_2, stj_2, st1_3, sti_3, st2_3, stj_3, st1_4, sti_4, st2_4, stj_4, st1_5, sti_5, st2_5, stj_5, st1_6, sti_6, st2_6, stj_6, st1_7, sti_7, st2_7, stj_7, st1_8, sti_8, st2_8, stj_8, st1_9, sti_9, st2_9, stj_9, kil_n, kil_i, kil_r, kil_l, kil_d, gl_0, gl_s, cat_i, cat_r, true_and]
  exact out_RR
theorem sp_cdraw_no (hK : K h x c r c2 r2 n G sn SG) {p q : Int32} (hp : pl n p = false ∨ pl n q = false) : Sp 20 53 [.ref x, .int p, .int q] h z 1 6 (RX 2 h z) := by
  refine Sp_in (al := [some (.ref x), some (.int p), some (.int q)]) ?_
  simp only [s53_0, s53_1, s53_2, s53_6, s53_7, s53_10, s53_11, s53_15, s53_16, s53_22, ldi_0, ldi_s, ldl_0, ldl_s, ldd_0, ldd_s, lda_0, lda_s, st1_0, st1_1, st2_0, st2_1, sti_0, sti_1, stj_0, stj_1, st1_2, sti_2, st2_2, stj_2, st1_3, sti_3, st2_3, stj_3, st1_4, sti_4, st2_4, stj_4, st1_5, sti_5, st2_5, stj_5, st1_6, sti_6, st2_6, stj_6, st1_7, sti_7, st2_7, stj_7, st1_8, sti_8, st2_8, stj_8, st1_9, sti_9, st2_9, stj_9, kil_n, kil_i, kil_r, kil_l, kil_d, gl_0, gl_s, cat_i, cat_r, true_and]
  exact c53_3 hK.hx (sp_needT_no hK hp) (by omega) (by omega) (RX_ret rfl rfl (by omega) (by omega))
theorem sp_cdraw_eq (hK : K h x c r c2 r2 n G sn SG) {p : Int32} (hp : pl n p = true) : Sp 20 53 [.ref x, .int p, .int p] h z 1 6 (RX 0 h z) := by
  refine Sp_in (al := [some (.ref x), some (.int p), some (.int p)]) ?_
  simp only [s53_0, s53_1, s53_2, s53_6, s53_7, s53_10, s53_11, s53_15, s53_16, s53_22, ldi_0, ldi_s, ldl_0, ldl_s, ldd_0, ldd_s, lda_0, lda_s, st1_0, st1_1, st2_0, st2_1, sti_0, sti_1, stj_0, stj_1, st1_2, sti_2, st2_2, stj_2, st1_3, sti_3, st2_3, stj_3, st1_4, sti_4, st2_4, stj_4, st1_5, sti_5, st2_5, stj_5, st1_6, sti_6, st2_6, stj_6, st1_7, sti_7, st2_7, stj_7, st1_8, sti_8, st2_8, stj_8, st1_9, sti_9, st2_9, stj_9, kil_n, kil_i, kil_r, kil_l, kil_d, gl_0, gl_s, cat_i, cat_r, true_and]
  exact c53_3 hK.hx (sp_needT_eq hK hp) (by omega) (by omega) (RX_ret rfl rfl (by omega) (by omega))
theorem sp_cswap (hK : K h x c r c2 r2 n G sn SG) {p q : Nat} (hp : p < n) (hq : q < n) : Sp 20 58 [.ref x, .int (nI p), .int (nI q)] h z 0 0 (RR (some (.int (bI (gDif p q G)))) (chSet h c r n (gSwap p q G)) z) := by
  have hn := hK.hG.1
  refine Sp_in (al := [some (.ref x), some (.int (nI p)), some (.int (nI q))]) ?_
  simp only [s58_0, s58_1, s58_5, s58_6, s58_10, s58_11, s58_14, s58_15, s58_19, ldi_0, ldi_s, ldl_0, ldl_s, ldd_0, ldd_s, lda_0, lda_s, st1_0, st1_1, st2_0, st2_1, sti_0, sti_1, stj_0, stj_1, st1_2, sti_2, st2_2, stj_2, st1_3, sti_3, st2_3, stj_3, st1_4, sti_4, st2_4, stj_4, st1_5, sti_5, st2_5, stj_5, st1_6, sti_6, st2_6, stj_6, st1_7, sti_7, st2_7, stj_7, st1_8, sti_8, st2_8, stj_8, st1_9, sti_9, st2_9, stj_9, kil_n, kil_i, kil_r, kil_l, kil_d, gl_0, gl_s, cat_i, cat_r, true_and]
  refine c58_2r hK.hx (sp_needP_ok hK (pl_nat hn hp)) ?_
  simp only [s58_0, s58_1, s58_5, s58_6, s58_10, s58_11, s58_14, s58_15, s58_19, ldi_0, ldi_s, ldl_0, ldl_s, ldd_0, ldd_s, lda_0, lda_s, st1_0, st1_1, st2_0, st2_1, sti_0, sti_1, stj_0, stj_1, st1_2, sti_2, st2_2, stj_2, st1_3, sti_3, st2_3, stj_3, st1_4, sti_4, st2_4, stj_4, st1_5, sti_5, st2_5, stj_5, st1_6, sti_6, st2_6, stj_6, st1_7, sti_7, st2_7, stj_7, st1_8, sti_8, st2_8, stj_8, st1_9, sti_9, st2_9, stj_9, kil_n, kil_i, kil_r, kil_l, kil_d, gl_0, gl_s, cat_i, cat_r, true_and]
  refine c58_7r hK.hx (sp_needP_ok hK (pl_nat hn hq)) ?_
  simp only [s58_0, s58_1, s58_5, s58_6, s58_10, s58_11, s58_14, s58_15, s58_19, ldi_0, ldi_s, ldl_0, ldl_s, ldd_0, ldd_s, lda_0, lda_s, st1_0, st1_1, st2_0, st2_1, sti_0, sti_1, stj_0, stj_1, st1_2, sti_2, st2_2, stj_2, st1_3, sti_3, st2_3, stj_3, st1_4, sti_4, st2_4, stj_4, st1_5, sti_5, st2_5, stj_5, st1_6, sti_6, st2_6, stj_6, st1_7, sti_7, st2_7, stj_7, st1_8, sti_8, st2_8, stj_8, st1_9, sti_9, st2_9, stj_9, kil_n, kil_i, kil_r, kil_l, kil_d, gl_0, gl_s, cat_i, cat_r, true_and, gf_ob hK.hx]
  refine c58_16r hK.hc.1 (sp_exchange hK.hc hK.hG hp hq) ?_
  simp only [s58_0, s58_1, s58_5, s58_6, s58_10, s58_11, s58_14, s58_15, s58_19, ldi_0, ldi_s, ldl_0, ldl_s, ldd_0, ldd_s, lda_0, lda_s, st1_0, st1_1, st2_0, st2_1, sti_0, sti_1, stj_0, stj_1, st1_2, sti_2, st2_2, stj_2, st1_3, sti_3, st2_3, stj_3, st1_4, sti_4, st2_4, stj_4, st1_5, sti_5, st2_5, stj_5, st1_6, sti_6, st2_6, stj_6, st1_7, sti_7, st2_7, stj_7, st1_8, sti_8, st2_8, stj_8, st1_9, sti_9, st2_9, stj_9, kil_n, kil_i, kil_r, kil_l, kil_d, gl_0, gl_s, cat_i, cat_r, true_and]
  exact ⟨nar_bI _, out_RR⟩
theorem sp_cswap_no (hK : K h x c r c2 r2 n G sn SG) {p q : Int32} (hp : pl n p = false ∨ pl n q = false) : Sp 20 58 [.ref x, .int p, .int q] h z 1 6 (RX 2 h z) := by
  refine Sp_in (al := [some (.ref x), some (.int p), some (.int q)]) ?_
  simp only [s58_0, s58_1, s58_5, s58_6, s58_10, s58_11, s58_14, s58_15, s58_19, ldi_0, ldi_s, ldl_0, ldl_s, ldd_0, ldd_s, lda_0, lda_s, st1_0, st1_1, st2_0, st2_1, sti_0, sti_1, stj_0, stj_1, st1_2, sti_2, st2_2, stj_2, st1_3, sti_3, st2_3, stj_3, st1_4, sti_4, st2_4, stj_4, st1_5, sti_5, st2_5, stj_5, st1_6, sti_6, st2_6, stj_6, st1_7, sti_7, st2_7, stj_7, st1_8, sti_8, st2_8, stj_8, st1_9, sti_9, st2_9, stj_9, kil_n, kil_i, kil_r, kil_l, kil_d, gl_0, gl_s, cat_i, cat_r, true_and]
  by_cases h1 : pl n p = false
  · exact c58_2 hK.hx (sp_needP_no hK h1) (by omega) (by omega) (RX_ret rfl rfl (by omega) (by omega))
  · refine c58_2r hK.hx (sp_needP_ok hK (by simpa using h1)) ?_
    simp only [s58_0, s58_1, s58_5, s58_6, s58_10, s58_11, s58_14, s58_15, s58_19, ldi_0, ldi_s, ldl_0, ldl_s, ldd_0, ldd_s, lda_0, lda_s, st1_0, st1_1, st2_0, st2_1, sti_0, sti_1, stj_0, stj_1, st1_2, sti_2, st2_2, stj_2, st1_3, sti_3, st2_3, stj_3, st1_4, sti_4, st2_4, stj_4, st1_5, sti_5, st2_5, stj_5, st1_6, sti_6, st2_6, stj_6, st1_7, sti_7, st2_7, stj_7, st1_8, sti_8, st2_8, stj_8, st1_9, sti_9, st2_9, stj_9, kil_n, kil_i, kil_r, kil_l, kil_d, gl_0, gl_s, cat_i, cat_r, true_and]
    exact c58_7 hK.hx (sp_needP_no hK (hp.resolve_left h1)) (by omega) (by omega) (RX_ret rfl rfl (by omega) (by omega))
theorem sp_cothers (hK : K h x c r c2 r2 n G sn SG) : Sp 20 62 [.ref x] h z 0 0 (RR (some (.int (nI (ends (gInv n G) n / 2)))) (chSet h c r n (gInv n G)) z) := by
  refine Sp_in (al := [some (.ref x)]) ?_
  simp only [s62_0, s62_1, s62_7, s62_8, s62_14, ldi_0, ldi_s, ldl_0, ldl_s, ldd_0, ldd_s, lda_0, lda_s, st1_0, st1_1, st2_0, st2_1, sti_0, sti_1, stj_0, stj_1, st1_2, sti_2, st2_2, stj_2, st1_3, sti_3, st2_3, stj_3, st1_4, sti_4, st2_4, stj_4, st1_5, sti_5, st2_5, stj_5, st1_6, sti_6, st2_6, stj_6, st1_7, sti_7, st2_7, stj_7, st1_8, sti_8, st2_8, stj_8, st1_9, sti_9, st2_9, stj_9, kil_n, kil_i, kil_r, kil_l, kil_d, gl_0, gl_s, cat_i, cat_r, true_and, gf_ob hK.hx]
  refine c62_4r hK.hc.1 (sp_invert hK.hc hK.hG) ?_
  have k2 := (hK.map (gInv_ok hK.hG)).1
  simp only [s62_0, s62_1, s62_7, s62_8, s62_14, ldi_0, ldi_s, ldl_0, ldl_s, ldd_0, ldd_s, lda_0, lda_s, st1_0, st1_1, st2_0, st2_1, sti_0, sti_1, stj_0, stj_1, st1_2, sti_2, st2_2, stj_2, st1_3, sti_3, st2_3, stj_3, st1_4, sti_4, st2_4, stj_4, st1_5, sti_5, st2_5, stj_5, st1_6, sti_6, st2_6, stj_6, st1_7, sti_7, st2_7, stj_7, st1_8, sti_8, st2_8, stj_8, st1_9, sti_9, st2_9, stj_9, kil_n, kil_i, kil_r, kil_l, kil_d, gl_0, gl_s, cat_i, cat_r, true_and, gf_ob k2.hx]
  refine c62_11r k2.hc.1 (sp_wayCount k2.hc k2.hG) ?_
  simp only [s62_0, s62_1, s62_7, s62_8, s62_14, ldi_0, ldi_s, ldl_0, ldl_s, ldd_0, ldd_s, lda_0, lda_s, st1_0, st1_1, st2_0, st2_1, sti_0, sti_1, stj_0, stj_1, st1_2, sti_2, st2_2, stj_2, st1_3, sti_3, st2_3, stj_3, st1_4, sti_4, st2_4, stj_4, st1_5, sti_5, st2_5, stj_5, st1_6, sti_6, st2_6, stj_6, st1_7, sti_7, st2_7, stj_7, st1_8, sti_8, st2_8, stj_8, st1_9, sti_9, st2_9, stj_9, kil_n, kil_i, kil_r, kil_l, kil_d, gl_0, gl_s, cat_i, cat_r, true_and]
  exact out_RR
theorem K.ne (hK : K h x c r c2 r2 n G sn SG) : c ≠ c2 ∧ r ≠ r2 := by
  have e := hK.two'
  unfold Two at e
  omega
theorem sp_ckeep (hK : K h x c r c2 r2 n G sn SG) : Sp 20 65 [.ref x] h z 0 0 (RR (some (.int (nI sn))) (chSet h c2 r2 n G) z) := by
  refine Sp_in (al := [some (.ref x), none]) ?_
  simp only [s65_0, s65_1, s65_7, s65_8, s65_9, s65_12, s65_13, s65_19, s65_20, ldi_0, ldi_s, ldl_0, ldl_s, ldd_0, ldd_s, lda_0, lda_s, st1_0, st1_1, st2_0, st2_1, sti_0, sti_1, stj_0, stj_1, st1_2, sti_2, st2_2, stj_2, st1_3, sti_3, st2_3, stj_3, st1_4, sti_4, st2_4, stj_4, st1_5, sti_5, st2_5, stj_5, st1_6, sti_6, st2_6, stj_6, st1_7, sti_7, st2_7, stj_7, st1_8, sti_8, st2_8, stj_8, st1_9, sti_9, st2_9, stj_9, kil_n, kil_i, kil_r, kil_l, kil_d, gl_0, gl_s, cat_i, cat_r, true_and, gf_ob hK.hx]
  refine c65_4r hK.hc2.1 (sp_size hK.hc2.1) ?_
  simp only [s65_0, s65_1, s65_7, s65_8, s65_9, s65_12, s65_13, s65_19, s65_20, ldi_0, ldi_s, ldl_0, ldl_s, ldd_0, ldd_s, lda_0, lda_s, st1_0, st1_1, st2_0, st2_1, sti_0, sti_1, stj_0, stj_1, st1_2, sti_2, st2_2, stj_2, st1_3, sti_3, st2_3, stj_3, st1_4, sti_4, st2_4, stj_4, st1_5, sti_5, st2_5, stj_5, st1_6, sti_6, st2_6, stj_6, st1_7, sti_7, st2_7, stj_7, st1_8, sti_8, st2_8, stj_8, st1_9, sti_9, st2_9, stj_9, kil_n, kil_i, kil_r, kil_l, kil_d, gl_0, gl_s, cat_i, cat_r, true_and, gf_ob hK.hx]
  refine c65_16r hK.hc2.1 (sp_copyFrom hK.hc2 hK.hG2 hK.hc hK.hG hK.ne.1 hK.ne.2) ?_
  simp only [s65_0, s65_1, s65_7, s65_8, s65_9, s65_12, s65_13, s65_19, s65_20, ldi_0, ldi_s, ldl_0, ldl_s, ldd_0, ldd_s, lda_0, lda_s, st1_0, st1_1, st2_0, st2_1, sti_0, sti_1, stj_0, stj_1, st1_2, sti_2, st2_2, stj_2, st1_3, sti_3, st2_3, stj_3, st1_4, sti_4, st2_4, stj_4, st1_5, sti_5, st2_5, stj_5, st1_6, sti_6, st2_6, stj_6, st1_7, sti_7, st2_7, stj_7, st1_8, sti_8, st2_8, stj_8, st1_9, sti_9, st2_9, stj_9, kil_n, kil_i, kil_r, kil_l, kil_d, gl_0, gl_s, cat_i, cat_r, true_and]
  exact out_RR
theorem okv_ref (c k a : Nat) (h : okv (aty c k) (.ref a)) : okv (aty c k) (.ref a) := h
theorem sp_cturn (hK : K h x c r c2 r2 n G sn SG) : Sp 20 68 [.ref x] h z 0 0 (RR (some (.int (bI (!gEq sn SG n G)))) (hup h x (coM x c2 c)) z) := by
  have k2 := hK.swap.1
  have hm : ∀ y : AC, hup h x y x = some y := fun y => hup_same
  refine Sp_in (al := [some (.ref x), none]) ?_
  simp only [s68_0, s68_1, s68_4, s68_5, s68_6, s68_7, s68_10, s68_13, s68_14, s68_15, s68_18, s68_19, s68_22, s68_23, s68_29, s68_32, s68_33, s68_36, s68_37, ldi_0, ldi_s, ldl_0, ldl_s, ldd_0, ldd_s, lda_0, lda_s, st1_0, st1_1, st2_0, st2_1, sti_0, sti_1, stj_0, stj_1, st1_2, sti_2, st2_2, stj_2, st1_3, sti_3, st2_3, stj_3, st1_4, sti_4, st2_4, stj_4, st1_5, sti_5, st2_5, stj_5, st1_6, sti_6, st2_6, stj_6, st1_7, sti_7, st2_7, stj_7, st1_8, sti_8, st2_8, stj_8, st1_9, sti_9, st2_9, stj_9, kil_n, kil_i, kil_r, kil_l, kil_d, gl_0, gl_s, cat_i, cat_r, true_and, gf_ob hK.hx]
  rw [pf_ob hK.hx (Nat.le_of_ble_eq_true rfl) (show okv (aty 5 0) (.ref c2) from ⟨rfl, by rfl⟩)]
  rw [pf_ob hup_same (Nat.le_of_ble_eq_true rfl) (show okv (aty 5 1) (.ref c) from ⟨rfl, by rfl⟩), hup_hup]
  rw [show (ob 5 (([Value.ref c, .ref c2, .ref (x + 5), .ref (x + 11), .ref (x + 14), .ref (x + 18), .ref (x + 20), .ref (x + 22), .ref (x + 24), .ref (x + 26), .ref (x + 32)].set 0 (.ref c2)).set 1 (.ref c)) : AC) = coM x c2 c from rfl]
  simp only [s68_0, s68_1, s68_4, s68_5, s68_6, s68_7, s68_10, s68_13, s68_14, s68_15, s68_18, s68_19, s68_22, s68_23, s68_29, s68_32, s68_33, s68_36, s68_37, ldi_0, ldi_s, ldl_0, ldl_s, ldd_0, ldd_s, lda_0, lda_s, st1_0, st1_1, st2_0, st2_1, sti_0, sti_1, stj_0, stj_1, st1_2, sti_2, st2_2, stj_2, st1_3, sti_3, st2_3, stj_3, st1_4, sti_4, st2_4, stj_4, st1_5, sti_5, st2_5, stj_5, st1_6, sti_6, st2_6, stj_6, st1_7, sti_7, st2_7, stj_7, st1_8, sti_8, st2_8, stj_8, st1_9, sti_9, st2_9, stj_9, kil_n, kil_i, kil_r, kil_l, kil_d, gl_0, gl_s, cat_i, cat_r, true_and, gf_ob k2.hx]
  refine c68_26r k2.hc.1 (sp_sameAs k2.hc k2.hG k2.hc2 k2.hG2) ?_
  simp only [s68_0, s68_1, s68_4, s68_5, s68_6, s68_7, s68_10, s68_13, s68_14, s68_15, s68_18, s68_19, s68_22, s68_23, s68_29, s68_32, s68_33, s68_36, s68_37, ldi_0, ldi_s, ldl_0, ldl_s, ldd_0, ldd_s, lda_0, lda_s, st1_0, st1_1, st2_0, st2_1, sti_0, sti_1, stj_0, stj_1, st1_2, sti_2, st2_2, stj_2, st1_3, sti_3, st2_3, stj_3, st1_4, sti_4, st2_4, stj_4, st1_5, sti_5, st2_5, stj_5, st1_6, sti_6, st2_6, stj_6, st1_7, sti_7, st2_7, stj_7, st1_8, sti_8, st2_8, stj_8, st1_9, sti_9, st2_9, stj_9, kil_n, kil_i, kil_r, kil_l, kil_d, gl_0, gl_s, cat_i, cat_r, true_and]
  refine ⟨fun h1 => ?_, fun h1 => ?_⟩
  · rw [bI_0, Bool.not_eq_false] at h1
    exact ⟨by decide, out_eq (by rw [h1]; rfl) rfl rfl⟩
  · rw [bI_0, Decidable.not_not] at h1
    exact ⟨by decide, out_eq (by rw [h1]; rfl) rfl rfl⟩
theorem sp_cbeside (hK : K h x c r c2 r2 n G sn SG) (h9 : n + sn ≤ 9) : Sp 20 72 [.ref x] h z 0 0 (RR (some (.int (nI (n + sn)))) (chSet h c r (n + sn) (gBes n sn G SG)) z) := by
  refine Sp_in (al := [some (.ref x)]) ?_
  simp only [s72_0, s72_1, s72_2, s72_11, s72_12, s72_15, s72_16, s72_22, s72_23, s72_29, ldi_0, ldi_s, ldl_0, ldl_s, ldd_0, ldd_s, lda_0, lda_s, st1_0, st1_1, st2_0, st2_1, sti_0, sti_1, stj_0, stj_1, st1_2, sti_2, st2_2, stj_2, st1_3, sti_3, st2_3, stj_3, st1_4, sti_4, st2_4, stj_4, st1_5, sti_5, st2_5, stj_5, st1_6, sti_6, st2_6, stj_6, st1_7, sti_7, st2_7, stj_7, st1_8, sti_8, st2_8, stj_8, st1_9, sti_9, st2_9, stj_9, kil_n, kil_i, kil_r, kil_l, kil_d, gl_0, gl_s, cat_i, cat_r, true_and, gf_ob hK.hx]
  refine c72_5r hK.hc2.1 (sp_size hK.hc2.1) ?_
  refine c72_8r hK.hx (sp_needR_ok hK h9) ?_
  simp only [s72_0, s72_1, s72_2, s72_11, s72_12, s72_15, s72_16, s72_22, s72_23, s72_29, ldi_0, ldi_s, ldl_0, ldl_s, ldd_0, ldd_s, lda_0, lda_s, st1_0, st1_1, st2_0, st2_1, sti_0, sti_1, stj_0, stj_1, st1_2, sti_2, st2_2, stj_2, st1_3, sti_3, st2_3, stj_3, st1_4, sti_4, st2_4, stj_4, st1_5, sti_5, st2_5, stj_5, st1_6, sti_6, st2_6, stj_6, st1_7, sti_7, st2_7, stj_7, st1_8, sti_8, st2_8, stj_8, st1_9, sti_9, st2_9, stj_9, kil_n, kil_i, kil_r, kil_l, kil_d, gl_0, gl_s, cat_i, cat_r, true_and, gf_ob hK.hx]
  refine c72_19r hK.hc.1 (sp_appendAll hK.hc hK.hG hK.hc2 hK.hG2 hK.ne.1.symm hK.ne.2.symm h9) ?_
  have k2 := (hK.map (gBes_ok hK.hG hK.hG2 h9)).1
  simp only [s72_0, s72_1, s72_2, s72_11, s72_12, s72_15, s72_16, s72_22, s72_23, s72_29, ldi_0, ldi_s, ldl_0, ldl_s, ldd_0, ldd_s, lda_0, lda_s, st1_0, st1_1, st2_0, st2_1, sti_0, sti_1, stj_0, stj_1, st1_2, sti_2, st2_2, stj_2, st1_3, sti_3, st2_3, stj_3, st1_4, sti_4, st2_4, stj_4, st1_5, sti_5, st2_5, stj_5, st1_6, sti_6, st2_6, stj_6, st1_7, sti_7, st2_7, stj_7, st1_8, sti_8, st2_8, stj_8, st1_9, sti_9, st2_9, stj_9, kil_n, kil_i, kil_r, kil_l, kil_d, gl_0, gl_s, cat_i, cat_r, true_and, gf_ob k2.hx]
  refine c72_26r k2.hc.1 (sp_size k2.hc.1) ?_
  simp only [s72_0, s72_1, s72_2, s72_11, s72_12, s72_15, s72_16, s72_22, s72_23, s72_29, ldi_0, ldi_s, ldl_0, ldl_s, ldd_0, ldd_s, lda_0, lda_s, st1_0, st1_1, st2_0, st2_1, sti_0, sti_1, stj_0, stj_1, st1_2, sti_2, st2_2, stj_2, st1_3, sti_3, st2_3, stj_3, st1_4, sti_4, st2_4, stj_4, st1_5, sti_5, st2_5, stj_5, st1_6, sti_6, st2_6, stj_6, st1_7, sti_7, st2_7, stj_7, st1_8, sti_8, st2_8, stj_8, st1_9, sti_9, st2_9, stj_9, kil_n, kil_i, kil_r, kil_l, kil_d, gl_0, gl_s, cat_i, cat_r, true_and]
  exact out_RR
theorem sp_cbeside_no (hK : K h x c r c2 r2 n G sn SG) (h9 : 9 < n + sn) : Sp 20 72 [.ref x] h z 1 6 (RX 1 h z) := by
  refine Sp_in (al := [some (.ref x)]) ?_
  simp only [s72_0, s72_1, s72_2, s72_11, s72_12, s72_15, s72_16, s72_22, s72_23, s72_29, ldi_0, ldi_s, ldl_0, ldl_s, ldd_0, ldd_s, lda_0, lda_s, st1_0, st1_1, st2_0, st2_1, sti_0, sti_1, stj_0, stj_1, st1_2, sti_2, st2_2, stj_2, st1_3, sti_3, st2_3, stj_3, st1_4, sti_4, st2_4, stj_4, st1_5, sti_5, st2_5, stj_5, st1_6, sti_6, st2_6, stj_6, st1_7, sti_7, st2_7, stj_7, st1_8, sti_8, st2_8, stj_8, st1_9, sti_9, st2_9, stj_9, kil_n, kil_i, kil_r, kil_l, kil_d, gl_0, gl_s, cat_i, cat_r, true_and, gf_ob hK.hx]
  refine c72_5r hK.hc2.1 (sp_size hK.hc2.1) ?_
  exact c72_8 hK.hx (sp_needR_no hK h9 hK.hG2.1) (by omega) (by omega) (RX_ret rfl rfl (by omega) (by omega))
theorem sp_cplaces (hK : K h x c r c2 r2 n G sn SG) : Sp 20 75 [.ref x] h z 0 0 (RR (some (.int (nI n))) h z) := by
  refine Sp_in (al := [some (.ref x)]) ?_
  simp only [s75_0, s75_1, s75_7, ldi_0, ldi_s, ldl_0, ldl_s, ldd_0, ldd_s, lda_0, lda_s, st1_0, st1_1, st2_0, st2_1, sti_0, sti_1, stj_0, stj_1, st1_2, sti_2, st2_2, stj_2, st1_3, sti_3, st2_3, stj_3, st1_4, sti_4, st2_4, stj_4, st1_5, sti_5, st2_5, stj_5, st1_6, sti_6, st2_6, stj_6, st1_7, sti_7, st2_7, stj_7, st1_8, sti_8, st2_8, stj_8, st1_9, sti_9, st2_9, stj_9, kil_n, kil_i, kil_r, kil_l, kil_d, gl_0, gl_s, cat_i, cat_r, true_and, gf_ob hK.hx]
  refine c75_4r hK.hc.1 (sp_size hK.hc.1) ?_
  simp only [s75_0, s75_1, s75_7, ldi_0, ldi_s, ldl_0, ldl_s, ldd_0, ldd_s, lda_0, lda_s, st1_0, st1_1, st2_0, st2_1, sti_0, sti_1, stj_0, stj_1, st1_2, sti_2, st2_2, stj_2, st1_3, sti_3, st2_3, stj_3, st1_4, sti_4, st2_4, stj_4, st1_5, sti_5, st2_5, stj_5, st1_6, sti_6, st2_6, stj_6, st1_7, sti_7, st2_7, stj_7, st1_8, sti_8, st2_8, stj_8, st1_9, sti_9, st2_9, stj_9, kil_n, kil_i, kil_r, kil_l, kil_d, gl_0, gl_s, cat_i, cat_r, true_and]
  exact out_RR
theorem sp_cways (hK : K h x c r c2 r2 n G sn SG) : Sp 20 77 [.ref x] h z 0 0 (RR (some (.int (nI (ends G n / 2)))) h z) := by
  refine Sp_in (al := [some (.ref x)]) ?_
  simp only [s77_0, s77_1, s77_7, ldi_0, ldi_s, ldl_0, ldl_s, ldd_0, ldd_s, lda_0, lda_s, st1_0, st1_1, st2_0, st2_1, sti_0, sti_1, stj_0, stj_1, st1_2, sti_2, st2_2, stj_2, st1_3, sti_3, st2_3, stj_3, st1_4, sti_4, st2_4, stj_4, st1_5, sti_5, st2_5, stj_5, st1_6, sti_6, st2_6, stj_6, st1_7, sti_7, st2_7, stj_7, st1_8, sti_8, st2_8, stj_8, st1_9, sti_9, st2_9, stj_9, kil_n, kil_i, kil_r, kil_l, kil_d, gl_0, gl_s, cat_i, cat_r, true_and, gf_ob hK.hx]
  refine c77_4r hK.hc.1 (sp_wayCount hK.hc hK.hG) ?_
  simp only [s77_0, s77_1, s77_7, ldi_0, ldi_s, ldl_0, ldl_s, ldd_0, ldd_s, lda_0, lda_s, st1_0, st1_1, st2_0, st2_1, sti_0, sti_1, stj_0, stj_1, st1_2, sti_2, st2_2, stj_2, st1_3, sti_3, st2_3, stj_3, st1_4, sti_4, st2_4, stj_4, st1_5, sti_5, st2_5, stj_5, st1_6, sti_6, st2_6, stj_6, st1_7, sti_7, st2_7, stj_7, st1_8, sti_8, st2_8, stj_8, st1_9, sti_9, st2_9, stj_9, kil_n, kil_i, kil_r, kil_l, kil_d, gl_0, gl_s, cat_i, cat_r, true_and]
  exact out_RR
theorem sp_cisWay (hK : K h x c r c2 r2 n G sn SG) {p q : Nat} (hp : p < n) (hq : q < n) : Sp 20 79 [.ref x, .int (nI p), .int (nI q)] h z 0 0 (RR (some (.int (bI (G p q)))) h z) := by
  have hn := hK.hG.1
  refine Sp_in (al := [some (.ref x), some (.int (nI p)), some (.int (nI q))]) ?_
  simp only [s79_0, s79_1, s79_5, s79_6, s79_10, s79_11, s79_14, s79_15, s79_19, ldi_0, ldi_s, ldl_0, ldl_s, ldd_0, ldd_s, lda_0, lda_s, st1_0, st1_1, st2_0, st2_1, sti_0, sti_1, stj_0, stj_1, st1_2, sti_2, st2_2, stj_2, st1_3, sti_3, st2_3, stj_3, st1_4, sti_4, st2_4, stj_4, st1_5, sti_5, st2_5, stj_5, st1_6, sti_6, st2_6, stj_6, st1_7, sti_7, st2_7, stj_7, st1_8, sti_8, st2_8, stj_8, st1_9, sti_9, st2_9, stj_9, kil_n, kil_i, kil_r, kil_l, kil_d, gl_0, gl_s, cat_i, cat_r, true_and]
  refine c79_2r hK.hx (sp_needP_ok hK (pl_nat hn hp)) ?_
  simp only [s79_0, s79_1, s79_5, s79_6, s79_10, s79_11, s79_14, s79_15, s79_19, ldi_0, ldi_s, ldl_0, ldl_s, ldd_0, ldd_s, lda_0, lda_s, st1_0, st1_1, st2_0, st2_1, sti_0, sti_1, stj_0, stj_1, st1_2, sti_2, st2_2, stj_2, st1_3, sti_3, st2_3, stj_3, st1_4, sti_4, st2_4, stj_4, st1_5, sti_5, st2_5, stj_5, st1_6, sti_6, st2_6, stj_6, st1_7, sti_7, st2_7, stj_7, st1_8, sti_8, st2_8, stj_8, st1_9, sti_9, st2_9, stj_9, kil_n, kil_i, kil_r, kil_l, kil_d, gl_0, gl_s, cat_i, cat_r, true_and]
  refine c79_7r hK.hx (sp_needP_ok hK (pl_nat hn hq)) ?_
  simp only [s79_0, s79_1, s79_5, s79_6, s79_10, s79_11, s79_14, s79_15, s79_19, ldi_0, ldi_s, ldl_0, ldl_s, ldd_0, ldd_s, lda_0, lda_s, st1_0, st1_1, st2_0, st2_1, sti_0, sti_1, stj_0, stj_1, st1_2, sti_2, st2_2, stj_2, st1_3, sti_3, st2_3, stj_3, st1_4, sti_4, st2_4, stj_4, st1_5, sti_5, st2_5, stj_5, st1_6, sti_6, st2_6, stj_6, st1_7, sti_7, st2_7, stj_7, st1_8, sti_8, st2_8, stj_8, st1_9, sti_9, st2_9, stj_9, kil_n, kil_i, kil_r, kil_l, kil_d, gl_0, gl_s, cat_i, cat_r, true_and, gf_ob hK.hx]
  refine c79_16r hK.hc.1 (sp_joined hK.hc hK.hG hp hq) ?_
  simp only [s79_0, s79_1, s79_5, s79_6, s79_10, s79_11, s79_14, s79_15, s79_19, ldi_0, ldi_s, ldl_0, ldl_s, ldd_0, ldd_s, lda_0, lda_s, st1_0, st1_1, st2_0, st2_1, sti_0, sti_1, stj_0, stj_1, st1_2, sti_2, st2_2, stj_2, st1_3, sti_3, st2_3, stj_3, st1_4, sti_4, st2_4, stj_4, st1_5, sti_5, st2_5, stj_5, st1_6, sti_6, st2_6, stj_6, st1_7, sti_7, st2_7, stj_7, st1_8, sti_8, st2_8, stj_8, st1_9, sti_9, st2_9, stj_9, kil_n, kil_i, kil_r, kil_l, kil_d, gl_0, gl_s, cat_i, cat_r, true_and]
  exact ⟨nar_bI _, out_RR⟩
theorem sp_cisWay_no (hK : K h x c r c2 r2 n G sn SG) {p q : Int32} (hp : pl n p = false ∨ pl n q = false) : Sp 20 79 [.ref x, .int p, .int q] h z 1 6 (RX 2 h z) := by
  refine Sp_in (al := [some (.ref x), some (.int p), some (.int q)]) ?_
  simp only [s79_0, s79_1, s79_5, s79_6, s79_10, s79_11, s79_14, s79_15, s79_19, ldi_0, ldi_s, ldl_0, ldl_s, ldd_0, ldd_s, lda_0, lda_s, st1_0, st1_1, st2_0, st2_1, sti_0, sti_1, stj_0, stj_1, st1_2, sti_2, st2_2, stj_2, st1_3, sti_3, st2_3, stj_3, st1_4, sti_4, st2_4, stj_4, st1_5, sti_5, st2_5, stj_5, st1_6, sti_6, st2_6, stj_6, st1_7, sti_7, st2_7, stj_7, st1_8, sti_8, st2_8, stj_8, st1_9, sti_9, st2_9, stj_9, kil_n, kil_i, kil_r, kil_l, kil_d, gl_0, gl_s, cat_i, cat_r, true_and]
  by_cases h1 : pl n p = false
  · exact c79_2 hK.hx (sp_needP_no hK h1) (by omega) (by omega) (RX_ret rfl rfl (by omega) (by omega))
  · refine c79_2r hK.hx (sp_needP_ok hK (by simpa using h1)) ?_
    simp only [s79_0, s79_1, s79_5, s79_6, s79_10, s79_11, s79_14, s79_15, s79_19, ldi_0, ldi_s, ldl_0, ldl_s, ldd_0, ldd_s, lda_0, lda_s, st1_0, st1_1, st2_0, st2_1, sti_0, sti_1, stj_0, stj_1, st1_2, sti_2, st2_2, stj_2, st1_3, sti_3, st2_3, stj_3, st1_4, sti_4, st2_4, stj_4, st1_5, sti_5, st2_5, stj_5, st1_6, sti_6, st2_6, stj_6, st1_7, sti_7, st2_7, stj_7, st1_8, sti_8, st2_8, stj_8, st1_9, sti_9, st2_9, stj_9, kil_n, kil_i, kil_r, kil_l, kil_d, gl_0, gl_s, cat_i, cat_r, true_and]
    exact c79_7 hK.hx (sp_needP_no hK (hp.resolve_left h1)) (by omega) (by omega) (RX_ret rfl rfl (by omega) (by omega))
theorem sp_cdegree (hK : K h x c r c2 r2 n G sn SG) {p : Nat} (hp : p < n) : Sp 20 82 [.ref x, .int (nI p)] h z 0 0 (RR (some (.int (nI (cnt (G p) 9)))) h z) := by
  refine Sp_in (al := [some (.ref x), some (.int (nI p))]) ?_
  simp only [s82_0, s82_1, s82_5, s82_6, s82_9, s82_16, ldi_0, ldi_s, ldl_0, ldl_s, ldd_0, ldd_s, lda_0, lda_s, st1_0, st1_1, st2_0, st2_1, sti_0, sti_1, stj_0, stj_1, st1_2, sti_2, st2_2, stj_2, st1_3, sti_3, st2_3, stj_3, st1_4, sti_4, st2_4, stj_4, st1_5, sti_5, st2_5, stj_5, st1_6, sti_6, st2_6, stj_6, st1_7, sti_7, st2_7, stj_7, st1_8, sti_8, st2_8, stj_8, st1_9, sti_9, st2_9, stj_9, kil_n, kil_i, kil_r, kil_l, kil_d, gl_0, gl_s, cat_i, cat_r, true_and]
  refine c82_2r hK.hx (sp_needP_ok hK (pl_nat hK.hG.1 hp)) ?_
  simp only [s82_0, s82_1, s82_5, s82_6, s82_9, s82_16, ldi_0, ldi_s, ldl_0, ldl_s, ldd_0, ldd_s, lda_0, lda_s, st1_0, st1_1, st2_0, st2_1, sti_0, sti_1, stj_0, stj_1, st1_2, sti_2, st2_2, stj_2, st1_3, sti_3, st2_3, stj_3, st1_4, sti_4, st2_4, stj_4, st1_5, sti_5, st2_5, stj_5, st1_6, sti_6, st2_6, stj_6, st1_7, sti_7, st2_7, stj_7, st1_8, sti_8, st2_8, stj_8, st1_9, sti_9, st2_9, stj_9, kil_n, kil_i, kil_r, kil_l, kil_d, gl_0, gl_s, cat_i, cat_r, true_and, gf_ob hK.hx]
  refine c82_10r hK.hc.1 (sp_near hK.hc hK.hG hp) ?_
  refine c82_13r (sp_bitCount (mk9 _)) ?_
  simp only [s82_0, s82_1, s82_5, s82_6, s82_9, s82_16, ldi_0, ldi_s, ldl_0, ldl_s, ldd_0, ldd_s, lda_0, lda_s, st1_0, st1_1, st2_0, st2_1, sti_0, sti_1, stj_0, stj_1, st1_2, sti_2, st2_2, stj_2, st1_3, sti_3, st2_3, stj_3, st1_4, sti_4, st2_4, stj_4, st1_5, sti_5, st2_5, stj_5, st1_6, sti_6, st2_6, stj_6, st1_7, sti_7, st2_7, stj_7, st1_8, sti_8, st2_8, stj_8, st1_9, sti_9, st2_9, stj_9, kil_n, kil_i, kil_r, kil_l, kil_d, gl_0, gl_s, cat_i, cat_r, true_and]
  exact out_eq (by rw [ones_mk]) rfl rfl
theorem sp_cdegree_no (hK : K h x c r c2 r2 n G sn SG) {p : Int32} (hp : pl n p = false) : Sp 20 82 [.ref x, .int p] h z 1 6 (RX 2 h z) := by
  refine Sp_in (al := [some (.ref x), some (.int p)]) ?_
  simp only [s82_0, s82_1, s82_5, s82_6, s82_9, s82_16, ldi_0, ldi_s, ldl_0, ldl_s, ldd_0, ldd_s, lda_0, lda_s, st1_0, st1_1, st2_0, st2_1, sti_0, sti_1, stj_0, stj_1, st1_2, sti_2, st2_2, stj_2, st1_3, sti_3, st2_3, stj_3, st1_4, sti_4, st2_4, stj_4, st1_5, sti_5, st2_5, stj_5, st1_6, sti_6, st2_6, stj_6, st1_7, sti_7, st2_7, stj_7, st1_8, sti_8, st2_8, stj_8, st1_9, sti_9, st2_9, stj_9, kil_n, kil_i, kil_r, kil_l, kil_d, gl_0, gl_s, cat_i, cat_r, true_and]
  exact c82_2 hK.hx (sp_needP_no hK hp) (by omega) (by omega) (RX_ret rfl rfl (by omega) (by omega))
end CM
