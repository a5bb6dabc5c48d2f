/-! Colourmap: what the map tells -/
/-- the least number from n - j on, below n, that g holds of -/
def nxt (g : Nat → Bool) (n : Nat) : Nat → Int32
  | 0 => -1
  | j + 1 => if g (n - (j + 1)) then nI (n - (j + 1)) else nxt g n j
def prv (g : Nat → Bool) : Nat → Int32
  | 0 => -1
  | j + 1 => if g j then nI j else prv g j
theorem prt_le {G : Nat → Nat → Bool} (j : Nat) : ∀ (p u : Nat) (P : Nat → Nat) (m : Nat), u + j ≤ 9 → prt G j p u P m ≤ 10 ^ j := by
  induction j with
  | zero =>
    intro p u P m h
    show (if m = u then 1 else 0) ≤ 1
    split <;> omega
  | succ j ih =>
    intro p u P m h
    have hs : ∀ (f : Nat → Nat → Nat) (B : Nat), (∀ s, f s m ≤ B) → ∀ k, sumV f k m ≤ k * B := by
      intro f B hf k
      induction k with
      | zero => exact Nat.zero_le _
      | succ k ihk =>
        show sumV f k m + f k m ≤ (k + 1) * B
        have := hf k
        rw [Nat.succ_mul]
        omega
    show sumV _ u m + prt G j (p + 1) (u + 1) _ m ≤ 10 ^ (j + 1)
    have h1 := ih (p + 1) (u + 1) (updN P u (2 ^ p)) m (by omega)
    have h2 := hs (fun s m => if P s &&& rowsN G p = 0 then prt G j (p + 1) u (updN P s (P s ||| 2 ^ p)) m else 0) (10 ^ j) (by
      intro s
      split
      · exact ih _ _ _ _ (by omega)
      · exact Nat.zero_le _) u
    have h3 : (u + 1) * 10 ^ j ≤ 10 * 10 ^ j := Nat.mul_le_mul_right _ (by omega)
    rw [Nat.succ_mul] at h3
    rw [Nat.pow_succ, Nat.mul_comm (10 ^ j) 10]
    exact Nat.le_trans (Nat.add_le_add h2 h1) h3
theorem ptn_lt {n : Nat} {G : Nat → Nat → Bool} (hn : n ≤ 9) (q : Nat) : ptn n G q < 2 ^ 31 := by
  have h1 := prt_le (G := G) n 0 0 (fun _ => 0) q (by omega)
  have h2 : 10 ^ n ≤ 10 ^ 9 := Nat.pow_le_pow_right (by decide) hn
  exact Nat.lt_of_le_of_lt (Nat.le_trans h1 h2) (by decide)
/-- the value's parts: from the factor below j on -/
def evl (F : Nat → Int64) (k : Int32) : Nat → (Nat → Int64) → (Nat → Int64)
  | 0, W => W
  | j + 1, W => evl F k j (plF (tmF W k) (F j))
theorem stg_big {P D : Nat → Int64} (hz : ∀ q, 10 ≤ q → P q = 0) : ∀ q, 10 ≤ q → stg P D 10 q = 0 := by
  intro q hq
  unfold stg
  rw [if_neg (by omega)]
  exact hz q hq
theorem tmF_big {P : Nat → Int64} {k : Int32} (hz : ∀ q, 10 ≤ q → P q = 0) : ∀ q, 10 ≤ q → tmF P k q = 0 := by
  intro q hq
  unfold tmF
  split
  · exact stg_big hz q hq
  · exact stg_big (stg_big (stg_big hz)) q hq
theorem ngF_big {P : Nat → Int64} (hz : ∀ q, 10 ≤ q → P q = 0) : ∀ q, 10 ≤ q → ngF P q = 0 := fun q hq => stg_big (stg_big hz) q hq
theorem evl_big {F : Nat → Int64} {k : Int32} (j : Nat) : ∀ W : Nat → Int64, (∀ q, 10 ≤ q → W q = 0) → ∀ q, 10 ≤ q → evl F k j W q = 0 := by
  induction j with
  | zero => exact fun W hz => hz
  | succ j ih => exact fun W hz => ih _ (stg_big (tmF_big hz))
theorem stg_z {P : Nat → Int64} (hz : ∀ q, 10 ≤ q → P q = 0) : stg P (fun _ => 0) 10 = fun _ => 0 := by
  funext q
  unfold stg
  split
  · rfl
  · exact hz q (by omega)
def evW (n : Nat) (G : Nat → Nat → Bool) (k : Int32) : Nat → Int64 := evl (mlt (ptn n G) n n) k (n + 1) (fun _ => 0)
def dSg (P : Nat → Int64) : Nat → Int64 := if wneg P then ngF P else P
def dvI (P : Nat → Int64) : Nat → Nat → Int64
  | 0 => P
  | i + 1 => dvF (dvI P i)
theorem FP_mean : ∀ n, n < 10 → n ≠ 0 → ∀ w, w < 41 → vf_n64 (FP.ddiv (FP.i2d (nI 2 * nI w)) (FP.i2d (nI n))) := by
  unfold vf_n64
  decide +kernel
section CM2
variable {h : AH} {x c r c2 r2 n sn z : Nat} {G SG : Nat → Nat → Bool}
theorem sp_cnext (hK : K h x c r c2 r2 n G sn SG) {p f : Nat} (hp : p < n) (hf : f < 2 ^ 31) : Sp 20 85 [.ref x, .int (nI p), .int (nI f)] h z 0 0 (RR (some (.int (nxt (G p) n (n - f)))) h z) := by
  have hn := hK.hG.1
  refine Sp_in (al := [some (.ref x), some (.int (nI p)), some (.int (nI f)), none]) ?_
  simp only [s85_0, s85_1, s85_5, s85_6, s85_7, s85_11, s85_12, s85_14, s85_15, s85_21, s85_24, s85_25, s85_28, s85_29, s85_33, s85_36, s85_37, s85_38, s85_41, s85_44, s85_45, ldi_0, ldi_s, ldl_0, ldl_s, ldd_0, ldd_s, lda_0, lda_s, st1_0, st1_1, st2_0, st2_1, sti_0, sti_1, stj_0, stj_1, st1_2, sti_2, st2_2, stj_2, st1_3, sti_3, st2_3, stj_3, st1_4, sti_4, st2_4, stj_4, st1_5, sti_5, st2_5, stj_5, st1_6, sti_6, st2_6, stj_6, st1_7, sti_7, st2_7, stj_7, st1_8, sti_8, st2_8, stj_8, st1_9, sti_9, st2_9, stj_9, kil_n, kil_i, kil_r, kil_l, kil_d, gl_0, gl_s, cat_i, cat_r, true_and]
  refine c85_2r hK.hx (sp_needP_ok hK (pl_nat hn hp)) ?_
  simp only [s85_0, s85_1, s85_5, s85_6, s85_7, s85_11, s85_12, s85_14, s85_15, s85_21, s85_24, s85_25, s85_28, s85_29, s85_33, s85_36, s85_37, s85_38, s85_41, s85_44, s85_45, ldi_0, ldi_s, ldl_0, ldl_s, ldd_0, ldd_s, lda_0, lda_s, st1_0, st1_1, st2_0, st2_1, sti_0, sti_1, stj_0, stj_1, st1_2, sti_2, st2_2, stj_2, st1_3, sti_3, st2_3, stj_3, st1_4, sti_4, st2_4, stj_4, st1_5, sti_5, st2_5, stj_5, st1_6, sti_6, st2_6, stj_6, st1_7, sti_7, st2_7, stj_7, st1_8, sti_8, st2_8, stj_8, st1_9, sti_9, st2_9, stj_9, kil_n, kil_i, kil_r, kil_l, kil_d, gl_0, gl_s, cat_i, cat_r, true_and]
  refine c85_8r hK.hx (sp_needN_ok (nI_pos' hf)) ?_
  simp only [s85_0, s85_1, s85_5, s85_6, s85_7, s85_11, s85_12, s85_14, s85_15, s85_21, s85_24, s85_25, s85_28, s85_29, s85_33, s85_36, s85_37, s85_38, s85_41, s85_44, s85_45, ldi_0, ldi_s, ldl_0, ldl_s, ldd_0, ldd_s, lda_0, lda_s, st1_0, st1_1, st2_0, st2_1, sti_0, sti_1, stj_0, stj_1, st1_2, sti_2, st2_2, stj_2, st1_3, sti_3, st2_3, stj_3, st1_4, sti_4, st2_4, stj_4, st1_5, sti_5, st2_5, stj_5, st1_6, sti_6, st2_6, stj_6, st1_7, sti_7, st2_7, stj_7, st1_8, sti_8, st2_8, stj_8, st1_9, sti_9, st2_9, stj_9, kil_n, kil_i, kil_r, kil_l, kil_d, gl_0, gl_s, cat_i, cat_r, true_and]
  have key : ∀ j q, q + j = n → nxt (G p) n (n - f) = nxt (G p) n j → aW (Sp 19) 85 0 0 (RR (some (.int (nxt (G p) n (n - f)))) h z) 13 [some (.ref x), some (.int (nI p)), some (.int (nI f)), some (.int (nI q))] [] h z 0 0 := by
    intro j
    induction j with
    | zero =>
      intro q hq e
      rw [s85_13]
      simp only [s85_0, s85_1, s85_5, s85_6, s85_7, s85_11, s85_12, s85_14, s85_15, s85_21, s85_24, s85_25, s85_28, s85_29, s85_33, s85_36, s85_37, s85_38, s85_41, s85_44, s85_45, ldi_0, ldi_s, ldl_0, ldl_s, ldd_0, ldd_s, lda_0, lda_s, st1_0, st1_1, st2_0, st2_1, sti_0, sti_1, stj_0, stj_1, st1_2, sti_2, st2_2, stj_2, st1_3, sti_3, st2_3, stj_3, st1_4, sti_4, st2_4, stj_4, st1_5, sti_5, st2_5, stj_5, st1_6, sti_6, st2_6, stj_6, st1_7, sti_7, st2_7, stj_7, st1_8, sti_8, st2_8, stj_8, st1_9, sti_9, st2_9, stj_9, kil_n, kil_i, kil_r, kil_l, kil_d, gl_0, gl_s, cat_i, cat_r, true_and, gf_ob hK.hx]
      refine c85_18r hK.hc.1 (sp_size hK.hc.1) ?_
      simp only [s85_0, s85_1, s85_5, s85_6, s85_7, s85_11, s85_12, s85_14, s85_15, s85_21, s85_24, s85_25, s85_28, s85_29, s85_33, s85_36, s85_37, s85_38, s85_41, s85_44, s85_45, ldi_0, ldi_s, ldl_0, ldl_s, ldd_0, ldd_s, lda_0, lda_s, st1_0, st1_1, st2_0, st2_1, sti_0, sti_1, stj_0, stj_1, st1_2, sti_2, st2_2, stj_2, st1_3, sti_3, st2_3, stj_3, st1_4, sti_4, st2_4, stj_4, st1_5, sti_5, st2_5, stj_5, st1_6, sti_6, st2_6, stj_6, st1_7, sti_7, st2_7, stj_7, st1_8, sti_8, st2_8, stj_8, st1_9, sti_9, st2_9, stj_9, kil_n, kil_i, kil_r, kil_l, kil_d, gl_0, gl_s, cat_i, cat_r, true_and]
      rw [br_1 (nI_le (by omega) (by omega)), e]
      exact out_RR
    | succ j ih =>
      intro q hq e
      have e2 : nxt (G p) n (j + 1) = if G p (n - (j + 1)) then nI (n - (j + 1)) else nxt (G p) n j := rfl
      rw [show n - (j + 1) = q by omega] at e2
      rw [s85_13]
      simp only [s85_0, s85_1, s85_5, s85_6, s85_7, s85_11, s85_12, s85_14, s85_15, s85_21, s85_24, s85_25, s85_28, s85_29, s85_33, s85_36, s85_37, s85_38, s85_41, s85_44, s85_45, ldi_0, ldi_s, ldl_0, ldl_s, ldd_0, ldd_s, lda_0, lda_s, st1_0, st1_1, st2_0, st2_1, sti_0, sti_1, stj_0, stj_1, st1_2, sti_2, st2_2, stj_2, st1_3, sti_3, st2_3, stj_3, st1_4, sti_4, st2_4, stj_4, st1_5, sti_5, st2_5, stj_5, st1_6, sti_6, st2_6, stj_6, st1_7, sti_7, st2_7, stj_7, st1_8, sti_8, st2_8, stj_8, st1_9, sti_9, st2_9, stj_9, kil_n, kil_i, kil_r, kil_l, kil_d, gl_0, gl_s, cat_i, cat_r, true_and, gf_ob hK.hx]
      refine c85_18r hK.hc.1 (sp_size hK.hc.1) ?_
      simp only [s85_0, s85_1, s85_5, s85_6, s85_7, s85_11, s85_12, s85_14, s85_15, s85_21, s85_24, s85_25, s85_28, s85_29, s85_33, s85_36, s85_37, s85_38, s85_41, s85_44, s85_45, ldi_0, ldi_s, ldl_0, ldl_s, ldd_0, ldd_s, lda_0, lda_s, st1_0, st1_1, st2_0, st2_1, sti_0, sti_1, stj_0, stj_1, st1_2, sti_2, st2_2, stj_2, st1_3, sti_3, st2_3, stj_3, st1_4, sti_4, st2_4, stj_4, st1_5, sti_5, st2_5, stj_5, st1_6, sti_6, st2_6, stj_6, st1_7, sti_7, st2_7, stj_7, st1_8, sti_8, st2_8, stj_8, st1_9, sti_9, st2_9, stj_9, kil_n, kil_i, kil_r, kil_l, kil_d, gl_0, gl_s, cat_i, cat_r, true_and, gf_ob hK.hx]
      rw [br_0 (nI_ge (show q < n by omega) (by omega))]
      refine c85_30r hK.hc.1 (sp_joined hK.hc hK.hG hp (by omega)) ?_
      simp only [s85_0, s85_1, s85_5, s85_6, s85_7, s85_11, s85_12, s85_14, s85_15, s85_21, s85_24, s85_25, s85_28, s85_29, s85_33, s85_36, s85_37, s85_38, s85_41, s85_44, s85_45, ldi_0, ldi_s, ldl_0, ldl_s, ldd_0, ldd_s, lda_0, lda_s, st1_0, st1_1, st2_0, st2_1, sti_0, sti_1, stj_0, stj_1, st1_2, sti_2, st2_2, stj_2, st1_3, sti_3, st2_3, stj_3, st1_4, sti_4, st2_4, stj_4, st1_5, sti_5, st2_5, stj_5, st1_6, sti_6, st2_6, stj_6, st1_7, sti_7, st2_7, stj_7, st1_8, sti_8, st2_8, stj_8, st1_9, sti_9, st2_9, stj_9, kil_n, kil_i, kil_r, kil_l, kil_d, gl_0, gl_s, cat_i, cat_r, true_and]
      refine ⟨fun h1 => ?_, fun h1 => ?_⟩
      · rw [bI_0] at h1
        rw [nI_1]
        exact ih (q + 1) (by omega) (by rw [e, e2, h1]; rfl)
      · rw [bI_0, Bool.not_eq_false] at h1
        exact out_eq (by rw [e, e2, h1]; rfl) rfl rfl
  by_cases hfn : f ≤ n
  · exact key (n - f) f (by omega) rfl
  · rw [s85_13]
    simp only [s85_0, s85_1, s85_5, s85_6, s85_7, s85_11, s85_12, s85_14, s85_15, s85_21, s85_24, s85_25, s85_28, s85_29, s85_33, s85_36, s85_37, s85_38, s85_41, s85_44, s85_45, ldi_0, ldi_s, ldl_0, ldl_s, ldd_0, ldd_s, lda_0, lda_s, st1_0, st1_1, st2_0, st2_1, sti_0, sti_1, stj_0, stj_1, st1_2, sti_2, st2_2, stj_2, st1_3, sti_3, st2_3, stj_3, st1_4, sti_4, st2_4, stj_4, st1_5, sti_5, st2_5, stj_5, st1_6, sti_6, st2_6, stj_6, st1_7, sti_7, st2_7, stj_7, st1_8, sti_8, st2_8, stj_8, st1_9, sti_9, st2_9, stj_9, kil_n, kil_i, kil_r, kil_l, kil_d, gl_0, gl_s, cat_i, cat_r, true_and, gf_ob hK.hx]
    refine c85_18r hK.hc.1 (sp_size hK.hc.1) ?_
    simp only [s85_0, s85_1, s85_5, s85_6, s85_7, s85_11, s85_12, s85_14, s85_15, s85_21, s85_24, s85_25, s85_28, s85_29, s85_33, s85_36, s85_37, s85_38, s85_41, s85_44, s85_45, ldi_0, ldi_s, ldl_0, ldl_s, ldd_0, ldd_s, lda_0, lda_s, st1_0, st1_1, st2_0, st2_1, sti_0, sti_1, stj_0, stj_1, st1_2, sti_2, st2_2, stj_2, st1_3, sti_3, st2_3, stj_3, st1_4, sti_4, st2_4, stj_4, st1_5, sti_5, st2_5, stj_5, st1_6, sti_6, st2_6, stj_6, st1_7, sti_7, st2_7, stj_7, st1_8, sti_8, st2_8, stj_8, st1_9, sti_9, st2_9, stj_9, kil_n, kil_i, kil_r, kil_l, kil_d, gl_0, gl_s, cat_i, cat_r, true_and]
    rw [br_1 (nI_le (by omega) hf), show n - f = 0 by omega]
    exact out_RR
theorem sp_cnext_no (hK : K h x c r c2 r2 n G sn SG) {p f : Int32} (hp : pl n p = false ∨ ¬ 0 ≤ f) : Sp 20 85 [.ref x, .int p, .int f] h z 1 6 (RX 2 h z) := by
  refine Sp_in (al := [some (.ref x), some (.int p), some (.int f), none]) ?_
  simp only [s85_0, s85_1, s85_5, s85_6, s85_7, s85_11, s85_12, s85_14, s85_15, s85_21, s85_24, s85_25, s85_28, s85_29, s85_33, s85_36, s85_37, s85_38, s85_41, s85_44, s85_45, ldi_0, ldi_s, ldl_0, ldl_s, ldd_0, ldd_s, lda_0, lda_s, st1_0, st1_1, st2_0, st2_1, sti_0, sti_1, stj_0, stj_1, st1_2, sti_2, st2_2, stj_2, st1_3, sti_3, st2_3, stj_3, st1_4, sti_4, st2_4, stj_4, st1_5, sti_5, st2_5, stj_5, st1_6, sti_6, st2_6, stj_6, st1_7, sti_7, st2_7, stj_7, st1_8, sti_8, st2_8, stj_8, st1_9, sti_9, st2_9, stj_9, kil_n, kil_i, kil_r, kil_l, kil_d, gl_0, gl_s, cat_i, cat_r, true_and]
  by_cases h1 : pl n p = false
  · exact c85_2 hK.hx (sp_needP_no hK h1) (by omega) (by omega) (RX_ret rfl rfl (by omega) (by omega))
  · refine c85_2r hK.hx (sp_needP_ok hK (by simpa using h1)) ?_
    simp only [s85_0, s85_1, s85_5, s85_6, s85_7, s85_11, s85_12, s85_14, s85_15, s85_21, s85_24, s85_25, s85_28, s85_29, s85_33, s85_36, s85_37, s85_38, s85_41, s85_44, s85_45, ldi_0, ldi_s, ldl_0, ldl_s, ldd_0, ldd_s, lda_0, lda_s, st1_0, st1_1, st2_0, st2_1, sti_0, sti_1, stj_0, stj_1, st1_2, sti_2, st2_2, stj_2, st1_3, sti_3, st2_3, stj_3, st1_4, sti_4, st2_4, stj_4, st1_5, sti_5, st2_5, stj_5, st1_6, sti_6, st2_6, stj_6, st1_7, sti_7, st2_7, stj_7, st1_8, sti_8, st2_8, stj_8, st1_9, sti_9, st2_9, stj_9, kil_n, kil_i, kil_r, kil_l, kil_d, gl_0, gl_s, cat_i, cat_r, true_and]
    exact c85_8 hK.hx (sp_needN_no (hp.resolve_left h1)) (by omega) (by omega) (RX_ret rfl rfl (by omega) (by omega))
theorem sp_cprev (hK : K h x c r c2 r2 n G sn SG) {p m : Nat} {f : Int32} (hp : p < n) (hf : (-1 : Int32) ≤ f) (hm : (if f ≤ nI n - 1 then f else nI n - 1) = nI m + (-1)) (hmn : m ≤ n) : Sp 20 89 [.ref x, .int (nI p), .int f] h z 0 0 (RR (some (.int (prv (G p) m))) h z) := by
  have hn := hK.hG.1
  refine Sp_in (al := [some (.ref x), some (.int (nI p)), some (.int f), none]) ?_
  simp only [s89_0, s89_1, s89_5, s89_6, s89_7, s89_11, s89_12, s89_13, s89_19, s89_20, s89_24, s89_26, s89_29, s89_30, s89_33, s89_34, s89_38, s89_41, s89_42, s89_43, s89_46, s89_49, s89_50, ldi_0, ldi_s, ldl_0, ldl_s, ldd_0, ldd_s, lda_0, lda_s, st1_0, st1_1, st2_0, st2_1, sti_0, sti_1, stj_0, stj_1, st1_2, sti_2, st2_2, stj_2, st1_3, sti_3, st2_3, stj_3, st1_4, sti_4, st2_4, stj_4, st1_5, sti_5, st2_5, stj_5, st1_6, sti_6, st2_6, stj_6, st1_7, sti_7, st2_7, stj_7, st1_8, sti_8, st2_8, stj_8, st1_9, sti_9, st2_9, stj_9, kil_n, kil_i, kil_r, kil_l, kil_d, gl_0, gl_s, cat_i, cat_r, true_and]
  refine c89_2r hK.hx (sp_needP_ok hK (pl_nat hn hp)) ?_
  simp only [s89_0, s89_1, s89_5, s89_6, s89_7, s89_11, s89_12, s89_13, s89_19, s89_20, s89_24, s89_26, s89_29, s89_30, s89_33, s89_34, s89_38, s89_41, s89_42, s89_43, s89_46, s89_49, s89_50, ldi_0, ldi_s, ldl_0, ldl_s, ldd_0, ldd_s, lda_0, lda_s, st1_0, st1_1, st2_0, st2_1, sti_0, sti_1, stj_0, stj_1, st1_2, sti_2, st2_2, stj_2, st1_3, sti_3, st2_3, stj_3, st1_4, sti_4, st2_4, stj_4, st1_5, sti_5, st2_5, stj_5, st1_6, sti_6, st2_6, stj_6, st1_7, sti_7, st2_7, stj_7, st1_8, sti_8, st2_8, stj_8, st1_9, sti_9, st2_9, stj_9, kil_n, kil_i, kil_r, kil_l, kil_d, gl_0, gl_s, cat_i, cat_r, true_and]
  refine c89_8r hK.hx (sp_needN_ok hf) ?_
  simp only [s89_0, s89_1, s89_5, s89_6, s89_7, s89_11, s89_12, s89_13, s89_19, s89_20, s89_24, s89_26, s89_29, s89_30, s89_33, s89_34, s89_38, s89_41, s89_42, s89_43, s89_46, s89_49, s89_50, ldi_0, ldi_s, ldl_0, ldl_s, ldd_0, ldd_s, lda_0, lda_s, st1_0, st1_1, st2_0, st2_1, sti_0, sti_1, stj_0, stj_1, st1_2, sti_2, st2_2, stj_2, st1_3, sti_3, st2_3, stj_3, st1_4, sti_4, st2_4, stj_4, st1_5, sti_5, st2_5, stj_5, st1_6, sti_6, st2_6, stj_6, st1_7, sti_7, st2_7, stj_7, st1_8, sti_8, st2_8, stj_8, st1_9, sti_9, st2_9, stj_9, kil_n, kil_i, kil_r, kil_l, kil_d, gl_0, gl_s, cat_i, cat_r, true_and, gf_ob hK.hx]
  refine c89_16r hK.hc.1 (sp_size hK.hc.1) ?_
  simp only [s89_0, s89_1, s89_5, s89_6, s89_7, s89_11, s89_12, s89_13, s89_19, s89_20, s89_24, s89_26, s89_29, s89_30, s89_33, s89_34, s89_38, s89_41, s89_42, s89_43, s89_46, s89_49, s89_50, ldi_0, ldi_s, ldl_0, ldl_s, ldd_0, ldd_s, lda_0, lda_s, st1_0, st1_1, st2_0, st2_1, sti_0, sti_1, stj_0, stj_1, st1_2, sti_2, st2_2, stj_2, st1_3, sti_3, st2_3, stj_3, st1_4, sti_4, st2_4, stj_4, st1_5, sti_5, st2_5, stj_5, st1_6, sti_6, st2_6, stj_6, st1_7, sti_7, st2_7, stj_7, st1_8, sti_8, st2_8, stj_8, st1_9, sti_9, st2_9, stj_9, kil_n, kil_i, kil_r, kil_l, kil_d, gl_0, gl_s, cat_i, cat_r, true_and]
  refine c89_21r sp_min ?_
  simp only [s89_0, s89_1, s89_5, s89_6, s89_7, s89_11, s89_12, s89_13, s89_19, s89_20, s89_24, s89_26, s89_29, s89_30, s89_33, s89_34, s89_38, s89_41, s89_42, s89_43, s89_46, s89_49, s89_50, ldi_0, ldi_s, ldl_0, ldl_s, ldd_0, ldd_s, lda_0, lda_s, st1_0, st1_1, st2_0, st2_1, sti_0, sti_1, stj_0, stj_1, st1_2, sti_2, st2_2, stj_2, st1_3, sti_3, st2_3, stj_3, st1_4, sti_4, st2_4, stj_4, st1_5, sti_5, st2_5, stj_5, st1_6, sti_6, st2_6, stj_6, st1_7, sti_7, st2_7, stj_7, st1_8, sti_8, st2_8, stj_8, st1_9, sti_9, st2_9, stj_9, kil_n, kil_i, kil_r, kil_l, kil_d, gl_0, gl_s, cat_i, cat_r, true_and]
  rw [hm]
  have key : ∀ j, j ≤ n → prv (G p) m = prv (G p) j → aW (Sp 19) 89 0 0 (RR (some (.int (prv (G p) m))) h z) 25 [some (.ref x), some (.int (nI p)), some (.int f), some (.int (nI j + (-1)))] [] h z 0 0 := by
    refine aDn ?_ fun j hj ih => ?_
    · intro e
      rw [s89_25]
      simp only [s89_0, s89_1, s89_5, s89_6, s89_7, s89_11, s89_12, s89_13, s89_19, s89_20, s89_24, s89_26, s89_29, s89_30, s89_33, s89_34, s89_38, s89_41, s89_42, s89_43, s89_46, s89_49, s89_50, ldi_0, ldi_s, ldl_0, ldl_s, ldd_0, ldd_s, lda_0, lda_s, st1_0, st1_1, st2_0, st2_1, sti_0, sti_1, stj_0, stj_1, st1_2, sti_2, st2_2, stj_2, st1_3, sti_3, st2_3, stj_3, st1_4, sti_4, st2_4, stj_4, st1_5, sti_5, st2_5, stj_5, st1_6, sti_6, st2_6, stj_6, st1_7, sti_7, st2_7, stj_7, st1_8, sti_8, st2_8, stj_8, st1_9, sti_9, st2_9, stj_9, kil_n, kil_i, kil_r, kil_l, kil_d, gl_0, gl_s, cat_i, cat_r, true_and]
      rw [br_1 (by decide), e]
      exact out_RR
    · intro e
      have e2 : prv (G p) (j + 1) = if G p j then nI j else prv (G p) j := rfl
      rw [nI_pm, s89_25]
      simp only [s89_0, s89_1, s89_5, s89_6, s89_7, s89_11, s89_12, s89_13, s89_19, s89_20, s89_24, s89_26, s89_29, s89_30, s89_33, s89_34, s89_38, s89_41, s89_42, s89_43, s89_46, s89_49, s89_50, ldi_0, ldi_s, ldl_0, ldl_s, ldd_0, ldd_s, lda_0, lda_s, st1_0, st1_1, st2_0, st2_1, sti_0, sti_1, stj_0, stj_1, st1_2, sti_2, st2_2, stj_2, st1_3, sti_3, st2_3, stj_3, st1_4, sti_4, st2_4, stj_4, st1_5, sti_5, st2_5, stj_5, st1_6, sti_6, st2_6, stj_6, st1_7, sti_7, st2_7, stj_7, st1_8, sti_8, st2_8, stj_8, st1_9, sti_9, st2_9, stj_9, kil_n, kil_i, kil_r, kil_l, kil_d, gl_0, gl_s, cat_i, cat_r, true_and, gf_ob hK.hx]
      rw [nI_lit0, br_0 (nI_nlt (Nat.zero_le j) (by omega))]
      refine c89_35r hK.hc.1 (sp_joined hK.hc hK.hG hp hj) ?_
      simp only [s89_0, s89_1, s89_5, s89_6, s89_7, s89_11, s89_12, s89_13, s89_19, s89_20, s89_24, s89_26, s89_29, s89_30, s89_33, s89_34, s89_38, s89_41, s89_42, s89_43, s89_46, s89_49, s89_50, ldi_0, ldi_s, ldl_0, ldl_s, ldd_0, ldd_s, lda_0, lda_s, st1_0, st1_1, st2_0, st2_1, sti_0, sti_1, stj_0, stj_1, st1_2, sti_2, st2_2, stj_2, st1_3, sti_3, st2_3, stj_3, st1_4, sti_4, st2_4, stj_4, st1_5, sti_5, st2_5, stj_5, st1_6, sti_6, st2_6, stj_6, st1_7, sti_7, st2_7, stj_7, st1_8, sti_8, st2_8, stj_8, st1_9, sti_9, st2_9, stj_9, kil_n, kil_i, kil_r, kil_l, kil_d, gl_0, gl_s, cat_i, cat_r, true_and]
      refine ⟨fun h1 => ?_, fun h1 => ?_⟩
      · rw [bI_0] at h1
        exact ih (by rw [e, e2, h1]; rfl)
      · rw [bI_0, Bool.not_eq_false] at h1
        exact out_eq (by rw [e, e2, h1]; rfl) rfl rfl
  exact key m hmn rfl
theorem sp_cprev_no (hK : K h x c r c2 r2 n G sn SG) {p f : Int32} (hp : pl n p = false ∨ ¬ (-1 : Int32) ≤ f) : Sp 20 89 [.ref x, .int p, .int f] h z 1 6 (RX 2 h z) := by
  refine Sp_in (al := [some (.ref x), some (.int p), some (.int f), none]) ?_
  simp only [s89_0, s89_1, s89_5, s89_6, s89_7, s89_11, s89_12, s89_13, s89_19, s89_20, s89_24, s89_26, s89_29, s89_30, s89_33, s89_34, s89_38, s89_41, s89_42, s89_43, s89_46, s89_49, s89_50, ldi_0, ldi_s, ldl_0, ldl_s, ldd_0, ldd_s, lda_0, lda_s, st1_0, st1_1, st2_0, st2_1, sti_0, sti_1, stj_0, stj_1, st1_2, sti_2, st2_2, stj_2, st1_3, sti_3, st2_3, stj_3, st1_4, sti_4, st2_4, stj_4, st1_5, sti_5, st2_5, stj_5, st1_6, sti_6, st2_6, stj_6, st1_7, sti_7, st2_7, stj_7, st1_8, sti_8, st2_8, stj_8, st1_9, sti_9, st2_9, stj_9, kil_n, kil_i, kil_r, kil_l, kil_d, gl_0, gl_s, cat_i, cat_r, true_and]
  by_cases h1 : pl n p = false
  · exact c89_2 hK.hx (sp_needP_no hK h1) (by omega) (by omega) (RX_ret rfl rfl (by omega) (by omega))
  · refine c89_2r hK.hx (sp_needP_ok hK (by simpa using h1)) ?_
    simp only [s89_0, s89_1, s89_5, s89_6, s89_7, s89_11, s89_12, s89_13, s89_19, s89_20, s89_24, s89_26, s89_29, s89_30, s89_33, s89_34, s89_38, s89_41, s89_42, s89_43, s89_46, s89_49, s89_50, ldi_0, ldi_s, ldl_0, ldl_s, ldd_0, ldd_s, lda_0, lda_s, st1_0, st1_1, st2_0, st2_1, sti_0, sti_1, stj_0, stj_1, st1_2, sti_2, st2_2, stj_2, st1_3, sti_3, st2_3, stj_3, st1_4, sti_4, st2_4, stj_4, st1_5, sti_5, st2_5, stj_5, st1_6, sti_6, st2_6, stj_6, st1_7, sti_7, st2_7, stj_7, st1_8, sti_8, st2_8, stj_8, st1_9, sti_9, st2_9, stj_9, kil_n, kil_i, kil_r, kil_l, kil_d, gl_0, gl_s, cat_i, cat_r, true_and]
    exact c89_8 hK.hx (sp_needN_no (hp.resolve_left h1)) (by omega) (by omega) (RX_ret rfl rfl (by omega) (by omega))
theorem sp_cmean (hK : K h x c r c2 r2 n G sn SG) (h0 : n ≠ 0) : Sp 20 92 [.ref x] h z 0 0 (RR (some (.double (FP.ddiv (FP.i2d (nI 2 * nI (ends G n / 2))) (FP.i2d (nI n))))) h z) := by
  have hn := hK.hG.1
  have he := ends_le G n
  refine Sp_in (al := [some (.ref x), none]) ?_
  simp only [s92_0, s92_1, s92_7, s92_8, s92_9, s92_15, s92_22, s92_23, s92_24, s92_30, s92_31, s92_32, s92_33, s92_34, s92_35, ldi_0, ldi_s, ldl_0, ldl_s, ldd_0, ldd_s, lda_0, lda_s, st1_0, st1_1, st2_0, st2_1, sti_0, sti_1, stj_0, stj_1, st1_2, sti_2, st2_2, stj_2, st1_3, sti_3, st2_3, stj_3, st1_4, sti_4, st2_4, stj_4, st1_5, sti_5, st2_5, stj_5, st1_6, sti_6, st2_6, stj_6, st1_7, sti_7, st2_7, stj_7, st1_8, sti_8, st2_8, stj_8, st1_9, sti_9, st2_9, stj_9, kil_n, kil_i, kil_r, kil_l, kil_d, gl_0, gl_s, cat_i, cat_r, true_and, gf_ob hK.hx]
  refine c92_4r hK.hc.1 (sp_size hK.hc.1) ?_
  simp only [s92_0, s92_1, s92_7, s92_8, s92_9, s92_15, s92_22, s92_23, s92_24, s92_30, s92_31, s92_32, s92_33, s92_34, s92_35, ldi_0, ldi_s, ldl_0, ldl_s, ldd_0, ldd_s, lda_0, lda_s, st1_0, st1_1, st2_0, st2_1, sti_0, sti_1, stj_0, stj_1, st1_2, sti_2, st2_2, stj_2, st1_3, sti_3, st2_3, stj_3, st1_4, sti_4, st2_4, stj_4, st1_5, sti_5, st2_5, stj_5, st1_6, sti_6, st2_6, stj_6, st1_7, sti_7, st2_7, stj_7, st1_8, sti_8, st2_8, stj_8, st1_9, sti_9, st2_9, stj_9, kil_n, kil_i, kil_r, kil_l, kil_d, gl_0, gl_s, cat_i, cat_r, true_and, gf_ob hK.hx]
  rw [nI_lit0, br_1 (by rw [nI_eq (by omega) (by decide)]; exact h0)]
  refine c92_27r hK.hc.1 (sp_wayCount hK.hc hK.hG) ?_
  simp only [s92_0, s92_1, s92_7, s92_8, s92_9, s92_15, s92_22, s92_23, s92_24, s92_30, s92_31, s92_32, s92_33, s92_34, s92_35, ldi_0, ldi_s, ldl_0, ldl_s, ldd_0, ldd_s, lda_0, lda_s, st1_0, st1_1, st2_0, st2_1, sti_0, sti_1, stj_0, stj_1, st1_2, sti_2, st2_2, stj_2, st1_3, sti_3, st2_3, stj_3, st1_4, sti_4, st2_4, stj_4, st1_5, sti_5, st2_5, stj_5, st1_6, sti_6, st2_6, stj_6, st1_7, sti_7, st2_7, stj_7, st1_8, sti_8, st2_8, stj_8, st1_9, sti_9, st2_9, stj_9, kil_n, kil_i, kil_r, kil_l, kil_d, gl_0, gl_s, cat_i, cat_r, true_and]
  exact ⟨FP_mean n (by omega) h0 _ (by omega), out_RR⟩
theorem sp_cmean_no (hK : K h x c r c2 r2 n G sn SG) (h0 : n = 0) : Sp 20 92 [.ref x] h z 1 6 (RX 1 h z) := by
  subst h0
  refine Sp_in (al := [some (.ref x), none]) ?_
  simp only [s92_0, s92_1, s92_7, s92_8, s92_9, s92_15, s92_22, s92_23, s92_24, s92_30, s92_31, s92_32, s92_33, s92_34, s92_35, ldi_0, ldi_s, ldl_0, ldl_s, ldd_0, ldd_s, lda_0, lda_s, st1_0, st1_1, st2_0, st2_1, sti_0, sti_1, stj_0, stj_1, st1_2, sti_2, st2_2, stj_2, st1_3, sti_3, st2_3, stj_3, st1_4, sti_4, st2_4, stj_4, st1_5, sti_5, st2_5, stj_5, st1_6, sti_6, st2_6, stj_6, st1_7, sti_7, st2_7, stj_7, st1_8, sti_8, st2_8, stj_8, st1_9, sti_9, st2_9, stj_9, kil_n, kil_i, kil_r, kil_l, kil_d, gl_0, gl_s, cat_i, cat_r, true_and, gf_ob hK.hx]
  refine c92_4r hK.hc.1 (sp_size hK.hc.1) ?_
  simp only [s92_0, s92_1, s92_7, s92_8, s92_9, s92_15, s92_22, s92_23, s92_24, s92_30, s92_31, s92_32, s92_33, s92_34, s92_35, ldi_0, ldi_s, ldl_0, ldl_s, ldd_0, ldd_s, lda_0, lda_s, st1_0, st1_1, st2_0, st2_1, sti_0, sti_1, stj_0, stj_1, st1_2, sti_2, st2_2, stj_2, st1_3, sti_3, st2_3, stj_3, st1_4, sti_4, st2_4, stj_4, st1_5, sti_5, st2_5, stj_5, st1_6, sti_6, st2_6, stj_6, st1_7, sti_7, st2_7, stj_7, st1_8, sti_8, st2_8, stj_8, st1_9, sti_9, st2_9, stj_9, kil_n, kil_i, kil_r, kil_l, kil_d, gl_0, gl_s, cat_i, cat_r, true_and, gf_ob hK.hx]
  rw [br_0 (by decide)]
  exact s92_12 (by decide) (by omega) (by omega) fun z' hz => ⟨rfl, rfl, hz⟩
theorem sp_cpieces (hK : K h x c r c2 r2 n G sn SG) : Sp 20 94 [.ref x] h z 0 0 (RR (some (.int (nI (pcs n G n)))) h z) := by
  refine Sp_in (al := [some (.ref x)]) ?_
  simp only [s94_0, s94_1, s94_7, ldi_0, ldi_s, ldl_0, ldl_s, ldd_0, ldd_s, lda_0, lda_s, st1_0, st1_1, st2_0, st2_1, sti_0, sti_1, stj_0, stj_1, st1_2, sti_2, st2_2, stj_2, st1_3, sti_3, st2_3, stj_3, st1_4, sti_4, st2_4, stj_4, st1_5, sti_5, st2_5, stj_5, st1_6, sti_6, st2_6, stj_6, st1_7, sti_7, st2_7, stj_7, st1_8, sti_8, st2_8, stj_8, st1_9, sti_9, st2_9, stj_9, kil_n, kil_i, kil_r, kil_l, kil_d, gl_0, gl_s, cat_i, cat_r, true_and, gf_ob hK.hx]
  refine c94_4r (sp_pieceCount hK.hc hK.hG) ?_
  simp only [s94_0, s94_1, s94_7, ldi_0, ldi_s, ldl_0, ldl_s, ldd_0, ldd_s, lda_0, lda_s, st1_0, st1_1, st2_0, st2_1, sti_0, sti_1, stj_0, stj_1, st1_2, sti_2, st2_2, stj_2, st1_3, sti_3, st2_3, stj_3, st1_4, sti_4, st2_4, stj_4, st1_5, sti_5, st2_5, stj_5, st1_6, sti_6, st2_6, stj_6, st1_7, sti_7, st2_7, stj_7, st1_8, sti_8, st2_8, stj_8, st1_9, sti_9, st2_9, stj_9, kil_n, kil_i, kil_r, kil_l, kil_d, gl_0, gl_s, cat_i, cat_r, true_and]
  exact out_RR
theorem sp_cpiece (hK : K h x c r c2 r2 n G sn SG) {p : Nat} (hp : p < n) : Sp 20 101 [.ref x, .int (nI p)] h z 0 0 (RR (some (.int (nI (lop n G p)))) h z) := by
  refine Sp_in (al := [some (.ref x), some (.int (nI p))]) ?_
  simp only [s101_0, s101_1, s101_5, s101_6, s101_9, s101_13, ldi_0, ldi_s, ldl_0, ldl_s, ldd_0, ldd_s, lda_0, lda_s, st1_0, st1_1, st2_0, st2_1, sti_0, sti_1, stj_0, stj_1, st1_2, sti_2, st2_2, stj_2, st1_3, sti_3, st2_3, stj_3, st1_4, sti_4, st2_4, stj_4, st1_5, sti_5, st2_5, stj_5, st1_6, sti_6, st2_6, stj_6, st1_7, sti_7, st2_7, stj_7, st1_8, sti_8, st2_8, stj_8, st1_9, sti_9, st2_9, stj_9, kil_n, kil_i, kil_r, kil_l, kil_d, gl_0, gl_s, cat_i, cat_r, true_and]
  refine c101_2r hK.hx (sp_needP_ok hK (pl_nat hK.hG.1 hp)) ?_
  simp only [s101_0, s101_1, s101_5, s101_6, s101_9, s101_13, ldi_0, ldi_s, ldl_0, ldl_s, ldd_0, ldd_s, lda_0, lda_s, st1_0, st1_1, st2_0, st2_1, sti_0, sti_1, stj_0, stj_1, st1_2, sti_2, st2_2, stj_2, st1_3, sti_3, st2_3, stj_3, st1_4, sti_4, st2_4, stj_4, st1_5, sti_5, st2_5, stj_5, st1_6, sti_6, st2_6, stj_6, st1_7, sti_7, st2_7, stj_7, st1_8, sti_8, st2_8, stj_8, st1_9, sti_9, st2_9, stj_9, kil_n, kil_i, kil_r, kil_l, kil_d, gl_0, gl_s, cat_i, cat_r, true_and, gf_ob hK.hx]
  refine c101_10r (sp_leastOfPiece hK.hc hK.hG hp) ?_
  simp only [s101_0, s101_1, s101_5, s101_6, s101_9, s101_13, ldi_0, ldi_s, ldl_0, ldl_s, ldd_0, ldd_s, lda_0, lda_s, st1_0, st1_1, st2_0, st2_1, sti_0, sti_1, stj_0, stj_1, st1_2, sti_2, st2_2, stj_2, st1_3, sti_3, st2_3, stj_3, st1_4, sti_4, st2_4, stj_4, st1_5, sti_5, st2_5, stj_5, st1_6, sti_6, st2_6, stj_6, st1_7, sti_7, st2_7, stj_7, st1_8, sti_8, st2_8, stj_8, st1_9, sti_9, st2_9, stj_9, kil_n, kil_i, kil_r, kil_l, kil_d, gl_0, gl_s, cat_i, cat_r, true_and]
  exact out_RR
theorem sp_cpiece_no (hK : K h x c r c2 r2 n G sn SG) {p : Int32} (hp : pl n p = false) : Sp 20 101 [.ref x, .int p] h z 1 6 (RX 2 h z) := by
  refine Sp_in (al := [some (.ref x), some (.int p)]) ?_
  simp only [s101_0, s101_1, s101_5, s101_6, s101_9, s101_13, ldi_0, ldi_s, ldl_0, ldl_s, ldd_0, ldd_s, lda_0, lda_s, st1_0, st1_1, st2_0, st2_1, sti_0, sti_1, stj_0, stj_1, st1_2, sti_2, st2_2, stj_2, st1_3, sti_3, st2_3, stj_3, st1_4, sti_4, st2_4, stj_4, st1_5, sti_5, st2_5, stj_5, st1_6, sti_6, st2_6, stj_6, st1_7, sti_7, st2_7, stj_7, st1_8, sti_8, st2_8, stj_8, st1_9, sti_9, st2_9, stj_9, kil_n, kil_i, kil_r, kil_l, kil_d, gl_0, gl_s, cat_i, cat_r, true_and]
  exact c101_2 hK.hx (sp_needP_no hK hp) (by omega) (by omega) (RX_ret rfl rfl (by omega) (by omega))
theorem sp_capart (hK : K h x c r c2 r2 n G sn SG) : Sp 20 103 [.ref x] h z 0 0 (RR (some (.int (nI (mxF (apF n G) (2 ^ n))))) h z) := by
  refine Sp_in (al := [some (.ref x)]) ?_
  simp only [s103_0, s103_1, s103_7, ldi_0, ldi_s, ldl_0, ldl_s, ldd_0, ldd_s, lda_0, lda_s, st1_0, st1_1, st2_0, st2_1, sti_0, sti_1, stj_0, stj_1, st1_2, sti_2, st2_2, stj_2, st1_3, sti_3, st2_3, stj_3, st1_4, sti_4, st2_4, stj_4, st1_5, sti_5, st2_5, stj_5, st1_6, sti_6, st2_6, stj_6, st1_7, sti_7, st2_7, stj_7, st1_8, sti_8, st2_8, stj_8, st1_9, sti_9, st2_9, stj_9, kil_n, kil_i, kil_r, kil_l, kil_d, gl_0, gl_s, cat_i, cat_r, true_and, gf_ob hK.hx]
  refine c103_4r (sp_mostApart hK.hc hK.hG) ?_
  simp only [s103_0, s103_1, s103_7, ldi_0, ldi_s, ldl_0, ldl_s, ldd_0, ldd_s, lda_0, lda_s, st1_0, st1_1, st2_0, st2_1, sti_0, sti_1, stj_0, stj_1, st1_2, sti_2, st2_2, stj_2, st1_3, sti_3, st2_3, stj_3, st1_4, sti_4, st2_4, stj_4, st1_5, sti_5, st2_5, stj_5, st1_6, sti_6, st2_6, stj_6, st1_7, sti_7, st2_7, stj_7, st1_8, sti_8, st2_8, stj_8, st1_9, sti_9, st2_9, stj_9, kil_n, kil_i, kil_r, kil_l, kil_d, gl_0, gl_s, cat_i, cat_r, true_and]
  exact out_RR
theorem sp_ctogether (hK : K h x c r c2 r2 n G sn SG) : Sp 20 108 [.ref x] h z 0 0 (RR (some (.int (nI (mxF (togF n G) (2 ^ n))))) h z) := by
  refine Sp_in (al := [some (.ref x)]) ?_
  simp only [s108_0, s108_1, s108_7, ldi_0, ldi_s, ldl_0, ldl_s, ldd_0, ldd_s, lda_0, lda_s, st1_0, st1_1, st2_0, st2_1, sti_0, sti_1, stj_0, stj_1, st1_2, sti_2, st2_2, stj_2, st1_3, sti_3, st2_3, stj_3, st1_4, sti_4, st2_4, stj_4, st1_5, sti_5, st2_5, stj_5, st1_6, sti_6, st2_6, stj_6, st1_7, sti_7, st2_7, stj_7, st1_8, sti_8, st2_8, stj_8, st1_9, sti_9, st2_9, stj_9, kil_n, kil_i, kil_r, kil_l, kil_d, gl_0, gl_s, cat_i, cat_r, true_and, gf_ob hK.hx]
  refine c108_4r (sp_mostTogether hK.hc hK.hG) ?_
  simp only [s108_0, s108_1, s108_7, ldi_0, ldi_s, ldl_0, ldl_s, ldd_0, ldd_s, lda_0, lda_s, st1_0, st1_1, st2_0, st2_1, sti_0, sti_1, stj_0, stj_1, st1_2, sti_2, st2_2, stj_2, st1_3, sti_3, st2_3, stj_3, st1_4, sti_4, st2_4, stj_4, st1_5, sti_5, st2_5, stj_5, st1_6, sti_6, st2_6, stj_6, st1_7, sti_7, st2_7, stj_7, st1_8, sti_8, st2_8, stj_8, st1_9, sti_9, st2_9, stj_9, kil_n, kil_i, kil_r, kil_l, kil_d, gl_0, gl_s, cat_i, cat_r, true_and]
  exact out_RR
theorem sp_cisTwo (hK : K h x c r c2 r2 n G sn SG) : Sp 20 122 [.ref x] h z 0 0 (RR (some (.int (bI (decide ((norF n G n).1 &&& (norF n G n).2 = 0))))) h z) := by
  refine Sp_in (al := [some (.ref x)]) ?_
  simp only [s122_0, s122_1, s122_7, ldi_0, ldi_s, ldl_0, ldl_s, ldd_0, ldd_s, lda_0, lda_s, st1_0, st1_1, st2_0, st2_1, sti_0, sti_1, stj_0, stj_1, st1_2, sti_2, st2_2, stj_2, st1_3, sti_3, st2_3, stj_3, st1_4, sti_4, st2_4, stj_4, st1_5, sti_5, st2_5, stj_5, st1_6, sti_6, st2_6, stj_6, st1_7, sti_7, st2_7, stj_7, st1_8, sti_8, st2_8, stj_8, st1_9, sti_9, st2_9, stj_9, kil_n, kil_i, kil_r, kil_l, kil_d, gl_0, gl_s, cat_i, cat_r, true_and, gf_ob hK.hx]
  refine c122_4r (sp_noOddRing hK.hc hK.hG) ?_
  simp only [s122_0, s122_1, s122_7, ldi_0, ldi_s, ldl_0, ldl_s, ldd_0, ldd_s, lda_0, lda_s, st1_0, st1_1, st2_0, st2_1, sti_0, sti_1, stj_0, stj_1, st1_2, sti_2, st2_2, stj_2, st1_3, sti_3, st2_3, stj_3, st1_4, sti_4, st2_4, stj_4, st1_5, sti_5, st2_5, stj_5, st1_6, sti_6, st2_6, stj_6, st1_7, sti_7, st2_7, stj_7, st1_8, sti_8, st2_8, stj_8, st1_9, sti_9, st2_9, stj_9, kil_n, kil_i, kil_r, kil_l, kil_d, gl_0, gl_s, cat_i, cat_r, true_and]
  exact ⟨nar_bI _, out_RR⟩
/-- reading the map into the polynomial -/
theorem sp_rd (hK : K h x c r c2 r2 n G sn SG) : Sp 13 114 [.ref (x + 5), .ref c] h z 0 0 (RR none (RD h (x + 5) n G) z) := by
  have e := hK.two'
  unfold Two at e
  exact sp_read hK.hc hK.hG hK.hpo (by omega) (by omega) (by omega) (by omega) (by omega) (by omega) (by omega)
theorem K.ho (hK : K h x c r c2 r2 n G sn SG) : ∃ b, h (x + 5) = some (poO b (x + 6) (x + 8) (x + 9) (x + 10)) := by
  obtain ⟨b, n0, G0, R, F, ho, _⟩ := hK.hpo
  exact ⟨b, ho⟩
theorem sp_cpartings (hK : K h x c r c2 r2 n G sn SG) {m : Nat} (hm : m ≤ 9) : Sp 20 113 [.ref x, .int (nI m)] h z 0 0 (RR (some (.int (nI (ptn n G m)))) (RD h (x + 5) n G) z) := by
  have k2 := hK.rd.1
  obtain ⟨b, ho⟩ := hK.ho
  refine Sp_in (al := [some (.ref x), some (.int (nI m))]) ?_
  simp only [s113_0, s113_1, s113_4, s113_5, s113_7, s113_13, s113_20, s113_21, s113_24, s113_25, s113_31, s113_32, s113_35, s113_39, ldi_0, ldi_s, ldl_0, ldl_s, ldd_0, ldd_s, lda_0, lda_s, st1_0, st1_1, st2_0, st2_1, sti_0, sti_1, stj_0, stj_1, st1_2, sti_2, st2_2, stj_2, st1_3, sti_3, st2_3, stj_3, st1_4, sti_4, st2_4, stj_4, st1_5, sti_5, st2_5, stj_5, st1_6, sti_6, st2_6, stj_6, st1_7, sti_7, st2_7, stj_7, st1_8, sti_8, st2_8, stj_8, st1_9, sti_9, st2_9, stj_9, kil_n, kil_i, kil_r, kil_l, kil_d, gl_0, gl_s, cat_i, cat_r, true_and, gf_ob hK.hx]
  rw [nI_lit0, br_0 (nI_nlt (Nat.zero_le m) (by omega)), nI_lit9, br_1 (nI_le hm (by decide))]
  refine c113_28r ho (sp_rd hK) ?_
  simp only [s113_0, s113_1, s113_4, s113_5, s113_7, s113_13, s113_20, s113_21, s113_24, s113_25, s113_31, s113_32, s113_35, s113_39, ldi_0, ldi_s, ldl_0, ldl_s, ldd_0, ldd_s, lda_0, lda_s, st1_0, st1_1, st2_0, st2_1, sti_0, sti_1, stj_0, stj_1, st1_2, sti_2, st2_2, stj_2, st1_3, sti_3, st2_3, stj_3, st1_4, sti_4, st2_4, stj_4, st1_5, sti_5, st2_5, stj_5, st1_6, sti_6, st2_6, stj_6, st1_7, sti_7, st2_7, stj_7, st1_8, sti_8, st2_8, stj_8, st1_9, sti_9, st2_9, stj_9, kil_n, kil_i, kil_r, kil_l, kil_d, gl_0, gl_s, cat_i, cat_r, true_and, gf_ob k2.hx]
  refine c113_36r RD_po (sp_partingsInto RD_po RD_pa (by omega)) ?_
  simp only [s113_0, s113_1, s113_4, s113_5, s113_7, s113_13, s113_20, s113_21, s113_24, s113_25, s113_31, s113_32, s113_35, s113_39, ldi_0, ldi_s, ldl_0, ldl_s, ldd_0, ldd_s, lda_0, lda_s, st1_0, st1_1, st2_0, st2_1, sti_0, sti_1, stj_0, stj_1, st1_2, sti_2, st2_2, stj_2, st1_3, sti_3, st2_3, stj_3, st1_4, sti_4, st2_4, stj_4, st1_5, sti_5, st2_5, stj_5, st1_6, sti_6, st2_6, stj_6, st1_7, sti_7, st2_7, stj_7, st1_8, sti_8, st2_8, stj_8, st1_9, sti_9, st2_9, stj_9, kil_n, kil_i, kil_r, kil_l, kil_d, gl_0, gl_s, cat_i, cat_r, true_and]
  exact out_RR
theorem sp_cpartings_no {p : Int32} (hp : p < 0 ∨ ¬ p ≤ 9) : Sp 20 113 [.ref x, .int p] h z 1 6 (RX 0 h z) := by
  refine Sp_in (al := [some (.ref x), some (.int p)]) ?_
  simp only [s113_0, s113_1, s113_4, s113_5, s113_7, s113_13, s113_20, s113_21, s113_24, s113_25, s113_31, s113_32, s113_35, s113_39, ldi_0, ldi_s, ldl_0, ldl_s, ldd_0, ldd_s, lda_0, lda_s, st1_0, st1_1, st2_0, st2_1, sti_0, sti_1, stj_0, stj_1, st1_2, sti_2, st2_2, stj_2, st1_3, sti_3, st2_3, stj_3, st1_4, sti_4, st2_4, stj_4, st1_5, sti_5, st2_5, stj_5, st1_6, sti_6, st2_6, stj_6, st1_7, sti_7, st2_7, stj_7, st1_8, sti_8, st2_8, stj_8, st1_9, sti_9, st2_9, stj_9, kil_n, kil_i, kil_r, kil_l, kil_d, gl_0, gl_s, cat_i, cat_r, true_and]
  refine ⟨fun _ => s113_10 (by decide) (by omega) (by omega) fun z' hz => ⟨rfl, rfl, hz⟩, fun h1 => ⟨fun h2 => ?_, fun _ => s113_10 (by decide) (by omega) (by omega) fun z' hz => ⟨rfl, rfl, hz⟩⟩⟩
  exact absurd h2 (hp.resolve_left h1)
theorem sp_cfewest (hK : K h x c r c2 r2 n G sn SG) : Sp 20 126 [.ref x] h z 0 0 (RR (some (.int (nI (fsp (ptn n G) n n)))) (RD h (x + 5) n G) z) := by
  have k2 := hK.rd.1
  obtain ⟨b, ho⟩ := hK.ho
  refine Sp_in (al := [some (.ref x)]) ?_
  simp only [s126_0, s126_1, s126_4, s126_5, s126_11, s126_12, s126_18, ldi_0, ldi_s, ldl_0, ldl_s, ldd_0, ldd_s, lda_0, lda_s, st1_0, st1_1, st2_0, st2_1, sti_0, sti_1, stj_0, stj_1, st1_2, sti_2, st2_2, stj_2, st1_3, sti_3, st2_3, stj_3, st1_4, sti_4, st2_4, stj_4, st1_5, sti_5, st2_5, stj_5, st1_6, sti_6, st2_6, stj_6, st1_7, sti_7, st2_7, stj_7, st1_8, sti_8, st2_8, stj_8, st1_9, sti_9, st2_9, stj_9, kil_n, kil_i, kil_r, kil_l, kil_d, gl_0, gl_s, cat_i, cat_r, true_and, gf_ob hK.hx]
  refine c126_8r ho (sp_rd hK) ?_
  simp only [s126_0, s126_1, s126_4, s126_5, s126_11, s126_12, s126_18, ldi_0, ldi_s, ldl_0, ldl_s, ldd_0, ldd_s, lda_0, lda_s, st1_0, st1_1, st2_0, st2_1, sti_0, sti_1, stj_0, stj_1, st1_2, sti_2, st2_2, stj_2, st1_3, sti_3, st2_3, stj_3, st1_4, sti_4, st2_4, stj_4, st1_5, sti_5, st2_5, stj_5, st1_6, sti_6, st2_6, stj_6, st1_7, sti_7, st2_7, stj_7, st1_8, sti_8, st2_8, stj_8, st1_9, sti_9, st2_9, stj_9, kil_n, kil_i, kil_r, kil_l, kil_d, gl_0, gl_s, cat_i, cat_r, true_and, gf_ob k2.hx]
  refine c126_15r RD_po (sp_leastSets RD_ch hK.hG RD_po RD_pa (ptn_lt hK.hG.1)) ?_
  simp only [s126_0, s126_1, s126_4, s126_5, s126_11, s126_12, s126_18, ldi_0, ldi_s, ldl_0, ldl_s, ldd_0, ldd_s, lda_0, lda_s, st1_0, st1_1, st2_0, st2_1, sti_0, sti_1, stj_0, stj_1, st1_2, sti_2, st2_2, stj_2, st1_3, sti_3, st2_3, stj_3, st1_4, sti_4, st2_4, stj_4, st1_5, sti_5, st2_5, stj_5, st1_6, sti_6, st2_6, stj_6, st1_7, sti_7, st2_7, stj_7, st1_8, sti_8, st2_8, stj_8, st1_9, sti_9, st2_9, stj_9, kil_n, kil_i, kil_r, kil_l, kil_d, gl_0, gl_s, cat_i, cat_r, true_and]
  exact out_RR
theorem K.hcols (hK : K h x c r c2 r2 n G sn SG) : Cols h (x + 11) := hK.2.2.2.2.2.2.2.1
theorem K.hdirs (hK : K h x c r c2 r2 n G sn SG) : Dirs h (x + 14) := hK.2.2.2.2.2.2.2.2.1
theorem K.hone (hK : K h x c r c2 r2 n G sn SG) : Whl h (x + 18) := hK.2.2.2.2.2.2.2.2.2.1
theorem K.htwo (hK : K h x c r c2 r2 n G sn SG) : Whl h (x + 20) := hK.2.2.2.2.2.2.2.2.2.2.1
theorem sp_ccolour (hK : K h x c r c2 r2 n G sn SG) {R : Nat → Nat} (hR : h (x + 12) = some (na 9 R)) {p : Nat} (hp : p < n) : Sp 20 130 [.ref x, .int (nI p)] h z 0 0 (RR (some (.int (nI (grR G R n p)))) (grH h (x + 12) G R n) z) := by
  have e := hK.two'
  unfold Two at e
  have hn := hK.hG.1
  refine Sp_in (al := [some (.ref x), some (.int (nI p))]) ?_
  simp only [s130_0, s130_1, s130_5, s130_6, s130_9, s130_10, s130_13, s130_17, ldi_0, ldi_s, ldl_0, ldl_s, ldd_0, ldd_s, lda_0, lda_s, st1_0, st1_1, st2_0, st2_1, sti_0, sti_1, stj_0, stj_1, st1_2, sti_2, st2_2, stj_2, st1_3, sti_3, st2_3, stj_3, st1_4, sti_4, st2_4, stj_4, st1_5, sti_5, st2_5, stj_5, st1_6, sti_6, st2_6, stj_6, st1_7, sti_7, st2_7, stj_7, st1_8, sti_8, st2_8, stj_8, st1_9, sti_9, st2_9, stj_9, kil_n, kil_i, kil_r, kil_l, kil_d, gl_0, gl_s, cat_i, cat_r, true_and]
  refine c130_2r hK.hx (sp_needP_ok hK (pl_nat hK.hG.1 hp)) ?_
  simp only [s130_0, s130_1, s130_5, s130_6, s130_9, s130_10, s130_13, s130_17, ldi_0, ldi_s, ldl_0, ldl_s, ldd_0, ldd_s, lda_0, lda_s, st1_0, st1_1, st2_0, st2_1, sti_0, sti_1, stj_0, stj_1, st1_2, sti_2, st2_2, stj_2, st1_3, sti_3, st2_3, stj_3, st1_4, sti_4, st2_4, stj_4, st1_5, sti_5, st2_5, stj_5, st1_6, sti_6, st2_6, stj_6, st1_7, sti_7, st2_7, stj_7, st1_8, sti_8, st2_8, stj_8, st1_9, sti_9, st2_9, stj_9, kil_n, kil_i, kil_r, kil_l, kil_d, gl_0, gl_s, cat_i, cat_r, true_and, gf_ob hK.hx]
  refine c130_14r hK.hcols.1 (sp_inRow hK.hc hK.hG hK.hcols.1 hR (by omega) (by omega)) ?_
  simp only [s130_0, s130_1, s130_5, s130_6, s130_9, s130_10, s130_13, s130_17, ldi_0, ldi_s, ldl_0, ldl_s, ldd_0, ldd_s, lda_0, lda_s, st1_0, st1_1, st2_0, st2_1, sti_0, sti_1, stj_0, stj_1, st1_2, sti_2, st2_2, stj_2, st1_3, sti_3, st2_3, stj_3, st1_4, sti_4, st2_4, stj_4, st1_5, sti_5, st2_5, stj_5, st1_6, sti_6, st2_6, stj_6, st1_7, sti_7, st2_7, stj_7, st1_8, sti_8, st2_8, stj_8, st1_9, sti_9, st2_9, stj_9, kil_n, kil_i, kil_r, kil_l, kil_d, gl_0, gl_s, cat_i, cat_r, true_and]
  exact out_RR
theorem sp_ccolour_no (hK : K h x c r c2 r2 n G sn SG) {p : Int32} (hp : pl n p = false) : Sp 20 130 [.ref x, .int p] h z 1 6 (RX 2 h z) := by
  refine Sp_in (al := [some (.ref x), some (.int p)]) ?_
  simp only [s130_0, s130_1, s130_5, s130_6, s130_9, s130_10, s130_13, s130_17, ldi_0, ldi_s, ldl_0, ldl_s, ldd_0, ldd_s, lda_0, lda_s, st1_0, st1_1, st2_0, st2_1, sti_0, sti_1, stj_0, stj_1, st1_2, sti_2, st2_2, stj_2, st1_3, sti_3, st2_3, stj_3, st1_4, sti_4, st2_4, stj_4, st1_5, sti_5, st2_5, stj_5, st1_6, sti_6, st2_6, stj_6, st1_7, sti_7, st2_7, stj_7, st1_8, sti_8, st2_8, stj_8, st1_9, sti_9, st2_9, stj_9, kil_n, kil_i, kil_r, kil_l, kil_d, gl_0, gl_s, cat_i, cat_r, true_and]
  exact c130_2 hK.hx (sp_needP_no hK hp) (by omega) (by omega) (RX_ret rfl rfl (by omega) (by omega))
theorem sp_ccolourings (hK : K h x c r c2 r2 n G sn SG) {k : Nat} (hk : k ≤ 4) : Sp 20 137 [.ref x, .int (nI k)] h z 0 0 (RR (some (.int (pnt G (nI k) n 0 0 (fun _ => 0)))) h z) := by
  have e := hK.two'
  unfold Two at e
  refine Sp_in (al := [some (.ref x), some (.int (nI k))]) ?_
  simp only [s137_0, s137_1, s137_4, s137_5, s137_6, s137_12, s137_19, s137_20, s137_23, s137_24, s137_27, s137_31, ldi_0, ldi_s, ldl_0, ldl_s, ldd_0, ldd_s, lda_0, lda_s, st1_0, st1_1, st2_0, st2_1, sti_0, sti_1, stj_0, stj_1, st1_2, sti_2, st2_2, stj_2, st1_3, sti_3, st2_3, stj_3, st1_4, sti_4, st2_4, stj_4, st1_5, sti_5, st2_5, stj_5, st1_6, sti_6, st2_6, stj_6, st1_7, sti_7, st2_7, stj_7, st1_8, sti_8, st2_8, stj_8, st1_9, sti_9, st2_9, stj_9, kil_n, kil_i, kil_r, kil_l, kil_d, gl_0, gl_s, cat_i, cat_r, true_and, gf_ob hK.hx]
  rw [nI_lit0, br_0 (nI_nlt (Nat.zero_le k) (by omega)), show (4 : Int32) = nI 4 from rfl, br_1 (nI_le hk (by decide))]
  refine c137_28r hK.hcols.1 (sp_count hK.hc hK.hG hK.hcols.1 hK.hcols.2.2 (by omega)) ?_
  simp only [s137_0, s137_1, s137_4, s137_5, s137_6, s137_12, s137_19, s137_20, s137_23, s137_24, s137_27, s137_31, ldi_0, ldi_s, ldl_0, ldl_s, ldd_0, ldd_s, lda_0, lda_s, st1_0, st1_1, st2_0, st2_1, sti_0, sti_1, stj_0, stj_1, st1_2, sti_2, st2_2, stj_2, st1_3, sti_3, st2_3, stj_3, st1_4, sti_4, st2_4, stj_4, st1_5, sti_5, st2_5, stj_5, st1_6, sti_6, st2_6, stj_6, st1_7, sti_7, st2_7, stj_7, st1_8, sti_8, st2_8, stj_8, st1_9, sti_9, st2_9, stj_9, kil_n, kil_i, kil_r, kil_l, kil_d, gl_0, gl_s, cat_i, cat_r, true_and]
  exact out_RR
theorem sp_ccolourings_no {p : Int32} (hp : p < 0 ∨ ¬ p ≤ 4) : Sp 20 137 [.ref x, .int p] h z 1 6 (RX 0 h z) := by
  refine Sp_in (al := [some (.ref x), some (.int p)]) ?_
  simp only [s137_0, s137_1, s137_4, s137_5, s137_6, s137_12, s137_19, s137_20, s137_23, s137_24, s137_27, s137_31, ldi_0, ldi_s, ldl_0, ldl_s, ldd_0, ldd_s, lda_0, lda_s, st1_0, st1_1, st2_0, st2_1, sti_0, sti_1, stj_0, stj_1, st1_2, sti_2, st2_2, stj_2, st1_3, sti_3, st2_3, stj_3, st1_4, sti_4, st2_4, stj_4, st1_5, sti_5, st2_5, stj_5, st1_6, sti_6, st2_6, stj_6, st1_7, sti_7, st2_7, stj_7, st1_8, sti_8, st2_8, stj_8, st1_9, sti_9, st2_9, stj_9, kil_n, kil_i, kil_r, kil_l, kil_d, gl_0, gl_s, cat_i, cat_r, true_and]
  refine ⟨fun _ => s137_9 (by decide) (by omega) (by omega) fun z' hz => ⟨rfl, rfl, hz⟩, fun h1 => ⟨fun h2 => ?_, fun _ => s137_9 (by decide) (by omega) (by omega) fun z' hz => ⟨rfl, rfl, hz⟩⟩⟩
  exact absurd h2 (hp.resolve_left h1)
theorem sp_ccoeff (hK : K h x c r c2 r2 n G sn SG) {m : Nat} (hm : m ≤ n) : Sp 20 142 [.ref x, .int (nI m)] h z 0 0 (RR (some (.long (mlt (ptn n G) n n m))) (RD h (x + 5) n G) z) := by
  have k2 := hK.rd.1
  have hn := hK.hG.1
  obtain ⟨b, ho⟩ := hK.ho
  refine Sp_in (al := [some (.ref x), some (.int (nI m))]) ?_
  simp only [s142_0, s142_1, s142_4, s142_5, s142_6, s142_12, s142_18, s142_25, s142_26, s142_29, s142_30, s142_36, s142_37, s142_40, s142_44, ldi_0, ldi_s, ldl_0, ldl_s, ldd_0, ldd_s, lda_0, lda_s, st1_0, st1_1, st2_0, st2_1, sti_0, sti_1, stj_0, stj_1, st1_2, sti_2, st2_2, stj_2, st1_3, sti_3, st2_3, stj_3, st1_4, sti_4, st2_4, stj_4, st1_5, sti_5, st2_5, stj_5, st1_6, sti_6, st2_6, stj_6, st1_7, sti_7, st2_7, stj_7, st1_8, sti_8, st2_8, stj_8, st1_9, sti_9, st2_9, stj_9, kil_n, kil_i, kil_r, kil_l, kil_d, gl_0, gl_s, cat_i, cat_r, true_and, gf_ob hK.hx]
  rw [nI_lit0, br_0 (nI_nlt (Nat.zero_le m) (by omega))]
  refine c142_9r hK.hc.1 (sp_size hK.hc.1) ?_
  simp only [s142_0, s142_1, s142_4, s142_5, s142_6, s142_12, s142_18, s142_25, s142_26, s142_29, s142_30, s142_36, s142_37, s142_40, s142_44, ldi_0, ldi_s, ldl_0, ldl_s, ldd_0, ldd_s, lda_0, lda_s, st1_0, st1_1, st2_0, st2_1, sti_0, sti_1, stj_0, stj_1, st1_2, sti_2, st2_2, stj_2, st1_3, sti_3, st2_3, stj_3, st1_4, sti_4, st2_4, stj_4, st1_5, sti_5, st2_5, stj_5, st1_6, sti_6, st2_6, stj_6, st1_7, sti_7, st2_7, stj_7, st1_8, sti_8, st2_8, stj_8, st1_9, sti_9, st2_9, stj_9, kil_n, kil_i, kil_r, kil_l, kil_d, gl_0, gl_s, cat_i, cat_r, true_and, gf_ob hK.hx]
  rw [br_1 (nI_le hm (by omega))]
  refine c142_33r ho (sp_rd hK) ?_
  simp only [s142_0, s142_1, s142_4, s142_5, s142_6, s142_12, s142_18, s142_25, s142_26, s142_29, s142_30, s142_36, s142_37, s142_40, s142_44, ldi_0, ldi_s, ldl_0, ldl_s, ldd_0, ldd_s, lda_0, lda_s, st1_0, st1_1, st2_0, st2_1, sti_0, sti_1, stj_0, stj_1, st1_2, sti_2, st2_2, stj_2, st1_3, sti_3, st2_3, stj_3, st1_4, sti_4, st2_4, stj_4, st1_5, sti_5, st2_5, stj_5, st1_6, sti_6, st2_6, stj_6, st1_7, sti_7, st2_7, stj_7, st1_8, sti_8, st2_8, stj_8, st1_9, sti_9, st2_9, stj_9, kil_n, kil_i, kil_r, kil_l, kil_d, gl_0, gl_s, cat_i, cat_r, true_and, gf_ob k2.hx]
  refine c142_41r RD_po (sp_factor RD_po RD_fa (by omega)) ?_
  simp only [s142_0, s142_1, s142_4, s142_5, s142_6, s142_12, s142_18, s142_25, s142_26, s142_29, s142_30, s142_36, s142_37, s142_40, s142_44, ldi_0, ldi_s, ldl_0, ldl_s, ldd_0, ldd_s, lda_0, lda_s, st1_0, st1_1, st2_0, st2_1, sti_0, sti_1, stj_0, stj_1, st1_2, sti_2, st2_2, stj_2, st1_3, sti_3, st2_3, stj_3, st1_4, sti_4, st2_4, stj_4, st1_5, sti_5, st2_5, stj_5, st1_6, sti_6, st2_6, stj_6, st1_7, sti_7, st2_7, stj_7, st1_8, sti_8, st2_8, stj_8, st1_9, sti_9, st2_9, stj_9, kil_n, kil_i, kil_r, kil_l, kil_d, gl_0, gl_s, cat_i, cat_r, true_and]
  exact out_RR
theorem sp_ccoeff_no (hK : K h x c r c2 r2 n G sn SG) {p : Int32} (hp : p < 0 ∨ ¬ p ≤ nI n) : Sp 20 142 [.ref x, .int p] h z 1 6 (RX 2 h z) := by
  refine Sp_in (al := [some (.ref x), some (.int p)]) ?_
  simp only [s142_0, s142_1, s142_4, s142_5, s142_6, s142_12, s142_18, s142_25, s142_26, s142_29, s142_30, s142_36, s142_37, s142_40, s142_44, ldi_0, ldi_s, ldl_0, ldl_s, ldd_0, ldd_s, lda_0, lda_s, st1_0, st1_1, st2_0, st2_1, sti_0, sti_1, stj_0, stj_1, st1_2, sti_2, st2_2, stj_2, st1_3, sti_3, st2_3, stj_3, st1_4, sti_4, st2_4, stj_4, st1_5, sti_5, st2_5, stj_5, st1_6, sti_6, st2_6, stj_6, st1_7, sti_7, st2_7, stj_7, st1_8, sti_8, st2_8, stj_8, st1_9, sti_9, st2_9, stj_9, kil_n, kil_i, kil_r, kil_l, kil_d, gl_0, gl_s, cat_i, cat_r, true_and, gf_ob hK.hx]
  refine ⟨fun _ => s142_15 (by decide) (by omega) (by omega) fun z' hz => ⟨rfl, rfl, hz⟩, fun h1 => ?_⟩
  refine c142_9r hK.hc.1 (sp_size hK.hc.1) ?_
  simp only [s142_0, s142_1, s142_4, s142_5, s142_6, s142_12, s142_18, s142_25, s142_26, s142_29, s142_30, s142_36, s142_37, s142_40, s142_44, ldi_0, ldi_s, ldl_0, ldl_s, ldd_0, ldd_s, lda_0, lda_s, st1_0, st1_1, st2_0, st2_1, sti_0, sti_1, stj_0, stj_1, st1_2, sti_2, st2_2, stj_2, st1_3, sti_3, st2_3, stj_3, st1_4, sti_4, st2_4, stj_4, st1_5, sti_5, st2_5, stj_5, st1_6, sti_6, st2_6, stj_6, st1_7, sti_7, st2_7, stj_7, st1_8, sti_8, st2_8, stj_8, st1_9, sti_9, st2_9, stj_9, kil_n, kil_i, kil_r, kil_l, kil_d, gl_0, gl_s, cat_i, cat_r, true_and, gf_ob hK.hx]
  rw [br_0 (hp.resolve_left h1)]
  exact s142_15 (by decide) (by omega) (by omega) fun z' hz => ⟨rfl, rfl, hz⟩
/-- a value worked out into one of the two great numbers -/
theorem sp_evaluate (hK : K h x c r c2 r2 n G sn SG) {k : Int32} {w : Nat} (hw : w = x + 18 ∨ w = x + 20) : Sp 16 148 [.ref x, .int k, .ref w] h z 0 0 (RR none (hup (RD h (x + 5) n G) (w + 1) (la 10 (evW n G k))) z) := by
  have hn := hK.hG.1
  have k2 := hK.rd.1
  obtain ⟨b, ho⟩ := hK.ho
  have hW : Whl (RD h (x + 5) n G) w := by
    rcases hw with rfl | rfl
    · exact k2.hone
    · exact k2.htwo
  obtain ⟨w1, P, w2, w3⟩ := hW
  have e := hK.two'
  unfold Two at e
  have wr : w + 1 ≠ w := by omega
  refine Sp_in (al := [some (.ref x), some (.int k), some (.ref w), none]) ?_
  simp only [s148_0, s148_1, s148_4, s148_5, s148_11, s148_15, s148_16, s148_22, s148_24, s148_27, s148_28, s148_32, s148_33, s148_34, s148_37, s148_44, s148_47, s148_50, ldi_0, ldi_s, ldl_0, ldl_s, ldd_0, ldd_s, lda_0, lda_s, st1_0, st1_1, st2_0, st2_1, sti_0, sti_1, stj_0, stj_1, st1_2, sti_2, st2_2, stj_2, st1_3, sti_3, st2_3, stj_3, st1_4, sti_4, st2_4, stj_4, st1_5, sti_5, st2_5, stj_5, st1_6, sti_6, st2_6, stj_6, st1_7, sti_7, st2_7, stj_7, st1_8, sti_8, st2_8, stj_8, st1_9, sti_9, st2_9, stj_9, kil_n, kil_i, kil_r, kil_l, kil_d, gl_0, gl_s, cat_i, cat_r, true_and, gf_ob hK.hx]
  refine c148_8r ho (sp_rd hK) ?_
  simp only [s148_0, s148_1, s148_4, s148_5, s148_11, s148_15, s148_16, s148_22, s148_24, s148_27, s148_28, s148_32, s148_33, s148_34, s148_37, s148_44, s148_47, s148_50, ldi_0, ldi_s, ldl_0, ldl_s, ldd_0, ldd_s, lda_0, lda_s, st1_0, st1_1, st2_0, st2_1, sti_0, sti_1, stj_0, stj_1, st1_2, sti_2, st2_2, stj_2, st1_3, sti_3, st2_3, stj_3, st1_4, sti_4, st2_4, stj_4, st1_5, sti_5, st2_5, stj_5, st1_6, sti_6, st2_6, stj_6, st1_7, sti_7, st2_7, stj_7, st1_8, sti_8, st2_8, stj_8, st1_9, sti_9, st2_9, stj_9, kil_n, kil_i, kil_r, kil_l, kil_d, gl_0, gl_s, cat_i, cat_r, true_and]
  refine c148_12r w1 (sp_wclear w1 w2) ?_
  rw [stg_z w3]
  have hX : ∀ X, hup (RD h (x + 5) n G) (w + 1) X x = some (coM x c c2) := fun X => by rw [hup_ne (by omega)]; exact k2.hx
  have hcX : ∀ X, ChAt (hup (RD h (x + 5) n G) (w + 1) X) c r n G := fun X => k2.hc.fr (hup_ne (by omega)) (hup_ne (by omega))
  have hoX : ∀ X, hup (RD h (x + 5) n G) (w + 1) X (x + 5) = some (poO true (x + 6) (x + 8) (x + 9) (x + 10)) := fun X => by rw [hup_ne (by omega)]; exact RD_po
  have hfX : ∀ X, hup (RD h (x + 5) n G) (w + 1) X (x + 10) = some (la 10 (mlt (ptn n G) n n)) := fun X => by rw [hup_ne (by omega)]; exact RD_fa
  have hwX : ∀ X, hup (RD h (x + 5) n G) (w + 1) X w = some (whO (w + 1)) := fun X => by rw [hup_ne (by omega)]; exact w1
  simp only [s148_0, s148_1, s148_4, s148_5, s148_11, s148_15, s148_16, s148_22, s148_24, s148_27, s148_28, s148_32, s148_33, s148_34, s148_37, s148_44, s148_47, s148_50, ldi_0, ldi_s, ldl_0, ldl_s, ldd_0, ldd_s, lda_0, lda_s, st1_0, st1_1, st2_0, st2_1, sti_0, sti_1, stj_0, stj_1, st1_2, sti_2, st2_2, stj_2, st1_3, sti_3, st2_3, stj_3, st1_4, sti_4, st2_4, stj_4, st1_5, sti_5, st2_5, stj_5, st1_6, sti_6, st2_6, stj_6, st1_7, sti_7, st2_7, stj_7, st1_8, sti_8, st2_8, stj_8, st1_9, sti_9, st2_9, stj_9, kil_n, kil_i, kil_r, kil_l, kil_d, gl_0, gl_s, cat_i, cat_r, true_and, gf_ob (hX _)]
  refine c148_19r (hcX _).1 (sp_size (hcX _).1) ?_
  simp only [s148_0, s148_1, s148_4, s148_5, s148_11, s148_15, s148_16, s148_22, s148_24, s148_27, s148_28, s148_32, s148_33, s148_34, s148_37, s148_44, s148_47, s148_50, ldi_0, ldi_s, ldl_0, ldl_s, ldd_0, ldd_s, lda_0, lda_s, st1_0, st1_1, st2_0, st2_1, sti_0, sti_1, stj_0, stj_1, st1_2, sti_2, st2_2, stj_2, st1_3, sti_3, st2_3, stj_3, st1_4, sti_4, st2_4, stj_4, st1_5, sti_5, st2_5, stj_5, st1_6, sti_6, st2_6, stj_6, st1_7, sti_7, st2_7, stj_7, st1_8, sti_8, st2_8, stj_8, st1_9, sti_9, st2_9, stj_9, kil_n, kil_i, kil_r, kil_l, kil_d, gl_0, gl_s, cat_i, cat_r, true_and]
  have key : ∀ j, j ≤ n + 1 → ∀ W, evl (mlt (ptn n G) n n) k j W = evW n G k → aW (Sp 15) 148 0 0 (RR none (hup (RD h (x + 5) n G) (w + 1) (la 10 (evW n G k))) z) 23 [some (.ref x), some (.int k), some (.ref w), some (.int (nI j + (-1)))] [] (hup (RD h (x + 5) n G) (w + 1) (la 10 W)) z 0 0 := by
    refine aDn ?_ fun j hj ih => ?_
    · intro W e
      rw [s148_23]
      simp only [s148_0, s148_1, s148_4, s148_5, s148_11, s148_15, s148_16, s148_22, s148_24, s148_27, s148_28, s148_32, s148_33, s148_34, s148_37, s148_44, s148_47, s148_50, ldi_0, ldi_s, ldl_0, ldl_s, ldd_0, ldd_s, lda_0, lda_s, st1_0, st1_1, st2_0, st2_1, sti_0, sti_1, stj_0, stj_1, st1_2, sti_2, st2_2, stj_2, st1_3, sti_3, st2_3, stj_3, st1_4, sti_4, st2_4, stj_4, st1_5, sti_5, st2_5, stj_5, st1_6, sti_6, st2_6, stj_6, st1_7, sti_7, st2_7, stj_7, st1_8, sti_8, st2_8, stj_8, st1_9, sti_9, st2_9, stj_9, kil_n, kil_i, kil_r, kil_l, kil_d, gl_0, gl_s, cat_i, cat_r, true_and]
      rw [br_1 (by decide), ← e]
      exact out_RR
    · intro W e
      rw [nI_pm, s148_23]
      simp only [s148_0, s148_1, s148_4, s148_5, s148_11, s148_15, s148_16, s148_22, s148_24, s148_27, s148_28, s148_32, s148_33, s148_34, s148_37, s148_44, s148_47, s148_50, ldi_0, ldi_s, ldl_0, ldl_s, ldd_0, ldd_s, lda_0, lda_s, st1_0, st1_1, st2_0, st2_1, sti_0, sti_1, stj_0, stj_1, st1_2, sti_2, st2_2, stj_2, st1_3, sti_3, st2_3, stj_3, st1_4, sti_4, st2_4, stj_4, st1_5, sti_5, st2_5, stj_5, st1_6, sti_6, st2_6, stj_6, st1_7, sti_7, st2_7, stj_7, st1_8, sti_8, st2_8, stj_8, st1_9, sti_9, st2_9, stj_9, kil_n, kil_i, kil_r, kil_l, kil_d, gl_0, gl_s, cat_i, cat_r, true_and]
      rw [nI_lit0, br_0 (nI_nlt (Nat.zero_le j) (by omega))]
      refine c148_29r (hwX _) (sp_wtimes (hwX _) hup_same) ?_
      rw [hup_hup]
      simp only [s148_0, s148_1, s148_4, s148_5, s148_11, s148_15, s148_16, s148_22, s148_24, s148_27, s148_28, s148_32, s148_33, s148_34, s148_37, s148_44, s148_47, s148_50, ldi_0, ldi_s, ldl_0, ldl_s, ldd_0, ldd_s, lda_0, lda_s, st1_0, st1_1, st2_0, st2_1, sti_0, sti_1, stj_0, stj_1, st1_2, sti_2, st2_2, stj_2, st1_3, sti_3, st2_3, stj_3, st1_4, sti_4, st2_4, stj_4, st1_5, sti_5, st2_5, stj_5, st1_6, sti_6, st2_6, stj_6, st1_7, sti_7, st2_7, stj_7, st1_8, sti_8, st2_8, stj_8, st1_9, sti_9, st2_9, stj_9, kil_n, kil_i, kil_r, kil_l, kil_d, gl_0, gl_s, cat_i, cat_r, true_and, gf_ob (hX _)]
      refine c148_38r (hoX _) (sp_factor (hoX _) (hfX _) (show j < 10 by omega)) ?_
      refine c148_41r (hwX _) (sp_wplus (hwX _) hup_same) ?_
      rw [hup_hup]
      simp only [s148_0, s148_1, s148_4, s148_5, s148_11, s148_15, s148_16, s148_22, s148_24, s148_27, s148_28, s148_32, s148_33, s148_34, s148_37, s148_44, s148_47, s148_50, ldi_0, ldi_s, ldl_0, ldl_s, ldd_0, ldd_s, lda_0, lda_s, st1_0, st1_1, st2_0, st2_1, sti_0, sti_1, stj_0, stj_1, st1_2, sti_2, st2_2, stj_2, st1_3, sti_3, st2_3, stj_3, st1_4, sti_4, st2_4, stj_4, st1_5, sti_5, st2_5, stj_5, st1_6, sti_6, st2_6, stj_6, st1_7, sti_7, st2_7, stj_7, st1_8, sti_8, st2_8, stj_8, st1_9, sti_9, st2_9, stj_9, kil_n, kil_i, kil_r, kil_l, kil_d, gl_0, gl_s, cat_i, cat_r, true_and]
      exact ih _ e
  have k0 := key (n + 1) (Nat.le_refl _) _ rfl
  rw [nI_pm] at k0
  exact k0
/-- the heap behind it -/
def EH (h : AH) (x n : Nat) (G : Nat → Nat → Bool) (k : Int32) : AH := hup (RD h (x + 5) n G) (x + 19) (la 10 (evW n G k))
theorem evW_big {k : Int32} : ∀ q, 10 ≤ q → evW n G k q = 0 := evl_big _ _ (fun _ _ => rfl)
theorem K.ev (hK : K h x c r c2 r2 n G sn SG) {k : Int32} : K (EH h x n G k) x c r c2 r2 n G sn SG ∧ Fr (x + 5) (x + 20) h (EH h x n G k) := by
  have k2 := hK.rd
  have k3 := k2.1.wh1 (evW_big (n := n) (G := G) (k := k))
  exact ⟨k3.1, (k2.2.mono (by omega) (by omega)).trans (k3.2.mono (by omega) (by omega))⟩
theorem K.hwh (hK : K h x c r c2 r2 n G sn SG) : h (x + 18) = some (whO (x + 19)) := hK.hone.1
theorem sp_cvalue (hK : K h x c r c2 r2 n G sn SG) {k : Int32} (hf : wfit (evW n G k) 9 = true) : Sp 20 147 [.ref x, .int k] h z 0 0 (RR (some (.int (wlow (evW n G k)).toInt32)) (EH h x n G k) z) := by
  have k2 := (hK.ev (k := k)).1
  have h2 : EH h x n G k (x + 19) = some (la 10 (evW n G k)) := hup_same
  refine Sp_in (al := [some (.ref x), some (.int k)]) ?_
  simp only [s147_0, s147_1, s147_2, s147_3, s147_9, s147_10, s147_16, s147_22, s147_29, s147_30, s147_36, s147_37, ldi_0, ldi_s, ldl_0, ldl_s, ldd_0, ldd_s, lda_0, lda_s, st1_0, st1_1, st2_0, st2_1, sti_0, sti_1, stj_0, stj_1, st1_2, sti_2, st2_2, stj_2, st1_3, sti_3, st2_3, stj_3, st1_4, sti_4, st2_4, stj_4, st1_5, sti_5, st2_5, stj_5, st1_6, sti_6, st2_6, stj_6, st1_7, sti_7, st2_7, stj_7, st1_8, sti_8, st2_8, stj_8, st1_9, sti_9, st2_9, stj_9, kil_n, kil_i, kil_r, kil_l, kil_d, gl_0, gl_s, cat_i, cat_r, true_and, gf_ob hK.hx]
  refine c147_6r hK.hx (sp_evaluate hK (Or.inl rfl)) ?_
  simp only [s147_0, s147_1, s147_2, s147_3, s147_9, s147_10, s147_16, s147_22, s147_29, s147_30, s147_36, s147_37, ldi_0, ldi_s, ldl_0, ldl_s, ldd_0, ldd_s, lda_0, lda_s, st1_0, st1_1, st2_0, st2_1, sti_0, sti_1, stj_0, stj_1, st1_2, sti_2, st2_2, stj_2, st1_3, sti_3, st2_3, stj_3, st1_4, sti_4, st2_4, stj_4, st1_5, sti_5, st2_5, stj_5, st1_6, sti_6, st2_6, stj_6, st1_7, sti_7, st2_7, stj_7, st1_8, sti_8, st2_8, stj_8, st1_9, sti_9, st2_9, stj_9, kil_n, kil_i, kil_r, kil_l, kil_d, gl_0, gl_s, cat_i, cat_r, true_and]
  rw [show hup (RD h (x + 5) n G) (x + 18 + 1) (la 10 (evW n G k)) = EH h x n G k from rfl]
  simp only [s147_0, s147_1, s147_2, s147_3, s147_9, s147_10, s147_16, s147_22, s147_29, s147_30, s147_36, s147_37, ldi_0, ldi_s, ldl_0, ldl_s, ldd_0, ldd_s, lda_0, lda_s, st1_0, st1_1, st2_0, st2_1, sti_0, sti_1, stj_0, stj_1, st1_2, sti_2, st2_2, stj_2, st1_3, sti_3, st2_3, stj_3, st1_4, sti_4, st2_4, stj_4, st1_5, sti_5, st2_5, stj_5, st1_6, sti_6, st2_6, stj_6, st1_7, sti_7, st2_7, stj_7, st1_8, sti_8, st2_8, stj_8, st1_9, sti_9, st2_9, stj_9, kil_n, kil_i, kil_r, kil_l, kil_d, gl_0, gl_s, cat_i, cat_r, true_and, gf_ob k2.hx]
  refine c147_13r k2.hwh (sp_wfits k2.hwh h2) ?_
  simp only [s147_0, s147_1, s147_2, s147_3, s147_9, s147_10, s147_16, s147_22, s147_29, s147_30, s147_36, s147_37, ldi_0, ldi_s, ldl_0, ldl_s, ldd_0, ldd_s, lda_0, lda_s, st1_0, st1_1, st2_0, st2_1, sti_0, sti_1, stj_0, stj_1, st1_2, sti_2, st2_2, stj_2, st1_3, sti_3, st2_3, stj_3, st1_4, sti_4, st2_4, stj_4, st1_5, sti_5, st2_5, stj_5, st1_6, sti_6, st2_6, stj_6, st1_7, sti_7, st2_7, stj_7, st1_8, sti_8, st2_8, stj_8, st1_9, sti_9, st2_9, stj_9, kil_n, kil_i, kil_r, kil_l, kil_d, gl_0, gl_s, cat_i, cat_r, true_and, gf_ob k2.hx]
  rw [hf, br_1 (by decide)]
  refine c147_33r k2.hwh (sp_wlow k2.hwh h2) ?_
  simp only [s147_0, s147_1, s147_2, s147_3, s147_9, s147_10, s147_16, s147_22, s147_29, s147_30, s147_36, s147_37, ldi_0, ldi_s, ldl_0, ldl_s, ldd_0, ldd_s, lda_0, lda_s, st1_0, st1_1, st2_0, st2_1, sti_0, sti_1, stj_0, stj_1, st1_2, sti_2, st2_2, stj_2, st1_3, sti_3, st2_3, stj_3, st1_4, sti_4, st2_4, stj_4, st1_5, sti_5, st2_5, stj_5, st1_6, sti_6, st2_6, stj_6, st1_7, sti_7, st2_7, stj_7, st1_8, sti_8, st2_8, stj_8, st1_9, sti_9, st2_9, stj_9, kil_n, kil_i, kil_r, kil_l, kil_d, gl_0, gl_s, cat_i, cat_r, true_and]
  exact out_RR
theorem sp_cvalue_no (hK : K h x c r c2 r2 n G sn SG) {k : Int32} (hf : wfit (evW n G k) 9 = false) : Sp 20 147 [.ref x, .int k] h z 1 6 (RX 4 (EH h x n G k) z) := by
  have k2 := (hK.ev (k := k)).1
  have h2 : EH h x n G k (x + 19) = some (la 10 (evW n G k)) := hup_same
  refine Sp_in (al := [some (.ref x), some (.int k)]) ?_
  simp only [s147_0, s147_1, s147_2, s147_3, s147_9, s147_10, s147_16, s147_22, s147_29, s147_30, s147_36, s147_37, ldi_0, ldi_s, ldl_0, ldl_s, ldd_0, ldd_s, lda_0, lda_s, st1_0, st1_1, st2_0, st2_1, sti_0, sti_1, stj_0, stj_1, st1_2, sti_2, st2_2, stj_2, st1_3, sti_3, st2_3, stj_3, st1_4, sti_4, st2_4, stj_4, st1_5, sti_5, st2_5, stj_5, st1_6, sti_6, st2_6, stj_6, st1_7, sti_7, st2_7, stj_7, st1_8, sti_8, st2_8, stj_8, st1_9, sti_9, st2_9, stj_9, kil_n, kil_i, kil_r, kil_l, kil_d, gl_0, gl_s, cat_i, cat_r, true_and, gf_ob hK.hx]
  refine c147_6r hK.hx (sp_evaluate hK (Or.inl rfl)) ?_
  rw [show hup (RD h (x + 5) n G) (x + 18 + 1) (la 10 (evW n G k)) = EH h x n G k from rfl]
  simp only [s147_0, s147_1, s147_2, s147_3, s147_9, s147_10, s147_16, s147_22, s147_29, s147_30, s147_36, s147_37, ldi_0, ldi_s, ldl_0, ldl_s, ldd_0, ldd_s, lda_0, lda_s, st1_0, st1_1, st2_0, st2_1, sti_0, sti_1, stj_0, stj_1, st1_2, sti_2, st2_2, stj_2, st1_3, sti_3, st2_3, stj_3, st1_4, sti_4, st2_4, stj_4, st1_5, sti_5, st2_5, stj_5, st1_6, sti_6, st2_6, stj_6, st1_7, sti_7, st2_7, stj_7, st1_8, sti_8, st2_8, stj_8, st1_9, sti_9, st2_9, stj_9, kil_n, kil_i, kil_r, kil_l, kil_d, gl_0, gl_s, cat_i, cat_r, true_and, gf_ob k2.hx]
  refine c147_13r k2.hwh (sp_wfits k2.hwh h2) ?_
  simp only [s147_0, s147_1, s147_2, s147_3, s147_9, s147_10, s147_16, s147_22, s147_29, s147_30, s147_36, s147_37, ldi_0, ldi_s, ldl_0, ldl_s, ldd_0, ldd_s, lda_0, lda_s, st1_0, st1_1, st2_0, st2_1, sti_0, sti_1, stj_0, stj_1, st1_2, sti_2, st2_2, stj_2, st1_3, sti_3, st2_3, stj_3, st1_4, sti_4, st2_4, stj_4, st1_5, sti_5, st2_5, stj_5, st1_6, sti_6, st2_6, stj_6, st1_7, sti_7, st2_7, stj_7, st1_8, sti_8, st2_8, stj_8, st1_9, sti_9, st2_9, stj_9, kil_n, kil_i, kil_r, kil_l, kil_d, gl_0, gl_s, cat_i, cat_r, true_and, gf_ob k2.hx]
  rw [hf, br_0 (by decide)]
  exact s147_19 (by decide) (by omega) (by omega) fun z' hz => ⟨rfl, rfl, hz⟩
theorem sp_cround (hK : K h x c r c2 r2 n G sn SG) {k : Int32} : Sp 20 162 [.ref x, .int k] h z 0 0 (RR (some (.long (wlow (evW n G k)))) (EH h x n G k) z) := by
  have k2 := (hK.ev (k := k)).1
  have h2 : EH h x n G k (x + 19) = some (la 10 (evW n G k)) := hup_same
  refine Sp_in (al := [some (.ref x), some (.int k)]) ?_
  simp only [s162_0, s162_1, s162_2, s162_3, s162_9, s162_10, s162_16, ldi_0, ldi_s, ldl_0, ldl_s, ldd_0, ldd_s, lda_0, lda_s, st1_0, st1_1, st2_0, st2_1, sti_0, sti_1, stj_0, stj_1, st1_2, sti_2, st2_2, stj_2, st1_3, sti_3, st2_3, stj_3, st1_4, sti_4, st2_4, stj_4, st1_5, sti_5, st2_5, stj_5, st1_6, sti_6, st2_6, stj_6, st1_7, sti_7, st2_7, stj_7, st1_8, sti_8, st2_8, stj_8, st1_9, sti_9, st2_9, stj_9, kil_n, kil_i, kil_r, kil_l, kil_d, gl_0, gl_s, cat_i, cat_r, true_and, gf_ob hK.hx]
  refine c162_6r hK.hx (sp_evaluate hK (Or.inl rfl)) ?_
  rw [show hup (RD h (x + 5) n G) (x + 18 + 1) (la 10 (evW n G k)) = EH h x n G k from rfl]
  simp only [s162_0, s162_1, s162_2, s162_3, s162_9, s162_10, s162_16, ldi_0, ldi_s, ldl_0, ldl_s, ldd_0, ldd_s, lda_0, lda_s, st1_0, st1_1, st2_0, st2_1, sti_0, sti_1, stj_0, stj_1, st1_2, sti_2, st2_2, stj_2, st1_3, sti_3, st2_3, stj_3, st1_4, sti_4, st2_4, stj_4, st1_5, sti_5, st2_5, stj_5, st1_6, sti_6, st2_6, stj_6, st1_7, sti_7, st2_7, stj_7, st1_8, sti_8, st2_8, stj_8, st1_9, sti_9, st2_9, stj_9, kil_n, kil_i, kil_r, kil_l, kil_d, gl_0, gl_s, cat_i, cat_r, true_and, gf_ob k2.hx]
  refine c162_13r k2.hwh (sp_wlow k2.hwh h2) ?_
  simp only [s162_0, s162_1, s162_2, s162_3, s162_9, s162_10, s162_16, ldi_0, ldi_s, ldl_0, ldl_s, ldd_0, ldd_s, lda_0, lda_s, st1_0, st1_1, st2_0, st2_1, sti_0, sti_1, stj_0, stj_1, st1_2, sti_2, st2_2, stj_2, st1_3, sti_3, st2_3, stj_3, st1_4, sti_4, st2_4, stj_4, st1_5, sti_5, st2_5, stj_5, st1_6, sti_6, st2_6, stj_6, st1_7, sti_7, st2_7, stj_7, st1_8, sti_8, st2_8, stj_8, st1_9, sti_9, st2_9, stj_9, kil_n, kil_i, kil_r, kil_l, kil_d, gl_0, gl_s, cat_i, cat_r, true_and]
  exact out_RR
theorem dSg_big {P : Nat → Int64} (hz : ∀ q, 10 ≤ q → P q = 0) : ∀ q, 10 ≤ q → dSg P q = 0 := by
  intro q hq
  unfold dSg
  split
  · exact ngF_big hz q hq
  · exact hz q hq
theorem sp_cbits (hK : K h x c r c2 r2 n G sn SG) {k : Int32} : Sp 20 165 [.ref x, .int k] h z 0 0 (RR (some (.int (nI (wbd (dSg (evW n G k)) 320)))) (hup (EH h x n G k) (x + 19) (la 10 (dSg (evW n G k)))) z) := by
  have k2 := (hK.ev (k := k)).1
  have h2 : EH h x n G k (x + 19) = some (la 10 (evW n G k)) := hup_same
  have k3 := (k2.wh1 (dSg_big (evW_big (n := n) (G := G) (k := k)))).1
  refine Sp_in (al := [some (.ref x), some (.int k)]) ?_
  simp only [s165_0, s165_1, s165_2, s165_3, s165_9, s165_10, s165_16, s165_17, s165_23, ldi_0, ldi_s, ldl_0, ldl_s, ldd_0, ldd_s, lda_0, lda_s, st1_0, st1_1, st2_0, st2_1, sti_0, sti_1, stj_0, stj_1, st1_2, sti_2, st2_2, stj_2, st1_3, sti_3, st2_3, stj_3, st1_4, sti_4, st2_4, stj_4, st1_5, sti_5, st2_5, stj_5, st1_6, sti_6, st2_6, stj_6, st1_7, sti_7, st2_7, stj_7, st1_8, sti_8, st2_8, stj_8, st1_9, sti_9, st2_9, stj_9, kil_n, kil_i, kil_r, kil_l, kil_d, gl_0, gl_s, cat_i, cat_r, true_and, gf_ob hK.hx]
  refine c165_6r hK.hx (sp_evaluate hK (Or.inl rfl)) ?_
  rw [show hup (RD h (x + 5) n G) (x + 18 + 1) (la 10 (evW n G k)) = EH h x n G k from rfl]
  simp only [s165_0, s165_1, s165_2, s165_3, s165_9, s165_10, s165_16, s165_17, s165_23, ldi_0, ldi_s, ldl_0, ldl_s, ldd_0, ldd_s, lda_0, lda_s, st1_0, st1_1, st2_0, st2_1, sti_0, sti_1, stj_0, stj_1, st1_2, sti_2, st2_2, stj_2, st1_3, sti_3, st2_3, stj_3, st1_4, sti_4, st2_4, stj_4, st1_5, sti_5, st2_5, stj_5, st1_6, sti_6, st2_6, stj_6, st1_7, sti_7, st2_7, stj_7, st1_8, sti_8, st2_8, stj_8, st1_9, sti_9, st2_9, stj_9, kil_n, kil_i, kil_r, kil_l, kil_d, gl_0, gl_s, cat_i, cat_r, true_and, gf_ob k2.hx]
  refine c165_13r k2.hwh (sp_wdrop k2.hwh h2) ?_
  rw [show (if wneg (evW n G k) = true then ngF (evW n G k) else evW n G k) = dSg (evW n G k) from rfl]
  simp only [s165_0, s165_1, s165_2, s165_3, s165_9, s165_10, s165_16, s165_17, s165_23, ldi_0, ldi_s, ldl_0, ldl_s, ldd_0, ldd_s, lda_0, lda_s, st1_0, st1_1, st2_0, st2_1, sti_0, sti_1, stj_0, stj_1, st1_2, sti_2, st2_2, stj_2, st1_3, sti_3, st2_3, stj_3, st1_4, sti_4, st2_4, stj_4, st1_5, sti_5, st2_5, stj_5, st1_6, sti_6, st2_6, stj_6, st1_7, sti_7, st2_7, stj_7, st1_8, sti_8, st2_8, stj_8, st1_9, sti_9, st2_9, stj_9, kil_n, kil_i, kil_r, kil_l, kil_d, gl_0, gl_s, cat_i, cat_r, true_and, gf_ob k3.hx]
  refine c165_20r k3.hwh (sp_wbits k3.hwh hup_same) ?_
  simp only [s165_0, s165_1, s165_2, s165_3, s165_9, s165_10, s165_16, s165_17, s165_23, ldi_0, ldi_s, ldl_0, ldl_s, ldd_0, ldd_s, lda_0, lda_s, st1_0, st1_1, st2_0, st2_1, sti_0, sti_1, stj_0, stj_1, st1_2, sti_2, st2_2, stj_2, st1_3, sti_3, st2_3, stj_3, st1_4, sti_4, st2_4, stj_4, st1_5, sti_5, st2_5, stj_5, st1_6, sti_6, st2_6, stj_6, st1_7, sti_7, st2_7, stj_7, st1_8, sti_8, st2_8, stj_8, st1_9, sti_9, st2_9, stj_9, kil_n, kil_i, kil_r, kil_l, kil_d, gl_0, gl_s, cat_i, cat_r, true_and]
  exact out_RR
theorem sp_csign (hK : K h x c r c2 r2 n G sn SG) {k : Int32} : Sp 20 170 [.ref x, .int k] h z 0 0 (RR (some (.int (if wneg (evW n G k) then -1 else if wbd (evW n G k) 320 = 0 then 0 else 1))) (EH h x n G k) z) := by
  have k2 := (hK.ev (k := k)).1
  have h2 : EH h x n G k (x + 19) = some (la 10 (evW n G k)) := hup_same
  refine Sp_in (al := [some (.ref x), some (.int k)]) ?_
  simp only [s170_0, s170_1, s170_2, s170_3, s170_9, s170_10, s170_16, ldi_0, ldi_s, ldl_0, ldl_s, ldd_0, ldd_s, lda_0, lda_s, st1_0, st1_1, st2_0, st2_1, sti_0, sti_1, stj_0, stj_1, st1_2, sti_2, st2_2, stj_2, st1_3, sti_3, st2_3, stj_3, st1_4, sti_4, st2_4, stj_4, st1_5, sti_5, st2_5, stj_5, st1_6, sti_6, st2_6, stj_6, st1_7, sti_7, st2_7, stj_7, st1_8, sti_8, st2_8, stj_8, st1_9, sti_9, st2_9, stj_9, kil_n, kil_i, kil_r, kil_l, kil_d, gl_0, gl_s, cat_i, cat_r, true_and, gf_ob hK.hx]
  refine c170_6r hK.hx (sp_evaluate hK (Or.inl rfl)) ?_
  rw [show hup (RD h (x + 5) n G) (x + 18 + 1) (la 10 (evW n G k)) = EH h x n G k from rfl]
  simp only [s170_0, s170_1, s170_2, s170_3, s170_9, s170_10, s170_16, ldi_0, ldi_s, ldl_0, ldl_s, ldd_0, ldd_s, lda_0, lda_s, st1_0, st1_1, st2_0, st2_1, sti_0, sti_1, stj_0, stj_1, st1_2, sti_2, st2_2, stj_2, st1_3, sti_3, st2_3, stj_3, st1_4, sti_4, st2_4, stj_4, st1_5, sti_5, st2_5, stj_5, st1_6, sti_6, st2_6, stj_6, st1_7, sti_7, st2_7, stj_7, st1_8, sti_8, st2_8, stj_8, st1_9, sti_9, st2_9, stj_9, kil_n, kil_i, kil_r, kil_l, kil_d, gl_0, gl_s, cat_i, cat_r, true_and, gf_ob k2.hx]
  refine c170_13r k2.hwh (sp_wsign k2.hwh h2) ?_
  simp only [s170_0, s170_1, s170_2, s170_3, s170_9, s170_10, s170_16, ldi_0, ldi_s, ldl_0, ldl_s, ldd_0, ldd_s, lda_0, lda_s, st1_0, st1_1, st2_0, st2_1, sti_0, sti_1, stj_0, stj_1, st1_2, sti_2, st2_2, stj_2, st1_3, sti_3, st2_3, stj_3, st1_4, sti_4, st2_4, stj_4, st1_5, sti_5, st2_5, stj_5, st1_6, sti_6, st2_6, stj_6, st1_7, sti_7, st2_7, stj_7, st1_8, sti_8, st2_8, stj_8, st1_9, sti_9, st2_9, stj_9, kil_n, kil_i, kil_r, kil_l, kil_d, gl_0, gl_s, cat_i, cat_r, true_and]
  exact out_RR
theorem sp_cdigit (hK : K h x c r c2 r2 n G sn SG) {k : Int32} {d : Nat} (hd : d < 100) : Sp 20 174 [.ref x, .int k, .int (nI d)] h z 0 0 (RR (some (.int (dvo (dvI (dSg (evW n G k)) d) 10).toInt32)) (hup (EH h x n G k) (x + 19) (la 10 (dvI (dSg (evW n G k)) (d + 1)))) z) := by
  have k2 := (hK.ev (k := k)).1
  have h2 : EH h x n G k (x + 19) = some (la 10 (evW n G k)) := hup_same
  have hX : ∀ X, hup (EH h x n G k) (x + 19) X x = some (coM x c c2) := fun X => by rw [hup_ne (by omega)]; exact k2.hx
  have hwX : ∀ X, hup (EH h x n G k) (x + 19) X (x + 18) = some (whO (x + 19)) := fun X => by rw [hup_ne (by omega)]; exact k2.hwh
  refine Sp_in (al := [some (.ref x), some (.int k), some (.int (nI d)), none]) ?_
  simp only [s174_0, s174_1, s174_4, s174_5, s174_7, s174_13, s174_20, s174_21, s174_22, s174_23, s174_29, s174_30, s174_36, s174_37, s174_39, s174_40, s174_43, s174_44, s174_50, s174_51, s174_54, s174_57, s174_58, s174_64, ldi_0, ldi_s, ldl_0, ldl_s, ldd_0, ldd_s, lda_0, lda_s, st1_0, st1_1, st2_0, st2_1, sti_0, sti_1, stj_0, stj_1, st1_2, sti_2, st2_2, stj_2, st1_3, sti_3, st2_3, stj_3, st1_4, sti_4, st2_4, stj_4, st1_5, sti_5, st2_5, stj_5, st1_6, sti_6, st2_6, stj_6, st1_7, sti_7, st2_7, stj_7, st1_8, sti_8, st2_8, stj_8, st1_9, sti_9, st2_9, stj_9, kil_n, kil_i, kil_r, kil_l, kil_d, gl_0, gl_s, cat_i, cat_r, true_and, gf_ob hK.hx]
  rw [nI_lit0, br_0 (nI_nlt (Nat.zero_le d) (by omega)), show (100 : Int32) = nI 100 from rfl, br_1 (nI_lt hd (by decide))]
  refine c174_26r hK.hx (sp_evaluate hK (Or.inl rfl)) ?_
  rw [show hup (RD h (x + 5) n G) (x + 18 + 1) (la 10 (evW n G k)) = EH h x n G k from rfl]
  simp only [s174_0, s174_1, s174_4, s174_5, s174_7, s174_13, s174_20, s174_21, s174_22, s174_23, s174_29, s174_30, s174_36, s174_37, s174_39, s174_40, s174_43, s174_44, s174_50, s174_51, s174_54, s174_57, s174_58, s174_64, ldi_0, ldi_s, ldl_0, ldl_s, ldd_0, ldd_s, lda_0, lda_s, st1_0, st1_1, st2_0, st2_1, sti_0, sti_1, stj_0, stj_1, st1_2, sti_2, st2_2, stj_2, st1_3, sti_3, st2_3, stj_3, st1_4, sti_4, st2_4, stj_4, st1_5, sti_5, st2_5, stj_5, st1_6, sti_6, st2_6, stj_6, st1_7, sti_7, st2_7, stj_7, st1_8, sti_8, st2_8, stj_8, st1_9, sti_9, st2_9, stj_9, kil_n, kil_i, kil_r, kil_l, kil_d, gl_0, gl_s, cat_i, cat_r, true_and, gf_ob k2.hx]
  refine c174_33r k2.hwh (sp_wdrop k2.hwh h2) ?_
  rw [show (if wneg (evW n G k) = true then ngF (evW n G k) else evW n G k) = dSg (evW n G k) from rfl]
  simp only [s174_0, s174_1, s174_4, s174_5, s174_7, s174_13, s174_20, s174_21, s174_22, s174_23, s174_29, s174_30, s174_36, s174_37, s174_39, s174_40, s174_43, s174_44, s174_50, s174_51, s174_54, s174_57, s174_58, s174_64, ldi_0, ldi_s, ldl_0, ldl_s, ldd_0, ldd_s, lda_0, lda_s, st1_0, st1_1, st2_0, st2_1, sti_0, sti_1, stj_0, stj_1, st1_2, sti_2, st2_2, stj_2, st1_3, sti_3, st2_3, stj_3, st1_4, sti_4, st2_4, stj_4, st1_5, sti_5, st2_5, stj_5, st1_6, sti_6, st2_6, stj_6, st1_7, sti_7, st2_7, stj_7, st1_8, sti_8, st2_8, stj_8, st1_9, sti_9, st2_9, stj_9, kil_n, kil_i, kil_r, kil_l, kil_d, gl_0, gl_s, cat_i, cat_r, true_and]
  have key : ∀ i, i ≤ d → aW (Sp 19) 174 0 0 (RR (some (.int (dvo (dvI (dSg (evW n G k)) d) 10).toInt32)) (hup (EH h x n G k) (x + 19) (la 10 (dvI (dSg (evW n G k)) (d + 1)))) z) 38 [some (.ref x), some (.int k), some (.int (nI d)), some (.int (nI i))] [] (hup (EH h x n G k) (x + 19) (la 10 (dvI (dSg (evW n G k)) i))) z 0 0 := by
    refine aUp ?_ fun i hi ih => ?_
    · rw [s174_38]
      simp only [s174_0, s174_1, s174_4, s174_5, s174_7, s174_13, s174_20, s174_21, s174_22, s174_23, s174_29, s174_30, s174_36, s174_37, s174_39, s174_40, s174_43, s174_44, s174_50, s174_51, s174_54, s174_57, s174_58, s174_64, ldi_0, ldi_s, ldl_0, ldl_s, ldd_0, ldd_s, lda_0, lda_s, st1_0, st1_1, st2_0, st2_1, sti_0, sti_1, stj_0, stj_1, st1_2, sti_2, st2_2, stj_2, st1_3, sti_3, st2_3, stj_3, st1_4, sti_4, st2_4, stj_4, st1_5, sti_5, st2_5, stj_5, st1_6, sti_6, st2_6, stj_6, st1_7, sti_7, st2_7, stj_7, st1_8, sti_8, st2_8, stj_8, st1_9, sti_9, st2_9, stj_9, kil_n, kil_i, kil_r, kil_l, kil_d, gl_0, gl_s, cat_i, cat_r, true_and, gf_ob (hX _)]
      rw [br_1 (nI_le (Nat.le_refl _) (by omega))]
      refine c174_61r (hwX _) (sp_wdiv (hwX _) hup_same) ?_
      simp only [s174_0, s174_1, s174_4, s174_5, s174_7, s174_13, s174_20, s174_21, s174_22, s174_23, s174_29, s174_30, s174_36, s174_37, s174_39, s174_40, s174_43, s174_44, s174_50, s174_51, s174_54, s174_57, s174_58, s174_64, ldi_0, ldi_s, ldl_0, ldl_s, ldd_0, ldd_s, lda_0, lda_s, st1_0, st1_1, st2_0, st2_1, sti_0, sti_1, stj_0, stj_1, st1_2, sti_2, st2_2, stj_2, st1_3, sti_3, st2_3, stj_3, st1_4, sti_4, st2_4, stj_4, st1_5, sti_5, st2_5, stj_5, st1_6, sti_6, st2_6, stj_6, st1_7, sti_7, st2_7, stj_7, st1_8, sti_8, st2_8, stj_8, st1_9, sti_9, st2_9, stj_9, kil_n, kil_i, kil_r, kil_l, kil_d, gl_0, gl_s, cat_i, cat_r, true_and]
      exact out_eq rfl (by rw [hup_hup]; rfl) rfl
    · rw [s174_38]
      simp only [s174_0, s174_1, s174_4, s174_5, s174_7, s174_13, s174_20, s174_21, s174_22, s174_23, s174_29, s174_30, s174_36, s174_37, s174_39, s174_40, s174_43, s174_44, s174_50, s174_51, s174_54, s174_57, s174_58, s174_64, ldi_0, ldi_s, ldl_0, ldl_s, ldd_0, ldd_s, lda_0, lda_s, st1_0, st1_1, st2_0, st2_1, sti_0, sti_1, stj_0, stj_1, st1_2, sti_2, st2_2, stj_2, st1_3, sti_3, st2_3, stj_3, st1_4, sti_4, st2_4, stj_4, st1_5, sti_5, st2_5, stj_5, st1_6, sti_6, st2_6, stj_6, st1_7, sti_7, st2_7, stj_7, st1_8, sti_8, st2_8, stj_8, st1_9, sti_9, st2_9, stj_9, kil_n, kil_i, kil_r, kil_l, kil_d, gl_0, gl_s, cat_i, cat_r, true_and, gf_ob (hX _)]
      rw [br_0 (nI_ge hi (by omega))]
      refine c174_47r (hwX _) (sp_wdiv (hwX _) hup_same) ?_
      simp only [s174_0, s174_1, s174_4, s174_5, s174_7, s174_13, s174_20, s174_21, s174_22, s174_23, s174_29, s174_30, s174_36, s174_37, s174_39, s174_40, s174_43, s174_44, s174_50, s174_51, s174_54, s174_57, s174_58, s174_64, ldi_0, ldi_s, ldl_0, ldl_s, ldd_0, ldd_s, lda_0, lda_s, st1_0, st1_1, st2_0, st2_1, sti_0, sti_1, stj_0, stj_1, st1_2, sti_2, st2_2, stj_2, st1_3, sti_3, st2_3, stj_3, st1_4, sti_4, st2_4, stj_4, st1_5, sti_5, st2_5, stj_5, st1_6, sti_6, st2_6, stj_6, st1_7, sti_7, st2_7, stj_7, st1_8, sti_8, st2_8, stj_8, st1_9, sti_9, st2_9, stj_9, kil_n, kil_i, kil_r, kil_l, kil_d, gl_0, gl_s, cat_i, cat_r, true_and]
      rw [hup_hup, nI_1]
      exact ih
  exact key 0 (by omega)
theorem sp_cdigit_no {k p : Int32} (hp : p < 0 ∨ ¬ p < 100) : Sp 20 174 [.ref x, .int k, .int p] h z 1 6 (RX 2 h z) := by
  refine Sp_in (al := [some (.ref x), some (.int k), some (.int p), none]) ?_
  simp only [s174_0, s174_1, s174_4, s174_5, s174_7, s174_13, s174_20, s174_21, s174_22, s174_23, s174_29, s174_30, s174_36, s174_37, s174_39, s174_40, s174_43, s174_44, s174_50, s174_51, s174_54, s174_57, s174_58, s174_64, ldi_0, ldi_s, ldl_0, ldl_s, ldd_0, ldd_s, lda_0, lda_s, st1_0, st1_1, st2_0, st2_1, sti_0, sti_1, stj_0, stj_1, st1_2, sti_2, st2_2, stj_2, st1_3, sti_3, st2_3, stj_3, st1_4, sti_4, st2_4, stj_4, st1_5, sti_5, st2_5, stj_5, st1_6, sti_6, st2_6, stj_6, st1_7, sti_7, st2_7, stj_7, st1_8, sti_8, st2_8, stj_8, st1_9, sti_9, st2_9, stj_9, kil_n, kil_i, kil_r, kil_l, kil_d, gl_0, gl_s, cat_i, cat_r, true_and]
  refine ⟨fun _ => s174_10 (by decide) (by omega) (by omega) fun z' hz => ⟨rfl, rfl, hz⟩, fun h1 => ⟨fun h2 => ?_, fun _ => s174_10 (by decide) (by omega) (by omega) fun z' hz => ⟨rfl, rfl, hz⟩⟩⟩
  exact absurd h2 (hp.resolve_left h1)
theorem sp_crest (hK : K h x c r c2 r2 n G sn SG) {k y : Int32} (hy : 1 ≤ y) (hz : y.toInt64 ≠ 0) : Sp 20 178 [.ref x, .int k, .int y] h z 0 0 (RR (some (.int (hrm (mlt (ptn n G) n n) (fmd k.toInt64 y.toInt64) y.toInt64 (n + 1) 0).toInt32)) (RD h (x + 5) n G) z) := by
  have k2 := hK.rd.1
  obtain ⟨b, ho⟩ := hK.ho
  refine Sp_in (al := [some (.ref x), some (.int k), some (.int y)]) ?_
  simp only [s178_0, s178_1, s178_2, s178_8, s178_15, s178_16, s178_19, s178_20, s178_26, s178_27, s178_30, s178_31, s178_35, ldi_0, ldi_s, ldl_0, ldl_s, ldd_0, ldd_s, lda_0, lda_s, st1_0, st1_1, st2_0, st2_1, sti_0, sti_1, stj_0, stj_1, st1_2, sti_2, st2_2, stj_2, st1_3, sti_3, st2_3, stj_3, st1_4, sti_4, st2_4, stj_4, st1_5, sti_5, st2_5, stj_5, st1_6, sti_6, st2_6, stj_6, st1_7, sti_7, st2_7, stj_7, st1_8, sti_8, st2_8, stj_8, st1_9, sti_9, st2_9, stj_9, kil_n, kil_i, kil_r, kil_l, kil_d, gl_0, gl_s, cat_i, cat_r, true_and, gf_ob hK.hx]
  rw [br_1 hy]
  refine c178_23r ho (sp_rd hK) ?_
  simp only [s178_0, s178_1, s178_2, s178_8, s178_15, s178_16, s178_19, s178_20, s178_26, s178_27, s178_30, s178_31, s178_35, ldi_0, ldi_s, ldl_0, ldl_s, ldd_0, ldd_s, lda_0, lda_s, st1_0, st1_1, st2_0, st2_1, sti_0, sti_1, stj_0, stj_1, st1_2, sti_2, st2_2, stj_2, st1_3, sti_3, st2_3, stj_3, st1_4, sti_4, st2_4, stj_4, st1_5, sti_5, st2_5, stj_5, st1_6, sti_6, st2_6, stj_6, st1_7, sti_7, st2_7, stj_7, st1_8, sti_8, st2_8, stj_8, st1_9, sti_9, st2_9, stj_9, kil_n, kil_i, kil_r, kil_l, kil_d, gl_0, gl_s, cat_i, cat_r, true_and, gf_ob k2.hx]
  refine c178_32r RD_po (sp_restAt RD_ch hK.hG RD_po RD_fa hy hz) ?_
  simp only [s178_0, s178_1, s178_2, s178_8, s178_15, s178_16, s178_19, s178_20, s178_26, s178_27, s178_30, s178_31, s178_35, ldi_0, ldi_s, ldl_0, ldl_s, ldd_0, ldd_s, lda_0, lda_s, st1_0, st1_1, st2_0, st2_1, sti_0, sti_1, stj_0, stj_1, st1_2, sti_2, st2_2, stj_2, st1_3, sti_3, st2_3, stj_3, st1_4, sti_4, st2_4, stj_4, st1_5, sti_5, st2_5, stj_5, st1_6, sti_6, st2_6, stj_6, st1_7, sti_7, st2_7, stj_7, st1_8, sti_8, st2_8, stj_8, st1_9, sti_9, st2_9, stj_9, kil_n, kil_i, kil_r, kil_l, kil_d, gl_0, gl_s, cat_i, cat_r, true_and]
  exact out_RR
theorem sp_crest_no {k y : Int32} (hy : ¬ 1 ≤ y) : Sp 20 178 [.ref x, .int k, .int y] h z 1 6 (RX 4 h z) := by
  refine Sp_in (al := [some (.ref x), some (.int k), some (.int y)]) ?_
  simp only [s178_0, s178_1, s178_2, s178_8, s178_15, s178_16, s178_19, s178_20, s178_26, s178_27, s178_30, s178_31, s178_35, ldi_0, ldi_s, ldl_0, ldl_s, ldd_0, ldd_s, lda_0, lda_s, st1_0, st1_1, st2_0, st2_1, sti_0, sti_1, stj_0, stj_1, st1_2, sti_2, st2_2, stj_2, st1_3, sti_3, st2_3, stj_3, st1_4, sti_4, st2_4, stj_4, st1_5, sti_5, st2_5, stj_5, st1_6, sti_6, st2_6, stj_6, st1_7, sti_7, st2_7, stj_7, st1_8, sti_8, st2_8, stj_8, st1_9, sti_9, st2_9, stj_9, kil_n, kil_i, kil_r, kil_l, kil_d, gl_0, gl_s, cat_i, cat_r, true_and]
  rw [br_0 hy]
  exact s178_5 (by decide) (by omega) (by omega) fun z' hz => ⟨rfl, rfl, hz⟩
/-- the heap behind compare -/
def CH (h : AH) (x n : Nat) (G : Nat → Nat → Bool) (k k' : Int32) : AH := hup (RD (EH h x n G k) (x + 5) n G) (x + 21) (la 10 (evW n G k'))
theorem K.cmp (hK : K h x c r c2 r2 n G sn SG) {k k' : Int32} : K (CH h x n G k k') x c r c2 r2 n G sn SG ∧ Fr (x + 5) (x + 22) h (CH h x n G k k') := by
  have k1 := hK.ev (k := k)
  have k2 := k1.1.rd
  have k3 := k2.1.wh2 (evW_big (n := n) (G := G) (k := k'))
  exact ⟨k3.1, (k1.2.mono (by omega) (by omega)).trans ((k2.2.mono (by omega) (by omega)).trans (k3.2.mono (by omega) (by omega)))⟩
theorem sp_ccompare (hK : K h x c r c2 r2 n G sn SG) {k k' : Int32} : Sp 20 182 [.ref x, .int k, .int k'] h z 0 0 (RR (some (.int (wcm (evW n G k) (evW n G k')))) (CH h x n G k k') z) := by
  have k2 := (hK.ev (k := k)).1
  have k3 := (hK.cmp (k := k) (k' := k')).1
  have h3 : CH h x n G k k' (x + 21) = some (la 10 (evW n G k')) := hup_same
  have h2 : CH h x n G k k' (x + 19) = some (la 10 (evW n G k)) := by
    unfold CH
    rw [hup_ne (by omega), RD_Fr _ (by omega)]
    exact hup_same
  refine Sp_in (al := [some (.ref x), some (.int k), some (.int k')]) ?_
  simp only [s182_0, s182_1, s182_2, s182_3, s182_9, s182_10, s182_11, s182_12, s182_18, s182_19, s182_22, s182_23, s182_29, ldi_0, ldi_s, ldl_0, ldl_s, ldd_0, ldd_s, lda_0, lda_s, st1_0, st1_1, st2_0, st2_1, sti_0, sti_1, stj_0, stj_1, st1_2, sti_2, st2_2, stj_2, st1_3, sti_3, st2_3, stj_3, st1_4, sti_4, st2_4, stj_4, st1_5, sti_5, st2_5, stj_5, st1_6, sti_6, st2_6, stj_6, st1_7, sti_7, st2_7, stj_7, st1_8, sti_8, st2_8, stj_8, st1_9, sti_9, st2_9, stj_9, kil_n, kil_i, kil_r, kil_l, kil_d, gl_0, gl_s, cat_i, cat_r, true_and, gf_ob hK.hx]
  refine c182_6r hK.hx (sp_evaluate hK (Or.inl rfl)) ?_
  rw [show hup (RD h (x + 5) n G) (x + 18 + 1) (la 10 (evW n G k)) = EH h x n G k from rfl]
  simp only [s182_0, s182_1, s182_2, s182_3, s182_9, s182_10, s182_11, s182_12, s182_18, s182_19, s182_22, s182_23, s182_29, ldi_0, ldi_s, ldl_0, ldl_s, ldd_0, ldd_s, lda_0, lda_s, st1_0, st1_1, st2_0, st2_1, sti_0, sti_1, stj_0, stj_1, st1_2, sti_2, st2_2, stj_2, st1_3, sti_3, st2_3, stj_3, st1_4, sti_4, st2_4, stj_4, st1_5, sti_5, st2_5, stj_5, st1_6, sti_6, st2_6, stj_6, st1_7, sti_7, st2_7, stj_7, st1_8, sti_8, st2_8, stj_8, st1_9, sti_9, st2_9, stj_9, kil_n, kil_i, kil_r, kil_l, kil_d, gl_0, gl_s, cat_i, cat_r, true_and, gf_ob k2.hx]
  refine c182_15r k2.hx (sp_evaluate k2 (Or.inr rfl)) ?_
  rw [show hup (RD (EH h x n G k) (x + 5) n G) (x + 20 + 1) (la 10 (evW n G k')) = CH h x n G k k' from rfl]
  simp only [s182_0, s182_1, s182_2, s182_3, s182_9, s182_10, s182_11, s182_12, s182_18, s182_19, s182_22, s182_23, s182_29, ldi_0, ldi_s, ldl_0, ldl_s, ldd_0, ldd_s, lda_0, lda_s, st1_0, st1_1, st2_0, st2_1, sti_0, sti_1, stj_0, stj_1, st1_2, sti_2, st2_2, stj_2, st1_3, sti_3, st2_3, stj_3, st1_4, sti_4, st2_4, stj_4, st1_5, sti_5, st2_5, stj_5, st1_6, sti_6, st2_6, stj_6, st1_7, sti_7, st2_7, stj_7, st1_8, sti_8, st2_8, stj_8, st1_9, sti_9, st2_9, stj_9, kil_n, kil_i, kil_r, kil_l, kil_d, gl_0, gl_s, cat_i, cat_r, true_and, gf_ob k3.hx]
  refine c182_26r k3.hwh (sp_wagainst k3.hwh h2 k3.htwo.1 h3) ?_
  simp only [s182_0, s182_1, s182_2, s182_3, s182_9, s182_10, s182_11, s182_12, s182_18, s182_19, s182_22, s182_23, s182_29, ldi_0, ldi_s, ldl_0, ldl_s, ldd_0, ldd_s, lda_0, lda_s, st1_0, st1_1, st2_0, st2_1, sti_0, sti_1, stj_0, stj_1, st1_2, sti_2, st2_2, stj_2, st1_3, sti_3, st2_3, stj_3, st1_4, sti_4, st2_4, stj_4, st1_5, sti_5, st2_5, stj_5, st1_6, sti_6, st2_6, stj_6, st1_7, sti_7, st2_7, stj_7, st1_8, sti_8, st2_8, stj_8, st1_9, sti_9, st2_9, stj_9, kil_n, kil_i, kil_r, kil_l, kil_d, gl_0, gl_s, cat_i, cat_r, true_and]
  exact out_RR
theorem sp_cdirections (hK : K h x c r c2 r2 n G sn SG) : Sp 20 185 [.ref x] h z 0 0 (RR (some (.long (absL (hor (mlt (ptn n G) n n) (-1) (n + 1) 0)))) (RD h (x + 5) n G) z) := by
  have k2 := hK.rd.1
  obtain ⟨b, ho⟩ := hK.ho
  refine Sp_in (al := [some (.ref x)]) ?_
  simp only [s185_0, s185_1, s185_4, s185_5, s185_11, s185_12, s185_15, s185_24, ldi_0, ldi_s, ldl_0, ldl_s, ldd_0, ldd_s, lda_0, lda_s, st1_0, st1_1, st2_0, st2_1, sti_0, sti_1, stj_0, stj_1, st1_2, sti_2, st2_2, stj_2, st1_3, sti_3, st2_3, stj_3, st1_4, sti_4, st2_4, stj_4, st1_5, sti_5, st2_5, stj_5, st1_6, sti_6, st2_6, stj_6, st1_7, sti_7, st2_7, stj_7, st1_8, sti_8, st2_8, stj_8, st1_9, sti_9, st2_9, stj_9, kil_n, kil_i, kil_r, kil_l, kil_d, gl_0, gl_s, cat_i, cat_r, true_and, gf_ob hK.hx]
  refine c185_8r ho (sp_rd hK) ?_
  simp only [s185_0, s185_1, s185_4, s185_5, s185_11, s185_12, s185_15, s185_24, ldi_0, ldi_s, ldl_0, ldl_s, ldd_0, ldd_s, lda_0, lda_s, st1_0, st1_1, st2_0, st2_1, sti_0, sti_1, stj_0, stj_1, st1_2, sti_2, st2_2, stj_2, st1_3, sti_3, st2_3, stj_3, st1_4, sti_4, st2_4, stj_4, st1_5, sti_5, st2_5, stj_5, st1_6, sti_6, st2_6, stj_6, st1_7, sti_7, st2_7, stj_7, st1_8, sti_8, st2_8, stj_8, st1_9, sti_9, st2_9, stj_9, kil_n, kil_i, kil_r, kil_l, kil_d, gl_0, gl_s, cat_i, cat_r, true_and, gf_ob k2.hx]
  refine c185_18r RD_po (sp_at RD_ch hK.hG RD_po RD_fa) ?_
  refine c185_21r sp_absL ?_
  simp only [s185_0, s185_1, s185_4, s185_5, s185_11, s185_12, s185_15, s185_24, ldi_0, ldi_s, ldl_0, ldl_s, ldd_0, ldd_s, lda_0, lda_s, st1_0, st1_1, st2_0, st2_1, sti_0, sti_1, stj_0, stj_1, st1_2, sti_2, st2_2, stj_2, st1_3, sti_3, st2_3, stj_3, st1_4, sti_4, st2_4, stj_4, st1_5, sti_5, st2_5, stj_5, st1_6, sti_6, st2_6, stj_6, st1_7, sti_7, st2_7, stj_7, st1_8, sti_8, st2_8, stj_8, st1_9, sti_9, st2_9, stj_9, kil_n, kil_i, kil_r, kil_l, kil_d, gl_0, gl_s, cat_i, cat_r, true_and]
  exact out_RR
/-- all directions of the ways that make no ring, the ways told from A, B on -/
def trd (n : Nat) (G : Nat → Nat → Bool) (A B : Nat → Nat) : Nat := dir (wyA G n (0, A, B) n).2.1 (wyA G n (0, A, B) n).2.2 (wyA G n (0, A, B) n).1 0 (fun _ => 0)
theorem K.wy (hK : K h x c r c2 r2 n G sn SG) {s : Nat × (Nat → Nat) × (Nat → Nat)} : K (wyH h (x + 14) (x + 15) (x + 16) (x + 17) s) x c r c2 r2 n G sn SG ∧ Fr (x + 14) (x + 18) h (wyH h (x + 14) (x + 15) (x + 16) (x + 17) s) := by
  have hf : Fr (x + 14) (x + 18) h (wyH h (x + 14) (x + 15) (x + 16) (x + 17) s) := by
    intro q hq
    unfold wyH
    rw [hup_ne (by omega), hup_ne (by omega), hup_ne (by omega)]
  obtain ⟨m, A, B, d1, d2, d3, d4⟩ := hK.hdirs
  refine ⟨hK.dirs hf ⟨s.1, s.2.1, s.2.2, hup_same, ?_, ?_, ?_⟩, hf⟩
  · unfold wyH
    rw [hup_ne (by omega), hup_ne (by omega), hup_same]
  · unfold wyH
    rw [hup_ne (by omega), hup_same]
  · unfold wyH
    rw [hup_ne (by omega), hup_ne (by omega), hup_ne (by omega)]
    exact d4
theorem sp_ctried (hK : K h x c r c2 r2 n G sn SG) {m : Nat} {A B : Nat → Nat} (d1 : h (x + 14) = some (diO (x + 15) (x + 16) (x + 17) m)) (d2 : h (x + 15) = some (na 10 A)) (d3 : h (x + 16) = some (na 10 B)) (d4 : h (x + 17) = some (na 9 (fun _ => 0))) (h10 : ends G n / 2 ≤ 10) : Sp 20 189 [.ref x] h z 0 0 (RR (some (.int (nI (trd n G A B)))) (wyH h (x + 14) (x + 15) (x + 16) (x + 17) (wyA G n (0, A, B) n)) z) := by
  have e := hK.two'
  unfold Two at e
  refine Sp_in (al := [some (.ref x)]) ?_
  simp only [s189_0, s189_1, s189_7, s189_9, s189_15, s189_22, s189_23, s189_26, s189_27, s189_33, ldi_0, ldi_s, ldl_0, ldl_s, ldd_0, ldd_s, lda_0, lda_s, st1_0, st1_1, st2_0, st2_1, sti_0, sti_1, stj_0, stj_1, st1_2, sti_2, st2_2, stj_2, st1_3, sti_3, st2_3, stj_3, st1_4, sti_4, st2_4, stj_4, st1_5, sti_5, st2_5, stj_5, st1_6, sti_6, st2_6, stj_6, st1_7, sti_7, st2_7, stj_7, st1_8, sti_8, st2_8, stj_8, st1_9, sti_9, st2_9, stj_9, kil_n, kil_i, kil_r, kil_l, kil_d, gl_0, gl_s, cat_i, cat_r, true_and, gf_ob hK.hx]
  refine c189_4r hK.hc.1 (sp_wayCount hK.hc hK.hG) ?_
  simp only [s189_0, s189_1, s189_7, s189_9, s189_15, s189_22, s189_23, s189_26, s189_27, s189_33, ldi_0, ldi_s, ldl_0, ldl_s, ldd_0, ldd_s, lda_0, lda_s, st1_0, st1_1, st2_0, st2_1, sti_0, sti_1, stj_0, stj_1, st1_2, sti_2, st2_2, stj_2, st1_3, sti_3, st2_3, stj_3, st1_4, sti_4, st2_4, stj_4, st1_5, sti_5, st2_5, stj_5, st1_6, sti_6, st2_6, stj_6, st1_7, sti_7, st2_7, stj_7, st1_8, sti_8, st2_8, stj_8, st1_9, sti_9, st2_9, stj_9, kil_n, kil_i, kil_r, kil_l, kil_d, gl_0, gl_s, cat_i, cat_r, true_and, gf_ob hK.hx]
  rw [nI_lit10, br_1 (nI_le h10 (by decide))]
  refine c189_30r d1 (sp_countRingless hK.hc hK.hG d1 d2 d3 d4 (by omega) (by omega) (by omega) (by omega) (by omega) (by omega)) ?_
  simp only [s189_0, s189_1, s189_7, s189_9, s189_15, s189_22, s189_23, s189_26, s189_27, s189_33, ldi_0, ldi_s, ldl_0, ldl_s, ldd_0, ldd_s, lda_0, lda_s, st1_0, st1_1, st2_0, st2_1, sti_0, sti_1, stj_0, stj_1, st1_2, sti_2, st2_2, stj_2, st1_3, sti_3, st2_3, stj_3, st1_4, sti_4, st2_4, stj_4, st1_5, sti_5, st2_5, stj_5, st1_6, sti_6, st2_6, stj_6, st1_7, sti_7, st2_7, stj_7, st1_8, sti_8, st2_8, stj_8, st1_9, sti_9, st2_9, stj_9, kil_n, kil_i, kil_r, kil_l, kil_d, gl_0, gl_s, cat_i, cat_r, true_and]
  exact out_RR
theorem sp_ctried_no (hK : K h x c r c2 r2 n G sn SG) (h10 : 10 < ends G n / 2) : Sp 20 189 [.ref x] h z 1 6 (RX 5 h z) := by
  have hn := hK.hG.1
  have he := ends_le G n
  refine Sp_in (al := [some (.ref x)]) ?_
  simp only [s189_0, s189_1, s189_7, s189_9, s189_15, s189_22, s189_23, s189_26, s189_27, s189_33, ldi_0, ldi_s, ldl_0, ldl_s, ldd_0, ldd_s, lda_0, lda_s, st1_0, st1_1, st2_0, st2_1, sti_0, sti_1, stj_0, stj_1, st1_2, sti_2, st2_2, stj_2, st1_3, sti_3, st2_3, stj_3, st1_4, sti_4, st2_4, stj_4, st1_5, sti_5, st2_5, stj_5, st1_6, sti_6, st2_6, stj_6, st1_7, sti_7, st2_7, stj_7, st1_8, sti_8, st2_8, stj_8, st1_9, sti_9, st2_9, stj_9, kil_n, kil_i, kil_r, kil_l, kil_d, gl_0, gl_s, cat_i, cat_r, true_and, gf_ob hK.hx]
  refine c189_4r hK.hc.1 (sp_wayCount hK.hc hK.hG) ?_
  simp only [s189_0, s189_1, s189_7, s189_9, s189_15, s189_22, s189_23, s189_26, s189_27, s189_33, ldi_0, ldi_s, ldl_0, ldl_s, ldd_0, ldd_s, lda_0, lda_s, st1_0, st1_1, st2_0, st2_1, sti_0, sti_1, stj_0, stj_1, st1_2, sti_2, st2_2, stj_2, st1_3, sti_3, st2_3, stj_3, st1_4, sti_4, st2_4, stj_4, st1_5, sti_5, st2_5, stj_5, st1_6, sti_6, st2_6, stj_6, st1_7, sti_7, st2_7, stj_7, st1_8, sti_8, st2_8, stj_8, st1_9, sti_9, st2_9, stj_9, kil_n, kil_i, kil_r, kil_l, kil_d, gl_0, gl_s, cat_i, cat_r, true_and, gf_ob hK.hx]
  rw [nI_lit10, br_0 (nI_ge h10 (by omega))]
  exact s189_12 (by decide) (by omega) (by omega) fun z' hz => ⟨rfl, rfl, hz⟩
/-- the checksum's steps -/
def mixF (s w : Int64) : Int64 := 31 * s + w
theorem sp_mix {s w : Int64} : Sp 1 213 [.long s, .long w] h z 0 0 (RR (some (.long (mixF s w))) h z) := by
  refine Sp_in (al := [some (.long s), none, some (.long w), none]) ?_
  simp only [s213_0, s213_3, s213_4, s213_5, s213_6, s213_7, ldi_0, ldi_s, ldl_0, ldl_s, ldd_0, ldd_s, lda_0, lda_s, st1_0, st1_1, st2_0, st2_1, sti_0, sti_1, stj_0, stj_1, st1_2, sti_2, st2_2, stj_2, st1_3, sti_3, st2_3, stj_3, st1_4, sti_4, st2_4, stj_4, st1_5, sti_5, st2_5, stj_5, st1_6, sti_6, st2_6, stj_6, st1_7, sti_7, st2_7, stj_7, st1_8, sti_8, st2_8, stj_8, st1_9, sti_9, st2_9, stj_9, kil_n, kil_i, kil_r, kil_l, kil_d, gl_0, gl_s, cat_i, cat_r, true_and]
  exact out_RR
def mixR (G : Nat → Nat → Bool) (s : Int64) : Nat → Int64
  | 0 => s
  | p + 1 => mixF (mixR G s p) (nI (mk (G p) 9)).toInt64
def mixC (n : Nat) (G : Nat → Nat → Bool) (s : Int64) : Int64 := mixR G (mixF s (nI n).toInt64) n
def mixK (F : Nat → Int64) (s : Int64) : Nat → Int64
  | 0 => s
  | i + 1 => mixF (mixK F s i) (F i)
theorem sp_mixChart {c r n : Nat} {G : Nat → Nat → Bool} (hc : ChAt h c r n G) (hG : GOK n G) {s : Int64} : Sp 3 212 [.long s, .ref c] h z 0 0 (RR (some (.long (mixC n G s))) h z) := by
  have hn := hG.1
  refine Sp_in (al := [some (.long s), none, some (.ref c), none, none, none]) ?_
  simp only [s212_0, s212_1, s212_5, s212_9, s212_10, s212_11, s212_15, s212_19, s212_22, s212_23, s212_24, s212_29, s212_33, s212_34, s212_37, s212_40, s212_41, ldi_0, ldi_s, ldl_0, ldl_s, ldd_0, ldd_s, lda_0, lda_s, st1_0, st1_1, st2_0, st2_1, sti_0, sti_1, stj_0, stj_1, st1_2, sti_2, st2_2, stj_2, st1_3, sti_3, st2_3, stj_3, st1_4, sti_4, st2_4, stj_4, st1_5, sti_5, st2_5, stj_5, st1_6, sti_6, st2_6, stj_6, st1_7, sti_7, st2_7, stj_7, st1_8, sti_8, st2_8, stj_8, st1_9, sti_9, st2_9, stj_9, kil_n, kil_i, kil_r, kil_l, kil_d, gl_0, gl_s, cat_i, cat_r, true_and]
  refine c212_2r hc.1 (sp_size hc.1) ?_
  simp only [s212_0, s212_1, s212_5, s212_9, s212_10, s212_11, s212_15, s212_19, s212_22, s212_23, s212_24, s212_29, s212_33, s212_34, s212_37, s212_40, s212_41, ldi_0, ldi_s, ldl_0, ldl_s, ldd_0, ldd_s, lda_0, lda_s, st1_0, st1_1, st2_0, st2_1, sti_0, sti_1, stj_0, stj_1, st1_2, sti_2, st2_2, stj_2, st1_3, sti_3, st2_3, stj_3, st1_4, sti_4, st2_4, stj_4, st1_5, sti_5, st2_5, stj_5, st1_6, sti_6, st2_6, stj_6, st1_7, sti_7, st2_7, stj_7, st1_8, sti_8, st2_8, stj_8, st1_9, sti_9, st2_9, stj_9, kil_n, kil_i, kil_r, kil_l, kil_d, gl_0, gl_s, cat_i, cat_r, true_and]
  refine c212_6r sp_mix ?_
  simp only [s212_0, s212_1, s212_5, s212_9, s212_10, s212_11, s212_15, s212_19, s212_22, s212_23, s212_24, s212_29, s212_33, s212_34, s212_37, s212_40, s212_41, ldi_0, ldi_s, ldl_0, ldl_s, ldd_0, ldd_s, lda_0, lda_s, st1_0, st1_1, st2_0, st2_1, sti_0, sti_1, stj_0, stj_1, st1_2, sti_2, st2_2, stj_2, st1_3, sti_3, st2_3, stj_3, st1_4, sti_4, st2_4, stj_4, st1_5, sti_5, st2_5, stj_5, st1_6, sti_6, st2_6, stj_6, st1_7, sti_7, st2_7, stj_7, st1_8, sti_8, st2_8, stj_8, st1_9, sti_9, st2_9, stj_9, kil_n, kil_i, kil_r, kil_l, kil_d, gl_0, gl_s, cat_i, cat_r, true_and]
  have key : ∀ p, p ≤ n → aW (Sp 2) 212 0 0 (RR (some (.long (mixC n G s))) h z) 13 [some (.long s), none, some (.ref c), some (.long (mixR G (mixF s (nI n).toInt64) p)), none, some (.int (nI p))] [] h z 0 0 := by
    refine aUp ?_ fun p hp ih => ?_
    · rw [s212_13]
      simp only [s212_0, s212_1, s212_5, s212_9, s212_10, s212_11, s212_15, s212_19, s212_22, s212_23, s212_24, s212_29, s212_33, s212_34, s212_37, s212_40, s212_41, ldi_0, ldi_s, ldl_0, ldl_s, ldd_0, ldd_s, lda_0, lda_s, st1_0, st1_1, st2_0, st2_1, sti_0, sti_1, stj_0, stj_1, st1_2, sti_2, st2_2, stj_2, st1_3, sti_3, st2_3, stj_3, st1_4, sti_4, st2_4, stj_4, st1_5, sti_5, st2_5, stj_5, st1_6, sti_6, st2_6, stj_6, st1_7, sti_7, st2_7, stj_7, st1_8, sti_8, st2_8, stj_8, st1_9, sti_9, st2_9, stj_9, kil_n, kil_i, kil_r, kil_l, kil_d, gl_0, gl_s, cat_i, cat_r, true_and]
      refine c212_16r hc.1 (sp_size hc.1) ?_
      simp only [s212_0, s212_1, s212_5, s212_9, s212_10, s212_11, s212_15, s212_19, s212_22, s212_23, s212_24, s212_29, s212_33, s212_34, s212_37, s212_40, s212_41, ldi_0, ldi_s, ldl_0, ldl_s, ldd_0, ldd_s, lda_0, lda_s, st1_0, st1_1, st2_0, st2_1, sti_0, sti_1, stj_0, stj_1, st1_2, sti_2, st2_2, stj_2, st1_3, sti_3, st2_3, stj_3, st1_4, sti_4, st2_4, stj_4, st1_5, sti_5, st2_5, stj_5, st1_6, sti_6, st2_6, stj_6, st1_7, sti_7, st2_7, stj_7, st1_8, sti_8, st2_8, stj_8, st1_9, sti_9, st2_9, stj_9, kil_n, kil_i, kil_r, kil_l, kil_d, gl_0, gl_s, cat_i, cat_r, true_and]
      rw [br_1 (nI_le (Nat.le_refl _) (by omega))]
      exact out_RR
    · rw [s212_13]
      simp only [s212_0, s212_1, s212_5, s212_9, s212_10, s212_11, s212_15, s212_19, s212_22, s212_23, s212_24, s212_29, s212_33, s212_34, s212_37, s212_40, s212_41, ldi_0, ldi_s, ldl_0, ldl_s, ldd_0, ldd_s, lda_0, lda_s, st1_0, st1_1, st2_0, st2_1, sti_0, sti_1, stj_0, stj_1, st1_2, sti_2, st2_2, stj_2, st1_3, sti_3, st2_3, stj_3, st1_4, sti_4, st2_4, stj_4, st1_5, sti_5, st2_5, stj_5, st1_6, sti_6, st2_6, stj_6, st1_7, sti_7, st2_7, stj_7, st1_8, sti_8, st2_8, stj_8, st1_9, sti_9, st2_9, stj_9, kil_n, kil_i, kil_r, kil_l, kil_d, gl_0, gl_s, cat_i, cat_r, true_and]
      refine c212_16r hc.1 (sp_size hc.1) ?_
      simp only [s212_0, s212_1, s212_5, s212_9, s212_10, s212_11, s212_15, s212_19, s212_22, s212_23, s212_24, s212_29, s212_33, s212_34, s212_37, s212_40, s212_41, ldi_0, ldi_s, ldl_0, ldl_s, ldd_0, ldd_s, lda_0, lda_s, st1_0, st1_1, st2_0, st2_1, sti_0, sti_1, stj_0, stj_1, st1_2, sti_2, st2_2, stj_2, st1_3, sti_3, st2_3, stj_3, st1_4, sti_4, st2_4, stj_4, st1_5, sti_5, st2_5, stj_5, st1_6, sti_6, st2_6, stj_6, st1_7, sti_7, st2_7, stj_7, st1_8, sti_8, st2_8, stj_8, st1_9, sti_9, st2_9, stj_9, kil_n, kil_i, kil_r, kil_l, kil_d, gl_0, gl_s, cat_i, cat_r, true_and]
      rw [br_0 (nI_ge hp (by omega))]
      refine c212_26r hc.1 (sp_near hc hG hp) ?_
      simp only [s212_0, s212_1, s212_5, s212_9, s212_10, s212_11, s212_15, s212_19, s212_22, s212_23, s212_24, s212_29, s212_33, s212_34, s212_37, s212_40, s212_41, ldi_0, ldi_s, ldl_0, ldl_s, ldd_0, ldd_s, lda_0, lda_s, st1_0, st1_1, st2_0, st2_1, sti_0, sti_1, stj_0, stj_1, st1_2, sti_2, st2_2, stj_2, st1_3, sti_3, st2_3, stj_3, st1_4, sti_4, st2_4, stj_4, st1_5, sti_5, st2_5, stj_5, st1_6, sti_6, st2_6, stj_6, st1_7, sti_7, st2_7, stj_7, st1_8, sti_8, st2_8, stj_8, st1_9, sti_9, st2_9, stj_9, kil_n, kil_i, kil_r, kil_l, kil_d, gl_0, gl_s, cat_i, cat_r, true_and]
      refine c212_30r sp_mix ?_
      simp only [s212_0, s212_1, s212_5, s212_9, s212_10, s212_11, s212_15, s212_19, s212_22, s212_23, s212_24, s212_29, s212_33, s212_34, s212_37, s212_40, s212_41, ldi_0, ldi_s, ldl_0, ldl_s, ldd_0, ldd_s, lda_0, lda_s, st1_0, st1_1, st2_0, st2_1, sti_0, sti_1, stj_0, stj_1, st1_2, sti_2, st2_2, stj_2, st1_3, sti_3, st2_3, stj_3, st1_4, sti_4, st2_4, stj_4, st1_5, sti_5, st2_5, stj_5, st1_6, sti_6, st2_6, stj_6, st1_7, sti_7, st2_7, stj_7, st1_8, sti_8, st2_8, stj_8, st1_9, sti_9, st2_9, stj_9, kil_n, kil_i, kil_r, kil_l, kil_d, gl_0, gl_s, cat_i, cat_r, true_and]
      rw [nI_1]
      exact ih
  exact key 0 (by omega)
def chkF (n : Nat) (G : Nat → Nat → Bool) (sn : Nat) (SG : Nat → Nat → Bool) : Int64 := mixC sn SG (mixF (mixK (mlt (ptn n G) n n) (mixC n G 7) (n + 1)) (nI (fsp (ptn n G) n n)).toInt64)
theorem sp_cchecksum (hK : K h x c r c2 r2 n G sn SG) : Sp 20 211 [.ref x] h z 0 0 (RR (some (.long (chkF n G sn SG))) (RD h (x + 5) n G) z) := by
  have k2 := hK.rd.1
  have hn := hK.hG.1
  obtain ⟨b, ho⟩ := hK.ho
  refine Sp_in (al := [some (.ref x), none, none, none]) ?_
  simp only [s211_0, s211_1, s211_4, s211_5, s211_11, s211_14, s211_15, s211_21, s211_22, s211_23, s211_25, s211_26, s211_32, s211_35, s211_36, s211_37, s211_40, s211_47, s211_48, s211_51, s211_54, s211_55, s211_56, s211_62, s211_66, s211_67, s211_68, s211_69, s211_75, ldi_0, ldi_s, ldl_0, ldl_s, ldd_0, ldd_s, lda_0, lda_s, st1_0, st1_1, st2_0, st2_1, sti_0, sti_1, stj_0, stj_1, st1_2, sti_2, st2_2, stj_2, st1_3, sti_3, st2_3, stj_3, st1_4, sti_4, st2_4, stj_4, st1_5, sti_5, st2_5, stj_5, st1_6, sti_6, st2_6, stj_6, st1_7, sti_7, st2_7, stj_7, st1_8, sti_8, st2_8, stj_8, st1_9, sti_9, st2_9, stj_9, kil_n, kil_i, kil_r, kil_l, kil_d, gl_0, gl_s, cat_i, cat_r, true_and, gf_ob hK.hx]
  refine c211_8r ho (sp_rd hK) ?_
  simp only [s211_0, s211_1, s211_4, s211_5, s211_11, s211_14, s211_15, s211_21, s211_22, s211_23, s211_25, s211_26, s211_32, s211_35, s211_36, s211_37, s211_40, s211_47, s211_48, s211_51, s211_54, s211_55, s211_56, s211_62, s211_66, s211_67, s211_68, s211_69, s211_75, ldi_0, ldi_s, ldl_0, ldl_s, ldd_0, ldd_s, lda_0, lda_s, st1_0, st1_1, st2_0, st2_1, sti_0, sti_1, stj_0, stj_1, st1_2, sti_2, st2_2, stj_2, st1_3, sti_3, st2_3, stj_3, st1_4, sti_4, st2_4, stj_4, st1_5, sti_5, st2_5, stj_5, st1_6, sti_6, st2_6, stj_6, st1_7, sti_7, st2_7, stj_7, st1_8, sti_8, st2_8, stj_8, st1_9, sti_9, st2_9, stj_9, kil_n, kil_i, kil_r, kil_l, kil_d, gl_0, gl_s, cat_i, cat_r, true_and, gf_ob k2.hx]
  refine c211_18r (sp_mixChart k2.hc k2.hG) ?_
  simp only [s211_0, s211_1, s211_4, s211_5, s211_11, s211_14, s211_15, s211_21, s211_22, s211_23, s211_25, s211_26, s211_32, s211_35, s211_36, s211_37, s211_40, s211_47, s211_48, s211_51, s211_54, s211_55, s211_56, s211_62, s211_66, s211_67, s211_68, s211_69, s211_75, ldi_0, ldi_s, ldl_0, ldl_s, ldd_0, ldd_s, lda_0, lda_s, st1_0, st1_1, st2_0, st2_1, sti_0, sti_1, stj_0, stj_1, st1_2, sti_2, st2_2, stj_2, st1_3, sti_3, st2_3, stj_3, st1_4, sti_4, st2_4, stj_4, st1_5, sti_5, st2_5, stj_5, st1_6, sti_6, st2_6, stj_6, st1_7, sti_7, st2_7, stj_7, st1_8, sti_8, st2_8, stj_8, st1_9, sti_9, st2_9, stj_9, kil_n, kil_i, kil_r, kil_l, kil_d, gl_0, gl_s, cat_i, cat_r, true_and]
  have key : ∀ i, i ≤ n + 1 → aW (Sp 19) 211 0 0 (RR (some (.long (chkF n G sn SG))) (RD h (x + 5) n G) z) 24 [some (.ref x), some (.long (mixK (mlt (ptn n G) n n) (mixC n G 7) i)), none, some (.int (nI i))] [] (RD h (x + 5) n G) z 0 0 := by
    refine aUp ?_ fun i hi ih => ?_
    · rw [s211_24]
      simp only [s211_0, s211_1, s211_4, s211_5, s211_11, s211_14, s211_15, s211_21, s211_22, s211_23, s211_25, s211_26, s211_32, s211_35, s211_36, s211_37, s211_40, s211_47, s211_48, s211_51, s211_54, s211_55, s211_56, s211_62, s211_66, s211_67, s211_68, s211_69, s211_75, ldi_0, ldi_s, ldl_0, ldl_s, ldd_0, ldd_s, lda_0, lda_s, st1_0, st1_1, st2_0, st2_1, sti_0, sti_1, stj_0, stj_1, st1_2, sti_2, st2_2, stj_2, st1_3, sti_3, st2_3, stj_3, st1_4, sti_4, st2_4, stj_4, st1_5, sti_5, st2_5, stj_5, st1_6, sti_6, st2_6, stj_6, st1_7, sti_7, st2_7, stj_7, st1_8, sti_8, st2_8, stj_8, st1_9, sti_9, st2_9, stj_9, kil_n, kil_i, kil_r, kil_l, kil_d, gl_0, gl_s, cat_i, cat_r, true_and, gf_ob k2.hx]
      refine c211_29r k2.hc.1 (sp_size k2.hc.1) ?_
      simp only [s211_0, s211_1, s211_4, s211_5, s211_11, s211_14, s211_15, s211_21, s211_22, s211_23, s211_25, s211_26, s211_32, s211_35, s211_36, s211_37, s211_40, s211_47, s211_48, s211_51, s211_54, s211_55, s211_56, s211_62, s211_66, s211_67, s211_68, s211_69, s211_75, ldi_0, ldi_s, ldl_0, ldl_s, ldd_0, ldd_s, lda_0, lda_s, st1_0, st1_1, st2_0, st2_1, sti_0, sti_1, stj_0, stj_1, st1_2, sti_2, st2_2, stj_2, st1_3, sti_3, st2_3, stj_3, st1_4, sti_4, st2_4, stj_4, st1_5, sti_5, st2_5, stj_5, st1_6, sti_6, st2_6, stj_6, st1_7, sti_7, st2_7, stj_7, st1_8, sti_8, st2_8, stj_8, st1_9, sti_9, st2_9, stj_9, kil_n, kil_i, kil_r, kil_l, kil_d, gl_0, gl_s, cat_i, cat_r, true_and, gf_ob k2.hx]
      rw [br_1 (nI_lt (Nat.lt_succ_self n) (by omega))]
      refine c211_59r RD_po (sp_leastSets RD_ch hK.hG RD_po RD_pa (ptn_lt hK.hG.1)) ?_
      simp only [s211_0, s211_1, s211_4, s211_5, s211_11, s211_14, s211_15, s211_21, s211_22, s211_23, s211_25, s211_26, s211_32, s211_35, s211_36, s211_37, s211_40, s211_47, s211_48, s211_51, s211_54, s211_55, s211_56, s211_62, s211_66, s211_67, s211_68, s211_69, s211_75, ldi_0, ldi_s, ldl_0, ldl_s, ldd_0, ldd_s, lda_0, lda_s, st1_0, st1_1, st2_0, st2_1, sti_0, sti_1, stj_0, stj_1, st1_2, sti_2, st2_2, stj_2, st1_3, sti_3, st2_3, stj_3, st1_4, sti_4, st2_4, stj_4, st1_5, sti_5, st2_5, stj_5, st1_6, sti_6, st2_6, stj_6, st1_7, sti_7, st2_7, stj_7, st1_8, sti_8, st2_8, stj_8, st1_9, sti_9, st2_9, stj_9, kil_n, kil_i, kil_r, kil_l, kil_d, gl_0, gl_s, cat_i, cat_r, true_and]
      refine c211_63r sp_mix ?_
      simp only [s211_0, s211_1, s211_4, s211_5, s211_11, s211_14, s211_15, s211_21, s211_22, s211_23, s211_25, s211_26, s211_32, s211_35, s211_36, s211_37, s211_40, s211_47, s211_48, s211_51, s211_54, s211_55, s211_56, s211_62, s211_66, s211_67, s211_68, s211_69, s211_75, ldi_0, ldi_s, ldl_0, ldl_s, ldd_0, ldd_s, lda_0, lda_s, st1_0, st1_1, st2_0, st2_1, sti_0, sti_1, stj_0, stj_1, st1_2, sti_2, st2_2, stj_2, st1_3, sti_3, st2_3, stj_3, st1_4, sti_4, st2_4, stj_4, st1_5, sti_5, st2_5, stj_5, st1_6, sti_6, st2_6, stj_6, st1_7, sti_7, st2_7, stj_7, st1_8, sti_8, st2_8, stj_8, st1_9, sti_9, st2_9, stj_9, kil_n, kil_i, kil_r, kil_l, kil_d, gl_0, gl_s, cat_i, cat_r, true_and, gf_ob k2.hx]
      refine c211_72r (sp_mixChart k2.hc2 k2.hG2) ?_
      simp only [s211_0, s211_1, s211_4, s211_5, s211_11, s211_14, s211_15, s211_21, s211_22, s211_23, s211_25, s211_26, s211_32, s211_35, s211_36, s211_37, s211_40, s211_47, s211_48, s211_51, s211_54, s211_55, s211_56, s211_62, s211_66, s211_67, s211_68, s211_69, s211_75, ldi_0, ldi_s, ldl_0, ldl_s, ldd_0, ldd_s, lda_0, lda_s, st1_0, st1_1, st2_0, st2_1, sti_0, sti_1, stj_0, stj_1, st1_2, sti_2, st2_2, stj_2, st1_3, sti_3, st2_3, stj_3, st1_4, sti_4, st2_4, stj_4, st1_5, sti_5, st2_5, stj_5, st1_6, sti_6, st2_6, stj_6, st1_7, sti_7, st2_7, stj_7, st1_8, sti_8, st2_8, stj_8, st1_9, sti_9, st2_9, stj_9, kil_n, kil_i, kil_r, kil_l, kil_d, gl_0, gl_s, cat_i, cat_r, true_and]
      exact out_RR
    · rw [s211_24]
      simp only [s211_0, s211_1, s211_4, s211_5, s211_11, s211_14, s211_15, s211_21, s211_22, s211_23, s211_25, s211_26, s211_32, s211_35, s211_36, s211_37, s211_40, s211_47, s211_48, s211_51, s211_54, s211_55, s211_56, s211_62, s211_66, s211_67, s211_68, s211_69, s211_75, ldi_0, ldi_s, ldl_0, ldl_s, ldd_0, ldd_s, lda_0, lda_s, st1_0, st1_1, st2_0, st2_1, sti_0, sti_1, stj_0, stj_1, st1_2, sti_2, st2_2, stj_2, st1_3, sti_3, st2_3, stj_3, st1_4, sti_4, st2_4, stj_4, st1_5, sti_5, st2_5, stj_5, st1_6, sti_6, st2_6, stj_6, st1_7, sti_7, st2_7, stj_7, st1_8, sti_8, st2_8, stj_8, st1_9, sti_9, st2_9, stj_9, kil_n, kil_i, kil_r, kil_l, kil_d, gl_0, gl_s, cat_i, cat_r, true_and, gf_ob k2.hx]
      refine c211_29r k2.hc.1 (sp_size k2.hc.1) ?_
      simp only [s211_0, s211_1, s211_4, s211_5, s211_11, s211_14, s211_15, s211_21, s211_22, s211_23, s211_25, s211_26, s211_32, s211_35, s211_36, s211_37, s211_40, s211_47, s211_48, s211_51, s211_54, s211_55, s211_56, s211_62, s211_66, s211_67, s211_68, s211_69, s211_75, ldi_0, ldi_s, ldl_0, ldl_s, ldd_0, ldd_s, lda_0, lda_s, st1_0, st1_1, st2_0, st2_1, sti_0, sti_1, stj_0, stj_1, st1_2, sti_2, st2_2, stj_2, st1_3, sti_3, st2_3, stj_3, st1_4, sti_4, st2_4, stj_4, st1_5, sti_5, st2_5, stj_5, st1_6, sti_6, st2_6, stj_6, st1_7, sti_7, st2_7, stj_7, st1_8, sti_8, st2_8, stj_8, st1_9, sti_9, st2_9, stj_9, kil_n, kil_i, kil_r, kil_l, kil_d, gl_0, gl_s, cat_i, cat_r, true_and, gf_ob k2.hx]
      rw [br_0 (nI_nlt (show i ≤ n by omega) (by omega))]
      refine c211_41r RD_po (sp_factor RD_po RD_fa (by omega)) ?_
      refine c211_44r sp_mix ?_
      simp only [s211_0, s211_1, s211_4, s211_5, s211_11, s211_14, s211_15, s211_21, s211_22, s211_23, s211_25, s211_26, s211_32, s211_35, s211_36, s211_37, s211_40, s211_47, s211_48, s211_51, s211_54, s211_55, s211_56, s211_62, s211_66, s211_67, s211_68, s211_69, s211_75, ldi_0, ldi_s, ldl_0, ldl_s, ldd_0, ldd_s, lda_0, lda_s, st1_0, st1_1, st2_0, st2_1, sti_0, sti_1, stj_0, stj_1, st1_2, sti_2, st2_2, stj_2, st1_3, sti_3, st2_3, stj_3, st1_4, sti_4, st2_4, stj_4, st1_5, sti_5, st2_5, stj_5, st1_6, sti_6, st2_6, stj_6, st1_7, sti_7, st2_7, stj_7, st1_8, sti_8, st2_8, stj_8, st1_9, sti_9, st2_9, stj_9, kil_n, kil_i, kil_r, kil_l, kil_d, gl_0, gl_s, cat_i, cat_r, true_and]
      rw [nI_1]
      exact ih
  exact key 0 (by omega)
end CM2
