/-! loops told once; Colourmap$Whole -/
theorem aUp {W : Nat → Prop} {n : Nat} (he : W n) (hs : ∀ i, i < n → W (i + 1) → W i) : ∀ i, i ≤ n → W i := by
  have key : ∀ j i, i + j = n → W i := by
    intro j
    induction j with
    | zero => intro i hi; rw [show i = n by omega]; exact he
    | succ j ih => intro i hi; exact hs i (by omega) (ih (i + 1) (by omega))
  exact fun i hi => key (n - i) i (by omega)
theorem aDn {W : Nat → Prop} {n : Nat} (h0 : W 0) (hs : ∀ j, j < n → W j → W (j + 1)) : ∀ j, j ≤ n → W j := by
  intro j
  induction j with
  | zero => exact fun _ => h0
  | succ j ih => exact fun hj => hs j (by omega) (ih (by omega))
def stg {α : Type} (P D : Nat → α) (i : Nat) : Nat → α := fun q => if q < i then D q else P q
theorem stg_0 {α : Type} {P D : Nat → α} : stg P D 0 = P := by
  funext q
  unfold stg
  rw [if_neg (Nat.not_lt_zero q)]
theorem stg_at {α : Type} {P D : Nat → α} {i : Nat} : stg P D i i = P i := if_neg (Nat.lt_irrefl i)
theorem stgL_s {P D : Nat → Int64} {i : Nat} : updL (stg P D i) i (D i) = stg P D (i + 1) := by
  funext q
  unfold updL stg
  by_cases h : q = i
  · subst h
    rw [if_pos rfl, if_pos (by omega)]
  · rw [if_neg h]
    by_cases h2 : q < i
    · rw [if_pos h2, if_pos (by omega)]
    · rw [if_neg h2, if_neg (by omega)]
theorem stgN_s {P D : Nat → Nat} {i : Nat} : updN (stg P D i) i (D i) = stg P D (i + 1) := by
  funext q
  unfold updN stg
  by_cases h : q = i
  · subst h
    rw [if_pos rfl, if_pos (by omega)]
  · rw [if_neg h]
    by_cases h2 : q < i
    · rw [if_pos h2, if_pos (by omega)]
    · rw [if_neg h2, if_neg (by omega)]
def std {α : Type} (P D : Nat → α) (n j : Nat) : Nat → α := fun q => if j ≤ q ∧ q < n then D q else P q
theorem std_n {α : Type} {P D : Nat → α} {n : Nat} : std P D n n = P := by
  funext q
  unfold std
  rw [if_neg (by omega)]
theorem std_at {α : Type} {P D : Nat → α} {n j : Nat} : std P D n (j + 1) j = P j := if_neg (by omega)
theorem stdL_s {P D : Nat → Int64} {n j : Nat} (h : j < n) : updL (std P D n (j + 1)) j (D j) = std P D n j := by
  funext q
  unfold updL std
  by_cases h1 : q = j
  · subst h1
    rw [if_pos rfl, if_pos ⟨Nat.le_refl _, h⟩]
  · rw [if_neg h1]
    by_cases h2 : j + 1 ≤ q ∧ q < n
    · rw [if_pos h2, if_pos (by omega)]
    · rw [if_neg h2, if_neg (by omega)]
theorem stdN_s {P D : Nat → Nat} {n j : Nat} (h : j < n) : updN (std P D n (j + 1)) j (D j) = std P D n j := by
  funext q
  unfold updN std
  by_cases h1 : q = j
  · subst h1
    rw [if_pos rfl, if_pos ⟨Nat.le_refl _, h⟩]
  · rw [if_neg h1]
    by_cases h2 : j + 1 ≤ q ∧ q < n
    · rw [if_pos h2, if_pos (by omega)]
    · rw [if_neg h2, if_neg (by omega)]
def whO (wp : Nat) : AC := ob 4 [.ref wp]
/-- left over and carried after i parts, when x is added -/
def plc (P : Nat → Int64) (x : Int64) : Nat → Int64 × Int64
  | 0 => (x, 0)
  | i + 1 => ((plc P x i).1 >>> ((32 : Int32).toInt64 &&& 63), ((P i + ((plc P x i).1 &&& 4294967295) + (plc P x i).2).toUInt64 >>> ((32 : Int32).toInt64.toUInt64 &&& Int64.toUInt64 63)).toInt64)
def pld (P : Nat → Int64) (x : Int64) (i : Nat) : Int64 := (P i + ((plc P x i).1 &&& 4294967295) + (plc P x i).2) &&& 4294967295
def plF (P : Nat → Int64) (x : Int64) : Nat → Int64 := stg P (pld P x) 10
def ngd (P : Nat → Int64) (i : Nat) : Int64 := (P i ^^^ (-1)) &&& 4294967295
def ngF (P : Nat → Int64) : Nat → Int64 := plF (stg P (ngd P) 10) 1
def tmc (P : Nat → Int64) (s : Int64) : Nat → Int64
  | 0 => 0
  | i + 1 => ((P i * s + tmc P s i).toUInt64 >>> ((32 : Int32).toInt64.toUInt64 &&& Int64.toUInt64 63)).toInt64
def tmd (P : Nat → Int64) (s : Int64) (i : Nat) : Int64 := (P i * s + tmc P s i) &&& 4294967295
def absL (x : Int64) : Int64 := if 0 ≤ lg_cmp x 0 then x else -x
def tmF (P : Nat → Int64) (k : Int32) : Nat → Int64 := if 0 ≤ k then stg P (tmd P (absL k.toInt64)) 10 else ngF (stg P (tmd P (absL k.toInt64)) 10)
def wneg (P : Nat → Int64) : Bool := decide (¬ lg_cmp (P 9 >>> ((31 : Int32).toInt64 &&& 63)) 0 = 0)
def wbit (P : Nat → Int64) (j : Nat) : Bool := decide (¬ lg_cmp (P (j / 32) >>> ((nI (j % 32)).toInt64 &&& 63) &&& 1) 0 = 0)
def wbd (P : Nat → Int64) : Nat → Nat
  | 0 => 0
  | j + 1 => if wbit P j then j + 1 else wbd P j
theorem wbd_le {P : Nat → Int64} (j : Nat) : wbd P j ≤ j := by
  induction j with
  | zero => exact Nat.le_refl _
  | succ j ih =>
    unfold wbd
    split <;> omega
def wlow (P : Nat → Int64) : Int64 := P 1 <<< ((32 : Int32).toInt64 &&& 63) ||| P 0
def wabove (P : Nat → Int64) : Int64 := if 0 ≤ (P 0).toInt32 then 0 else 4294967295
def wfit (P : Nat → Int64) : Nat → Bool
  | 0 => true
  | i + 1 => wfit P i && decide (lg_cmp (P (i + 1)) (wabove P) = 0)
/-- what is left over after k parts from above -/
def dvo (P : Nat → Int64) : Nat → Int64
  | 0 => 0
  | k + 1 => (dvo P k <<< ((32 : Int32).toInt64 &&& 63) ||| P (9 - k)) - (dvo P k <<< ((32 : Int32).toInt64 &&& 63) ||| P (9 - k)) / 10 * 10
def dvd (P : Nat → Int64) (q : Nat) : Int64 := (dvo P (9 - q) <<< ((32 : Int32).toInt64 &&& 63) ||| P (9 - (9 - q))) / 10
def dvF (P : Nat → Int64) : Nat → Int64 := std P (dvd P) 10 0
def wag (P Q : Nat → Int64) : Nat → Int32
  | 0 => 0
  | j + 1 => if lg_cmp (P j) (Q j) = 0 then wag P Q j else if 0 ≤ lg_cmp (P j) (Q j) then 1 else -1
def wcm (P Q : Nat → Int64) : Int32 := if wneg P = wneg Q then wag P Q 10 else if wneg P then -1 else 1
theorem sp_absL {h : AH} {z : Nat} {x : Int64} : Sp 1 151 [.long x] h z 0 0 (RR (some (.long (absL x))) h z) := by
  refine Sp_in (al := [some (.long x), none]) ?_
  simp only [s151_0, s151_1, s151_2, s151_3, s151_6, s151_7, s151_8, s151_11, s151_12, ldi_0, ldi_s, ldl_0, ldl_s, ldd_0, ldd_s, lda_0, lda_s, st1_0, st1_1, st2_0, st2_1, sti_0, sti_1, stj_0, stj_1, st1_2, sti_2, st2_2, stj_2, st1_3, sti_3, st2_3, stj_3, st1_4, sti_4, st2_4, stj_4, st1_5, sti_5, st2_5, stj_5, st1_6, sti_6, st2_6, stj_6, st1_7, sti_7, st2_7, stj_7, st1_8, sti_8, st2_8, stj_8, st1_9, sti_9, st2_9, stj_9, kil_n, kil_i, kil_r, kil_l, kil_d, gl_0, gl_s, cat_i, cat_r, true_and]
  refine ⟨fun h1 => ?_, fun h1 => ?_⟩
  · exact out_eq (by unfold absL; rw [if_pos h1]) rfl rfl
  · exact out_eq (by unfold absL; rw [if_neg h1]) rfl rfl
theorem bI_inj {a b : Bool} : (bI a = bI b) ↔ a = b := by cases a <;> cases b <;> decide
section Whole
variable {h : AH} {w wp z : Nat} {P : Nat → Int64}
theorem sp_wclear (hw : h w = some (whO wp)) (hp : h wp = some (la 10 P)) : Sp 1 149 [.ref w] h z 0 0 (RR none (hup h wp (la 10 (stg P (fun _ => 0) 10))) z) := by
  have hX : ∀ X, hup h wp X w = some (whO wp) := fun X => by rw [hup_ne (kind_ne hw hp), hw]
  refine Sp_in (al := [some (.ref w), none]) ?_
  simp only [s149_0, s149_1, s149_3, s149_5, s149_8, s149_9, s149_12, s149_13, s149_14, s149_15, s149_18, s149_21, ldi_0, ldi_s, ldl_0, ldl_s, ldd_0, ldd_s, lda_0, lda_s, st1_0, st1_1, st2_0, st2_1, sti_0, sti_1, stj_0, stj_1, st1_2, sti_2, st2_2, stj_2, st1_3, sti_3, st2_3, stj_3, st1_4, sti_4, st2_4, stj_4, st1_5, sti_5, st2_5, stj_5, st1_6, sti_6, st2_6, stj_6, st1_7, sti_7, st2_7, stj_7, st1_8, sti_8, st2_8, stj_8, st1_9, sti_9, st2_9, stj_9, kil_n, kil_i, kil_r, kil_l, kil_d, gl_0, gl_s, cat_i, cat_r, true_and]
  have key : ∀ i, i ≤ 10 → aW (Sp 0) 149 0 0 (RR none (hup h wp (la 10 (stg P (fun _ => 0) 10))) z) 2 [some (.ref w), some (.int (nI i))] [] (hup h wp (la 10 (stg P (fun _ => 0) i))) z 0 0 := by
    refine aUp ?_ fun i hi ih => ?_
    · rw [s149_2]
      simp only [s149_0, s149_1, s149_3, s149_5, s149_8, s149_9, s149_12, s149_13, s149_14, s149_15, s149_18, s149_21, ldi_0, ldi_s, ldl_0, ldl_s, ldd_0, ldd_s, lda_0, lda_s, st1_0, st1_1, st2_0, st2_1, sti_0, sti_1, stj_0, stj_1, st1_2, sti_2, st2_2, stj_2, st1_3, sti_3, st2_3, stj_3, st1_4, sti_4, st2_4, stj_4, st1_5, sti_5, st2_5, stj_5, st1_6, sti_6, st2_6, stj_6, st1_7, sti_7, st2_7, stj_7, st1_8, sti_8, st2_8, stj_8, st1_9, sti_9, st2_9, stj_9, kil_n, kil_i, kil_r, kil_l, kil_d, gl_0, gl_s, cat_i, cat_r, true_and]
      rw [br_1 (by decide)]
      exact out_RR
    · rw [s149_2]
      simp only [s149_0, s149_1, s149_3, s149_5, s149_8, s149_9, s149_12, s149_13, s149_14, s149_15, s149_18, s149_21, ldi_0, ldi_s, ldl_0, ldl_s, ldd_0, ldd_s, lda_0, lda_s, st1_0, st1_1, st2_0, st2_1, sti_0, sti_1, stj_0, stj_1, st1_2, sti_2, st2_2, stj_2, st1_3, sti_3, st2_3, stj_3, st1_4, sti_4, st2_4, stj_4, st1_5, sti_5, st2_5, stj_5, st1_6, sti_6, st2_6, stj_6, st1_7, sti_7, st2_7, stj_7, st1_8, sti_8, st2_8, stj_8, st1_9, sti_9, st2_9, stj_9, kil_n, kil_i, kil_r, kil_l, kil_d, gl_0, gl_s, cat_i, cat_r, true_and, gf_ob (hX _), ast_la hup_same (show i < 10 from hi)]
      rw [nI_lit10, br_0 (nI_ge hi (by decide)), nI_1, hup_hup, stgL_s (D := fun _ => 0)]
      exact ih
  have k0 := key 0 (by omega)
  rw [stg_0, hup_id hp] at k0
  exact k0
theorem sp_wplus (hw : h w = some (whO wp)) (hp : h wp = some (la 10 P)) {x : Int64} : Sp 1 153 [.ref w, .long x] h z 0 0 (RR none (hup h wp (la 10 (plF P x))) z) := by
  have hX : ∀ X, hup h wp X w = some (whO wp) := fun X => by rw [hup_ne (kind_ne hw hp), hw]
  refine Sp_in (al := [some (.ref w), some (.long x), none, none, none, none, none, none, none, none]) ?_
  simp only [s153_0, s153_1, s153_2, s153_3, s153_5, s153_6, s153_10, s153_12, s153_15, s153_16, s153_19, s153_21, s153_22, s153_23, s153_26, s153_27, s153_28, s153_30, s153_31, s153_33, s153_34, s153_37, s153_39, s153_41, s153_44, s153_45, s153_46, s153_48, s153_50, s153_51, s153_53, s153_54, s153_56, s153_57, s153_58, s153_61, s153_64, ldi_0, ldi_s, ldl_0, ldl_s, ldd_0, ldd_s, lda_0, lda_s, st1_0, st1_1, st2_0, st2_1, sti_0, sti_1, stj_0, stj_1, st1_2, sti_2, st2_2, stj_2, st1_3, sti_3, st2_3, stj_3, st1_4, sti_4, st2_4, stj_4, st1_5, sti_5, st2_5, stj_5, st1_6, sti_6, st2_6, stj_6, st1_7, sti_7, st2_7, stj_7, st1_8, sti_8, st2_8, stj_8, st1_9, sti_9, st2_9, stj_9, kil_n, kil_i, kil_r, kil_l, kil_d, gl_0, gl_s, cat_i, cat_r, true_and]
  have key : ∀ i, i ≤ 10 → ∀ b : Option Value, aW (Sp 0) 153 0 0 (RR none (hup h wp (la 10 (plF P x))) z) 8 [some (.ref w), some (.long x), none, some (.long (plc P x i).1), none, some (.long (plc P x i).2), none, some (.int (nI i)), b, none] [] (hup h wp (la 10 (stg P (pld P x) i))) z 0 0 := by
    refine aUp ?_ fun i hi ih => ?_
    · intro b
      rw [s153_8]
      simp only [s153_0, s153_1, s153_2, s153_3, s153_5, s153_6, s153_10, s153_12, s153_15, s153_16, s153_19, s153_21, s153_22, s153_23, s153_26, s153_27, s153_28, s153_30, s153_31, s153_33, s153_34, s153_37, s153_39, s153_41, s153_44, s153_45, s153_46, s153_48, s153_50, s153_51, s153_53, s153_54, s153_56, s153_57, s153_58, s153_61, s153_64, ldi_0, ldi_s, ldl_0, ldl_s, ldd_0, ldd_s, lda_0, lda_s, st1_0, st1_1, st2_0, st2_1, sti_0, sti_1, stj_0, stj_1, st1_2, sti_2, st2_2, stj_2, st1_3, sti_3, st2_3, stj_3, st1_4, sti_4, st2_4, stj_4, st1_5, sti_5, st2_5, stj_5, st1_6, sti_6, st2_6, stj_6, st1_7, sti_7, st2_7, stj_7, st1_8, sti_8, st2_8, stj_8, st1_9, sti_9, st2_9, stj_9, kil_n, kil_i, kil_r, kil_l, kil_d, gl_0, gl_s, cat_i, cat_r, true_and]
      rw [br_1 (by decide)]
      exact out_RR
    · intro b
      rw [s153_8]
      simp only [s153_0, s153_1, s153_2, s153_3, s153_5, s153_6, s153_10, s153_12, s153_15, s153_16, s153_19, s153_21, s153_22, s153_23, s153_26, s153_27, s153_28, s153_30, s153_31, s153_33, s153_34, s153_37, s153_39, s153_41, s153_44, s153_45, s153_46, s153_48, s153_50, s153_51, s153_53, s153_54, s153_56, s153_57, s153_58, s153_61, s153_64, ldi_0, ldi_s, ldl_0, ldl_s, ldd_0, ldd_s, lda_0, lda_s, st1_0, st1_1, st2_0, st2_1, sti_0, sti_1, stj_0, stj_1, st1_2, sti_2, st2_2, stj_2, st1_3, sti_3, st2_3, stj_3, st1_4, sti_4, st2_4, stj_4, st1_5, sti_5, st2_5, stj_5, st1_6, sti_6, st2_6, stj_6, st1_7, sti_7, st2_7, stj_7, st1_8, sti_8, st2_8, stj_8, st1_9, sti_9, st2_9, stj_9, kil_n, kil_i, kil_r, kil_l, kil_d, gl_0, gl_s, cat_i, cat_r, true_and, gf_ob (hX _), ald_la hup_same (show i < 10 from hi), ast_la hup_same (show i < 10 from hi), stg_at]
      rw [nI_lit10, br_0 (nI_ge hi (by decide)), nI_1, hup_hup]
      rw [← stgL_s] at ih
      exact ih _
  have k0 := key 0 (by omega) none
  rw [stg_0, hup_id hp] at k0
  exact k0
theorem sp_wnegate (hw : h w = some (whO wp)) (hp : h wp = some (la 10 P)) : Sp 2 152 [.ref w] h z 0 0 (RR none (hup h wp (la 10 (ngF P))) z) := by
  have hX : ∀ X, hup h wp X w = some (whO wp) := fun X => by rw [hup_ne (kind_ne hw hp), hw]
  refine Sp_in (al := [some (.ref w), none]) ?_
  simp only [s152_0, s152_1, s152_3, s152_5, s152_8, s152_9, s152_12, s152_13, s152_14, s152_17, s152_18, s152_19, s152_22, s152_23, s152_26, s152_27, s152_28, s152_31, s152_34, s152_35, s152_39, ldi_0, ldi_s, ldl_0, ldl_s, ldd_0, ldd_s, lda_0, lda_s, st1_0, st1_1, st2_0, st2_1, sti_0, sti_1, stj_0, stj_1, st1_2, sti_2, st2_2, stj_2, st1_3, sti_3, st2_3, stj_3, st1_4, sti_4, st2_4, stj_4, st1_5, sti_5, st2_5, stj_5, st1_6, sti_6, st2_6, stj_6, st1_7, sti_7, st2_7, stj_7, st1_8, sti_8, st2_8, stj_8, st1_9, sti_9, st2_9, stj_9, kil_n, kil_i, kil_r, kil_l, kil_d, gl_0, gl_s, cat_i, cat_r, true_and]
  have key : ∀ i, i ≤ 10 → aW (Sp 1) 152 0 0 (RR none (hup h wp (la 10 (ngF P))) z) 2 [some (.ref w), some (.int (nI i))] [] (hup h wp (la 10 (stg P (ngd P) i))) z 0 0 := by
    refine aUp ?_ fun i hi ih => ?_
    · rw [s152_2]
      simp only [s152_0, s152_1, s152_3, s152_5, s152_8, s152_9, s152_12, s152_13, s152_14, s152_17, s152_18, s152_19, s152_22, s152_23, s152_26, s152_27, s152_28, s152_31, s152_34, s152_35, s152_39, ldi_0, ldi_s, ldl_0, ldl_s, ldd_0, ldd_s, lda_0, lda_s, st1_0, st1_1, st2_0, st2_1, sti_0, sti_1, stj_0, stj_1, st1_2, sti_2, st2_2, stj_2, st1_3, sti_3, st2_3, stj_3, st1_4, sti_4, st2_4, stj_4, st1_5, sti_5, st2_5, stj_5, st1_6, sti_6, st2_6, stj_6, st1_7, sti_7, st2_7, stj_7, st1_8, sti_8, st2_8, stj_8, st1_9, sti_9, st2_9, stj_9, kil_n, kil_i, kil_r, kil_l, kil_d, gl_0, gl_s, cat_i, cat_r, true_and]
      rw [br_1 (by decide)]
      refine c152_36r (hX _) (sp_wplus (hX _) hup_same) ?_
      simp only [s152_0, s152_1, s152_3, s152_5, s152_8, s152_9, s152_12, s152_13, s152_14, s152_17, s152_18, s152_19, s152_22, s152_23, s152_26, s152_27, s152_28, s152_31, s152_34, s152_35, s152_39, ldi_0, ldi_s, ldl_0, ldl_s, ldd_0, ldd_s, lda_0, lda_s, st1_0, st1_1, st2_0, st2_1, sti_0, sti_1, stj_0, stj_1, st1_2, sti_2, st2_2, stj_2, st1_3, sti_3, st2_3, stj_3, st1_4, sti_4, st2_4, stj_4, st1_5, sti_5, st2_5, stj_5, st1_6, sti_6, st2_6, stj_6, st1_7, sti_7, st2_7, stj_7, st1_8, sti_8, st2_8, stj_8, st1_9, sti_9, st2_9, stj_9, kil_n, kil_i, kil_r, kil_l, kil_d, gl_0, gl_s, cat_i, cat_r, true_and]
      exact out_eq rfl (by rw [hup_hup]; rfl) rfl
    · rw [s152_2]
      simp only [s152_0, s152_1, s152_3, s152_5, s152_8, s152_9, s152_12, s152_13, s152_14, s152_17, s152_18, s152_19, s152_22, s152_23, s152_26, s152_27, s152_28, s152_31, s152_34, s152_35, s152_39, ldi_0, ldi_s, ldl_0, ldl_s, ldd_0, ldd_s, lda_0, lda_s, st1_0, st1_1, st2_0, st2_1, sti_0, sti_1, stj_0, stj_1, st1_2, sti_2, st2_2, stj_2, st1_3, sti_3, st2_3, stj_3, st1_4, sti_4, st2_4, stj_4, st1_5, sti_5, st2_5, stj_5, st1_6, sti_6, st2_6, stj_6, st1_7, sti_7, st2_7, stj_7, st1_8, sti_8, st2_8, stj_8, st1_9, sti_9, st2_9, stj_9, kil_n, kil_i, kil_r, kil_l, kil_d, gl_0, gl_s, cat_i, cat_r, true_and, gf_ob (hX _), ald_la hup_same (show i < 10 from hi), ast_la hup_same (show i < 10 from hi), stg_at]
      rw [nI_lit10, br_0 (nI_ge hi (by decide)), nI_1, hup_hup]
      rw [← stgL_s] at ih
      exact ih
  have k0 := key 0 (by omega)
  rw [stg_0, hup_id hp] at k0
  exact k0
theorem sp_wtimes (hw : h w = some (whO wp)) (hp : h wp = some (la 10 P)) {k : Int32} : Sp 3 150 [.ref w, .int k] h z 0 0 (RR none (hup h wp (la 10 (tmF P k))) z) := by
  have hX : ∀ X, hup h wp X w = some (whO wp) := fun X => by rw [hup_ne (kind_ne hw hp), hw]
  refine Sp_in (al := [some (.ref w), some (.int k), none, none, none, none, none, none, none]) ?_
  simp only [s150_0, s150_1, s150_5, s150_6, s150_7, s150_9, s150_10, s150_14, s150_16, s150_19, s150_20, s150_23, s150_25, s150_26, s150_27, s150_28, s150_30, s150_31, s150_33, s150_34, s150_37, s150_39, s150_41, s150_44, s150_45, s150_46, s150_48, s150_50, s150_51, s150_53, s150_56, s150_59, s150_60, s150_63, s150_67, ldi_0, ldi_s, ldl_0, ldl_s, ldd_0, ldd_s, lda_0, lda_s, st1_0, st1_1, st2_0, st2_1, sti_0, sti_1, stj_0, stj_1, st1_2, sti_2, st2_2, stj_2, st1_3, sti_3, st2_3, stj_3, st1_4, sti_4, st2_4, stj_4, st1_5, sti_5, st2_5, stj_5, st1_6, sti_6, st2_6, stj_6, st1_7, sti_7, st2_7, stj_7, st1_8, sti_8, st2_8, stj_8, st1_9, sti_9, st2_9, stj_9, kil_n, kil_i, kil_r, kil_l, kil_d, gl_0, gl_s, cat_i, cat_r, true_and]
  refine c150_2r sp_absL ?_
  simp only [s150_0, s150_1, s150_5, s150_6, s150_7, s150_9, s150_10, s150_14, s150_16, s150_19, s150_20, s150_23, s150_25, s150_26, s150_27, s150_28, s150_30, s150_31, s150_33, s150_34, s150_37, s150_39, s150_41, s150_44, s150_45, s150_46, s150_48, s150_50, s150_51, s150_53, s150_56, s150_59, s150_60, s150_63, s150_67, ldi_0, ldi_s, ldl_0, ldl_s, ldd_0, ldd_s, lda_0, lda_s, st1_0, st1_1, st2_0, st2_1, sti_0, sti_1, stj_0, stj_1, st1_2, sti_2, st2_2, stj_2, st1_3, sti_3, st2_3, stj_3, st1_4, sti_4, st2_4, stj_4, st1_5, sti_5, st2_5, stj_5, st1_6, sti_6, st2_6, stj_6, st1_7, sti_7, st2_7, stj_7, st1_8, sti_8, st2_8, stj_8, st1_9, sti_9, st2_9, stj_9, kil_n, kil_i, kil_r, kil_l, kil_d, gl_0, gl_s, cat_i, cat_r, true_and]
  have key : ∀ i, i ≤ 10 → ∀ b : Option Value, aW (Sp 2) 150 0 0 (RR none (hup h wp (la 10 (tmF P k))) z) 12 [some (.ref w), some (.int k), some (.long (absL k.toInt64)), none, some (.long (tmc P (absL k.toInt64) i)), none, some (.int (nI i)), b, none] [] (hup h wp (la 10 (stg P (tmd P (absL k.toInt64)) i))) z 0 0 := by
    refine aUp ?_ fun i hi ih => ?_
    · intro b
      rw [s150_12]
      simp only [s150_0, s150_1, s150_5, s150_6, s150_7, s150_9, s150_10, s150_14, s150_16, s150_19, s150_20, s150_23, s150_25, s150_26, s150_27, s150_28, s150_30, s150_31, s150_33, s150_34, s150_37, s150_39, s150_41, s150_44, s150_45, s150_46, s150_48, s150_50, s150_51, s150_53, s150_56, s150_59, s150_60, s150_63, s150_67, ldi_0, ldi_s, ldl_0, ldl_s, ldd_0, ldd_s, lda_0, lda_s, st1_0, st1_1, st2_0, st2_1, sti_0, sti_1, stj_0, stj_1, st1_2, sti_2, st2_2, stj_2, st1_3, sti_3, st2_3, stj_3, st1_4, sti_4, st2_4, stj_4, st1_5, sti_5, st2_5, stj_5, st1_6, sti_6, st2_6, stj_6, st1_7, sti_7, st2_7, stj_7, st1_8, sti_8, st2_8, stj_8, st1_9, sti_9, st2_9, stj_9, kil_n, kil_i, kil_r, kil_l, kil_d, gl_0, gl_s, cat_i, cat_r, true_and]
      rw [br_1 (by decide)]
      refine ⟨fun h1 => ?_, fun h1 => ?_⟩
      · exact out_eq rfl (by unfold tmF; rw [if_pos h1]) rfl
      · refine c150_64r (hX _) (sp_wnegate (hX _) hup_same) ?_
        simp only [s150_0, s150_1, s150_5, s150_6, s150_7, s150_9, s150_10, s150_14, s150_16, s150_19, s150_20, s150_23, s150_25, s150_26, s150_27, s150_28, s150_30, s150_31, s150_33, s150_34, s150_37, s150_39, s150_41, s150_44, s150_45, s150_46, s150_48, s150_50, s150_51, s150_53, s150_56, s150_59, s150_60, s150_63, s150_67, ldi_0, ldi_s, ldl_0, ldl_s, ldd_0, ldd_s, lda_0, lda_s, st1_0, st1_1, st2_0, st2_1, sti_0, sti_1, stj_0, stj_1, st1_2, sti_2, st2_2, stj_2, st1_3, sti_3, st2_3, stj_3, st1_4, sti_4, st2_4, stj_4, st1_5, sti_5, st2_5, stj_5, st1_6, sti_6, st2_6, stj_6, st1_7, sti_7, st2_7, stj_7, st1_8, sti_8, st2_8, stj_8, st1_9, sti_9, st2_9, stj_9, kil_n, kil_i, kil_r, kil_l, kil_d, gl_0, gl_s, cat_i, cat_r, true_and]
        exact out_eq rfl (by unfold tmF; rw [if_neg h1, hup_hup]) rfl
    · intro b
      rw [s150_12]
      simp only [s150_0, s150_1, s150_5, s150_6, s150_7, s150_9, s150_10, s150_14, s150_16, s150_19, s150_20, s150_23, s150_25, s150_26, s150_27, s150_28, s150_30, s150_31, s150_33, s150_34, s150_37, s150_39, s150_41, s150_44, s150_45, s150_46, s150_48, s150_50, s150_51, s150_53, s150_56, s150_59, s150_60, s150_63, s150_67, ldi_0, ldi_s, ldl_0, ldl_s, ldd_0, ldd_s, lda_0, lda_s, st1_0, st1_1, st2_0, st2_1, sti_0, sti_1, stj_0, stj_1, st1_2, sti_2, st2_2, stj_2, st1_3, sti_3, st2_3, stj_3, st1_4, sti_4, st2_4, stj_4, st1_5, sti_5, st2_5, stj_5, st1_6, sti_6, st2_6, stj_6, st1_7, sti_7, st2_7, stj_7, st1_8, sti_8, st2_8, stj_8, st1_9, sti_9, st2_9, stj_9, kil_n, kil_i, kil_r, kil_l, kil_d, gl_0, gl_s, cat_i, cat_r, true_and, gf_ob (hX _), ald_la hup_same (show i < 10 from hi), ast_la hup_same (show i < 10 from hi), stg_at]
      rw [nI_lit10, br_0 (nI_ge hi (by decide)), nI_1, hup_hup]
      rw [← stgL_s] at ih
      exact ih _
  have k0 := key 0 (by omega) none
  rw [stg_0, hup_id hp] at k0
  exact k0
theorem sp_wneg (hw : h w = some (whO wp)) (hp : h wp = some (la 10 P)) : Sp 1 167 [.ref w] h z 0 0 (RR (some (.int (bI (wneg P)))) h z) := by
  refine Sp_in (al := [some (.ref w)]) ?_
  simp only [s167_0, s167_1, s167_4, s167_6, s167_7, s167_9, s167_10, s167_11, s167_12, s167_15, s167_16, s167_19, s167_20, ldi_0, ldi_s, ldl_0, ldl_s, ldd_0, ldd_s, lda_0, lda_s, st1_0, st1_1, st2_0, st2_1, sti_0, sti_1, stj_0, stj_1, st1_2, sti_2, st2_2, stj_2, st1_3, sti_3, st2_3, stj_3, st1_4, sti_4, st2_4, stj_4, st1_5, sti_5, st2_5, stj_5, st1_6, sti_6, st2_6, stj_6, st1_7, sti_7, st2_7, stj_7, st1_8, sti_8, st2_8, stj_8, st1_9, sti_9, st2_9, stj_9, kil_n, kil_i, kil_r, kil_l, kil_d, gl_0, gl_s, cat_i, cat_r, true_and, gf_ob hw]
  rw [nI_lit9, ald_la hp (by decide)]
  simp only [s167_0, s167_1, s167_4, s167_6, s167_7, s167_9, s167_10, s167_11, s167_12, s167_15, s167_16, s167_19, s167_20, ldi_0, ldi_s, ldl_0, ldl_s, ldd_0, ldd_s, lda_0, lda_s, st1_0, st1_1, st2_0, st2_1, sti_0, sti_1, stj_0, stj_1, st1_2, sti_2, st2_2, stj_2, st1_3, sti_3, st2_3, stj_3, st1_4, sti_4, st2_4, stj_4, st1_5, sti_5, st2_5, stj_5, st1_6, sti_6, st2_6, stj_6, st1_7, sti_7, st2_7, stj_7, st1_8, sti_8, st2_8, stj_8, st1_9, sti_9, st2_9, stj_9, kil_n, kil_i, kil_r, kil_l, kil_d, gl_0, gl_s, cat_i, cat_r, true_and]
  refine ⟨fun h1 => ?_, fun h1 => ?_⟩
  · exact ⟨rfl, out_eq (by rw [show wneg P = false by unfold wneg; rw [decide_eq_false_iff_not]; exact fun q => q h1]; rfl) rfl rfl⟩
  · exact ⟨rfl, out_eq (by rw [show wneg P = true by unfold wneg; rw [decide_eq_true_eq]; exact h1]; rfl) rfl rfl⟩
theorem sp_wdrop (hw : h w = some (whO wp)) (hp : h wp = some (la 10 P)) : Sp 3 166 [.ref w] h z 0 0 (RR none (hup h wp (la 10 (if wneg P then ngF P else P))) z) := by
  refine Sp_in (al := [some (.ref w)]) ?_
  simp only [s166_0, s166_4, s166_7, s166_11, ldi_0, ldi_s, ldl_0, ldl_s, ldd_0, ldd_s, lda_0, lda_s, st1_0, st1_1, st2_0, st2_1, sti_0, sti_1, stj_0, stj_1, st1_2, sti_2, st2_2, stj_2, st1_3, sti_3, st2_3, stj_3, st1_4, sti_4, st2_4, stj_4, st1_5, sti_5, st2_5, stj_5, st1_6, sti_6, st2_6, stj_6, st1_7, sti_7, st2_7, stj_7, st1_8, sti_8, st2_8, stj_8, st1_9, sti_9, st2_9, stj_9, kil_n, kil_i, kil_r, kil_l, kil_d, gl_0, gl_s, cat_i, cat_r, true_and]
  refine c166_1r hw (sp_wneg hw hp) ?_
  simp only [s166_0, s166_4, s166_7, s166_11, ldi_0, ldi_s, ldl_0, ldl_s, ldd_0, ldd_s, lda_0, lda_s, st1_0, st1_1, st2_0, st2_1, sti_0, sti_1, stj_0, stj_1, st1_2, sti_2, st2_2, stj_2, st1_3, sti_3, st2_3, stj_3, st1_4, sti_4, st2_4, stj_4, st1_5, sti_5, st2_5, stj_5, st1_6, sti_6, st2_6, stj_6, st1_7, sti_7, st2_7, stj_7, st1_8, sti_8, st2_8, stj_8, st1_9, sti_9, st2_9, stj_9, kil_n, kil_i, kil_r, kil_l, kil_d, gl_0, gl_s, cat_i, cat_r, true_and]
  refine ⟨fun h1 => ?_, fun h1 => ?_⟩
  · rw [bI_0] at h1
    exact out_eq rfl (by rw [h1]; exact (hup_id hp).symm) rfl
  · rw [bI_0, Bool.not_eq_false] at h1
    refine c166_8r hw (sp_wnegate hw hp) ?_
    simp only [s166_0, s166_4, s166_7, s166_11, ldi_0, ldi_s, ldl_0, ldl_s, ldd_0, ldd_s, lda_0, lda_s, st1_0, st1_1, st2_0, st2_1, sti_0, sti_1, stj_0, stj_1, st1_2, sti_2, st2_2, stj_2, st1_3, sti_3, st2_3, stj_3, st1_4, sti_4, st2_4, stj_4, st1_5, sti_5, st2_5, stj_5, st1_6, sti_6, st2_6, stj_6, st1_7, sti_7, st2_7, stj_7, st1_8, sti_8, st2_8, stj_8, st1_9, sti_9, st2_9, stj_9, kil_n, kil_i, kil_r, kil_l, kil_d, gl_0, gl_s, cat_i, cat_r, true_and]
    exact out_eq rfl (by rw [h1]; rfl) rfl
theorem sp_wbits (hw : h w = some (whO wp)) (hp : h wp = some (la 10 P)) : Sp 1 168 [.ref w] h z 0 0 (RR (some (.int (nI (wbd P 320)))) h z) := by
  refine Sp_in (al := [some (.ref w), none]) ?_
  simp only [s168_0, s168_3, s168_5, s168_8, s168_9, s168_12, s168_13, s168_15, s168_16, s168_17, s168_18, s168_20, s168_21, s168_22, s168_23, s168_24, s168_25, s168_26, s168_29, s168_30, s168_31, s168_32, s168_33, s168_36, s168_39, s168_40, ldi_0, ldi_s, ldl_0, ldl_s, ldd_0, ldd_s, lda_0, lda_s, st1_0, st1_1, st2_0, st2_1, sti_0, sti_1, stj_0, stj_1, st1_2, sti_2, st2_2, stj_2, st1_3, sti_3, st2_3, stj_3, st1_4, sti_4, st2_4, stj_4, st1_5, sti_5, st2_5, stj_5, st1_6, sti_6, st2_6, stj_6, st1_7, sti_7, st2_7, stj_7, st1_8, sti_8, st2_8, stj_8, st1_9, sti_9, st2_9, stj_9, kil_n, kil_i, kil_r, kil_l, kil_d, gl_0, gl_s, cat_i, cat_r, true_and]
  have key : ∀ j, j ≤ 320 → wbd P 320 = wbd P j → aW (Sp 0) 168 0 0 (RR (some (.int (nI (wbd P 320)))) h z) 4 [some (.ref w), some (.int (nI j + (-1)))] [] h z 0 0 := by
    refine aDn ?_ fun j hj ih => ?_
    · intro e
      rw [s168_4]
      simp only [s168_0, s168_3, s168_5, s168_8, s168_9, s168_12, s168_13, s168_15, s168_16, s168_17, s168_18, s168_20, s168_21, s168_22, s168_23, s168_24, s168_25, s168_26, s168_29, s168_30, s168_31, s168_32, s168_33, s168_36, s168_39, s168_40, ldi_0, ldi_s, ldl_0, ldl_s, ldd_0, ldd_s, lda_0, lda_s, st1_0, st1_1, st2_0, st2_1, sti_0, sti_1, stj_0, stj_1, st1_2, sti_2, st2_2, stj_2, st1_3, sti_3, st2_3, stj_3, st1_4, sti_4, st2_4, stj_4, st1_5, sti_5, st2_5, stj_5, st1_6, sti_6, st2_6, stj_6, st1_7, sti_7, st2_7, stj_7, st1_8, sti_8, st2_8, stj_8, st1_9, sti_9, st2_9, stj_9, kil_n, kil_i, kil_r, kil_l, kil_d, gl_0, gl_s, cat_i, cat_r, true_and]
      rw [br_1 (by decide), e]
      exact out_RR
    · intro e
      have e2 : wbd P (j + 1) = if wbit P j then j + 1 else wbd P j := rfl
      rw [nI_pm, s168_4]
      simp only [s168_0, s168_3, s168_5, s168_8, s168_9, s168_12, s168_13, s168_15, s168_16, s168_17, s168_18, s168_20, s168_21, s168_22, s168_23, s168_24, s168_25, s168_26, s168_29, s168_30, s168_31, s168_32, s168_33, s168_36, s168_39, s168_40, ldi_0, ldi_s, ldl_0, ldl_s, ldd_0, ldd_s, lda_0, lda_s, st1_0, st1_1, st2_0, st2_1, sti_0, sti_1, stj_0, stj_1, st1_2, sti_2, st2_2, stj_2, st1_3, sti_3, st2_3, stj_3, st1_4, sti_4, st2_4, stj_4, st1_5, sti_5, st2_5, stj_5, st1_6, sti_6, st2_6, stj_6, st1_7, sti_7, st2_7, stj_7, st1_8, sti_8, st2_8, stj_8, st1_9, sti_9, st2_9, stj_9, kil_n, kil_i, kil_r, kil_l, kil_d, gl_0, gl_s, cat_i, cat_r, true_and, gf_ob hw]
      rw [nI_lit0, br_0 (nI_nlt (Nat.zero_le j) (by omega)), show (32 : Int32) = nI 32 from rfl, pk_rem (by omega) (by decide) (by decide), pk_div (by omega) (by decide) (by decide), ald_la hp (show j / 32 < 10 by omega)]
      simp only [s168_0, s168_3, s168_5, s168_8, s168_9, s168_12, s168_13, s168_15, s168_16, s168_17, s168_18, s168_20, s168_21, s168_22, s168_23, s168_24, s168_25, s168_26, s168_29, s168_30, s168_31, s168_32, s168_33, s168_36, s168_39, s168_40, ldi_0, ldi_s, ldl_0, ldl_s, ldd_0, ldd_s, lda_0, lda_s, st1_0, st1_1, st2_0, st2_1, sti_0, sti_1, stj_0, stj_1, st1_2, sti_2, st2_2, stj_2, st1_3, sti_3, st2_3, stj_3, st1_4, sti_4, st2_4, stj_4, st1_5, sti_5, st2_5, stj_5, st1_6, sti_6, st2_6, stj_6, st1_7, sti_7, st2_7, stj_7, st1_8, sti_8, st2_8, stj_8, st1_9, sti_9, st2_9, stj_9, kil_n, kil_i, kil_r, kil_l, kil_d, gl_0, gl_s, cat_i, cat_r, true_and]
      refine ⟨by decide, by decide, fun h1 => ?_, fun h1 => ?_⟩
      · refine ih ?_
        rw [e, e2, if_neg]
        unfold wbit
        rw [decide_eq_true_eq]
        exact fun q => q h1
      · refine out_eq ?_ rfl rfl
        rw [e, e2, if_pos, nI_1]
        unfold wbit
        rw [decide_eq_true_eq]
        exact h1
  exact key 320 (by omega) rfl
theorem sp_wsign (hw : h w = some (whO wp)) (hp : h wp = some (la 10 P)) : Sp 2 171 [.ref w] h z 0 0 (RR (some (.int (if wneg P then -1 else if wbd P 320 = 0 then 0 else 1))) h z) := by
  refine Sp_in (al := [some (.ref w)]) ?_
  simp only [s171_0, s171_4, s171_7, s171_8, s171_9, s171_13, s171_16, s171_17, s171_20, s171_21, ldi_0, ldi_s, ldl_0, ldl_s, ldd_0, ldd_s, lda_0, lda_s, st1_0, st1_1, st2_0, st2_1, sti_0, sti_1, stj_0, stj_1, st1_2, sti_2, st2_2, stj_2, st1_3, sti_3, st2_3, stj_3, st1_4, sti_4, st2_4, stj_4, st1_5, sti_5, st2_5, stj_5, st1_6, sti_6, st2_6, stj_6, st1_7, sti_7, st2_7, stj_7, st1_8, sti_8, st2_8, stj_8, st1_9, sti_9, st2_9, stj_9, kil_n, kil_i, kil_r, kil_l, kil_d, gl_0, gl_s, cat_i, cat_r, true_and]
  refine c171_1r hw (sp_wneg hw hp) ?_
  simp only [s171_0, s171_4, s171_7, s171_8, s171_9, s171_13, s171_16, s171_17, s171_20, s171_21, ldi_0, ldi_s, ldl_0, ldl_s, ldd_0, ldd_s, lda_0, lda_s, st1_0, st1_1, st2_0, st2_1, sti_0, sti_1, stj_0, stj_1, st1_2, sti_2, st2_2, stj_2, st1_3, sti_3, st2_3, stj_3, st1_4, sti_4, st2_4, stj_4, st1_5, sti_5, st2_5, stj_5, st1_6, sti_6, st2_6, stj_6, st1_7, sti_7, st2_7, stj_7, st1_8, sti_8, st2_8, stj_8, st1_9, sti_9, st2_9, stj_9, kil_n, kil_i, kil_r, kil_l, kil_d, gl_0, gl_s, cat_i, cat_r, true_and]
  refine ⟨fun h1 => ?_, fun h1 => ?_⟩
  · rw [bI_0] at h1
    rw [h1]
    refine c171_10r hw (sp_wbits hw hp) ?_
    simp only [s171_0, s171_4, s171_7, s171_8, s171_9, s171_13, s171_16, s171_17, s171_20, s171_21, ldi_0, ldi_s, ldl_0, ldl_s, ldd_0, ldd_s, lda_0, lda_s, st1_0, st1_1, st2_0, st2_1, sti_0, sti_1, stj_0, stj_1, st1_2, sti_2, st2_2, stj_2, st1_3, sti_3, st2_3, stj_3, st1_4, sti_4, st2_4, stj_4, st1_5, sti_5, st2_5, stj_5, st1_6, sti_6, st2_6, stj_6, st1_7, sti_7, st2_7, stj_7, st1_8, sti_8, st2_8, stj_8, st1_9, sti_9, st2_9, stj_9, kil_n, kil_i, kil_r, kil_l, kil_d, gl_0, gl_s, cat_i, cat_r, true_and]
    have h3 := wbd_le (P := P) 320
    refine ⟨fun h2 => ?_, fun h2 => ?_⟩
    · rw [nI_lit0, nI_eq (by omega) (by decide)] at h2
      exact out_eq (by simp [h2]) rfl rfl
    · rw [nI_lit0, nI_eq (by omega) (by decide)] at h2
      exact out_eq (by simp [h2]) rfl rfl
  · rw [bI_0, Bool.not_eq_false] at h1
    exact out_eq (by rw [h1]; rfl) rfl rfl
theorem sp_wlow (hw : h w = some (whO wp)) (hp : h wp = some (la 10 P)) : Sp 1 155 [.ref w] h z 0 0 (RR (some (.long (wlow P))) h z) := by
  refine Sp_in (al := [some (.ref w)]) ?_
  simp only [s155_0, s155_1, s155_4, s155_5, s155_6, s155_8, s155_9, s155_10, s155_13, s155_14, s155_15, s155_16, ldi_0, ldi_s, ldl_0, ldl_s, ldd_0, ldd_s, lda_0, lda_s, st1_0, st1_1, st2_0, st2_1, sti_0, sti_1, stj_0, stj_1, st1_2, sti_2, st2_2, stj_2, st1_3, sti_3, st2_3, stj_3, st1_4, sti_4, st2_4, stj_4, st1_5, sti_5, st2_5, stj_5, st1_6, sti_6, st2_6, stj_6, st1_7, sti_7, st2_7, stj_7, st1_8, sti_8, st2_8, stj_8, st1_9, sti_9, st2_9, stj_9, kil_n, kil_i, kil_r, kil_l, kil_d, gl_0, gl_s, cat_i, cat_r, true_and, gf_ob hw]
  rw [nI_lit1, ald_la hp (by decide)]
  simp only [s155_0, s155_1, s155_4, s155_5, s155_6, s155_8, s155_9, s155_10, s155_13, s155_14, s155_15, s155_16, ldi_0, ldi_s, ldl_0, ldl_s, ldd_0, ldd_s, lda_0, lda_s, st1_0, st1_1, st2_0, st2_1, sti_0, sti_1, stj_0, stj_1, st1_2, sti_2, st2_2, stj_2, st1_3, sti_3, st2_3, stj_3, st1_4, sti_4, st2_4, stj_4, st1_5, sti_5, st2_5, stj_5, st1_6, sti_6, st2_6, stj_6, st1_7, sti_7, st2_7, stj_7, st1_8, sti_8, st2_8, stj_8, st1_9, sti_9, st2_9, stj_9, kil_n, kil_i, kil_r, kil_l, kil_d, gl_0, gl_s, cat_i, cat_r, true_and, gf_ob hw]
  rw [nI_lit0, ald_la hp (by decide)]
  simp only [s155_0, s155_1, s155_4, s155_5, s155_6, s155_8, s155_9, s155_10, s155_13, s155_14, s155_15, s155_16, ldi_0, ldi_s, ldl_0, ldl_s, ldd_0, ldd_s, lda_0, lda_s, st1_0, st1_1, st2_0, st2_1, sti_0, sti_1, stj_0, stj_1, st1_2, sti_2, st2_2, stj_2, st1_3, sti_3, st2_3, stj_3, st1_4, sti_4, st2_4, stj_4, st1_5, sti_5, st2_5, stj_5, st1_6, sti_6, st2_6, stj_6, st1_7, sti_7, st2_7, stj_7, st1_8, sti_8, st2_8, stj_8, st1_9, sti_9, st2_9, stj_9, kil_n, kil_i, kil_r, kil_l, kil_d, gl_0, gl_s, cat_i, cat_r, true_and]
  exact out_RR
theorem wfit_f {P : Nat → Int64} {i : Nat} (h : wfit P i = false) : ∀ j, i ≤ j → wfit P j = false := by
  intro j hj
  induction hj with
  | refl => exact h
  | step _ ih => unfold wfit; rw [ih]; rfl
theorem sp_wfits (hw : h w = some (whO wp)) (hp : h wp = some (la 10 P)) : Sp 1 154 [.ref w] h z 0 0 (RR (some (.int (bI (wfit P 9)))) h z) := by
  refine Sp_in (al := [some (.ref w), none, none, none, none]) ?_
  simp only [s154_0, s154_1, s154_4, s154_5, s154_6, s154_7, s154_8, s154_9, s154_12, s154_15, s154_18, s154_19, s154_20, s154_21, s154_25, s154_27, s154_30, s154_31, s154_34, s154_36, s154_37, s154_38, s154_39, s154_42, s154_43, s154_44, s154_47, s154_50, s154_51, ldi_0, ldi_s, ldl_0, ldl_s, ldd_0, ldd_s, lda_0, lda_s, st1_0, st1_1, st2_0, st2_1, sti_0, sti_1, stj_0, stj_1, st1_2, sti_2, st2_2, stj_2, st1_3, sti_3, st2_3, stj_3, st1_4, sti_4, st2_4, stj_4, st1_5, sti_5, st2_5, stj_5, st1_6, sti_6, st2_6, stj_6, st1_7, sti_7, st2_7, stj_7, st1_8, sti_8, st2_8, stj_8, st1_9, sti_9, st2_9, stj_9, kil_n, kil_i, kil_r, kil_l, kil_d, gl_0, gl_s, cat_i, cat_r, true_and, gf_ob hw]
  rw [nI_lit0, ald_la hp (by decide)]
  simp only [s154_0, s154_1, s154_4, s154_5, s154_6, s154_7, s154_8, s154_9, s154_12, s154_15, s154_18, s154_19, s154_20, s154_21, s154_25, s154_27, s154_30, s154_31, s154_34, s154_36, s154_37, s154_38, s154_39, s154_42, s154_43, s154_44, s154_47, s154_50, s154_51, ldi_0, ldi_s, ldl_0, ldl_s, ldd_0, ldd_s, lda_0, lda_s, st1_0, st1_1, st2_0, st2_1, sti_0, sti_1, stj_0, stj_1, st1_2, sti_2, st2_2, stj_2, st1_3, sti_3, st2_3, stj_3, st1_4, sti_4, st2_4, stj_4, st1_5, sti_5, st2_5, stj_5, st1_6, sti_6, st2_6, stj_6, st1_7, sti_7, st2_7, stj_7, st1_8, sti_8, st2_8, stj_8, st1_9, sti_9, st2_9, stj_9, kil_n, kil_i, kil_r, kil_l, kil_d, gl_0, gl_s, cat_i, cat_r, true_and, gf_ob hw]
  have key : ∀ j, j ≤ 9 → wfit P j = true → aW (Sp 0) 154 0 0 (RR (some (.int (bI (wfit P 9)))) h z) 23 [some (.ref w), some (.int (P 0).toInt32), some (.long (wabove P)), none, some (.int (nI (j + 1)))] [] h z 0 0 := by
    refine aUp ?_ fun j hj ih => ?_
    · intro e
      rw [s154_23]
      simp only [s154_0, s154_1, s154_4, s154_5, s154_6, s154_7, s154_8, s154_9, s154_12, s154_15, s154_18, s154_19, s154_20, s154_21, s154_25, s154_27, s154_30, s154_31, s154_34, s154_36, s154_37, s154_38, s154_39, s154_42, s154_43, s154_44, s154_47, s154_50, s154_51, ldi_0, ldi_s, ldl_0, ldl_s, ldd_0, ldd_s, lda_0, lda_s, st1_0, st1_1, st2_0, st2_1, sti_0, sti_1, stj_0, stj_1, st1_2, sti_2, st2_2, stj_2, st1_3, sti_3, st2_3, stj_3, st1_4, sti_4, st2_4, stj_4, st1_5, sti_5, st2_5, stj_5, st1_6, sti_6, st2_6, stj_6, st1_7, sti_7, st2_7, stj_7, st1_8, sti_8, st2_8, stj_8, st1_9, sti_9, st2_9, stj_9, kil_n, kil_i, kil_r, kil_l, kil_d, gl_0, gl_s, cat_i, cat_r, true_and]
      rw [br_1 (by decide), e]
      exact ⟨by decide, out_eq rfl rfl rfl⟩
    · intro e
      rw [s154_23]
      simp only [s154_0, s154_1, s154_4, s154_5, s154_6, s154_7, s154_8, s154_9, s154_12, s154_15, s154_18, s154_19, s154_20, s154_21, s154_25, s154_27, s154_30, s154_31, s154_34, s154_36, s154_37, s154_38, s154_39, s154_42, s154_43, s154_44, s154_47, s154_50, s154_51, ldi_0, ldi_s, ldl_0, ldl_s, ldd_0, ldd_s, lda_0, lda_s, st1_0, st1_1, st2_0, st2_1, sti_0, sti_1, stj_0, stj_1, st1_2, sti_2, st2_2, stj_2, st1_3, sti_3, st2_3, stj_3, st1_4, sti_4, st2_4, stj_4, st1_5, sti_5, st2_5, stj_5, st1_6, sti_6, st2_6, stj_6, st1_7, sti_7, st2_7, stj_7, st1_8, sti_8, st2_8, stj_8, st1_9, sti_9, st2_9, stj_9, kil_n, kil_i, kil_r, kil_l, kil_d, gl_0, gl_s, cat_i, cat_r, true_and, gf_ob hw, ald_la hp (show j + 1 < 10 by omega)]
      rw [nI_lit10, br_0 (nI_ge (show j + 1 < 10 by omega) (by decide)), nI_1]
      refine ⟨fun h1 => ?_, fun h1 => ?_⟩
      · exact ih (by unfold wfit; rw [e]; simp [h1])
      · exact ⟨by decide, out_eq (by rw [wfit_f (i := j + 1) (by unfold wfit; rw [e]; simp [h1]) 9 (by omega)]; rfl) rfl rfl⟩
  have k0 := key 0 (by omega) rfl
  refine ⟨fun h1 => ?_, fun h1 => ?_⟩
  · rw [show wabove P = 0 by unfold wabove; exact if_pos h1] at k0
    exact k0
  · rw [show wabove P = 4294967295 by unfold wabove; exact if_neg h1] at k0
    exact k0
theorem sp_wdiv (hw : h w = some (whO wp)) (hp : h wp = some (la 10 P)) : Sp 1 175 [.ref w] h z 0 0 (RR (some (.int (dvo P 10).toInt32)) (hup h wp (la 10 (dvF P))) z) := by
  have hX : ∀ X, hup h wp X w = some (whO wp) := fun X => by rw [hup_ne (kind_ne hw hp), hw]
  refine Sp_in (al := [some (.ref w), none, none, none, none, none]) ?_
  simp only [s175_0, s175_1, s175_2, s175_4, s175_6, s175_9, s175_10, s175_12, s175_13, s175_14, s175_17, s175_18, s175_19, s175_20, s175_22, s175_23, s175_26, s175_27, s175_29, s175_32, s175_33, s175_34, s175_36, s175_39, s175_40, s175_41, s175_44, s175_47, s175_48, s175_49, ldi_0, ldi_s, ldl_0, ldl_s, ldd_0, ldd_s, lda_0, lda_s, st1_0, st1_1, st2_0, st2_1, sti_0, sti_1, stj_0, stj_1, st1_2, sti_2, st2_2, stj_2, st1_3, sti_3, st2_3, stj_3, st1_4, sti_4, st2_4, stj_4, st1_5, sti_5, st2_5, stj_5, st1_6, sti_6, st2_6, stj_6, st1_7, sti_7, st2_7, stj_7, st1_8, sti_8, st2_8, stj_8, st1_9, sti_9, st2_9, stj_9, kil_n, kil_i, kil_r, kil_l, kil_d, gl_0, gl_s, cat_i, cat_r, true_and]
  have key : ∀ k, k ≤ 10 → ∀ b : Option Value, aW (Sp 0) 175 0 0 (RR (some (.int (dvo P 10).toInt32)) (hup h wp (la 10 (dvF P))) z) 5 [some (.ref w), some (.long (dvo P k)), none, some (.int (nI (10 - k) + (-1))), b, none] [] (hup h wp (la 10 (std P (dvd P) 10 (10 - k)))) z 0 0 := by
    refine aUp ?_ fun k hk ih => ?_
    · intro b
      rw [s175_5]
      simp only [s175_0, s175_1, s175_2, s175_4, s175_6, s175_9, s175_10, s175_12, s175_13, s175_14, s175_17, s175_18, s175_19, s175_20, s175_22, s175_23, s175_26, s175_27, s175_29, s175_32, s175_33, s175_34, s175_36, s175_39, s175_40, s175_41, s175_44, s175_47, s175_48, s175_49, ldi_0, ldi_s, ldl_0, ldl_s, ldd_0, ldd_s, lda_0, lda_s, st1_0, st1_1, st2_0, st2_1, sti_0, sti_1, stj_0, stj_1, st1_2, sti_2, st2_2, stj_2, st1_3, sti_3, st2_3, stj_3, st1_4, sti_4, st2_4, stj_4, st1_5, sti_5, st2_5, stj_5, st1_6, sti_6, st2_6, stj_6, st1_7, sti_7, st2_7, stj_7, st1_8, sti_8, st2_8, stj_8, st1_9, sti_9, st2_9, stj_9, kil_n, kil_i, kil_r, kil_l, kil_d, gl_0, gl_s, cat_i, cat_r, true_and]
      rw [br_1 (by decide)]
      exact out_RR
    · intro b
      obtain ⟨i, hi⟩ : ∃ i, i = 9 - k := ⟨_, rfl⟩
      have e1 : 10 - k = i + 1 := by omega
      have e2 : 10 - (k + 1) = i := by omega
      have e3 : dvo P (k + 1) = (dvo P k <<< ((32 : Int32).toInt64 &&& 63) ||| P i) - (dvo P k <<< ((32 : Int32).toInt64 &&& 63) ||| P i) / 10 * 10 := by rw [hi]; rfl
      have e5 : dvd P i = (dvo P k <<< ((32 : Int32).toInt64 &&& 63) ||| P i) / 10 := by unfold dvd; rw [show 9 - i = k by omega, show 9 - k = i by omega]
      have e4 := stdL_s (P := P) (D := dvd P) (n := 10) (show i < 10 by omega)
      rw [e5] at e4
      rw [e2, e3] at ih
      rw [e1, nI_pm, s175_5]
      simp only [s175_0, s175_1, s175_2, s175_4, s175_6, s175_9, s175_10, s175_12, s175_13, s175_14, s175_17, s175_18, s175_19, s175_20, s175_22, s175_23, s175_26, s175_27, s175_29, s175_32, s175_33, s175_34, s175_36, s175_39, s175_40, s175_41, s175_44, s175_47, s175_48, s175_49, ldi_0, ldi_s, ldl_0, ldl_s, ldd_0, ldd_s, lda_0, lda_s, st1_0, st1_1, st2_0, st2_1, sti_0, sti_1, stj_0, stj_1, st1_2, sti_2, st2_2, stj_2, st1_3, sti_3, st2_3, stj_3, st1_4, sti_4, st2_4, stj_4, st1_5, sti_5, st2_5, stj_5, st1_6, sti_6, st2_6, stj_6, st1_7, sti_7, st2_7, stj_7, st1_8, sti_8, st2_8, stj_8, st1_9, sti_9, st2_9, stj_9, kil_n, kil_i, kil_r, kil_l, kil_d, gl_0, gl_s, cat_i, cat_r, true_and, gf_ob (hX _), ald_la hup_same (show i < 10 by omega), ast_la hup_same (show i < 10 by omega), std_at]
      rw [nI_lit0, br_0 (nI_nlt (Nat.zero_le i) (by omega)), hup_hup, e4]
      exact ⟨by decide, by decide, ih _⟩
  have k0 := key 0 (by omega) none
  rw [show (10 : Nat) - 0 = 10 from rfl, std_n, hup_id hp] at k0
  exact k0
theorem sp_wagainst (hw : h w = some (whO wp)) (hp : h wp = some (la 10 P)) {v vp : Nat} {Q : Nat → Int64} (hv : h v = some (whO vp)) (hq : h vp = some (la 10 Q)) : Sp 2 183 [.ref w, .ref v] h z 0 0 (RR (some (.int (wcm P Q))) h z) := by
  refine Sp_in (al := [some (.ref w), some (.ref v), none]) ?_
  simp only [s183_0, s183_4, s183_8, s183_11, s183_15, s183_18, s183_19, s183_22, s183_23, s183_24, s183_26, s183_28, s183_31, s183_32, s183_35, s183_36, s183_37, s183_38, s183_41, s183_42, s183_43, s183_44, s183_47, s183_48, s183_51, s183_52, s183_53, s183_54, s183_57, s183_58, s183_59, s183_60, s183_63, s183_64, s183_67, s183_68, s183_69, s183_72, s183_75, s183_76, ldi_0, ldi_s, ldl_0, ldl_s, ldd_0, ldd_s, lda_0, lda_s, st1_0, st1_1, st2_0, st2_1, sti_0, sti_1, stj_0, stj_1, st1_2, sti_2, st2_2, stj_2, st1_3, sti_3, st2_3, stj_3, st1_4, sti_4, st2_4, stj_4, st1_5, sti_5, st2_5, stj_5, st1_6, sti_6, st2_6, stj_6, st1_7, sti_7, st2_7, stj_7, st1_8, sti_8, st2_8, stj_8, st1_9, sti_9, st2_9, stj_9, kil_n, kil_i, kil_r, kil_l, kil_d, gl_0, gl_s, cat_i, cat_r, true_and]
  refine c183_1r hw (sp_wneg hw hp) ?_
  simp only [s183_0, s183_4, s183_8, s183_11, s183_15, s183_18, s183_19, s183_22, s183_23, s183_24, s183_26, s183_28, s183_31, s183_32, s183_35, s183_36, s183_37, s183_38, s183_41, s183_42, s183_43, s183_44, s183_47, s183_48, s183_51, s183_52, s183_53, s183_54, s183_57, s183_58, s183_59, s183_60, s183_63, s183_64, s183_67, s183_68, s183_69, s183_72, s183_75, s183_76, ldi_0, ldi_s, ldl_0, ldl_s, ldd_0, ldd_s, lda_0, lda_s, st1_0, st1_1, st2_0, st2_1, sti_0, sti_1, stj_0, stj_1, st1_2, sti_2, st2_2, stj_2, st1_3, sti_3, st2_3, stj_3, st1_4, sti_4, st2_4, stj_4, st1_5, sti_5, st2_5, stj_5, st1_6, sti_6, st2_6, stj_6, st1_7, sti_7, st2_7, stj_7, st1_8, sti_8, st2_8, stj_8, st1_9, sti_9, st2_9, stj_9, kil_n, kil_i, kil_r, kil_l, kil_d, gl_0, gl_s, cat_i, cat_r, true_and]
  refine c183_5r hv (sp_wneg hv hq) ?_
  simp only [s183_0, s183_4, s183_8, s183_11, s183_15, s183_18, s183_19, s183_22, s183_23, s183_24, s183_26, s183_28, s183_31, s183_32, s183_35, s183_36, s183_37, s183_38, s183_41, s183_42, s183_43, s183_44, s183_47, s183_48, s183_51, s183_52, s183_53, s183_54, s183_57, s183_58, s183_59, s183_60, s183_63, s183_64, s183_67, s183_68, s183_69, s183_72, s183_75, s183_76, ldi_0, ldi_s, ldl_0, ldl_s, ldd_0, ldd_s, lda_0, lda_s, st1_0, st1_1, st2_0, st2_1, sti_0, sti_1, stj_0, stj_1, st1_2, sti_2, st2_2, stj_2, st1_3, sti_3, st2_3, stj_3, st1_4, sti_4, st2_4, stj_4, st1_5, sti_5, st2_5, stj_5, st1_6, sti_6, st2_6, stj_6, st1_7, sti_7, st2_7, stj_7, st1_8, sti_8, st2_8, stj_8, st1_9, sti_9, st2_9, stj_9, kil_n, kil_i, kil_r, kil_l, kil_d, gl_0, gl_s, cat_i, cat_r, true_and]
  have key : ∀ j, j ≤ 10 → wcm P Q = wag P Q j → aW (Sp 1) 183 0 0 (RR (some (.int (wcm P Q))) h z) 27 [some (.ref w), some (.ref v), some (.int (nI j + (-1)))] [] h z 0 0 := by
    refine aDn ?_ fun j hj ih => ?_
    · intro e
      rw [s183_27]
      simp only [s183_0, s183_4, s183_8, s183_11, s183_15, s183_18, s183_19, s183_22, s183_23, s183_24, s183_26, s183_28, s183_31, s183_32, s183_35, s183_36, s183_37, s183_38, s183_41, s183_42, s183_43, s183_44, s183_47, s183_48, s183_51, s183_52, s183_53, s183_54, s183_57, s183_58, s183_59, s183_60, s183_63, s183_64, s183_67, s183_68, s183_69, s183_72, s183_75, s183_76, ldi_0, ldi_s, ldl_0, ldl_s, ldd_0, ldd_s, lda_0, lda_s, st1_0, st1_1, st2_0, st2_1, sti_0, sti_1, stj_0, stj_1, st1_2, sti_2, st2_2, stj_2, st1_3, sti_3, st2_3, stj_3, st1_4, sti_4, st2_4, stj_4, st1_5, sti_5, st2_5, stj_5, st1_6, sti_6, st2_6, stj_6, st1_7, sti_7, st2_7, stj_7, st1_8, sti_8, st2_8, stj_8, st1_9, sti_9, st2_9, stj_9, kil_n, kil_i, kil_r, kil_l, kil_d, gl_0, gl_s, cat_i, cat_r, true_and]
      rw [br_1 (by decide), e]
      exact out_RR
    · intro e
      have e2 : wag P Q (j + 1) = if lg_cmp (P j) (Q j) = 0 then wag P Q j else if 0 ≤ lg_cmp (P j) (Q j) then 1 else -1 := rfl
      rw [nI_pm, s183_27]
      simp only [s183_0, s183_4, s183_8, s183_11, s183_15, s183_18, s183_19, s183_22, s183_23, s183_24, s183_26, s183_28, s183_31, s183_32, s183_35, s183_36, s183_37, s183_38, s183_41, s183_42, s183_43, s183_44, s183_47, s183_48, s183_51, s183_52, s183_53, s183_54, s183_57, s183_58, s183_59, s183_60, s183_63, s183_64, s183_67, s183_68, s183_69, s183_72, s183_75, s183_76, ldi_0, ldi_s, ldl_0, ldl_s, ldd_0, ldd_s, lda_0, lda_s, st1_0, st1_1, st2_0, st2_1, sti_0, sti_1, stj_0, stj_1, st1_2, sti_2, st2_2, stj_2, st1_3, sti_3, st2_3, stj_3, st1_4, sti_4, st2_4, stj_4, st1_5, sti_5, st2_5, stj_5, st1_6, sti_6, st2_6, stj_6, st1_7, sti_7, st2_7, stj_7, st1_8, sti_8, st2_8, stj_8, st1_9, sti_9, st2_9, stj_9, kil_n, kil_i, kil_r, kil_l, kil_d, gl_0, gl_s, cat_i, cat_r, true_and, gf_ob hw, gf_ob hv, ald_la hp (show j < 10 from hj), ald_la hq (show j < 10 from hj)]
      rw [br_0 (nI_pos (by omega))]
      refine ⟨fun h1 => ?_, fun h1 => ⟨fun h2 => ?_, fun h2 => ?_⟩⟩
      · exact ih (by rw [e, e2]; exact if_pos h1)
      · exact out_eq (by rw [e, e2, if_neg (fun q => h1 q), if_pos h2]) rfl rfl
      · exact out_eq (by rw [e, e2, if_neg (fun q => h1 q), if_neg h2]) rfl rfl
  refine ⟨fun h1 => ?_, fun h1 => ?_⟩
  · rw [bI_inj] at h1
    exact key 10 (by omega) (by unfold wcm; rw [if_pos h1])
  · rw [bI_inj] at h1
    refine c183_12r hw (sp_wneg hw hp) ?_
    simp only [s183_0, s183_4, s183_8, s183_11, s183_15, s183_18, s183_19, s183_22, s183_23, s183_24, s183_26, s183_28, s183_31, s183_32, s183_35, s183_36, s183_37, s183_38, s183_41, s183_42, s183_43, s183_44, s183_47, s183_48, s183_51, s183_52, s183_53, s183_54, s183_57, s183_58, s183_59, s183_60, s183_63, s183_64, s183_67, s183_68, s183_69, s183_72, s183_75, s183_76, ldi_0, ldi_s, ldl_0, ldl_s, ldd_0, ldd_s, lda_0, lda_s, st1_0, st1_1, st2_0, st2_1, sti_0, sti_1, stj_0, stj_1, st1_2, sti_2, st2_2, stj_2, st1_3, sti_3, st2_3, stj_3, st1_4, sti_4, st2_4, stj_4, st1_5, sti_5, st2_5, stj_5, st1_6, sti_6, st2_6, stj_6, st1_7, sti_7, st2_7, stj_7, st1_8, sti_8, st2_8, stj_8, st1_9, sti_9, st2_9, stj_9, kil_n, kil_i, kil_r, kil_l, kil_d, gl_0, gl_s, cat_i, cat_r, true_and]
    refine ⟨fun h2 => ?_, fun h2 => ?_⟩
    · rw [bI_0] at h2
      exact out_eq (by unfold wcm; rw [if_neg h1, h2]; rfl) rfl rfl
    · rw [bI_0, Bool.not_eq_false] at h2
      exact out_eq (by unfold wcm; rw [if_neg h1, h2]; rfl) rfl rfl
end Whole
