/-! ColourmapModel: coefficients -/
def fal (j : Nat) (F : Nat → Int64) : Nat → Int64 := std F (fun i => (if 0 < i then F (i - 1) else 0) - nL j * F i) 11 0
def exS (C : Nat → Int64) (size : Nat) : Nat → (Nat → Int64) × (Nat → Int64)
  | 0 => (fun _ => 0, fun q => if q = 0 then 1 else 0)
  | j + 1 => (stg (exS C size j).1 (fun i => (exS C size j).1 i + C j * (exS C size j).2 i) (size + 1), fal j (exS C size j).2)
/-- the coefficients that the reference makes -/
def cofM (X : Nat → Nat → Bool) (size : Nat) : Nat → Int64 := (exS (ctL X size) size (size + 1)).1
theorem exS_big {C : Nat → Int64} {size : Nat} (h9 : size ≤ 9) (j : Nat) : (∀ q, 10 ≤ q → (exS C size j).1 q = 0) ∧ (∀ q, 11 ≤ q → (exS C size j).2 q = 0) := by
  induction j with
  | zero =>
    refine ⟨fun q _ => rfl, fun q hq => ?_⟩
    show (if q = 0 then 1 else 0) = (0 : Int64)
    rw [if_neg (by omega)]
  | succ j ih =>
    refine ⟨fun q hq => ?_, fun q hq => ?_⟩
    · show stg (exS C size j).1 (fun i => (exS C size j).1 i + C j * (exS C size j).2 i) (size + 1) q = 0
      unfold stg
      rw [if_neg (by omega)]
      exact ih.1 q hq
    · show fal j _ q = 0
      unfold fal std
      rw [if_neg (by omega)]
      exact ih.2 q hq
theorem std_old {α : Type} {P D : Nat → α} {n j q : Nat} (h : q < j) : std P D n j q = P q := if_neg (by omega)
section Mod8
variable {h : AH} {m t t2 ns n z T size : Nat} {G SG X : Nat → Nat → Bool} {th : Int32} {S : Nat → Nat} {C F D : Nat → Int64}
theorem PH_old {a : Nat} (hT : TT m t t2) (ha : m + 24 ≤ a) : PH h m t t2 ns G th n S C a = h a := by
  unfold PH
  rw [NF_old hT (by omega), hup_ne (by omega), hup_ne (by omega)]
theorem PH_set {a : Nat} {Y : AC} (hT : TT m t t2) (ha : m + 24 ≤ a) : hup (PH h m t t2 ns G th n S C) a Y = PH (hup h a Y) m t t2 ns G th n S C := by
  unfold PH
  rw [NF_h1 hT (by omega), hup_comm (a := m + 23) (by omega), hup_comm (a := m + 22) (by omega)]
def XB (h : AH) (m : Nat) (F D : Nat → Int64) : AH := hup (hup h (m + 26) (la 11 F)) (m + 25) (la 10 D)
def XH (h : AH) (m t t2 ns : Nat) (G : Nat → Nat → Bool) (th : Int32) (n : Nat) (S : Nat → Nat) (C F D : Nat → Int64) : AH := PH (XB h m F D) m t t2 ns G th n S C
theorem XH_m : XH h m t t2 ns G th n S C F D m = some (moO m th n t ns t2) := NF_m
theorem XH_gf {k : Nat} {f : Value → Prop} : gf (XH h m t t2 ns G th n S C F D) m 6 k f = gl [.int th, .int (nI n), .ref t, .int (nI ns), .ref t2, .ref (m + 21), .ref (m + 22), .ref (m + 23), .ref (m + 24), .ref (m + 25), .ref (m + 26), .ref (m + 27), .ref (m + 28), .ref (m + 29), .ref (m + 30), .ref (m + 40)] k f := gf_ob NF_m
theorem XH_C (hT : TT m t t2) : XH h m t t2 ns G th n S C F D (m + 23) = some (la 10 C) := PH_C hT
theorem XH_F (hT : TT m t t2) : XH h m t t2 ns G th n S C F D (m + 26) = some (la 11 F) := by
  unfold XH XB
  rw [PH_old hT (by omega), hup_ne (by omega), hup_same]
theorem XH_D (hT : TT m t t2) : XH h m t t2 ns G th n S C F D (m + 25) = some (la 10 D) := by
  unfold XH XB
  rw [PH_old hT (by omega), hup_same]
theorem XH_uF {F' : Nat → Int64} (hT : TT m t t2) : hup (XH h m t t2 ns G th n S C F D) (m + 26) (la 11 F') = XH h m t t2 ns G th n S C F' D := by
  unfold XH XB
  rw [PH_set hT (by omega), hup_comm (by omega), hup_hup]
theorem XH_uD {D' : Nat → Int64} (hT : TT m t t2) : hup (XH h m t t2 ns G th n S C F D) (m + 25) (la 10 D') = XH h m t t2 ns G th n S C F D' := by
  unfold XH XB
  rw [PH_set hT (by omega), hup_hup]
theorem XH_old {a : Nat} (hT : TT m t t2) (ha : m + 27 ≤ a) : XH h m t t2 ns G th n S C F D a = h a := by
  unfold XH XB
  rw [PH_old hT (by omega), hup_ne (by omega), hup_ne (by omega)]
theorem XH_set {a : Nat} {Y : AC} (hT : TT m t t2) (ha : m + 27 ≤ a) : hup (XH h m t t2 ns G th n S C F D) a Y = XH (hup h a Y) m t t2 ns G th n S C F D := by
  unfold XH XB
  rw [PH_set hT (by omega), hup_comm (a := m + 25) (by omega), hup_comm (a := m + 26) (by omega)]
theorem MB.xb (hB : MB h m t t2 SG) : MB (XB h m F D) m t t2 SG := (hB.sc (by omega)).sc (by omega)
theorem XH_Tb (hB : MB h m t t2 SG) : ∀ S C F D, Tb (XH h m t t2 ns G th n S C F D) t G := fun S C F D => PH_Tb hB.xb S C
def ExP (h : AH) (m t t2 ns : Nat) (G : Nat → Nat → Bool) (th : Int32) (n z : Nat) (C D : Nat → Int64) (v : Option Value) : AP := fun o h' z' => o = .inl v ∧ z' = z ∧ ∃ (S' : Nat → Nat) (F' : Nat → Int64), (∀ q, 11 ≤ q → F' q = 0) ∧ h' = XH h m t t2 ns G th n S' C F' D
theorem f0_end (hF : ∀ q, 11 ≤ q → F q = 0) : updL (stg F (fun q => if q = 0 then 1 else 0) 10) 10 0 = fun q => if q = 0 then 1 else 0 := by
  funext q
  unfold updL stg
  by_cases h1 : q = 10
  · rw [if_pos h1, if_neg (by omega)]
  · rw [if_neg h1]
    by_cases h2 : q < 10
    · rw [if_pos h2]
    · rw [if_neg h2, hF q (by omega), if_neg (by omega)]
theorem sp_expands (hB : MB h m t t2 SG) (hX : ∀ S C F D, Tb (XH h m t t2 ns G th n S C F D) T X) (h9 : size ≤ 9) (hC : ∀ q, 10 ≤ q → C q = 0) (hF : ∀ q, 11 ≤ q → F q = 0) (hD : ∀ q, 10 ≤ q → D q = 0) : Sp 12 145 [.ref m, .ref T, .int (nI size)] (XH h m t t2 ns G th n S C F D) z 0 0 (ExP h m t t2 ns G th n z (ctL X size) (cofM X size) none) := by
  have hT := hB.1
  refine Sp_in (al := [some (.ref m), some (.ref T), some (.int (nI size)), none, none]) ?_
  simp only [s145_0, s145_1, s145_2, s145_6, s145_7, s145_9, s145_11, s145_14, s145_15, s145_18, s145_19, s145_20, s145_21, s145_22, s145_25, s145_26, s145_27, s145_30, s145_31, s145_34, s145_35, s145_36, s145_39, s145_42, s145_43, s145_46, s145_48, s145_49, s145_50, s145_51, s145_53, s145_54, s145_57, s145_58, s145_62, s145_63, s145_66, s145_67, s145_70, s145_72, s145_73, s145_74, s145_75, s145_78, s145_79, s145_80, s145_81, s145_84, s145_86, s145_87, s145_88, s145_89, s145_90, s145_93, s145_96, s145_98, s145_102, s145_105, s145_106, s145_109, s145_111, s145_113, s145_116, s145_117, s145_120, s145_122, s145_123, s145_124, s145_125, s145_128, s145_129, s145_130, s145_131, s145_132, s145_135, s145_137, s145_138, s145_139, s145_140, s145_141, s145_144, s145_147, s145_150, s145_153, ldi_0, ldi_s, ldl_0, ldl_s, ldd_0, ldd_s, lda_0, lda_s, st1_0, st1_1, st2_0, st2_1, sti_0, sti_1, stj_0, stj_1, st1_2, sti_2, st2_2, stj_2, st1_3, sti_3, st2_3, stj_3, st1_4, sti_4, st2_4, stj_4, st1_5, sti_5, st2_5, stj_5, st1_6, sti_6, st2_6, stj_6, st1_7, sti_7, st2_7, stj_7, st1_8, sti_8, st2_8, stj_8, st1_9, sti_9, st2_9, stj_9, kil_n, kil_i, kil_r, kil_l, kil_d, gl_0, gl_s, cat_i, cat_r, true_and]
  refine c145_3 XH_m (sp_counted hB.xb (fun S C => hX S C F D) h9 hC) (by omega) (by omega) ?_
  rintro _ _ z ⟨rfl, rfl, S', rfl⟩
  show aW (Sp 11) 145 0 0 _ 6 _ _ (XH h m t t2 ns G th n S' (ctL X size) F D) _ _ _
  simp only [s145_0, s145_1, s145_2, s145_6, s145_7, s145_9, s145_11, s145_14, s145_15, s145_18, s145_19, s145_20, s145_21, s145_22, s145_25, s145_26, s145_27, s145_30, s145_31, s145_34, s145_35, s145_36, s145_39, s145_42, s145_43, s145_46, s145_48, s145_49, s145_50, s145_51, s145_53, s145_54, s145_57, s145_58, s145_62, s145_63, s145_66, s145_67, s145_70, s145_72, s145_73, s145_74, s145_75, s145_78, s145_79, s145_80, s145_81, s145_84, s145_86, s145_87, s145_88, s145_89, s145_90, s145_93, s145_96, s145_98, s145_102, s145_105, s145_106, s145_109, s145_111, s145_113, s145_116, s145_117, s145_120, s145_122, s145_123, s145_124, s145_125, s145_128, s145_129, s145_130, s145_131, s145_132, s145_135, s145_137, s145_138, s145_139, s145_140, s145_141, s145_144, s145_147, s145_150, s145_153, ldi_0, ldi_s, ldl_0, ldl_s, ldd_0, ldd_s, lda_0, lda_s, st1_0, st1_1, st2_0, st2_1, sti_0, sti_1, stj_0, stj_1, st1_2, sti_2, st2_2, stj_2, st1_3, sti_3, st2_3, stj_3, st1_4, sti_4, st2_4, stj_4, st1_5, sti_5, st2_5, stj_5, st1_6, sti_6, st2_6, stj_6, st1_7, sti_7, st2_7, stj_7, st1_8, sti_8, st2_8, stj_8, st1_9, sti_9, st2_9, stj_9, kil_n, kil_i, kil_r, kil_l, kil_d, gl_0, gl_s, cat_i, cat_r, true_and]
  have main : ∀ j, j ≤ size + 1 → ∀ b : Option Value, aW (Sp 11) 145 0 0 (ExP h m t t2 ns G th n z (ctL X size) (cofM X size) none) 52 [some (.ref m), some (.ref T), some (.int (nI size)), some (.int (nI j)), b] [] (XH h m t t2 ns G th n S' (ctL X size) (exS (ctL X size) size j).2 (exS (ctL X size) size j).1) z (0 + 0) (0 + 0) := by
    refine aUp ?_ fun j hj ih => ?_
    · intro b
      rw [s145_52]
      simp only [s145_0, s145_1, s145_2, s145_6, s145_7, s145_9, s145_11, s145_14, s145_15, s145_18, s145_19, s145_20, s145_21, s145_22, s145_25, s145_26, s145_27, s145_30, s145_31, s145_34, s145_35, s145_36, s145_39, s145_42, s145_43, s145_46, s145_48, s145_49, s145_50, s145_51, s145_53, s145_54, s145_57, s145_58, s145_62, s145_63, s145_66, s145_67, s145_70, s145_72, s145_73, s145_74, s145_75, s145_78, s145_79, s145_80, s145_81, s145_84, s145_86, s145_87, s145_88, s145_89, s145_90, s145_93, s145_96, s145_98, s145_102, s145_105, s145_106, s145_109, s145_111, s145_113, s145_116, s145_117, s145_120, s145_122, s145_123, s145_124, s145_125, s145_128, s145_129, s145_130, s145_131, s145_132, s145_135, s145_137, s145_138, s145_139, s145_140, s145_141, s145_144, s145_147, s145_150, s145_153, ldi_0, ldi_s, ldl_0, ldl_s, ldd_0, ldd_s, lda_0, lda_s, st1_0, st1_1, st2_0, st2_1, sti_0, sti_1, stj_0, stj_1, st1_2, sti_2, st2_2, stj_2, st1_3, sti_3, st2_3, stj_3, st1_4, sti_4, st2_4, stj_4, st1_5, sti_5, st2_5, stj_5, st1_6, sti_6, st2_6, stj_6, st1_7, sti_7, st2_7, stj_7, st1_8, sti_8, st2_8, stj_8, st1_9, sti_9, st2_9, stj_9, kil_n, kil_i, kil_r, kil_l, kil_d, gl_0, gl_s, cat_i, cat_r, true_and]
      rw [br_1 (nI_lt (Nat.lt_succ_self size) (by omega))]
      exact ⟨by omega, by omega, rfl, rfl, S', _, (exS_big h9 _).2, rfl⟩
    · intro b
      rw [s145_52]
      simp only [s145_0, s145_1, s145_2, s145_6, s145_7, s145_9, s145_11, s145_14, s145_15, s145_18, s145_19, s145_20, s145_21, s145_22, s145_25, s145_26, s145_27, s145_30, s145_31, s145_34, s145_35, s145_36, s145_39, s145_42, s145_43, s145_46, s145_48, s145_49, s145_50, s145_51, s145_53, s145_54, s145_57, s145_58, s145_62, s145_63, s145_66, s145_67, s145_70, s145_72, s145_73, s145_74, s145_75, s145_78, s145_79, s145_80, s145_81, s145_84, s145_86, s145_87, s145_88, s145_89, s145_90, s145_93, s145_96, s145_98, s145_102, s145_105, s145_106, s145_109, s145_111, s145_113, s145_116, s145_117, s145_120, s145_122, s145_123, s145_124, s145_125, s145_128, s145_129, s145_130, s145_131, s145_132, s145_135, s145_137, s145_138, s145_139, s145_140, s145_141, s145_144, s145_147, s145_150, s145_153, ldi_0, ldi_s, ldl_0, ldl_s, ldd_0, ldd_s, lda_0, lda_s, st1_0, st1_1, st2_0, st2_1, sti_0, sti_1, stj_0, stj_1, st1_2, sti_2, st2_2, stj_2, st1_3, sti_3, st2_3, stj_3, st1_4, sti_4, st2_4, stj_4, st1_5, sti_5, st2_5, stj_5, st1_6, sti_6, st2_6, stj_6, st1_7, sti_7, st2_7, stj_7, st1_8, sti_8, st2_8, stj_8, st1_9, sti_9, st2_9, stj_9, kil_n, kil_i, kil_r, kil_l, kil_d, gl_0, gl_s, cat_i, cat_r, true_and]
      rw [br_0 (nI_nlt (show j ≤ size by omega) (by omega))]
      rw [show exS (ctL X size) size (j + 1) = (stg (exS (ctL X size) size j).1 (fun i => (exS (ctL X size) size j).1 i + (ctL X size) j * (exS (ctL X size) size j).2 i) (size + 1), fal j (exS (ctL X size) size j).2) from rfl] at ih
      generalize exS (ctL X size) size j = E at ih ⊢
      have second : ∀ k, k ≤ 11 → aW (Sp 11) 145 0 0 (ExP h m t t2 ns G th n z (ctL X size) (cofM X size) none) 100 [some (.ref m), some (.ref T), some (.int (nI size)), some (.int (nI j)), some (.int (nI k + (-1)))] [] (XH h m t t2 ns G th n S' (ctL X size) (std E.2 (fun i => (if 0 < i then E.2 (i - 1) else 0) - nL j * E.2 i) 11 k) (stg E.1 (fun i => E.1 i + (ctL X size) j * E.2 i) (size + 1))) z (0 + 0) (0 + 0) := by
        refine aDn ?_ fun k hk ihk => ?_
        · rw [s145_100]
          simp only [s145_0, s145_1, s145_2, s145_6, s145_7, s145_9, s145_11, s145_14, s145_15, s145_18, s145_19, s145_20, s145_21, s145_22, s145_25, s145_26, s145_27, s145_30, s145_31, s145_34, s145_35, s145_36, s145_39, s145_42, s145_43, s145_46, s145_48, s145_49, s145_50, s145_51, s145_53, s145_54, s145_57, s145_58, s145_62, s145_63, s145_66, s145_67, s145_70, s145_72, s145_73, s145_74, s145_75, s145_78, s145_79, s145_80, s145_81, s145_84, s145_86, s145_87, s145_88, s145_89, s145_90, s145_93, s145_96, s145_98, s145_102, s145_105, s145_106, s145_109, s145_111, s145_113, s145_116, s145_117, s145_120, s145_122, s145_123, s145_124, s145_125, s145_128, s145_129, s145_130, s145_131, s145_132, s145_135, s145_137, s145_138, s145_139, s145_140, s145_141, s145_144, s145_147, s145_150, s145_153, ldi_0, ldi_s, ldl_0, ldl_s, ldd_0, ldd_s, lda_0, lda_s, st1_0, st1_1, st2_0, st2_1, sti_0, sti_1, stj_0, stj_1, st1_2, sti_2, st2_2, stj_2, st1_3, sti_3, st2_3, stj_3, st1_4, sti_4, st2_4, stj_4, st1_5, sti_5, st2_5, stj_5, st1_6, sti_6, st2_6, stj_6, st1_7, sti_7, st2_7, stj_7, st1_8, sti_8, st2_8, stj_8, st1_9, sti_9, st2_9, stj_9, kil_n, kil_i, kil_r, kil_l, kil_d, gl_0, gl_s, cat_i, cat_r, true_and, nI_1]
          rw [br_1 (by decide)]
          exact ih _
        · have e4 := stdL_s (P := E.2) (D := fun i => (if 0 < i then E.2 (i - 1) else 0) - nL j * E.2 i) hk
          rw [← e4] at ihk
          rw [nI_pm, s145_100]
          simp only [s145_0, s145_1, s145_2, s145_6, s145_7, s145_9, s145_11, s145_14, s145_15, s145_18, s145_19, s145_20, s145_21, s145_22, s145_25, s145_26, s145_27, s145_30, s145_31, s145_34, s145_35, s145_36, s145_39, s145_42, s145_43, s145_46, s145_48, s145_49, s145_50, s145_51, s145_53, s145_54, s145_57, s145_58, s145_62, s145_63, s145_66, s145_67, s145_70, s145_72, s145_73, s145_74, s145_75, s145_78, s145_79, s145_80, s145_81, s145_84, s145_86, s145_87, s145_88, s145_89, s145_90, s145_93, s145_96, s145_98, s145_102, s145_105, s145_106, s145_109, s145_111, s145_113, s145_116, s145_117, s145_120, s145_122, s145_123, s145_124, s145_125, s145_128, s145_129, s145_130, s145_131, s145_132, s145_135, s145_137, s145_138, s145_139, s145_140, s145_141, s145_144, s145_147, s145_150, s145_153, ldi_0, ldi_s, ldl_0, ldl_s, ldd_0, ldd_s, lda_0, lda_s, st1_0, st1_1, st2_0, st2_1, sti_0, sti_1, stj_0, stj_1, st1_2, sti_2, st2_2, stj_2, st1_3, sti_3, st2_3, stj_3, st1_4, sti_4, st2_4, stj_4, st1_5, sti_5, st2_5, stj_5, st1_6, sti_6, st2_6, stj_6, st1_7, sti_7, st2_7, stj_7, st1_8, sti_8, st2_8, stj_8, st1_9, sti_9, st2_9, stj_9, kil_n, kil_i, kil_r, kil_l, kil_d, gl_0, gl_s, cat_i, cat_r, true_and, XH_gf, nI_1, ald_la (XH_F hT) hk, ast_la (XH_F hT) hk, XH_uF hT, std_at]
          rw [br_0 (nI_pos (by omega))]
          by_cases hk0 : 0 < k
          · rw [br_0 (nI_nle hk0 (by omega)), nI_lit1, pk_sub hk0, ald_la (XH_F hT) (show k - 1 < 11 by omega)]
            simp only [s145_0, s145_1, s145_2, s145_6, s145_7, s145_9, s145_11, s145_14, s145_15, s145_18, s145_19, s145_20, s145_21, s145_22, s145_25, s145_26, s145_27, s145_30, s145_31, s145_34, s145_35, s145_36, s145_39, s145_42, s145_43, s145_46, s145_48, s145_49, s145_50, s145_51, s145_53, s145_54, s145_57, s145_58, s145_62, s145_63, s145_66, s145_67, s145_70, s145_72, s145_73, s145_74, s145_75, s145_78, s145_79, s145_80, s145_81, s145_84, s145_86, s145_87, s145_88, s145_89, s145_90, s145_93, s145_96, s145_98, s145_102, s145_105, s145_106, s145_109, s145_111, s145_113, s145_116, s145_117, s145_120, s145_122, s145_123, s145_124, s145_125, s145_128, s145_129, s145_130, s145_131, s145_132, s145_135, s145_137, s145_138, s145_139, s145_140, s145_141, s145_144, s145_147, s145_150, s145_153, ldi_0, ldi_s, ldl_0, ldl_s, ldd_0, ldd_s, lda_0, lda_s, st1_0, st1_1, st2_0, st2_1, sti_0, sti_1, stj_0, stj_1, st1_2, sti_2, st2_2, stj_2, st1_3, sti_3, st2_3, stj_3, st1_4, sti_4, st2_4, stj_4, st1_5, sti_5, st2_5, stj_5, st1_6, sti_6, st2_6, stj_6, st1_7, sti_7, st2_7, stj_7, st1_8, sti_8, st2_8, stj_8, st1_9, sti_9, st2_9, stj_9, kil_n, kil_i, kil_r, kil_l, kil_d, gl_0, gl_s, cat_i, cat_r, true_and, XH_gf, nI_1, ald_la (XH_F hT) hk, ast_la (XH_F hT) hk, XH_uF hT, std_at]
            rw [std_old (show k - 1 < k + 1 by omega)]
            rw [if_pos hk0] at ihk
            exact ihk
          · have : k = 0 := by omega
            subst this
            rw [br_1 (by decide)]
            rw [if_neg hk0] at ihk
            exact ihk
      have first : ∀ i, i ≤ size + 1 → aW (Sp 11) 145 0 0 (ExP h m t t2 ns G th n z (ctL X size) (cofM X size) none) 60 [some (.ref m), some (.ref T), some (.int (nI size)), some (.int (nI j)), some (.int (nI i))] [] (XH h m t t2 ns G th n S' (ctL X size) E.2 (stg E.1 (fun i => E.1 i + (ctL X size) j * E.2 i) i)) z (0 + 0) (0 + 0) := by
        refine aUp ?_ fun i hi ihi => ?_
        · rw [s145_60]
          simp only [s145_0, s145_1, s145_2, s145_6, s145_7, s145_9, s145_11, s145_14, s145_15, s145_18, s145_19, s145_20, s145_21, s145_22, s145_25, s145_26, s145_27, s145_30, s145_31, s145_34, s145_35, s145_36, s145_39, s145_42, s145_43, s145_46, s145_48, s145_49, s145_50, s145_51, s145_53, s145_54, s145_57, s145_58, s145_62, s145_63, s145_66, s145_67, s145_70, s145_72, s145_73, s145_74, s145_75, s145_78, s145_79, s145_80, s145_81, s145_84, s145_86, s145_87, s145_88, s145_89, s145_90, s145_93, s145_96, s145_98, s145_102, s145_105, s145_106, s145_109, s145_111, s145_113, s145_116, s145_117, s145_120, s145_122, s145_123, s145_124, s145_125, s145_128, s145_129, s145_130, s145_131, s145_132, s145_135, s145_137, s145_138, s145_139, s145_140, s145_141, s145_144, s145_147, s145_150, s145_153, ldi_0, ldi_s, ldl_0, ldl_s, ldd_0, ldd_s, lda_0, lda_s, st1_0, st1_1, st2_0, st2_1, sti_0, sti_1, stj_0, stj_1, st1_2, sti_2, st2_2, stj_2, st1_3, sti_3, st2_3, stj_3, st1_4, sti_4, st2_4, stj_4, st1_5, sti_5, st2_5, stj_5, st1_6, sti_6, st2_6, stj_6, st1_7, sti_7, st2_7, stj_7, st1_8, sti_8, st2_8, stj_8, st1_9, sti_9, st2_9, stj_9, kil_n, kil_i, kil_r, kil_l, kil_d, gl_0, gl_s, cat_i, cat_r, true_and]
          rw [br_1 (nI_lt (Nat.lt_succ_self size) (by omega))]
          have s0 := second 11 (Nat.le_refl _)
          rw [std_n] at s0
          exact s0
        · rw [← stgL_s] at ihi
          rw [s145_60]
          simp only [s145_0, s145_1, s145_2, s145_6, s145_7, s145_9, s145_11, s145_14, s145_15, s145_18, s145_19, s145_20, s145_21, s145_22, s145_25, s145_26, s145_27, s145_30, s145_31, s145_34, s145_35, s145_36, s145_39, s145_42, s145_43, s145_46, s145_48, s145_49, s145_50, s145_51, s145_53, s145_54, s145_57, s145_58, s145_62, s145_63, s145_66, s145_67, s145_70, s145_72, s145_73, s145_74, s145_75, s145_78, s145_79, s145_80, s145_81, s145_84, s145_86, s145_87, s145_88, s145_89, s145_90, s145_93, s145_96, s145_98, s145_102, s145_105, s145_106, s145_109, s145_111, s145_113, s145_116, s145_117, s145_120, s145_122, s145_123, s145_124, s145_125, s145_128, s145_129, s145_130, s145_131, s145_132, s145_135, s145_137, s145_138, s145_139, s145_140, s145_141, s145_144, s145_147, s145_150, s145_153, ldi_0, ldi_s, ldl_0, ldl_s, ldd_0, ldd_s, lda_0, lda_s, st1_0, st1_1, st2_0, st2_1, sti_0, sti_1, stj_0, stj_1, st1_2, sti_2, st2_2, stj_2, st1_3, sti_3, st2_3, stj_3, st1_4, sti_4, st2_4, stj_4, st1_5, sti_5, st2_5, stj_5, st1_6, sti_6, st2_6, stj_6, st1_7, sti_7, st2_7, stj_7, st1_8, sti_8, st2_8, stj_8, st1_9, sti_9, st2_9, stj_9, kil_n, kil_i, kil_r, kil_l, kil_d, gl_0, gl_s, cat_i, cat_r, true_and, XH_gf, nI_1, ald_la (XH_F hT) (show i < 11 by omega), ald_la (XH_D hT) (show i < 10 by omega), ald_la (XH_C hT) (show j < 10 by omega), ast_la (XH_D hT) (show i < 10 by omega), XH_uD hT, stg_at]
          rw [br_0 (nI_nlt (show i ≤ size by omega) (by omega))]
          exact ihi
      have f0 := first 0 (by omega)
      rw [stg_0] at f0
      exact f0
  have init : ∀ j, j ≤ 10 → aW (Sp 11) 145 0 0 (ExP h m t t2 ns G th n z (ctL X size) (cofM X size) none) 8 [some (.ref m), some (.ref T), some (.int (nI size)), some (.int (nI j)), none] [] (XH h m t t2 ns G th n S' (ctL X size) (stg F (fun q => if q = 0 then 1 else 0) j) (clrL D j)) z (0 + 0) (0 + 0) := by
    refine aUp ?_ fun j hj ih => ?_
    · rw [s145_8]
      simp only [s145_0, s145_1, s145_2, s145_6, s145_7, s145_9, s145_11, s145_14, s145_15, s145_18, s145_19, s145_20, s145_21, s145_22, s145_25, s145_26, s145_27, s145_30, s145_31, s145_34, s145_35, s145_36, s145_39, s145_42, s145_43, s145_46, s145_48, s145_49, s145_50, s145_51, s145_53, s145_54, s145_57, s145_58, s145_62, s145_63, s145_66, s145_67, s145_70, s145_72, s145_73, s145_74, s145_75, s145_78, s145_79, s145_80, s145_81, s145_84, s145_86, s145_87, s145_88, s145_89, s145_90, s145_93, s145_96, s145_98, s145_102, s145_105, s145_106, s145_109, s145_111, s145_113, s145_116, s145_117, s145_120, s145_122, s145_123, s145_124, s145_125, s145_128, s145_129, s145_130, s145_131, s145_132, s145_135, s145_137, s145_138, s145_139, s145_140, s145_141, s145_144, s145_147, s145_150, s145_153, ldi_0, ldi_s, ldl_0, ldl_s, ldd_0, ldd_s, lda_0, lda_s, st1_0, st1_1, st2_0, st2_1, sti_0, sti_1, stj_0, stj_1, st1_2, sti_2, st2_2, stj_2, st1_3, sti_3, st2_3, stj_3, st1_4, sti_4, st2_4, stj_4, st1_5, sti_5, st2_5, stj_5, st1_6, sti_6, st2_6, stj_6, st1_7, sti_7, st2_7, stj_7, st1_8, sti_8, st2_8, stj_8, st1_9, sti_9, st2_9, stj_9, kil_n, kil_i, kil_r, kil_l, kil_d, gl_0, gl_s, cat_i, cat_r, true_and, XH_gf]
      rw [br_1 (by decide), nI_lit10, ast_la (XH_F hT) (by decide), XH_uF hT, clrL_e hD, f0_end hF]
      exact main 0 (by omega) none
    · rw [← stgL_s, ← clrL_s] at ih
      rw [s145_8]
      simp only [s145_0, s145_1, s145_2, s145_6, s145_7, s145_9, s145_11, s145_14, s145_15, s145_18, s145_19, s145_20, s145_21, s145_22, s145_25, s145_26, s145_27, s145_30, s145_31, s145_34, s145_35, s145_36, s145_39, s145_42, s145_43, s145_46, s145_48, s145_49, s145_50, s145_51, s145_53, s145_54, s145_57, s145_58, s145_62, s145_63, s145_66, s145_67, s145_70, s145_72, s145_73, s145_74, s145_75, s145_78, s145_79, s145_80, s145_81, s145_84, s145_86, s145_87, s145_88, s145_89, s145_90, s145_93, s145_96, s145_98, s145_102, s145_105, s145_106, s145_109, s145_111, s145_113, s145_116, s145_117, s145_120, s145_122, s145_123, s145_124, s145_125, s145_128, s145_129, s145_130, s145_131, s145_132, s145_135, s145_137, s145_138, s145_139, s145_140, s145_141, s145_144, s145_147, s145_150, s145_153, ldi_0, ldi_s, ldl_0, ldl_s, ldd_0, ldd_s, lda_0, lda_s, st1_0, st1_1, st2_0, st2_1, sti_0, sti_1, stj_0, stj_1, st1_2, sti_2, st2_2, stj_2, st1_3, sti_3, st2_3, stj_3, st1_4, sti_4, st2_4, stj_4, st1_5, sti_5, st2_5, stj_5, st1_6, sti_6, st2_6, stj_6, st1_7, sti_7, st2_7, stj_7, st1_8, sti_8, st2_8, stj_8, st1_9, sti_9, st2_9, stj_9, kil_n, kil_i, kil_r, kil_l, kil_d, gl_0, gl_s, cat_i, cat_r, true_and, XH_gf, nI_1, ast_la (XH_F hT) (show j < 11 by omega), XH_uF hT, ast_la (XH_D hT) hj, XH_uD hT]
      rw [nI_lit9, br_0 (nI_nlt (show j ≤ 9 by omega) (by decide)), nI_lit0, nI_eq (by omega) (by decide)]
      refine ⟨fun h1 => ?_, fun h1 => ?_⟩
      · rw [if_neg h1] at ih
        exact ih
      · rw [if_pos (Decidable.not_not.mp h1)] at ih
        exact ih
  have k0 := init 0 (by omega)
  rw [stg_0, clrL_0] at k0
  exact k0
theorem XH_e (e1 : h (m + 22) = some (na 9 S)) (e2 : h (m + 23) = some (la 10 C)) (e3 : h (m + 25) = some (la 10 D)) (e4 : h (m + 26) = some (la 11 F)) : NF h m t t2 ns G th n = XH h m t t2 ns G th n S C F D := by
  have e : XB h m F D = h := by
    unfold XB
    rw [hup_id e4, hup_id e3]
  unfold XH
  rw [e]
  exact PH_e e1 e2
/-- the arrays that the counting uses -/
def ScA (h : AH) (m : Nat) : Prop := (∃ S, h (m + 22) = some (na 9 S)) ∧ (∃ C, h (m + 23) = some (la 10 C) ∧ ∀ q, 10 ≤ q → C q = 0) ∧ (∃ D, h (m + 25) = some (la 10 D) ∧ ∀ q, 10 ≤ q → D q = 0) ∧ (∃ F, h (m + 26) = some (la 11 F) ∧ ∀ q, 11 ≤ q → F q = 0)
theorem sp_expands0 (hB : MB h m t t2 SG) (hA : ScA h m) (hn : n ≤ 9) : Sp 12 145 [.ref m, .ref t, .int (nI n)] (NF h m t t2 ns G th n) z 0 0 (ExP h m t t2 ns G th n z (ctL G n) (cofM G n) none) := by
  obtain ⟨⟨S, a1⟩, ⟨C, a2, a3⟩, ⟨D, a4, a5⟩, ⟨F, a6, a7⟩⟩ := hA
  rw [XH_e a1 a2 a4 a6]
  exact sp_expands hB (XH_Tb hB) hn a3 a7 a5
theorem sp_mcoeff (hB : MB h m t t2 SG) (hA : ScA h m) (hn : n ≤ 9) {k : Nat} (hk : k ≤ n) : Sp 20 144 [.ref m, .int (nI k)] (NF h m t t2 ns G th n) z 0 0 (ExP h m t t2 ns G 0 n z (ctL G n) (cofM G n) (some (.long (cofM G n k)))) := by
  have hT := hB.1
  refine Sp_in (al := [some (.ref m), some (.int (nI k))]) ?_
  simp only [s144_0, s144_1, s144_2, s144_5, s144_6, s144_7, s144_8, s144_9, s144_15, s144_18, s144_19, s144_22, s144_23, s144_27, s144_30, s144_31, s144_32, s144_33, s144_34, s144_37, s144_38, s144_44, s144_45, s144_48, s144_49, s144_50, ldi_0, ldi_s, ldl_0, ldl_s, ldd_0, ldd_s, lda_0, lda_s, st1_0, st1_1, st2_0, st2_1, sti_0, sti_1, stj_0, stj_1, st1_2, sti_2, st2_2, stj_2, st1_3, sti_3, st2_3, stj_3, st1_4, sti_4, st2_4, stj_4, st1_5, sti_5, st2_5, stj_5, st1_6, sti_6, st2_6, stj_6, st1_7, sti_7, st2_7, stj_7, st1_8, sti_8, st2_8, stj_8, st1_9, sti_9, st2_9, stj_9, kil_n, kil_i, kil_r, kil_l, kil_d, gl_0, gl_s, cat_i, cat_r, true_and, NF_th, NF_gf]
  refine c144_12r sp_in ?_
  have e : decide (¬ nI k < 0 ∧ ¬ nI n < nI k) = true := by
    rw [decide_eq_true_eq]
    exact ⟨nI_pos (by omega), nI_nlt hk (by omega)⟩
  simp only [s144_0, s144_1, s144_2, s144_5, s144_6, s144_7, s144_8, s144_9, s144_15, s144_18, s144_19, s144_22, s144_23, s144_27, s144_30, s144_31, s144_32, s144_33, s144_34, s144_37, s144_38, s144_44, s144_45, s144_48, s144_49, s144_50, ldi_0, ldi_s, ldl_0, ldl_s, ldd_0, ldd_s, lda_0, lda_s, st1_0, st1_1, st2_0, st2_1, sti_0, sti_1, stj_0, stj_1, st1_2, sti_2, st2_2, stj_2, st1_3, sti_3, st2_3, stj_3, st1_4, sti_4, st2_4, stj_4, st1_5, sti_5, st2_5, stj_5, st1_6, sti_6, st2_6, stj_6, st1_7, sti_7, st2_7, stj_7, st1_8, sti_8, st2_8, stj_8, st1_9, sti_9, st2_9, stj_9, kil_n, kil_i, kil_r, kil_l, kil_d, gl_0, gl_s, cat_i, cat_r, true_and]
  rw [e, br_1 (by decide)]
  refine c144_24r NF_m (sp_throws_f NF_m) ?_
  simp only [s144_0, s144_1, s144_2, s144_5, s144_6, s144_7, s144_8, s144_9, s144_15, s144_18, s144_19, s144_22, s144_23, s144_27, s144_30, s144_31, s144_32, s144_33, s144_34, s144_37, s144_38, s144_44, s144_45, s144_48, s144_49, s144_50, ldi_0, ldi_s, ldl_0, ldl_s, ldd_0, ldd_s, lda_0, lda_s, st1_0, st1_1, st2_0, st2_1, sti_0, sti_1, stj_0, stj_1, st1_2, sti_2, st2_2, stj_2, st1_3, sti_3, st2_3, stj_3, st1_4, sti_4, st2_4, stj_4, st1_5, sti_5, st2_5, stj_5, st1_6, sti_6, st2_6, stj_6, st1_7, sti_7, st2_7, stj_7, st1_8, sti_8, st2_8, stj_8, st1_9, sti_9, st2_9, stj_9, kil_n, kil_i, kil_r, kil_l, kil_d, gl_0, gl_s, cat_i, cat_r, true_and, NF_gf]
  rw [br_1 (by decide)]
  refine c144_41 NF_m (sp_expands0 hB hA hn) (by omega) (by omega) ?_
  rintro _ _ z ⟨rfl, rfl, S', F', hF', rfl⟩
  show aW (Sp 19) 144 0 0 _ 44 _ _ _ _ _ _
  simp only [s144_0, s144_1, s144_2, s144_5, s144_6, s144_7, s144_8, s144_9, s144_15, s144_18, s144_19, s144_22, s144_23, s144_27, s144_30, s144_31, s144_32, s144_33, s144_34, s144_37, s144_38, s144_44, s144_45, s144_48, s144_49, s144_50, ldi_0, ldi_s, ldl_0, ldl_s, ldd_0, ldd_s, lda_0, lda_s, st1_0, st1_1, st2_0, st2_1, sti_0, sti_1, stj_0, stj_1, st1_2, sti_2, st2_2, stj_2, st1_3, sti_3, st2_3, stj_3, st1_4, sti_4, st2_4, stj_4, st1_5, sti_5, st2_5, stj_5, st1_6, sti_6, st2_6, stj_6, st1_7, sti_7, st2_7, stj_7, st1_8, sti_8, st2_8, stj_8, st1_9, sti_9, st2_9, stj_9, kil_n, kil_i, kil_r, kil_l, kil_d, gl_0, gl_s, cat_i, cat_r, true_and, XH_gf, ald_la (XH_D hT) (show k < 10 by omega)]
  exact ⟨by omega, by omega, rfl, rfl, S', F', hF', rfl⟩
theorem sp_mcoeff_no {p : Int32} (hp : p < 0 ∨ ¬ p ≤ nI n) : Sp 20 144 [.ref m, .int p] (NF h m t t2 ns G th n) z 0 0 (RR (some (.long 0)) (NF h m t t2 ns G 1 n) z) := by
  refine Sp_in (al := [some (.ref m), some (.int p)]) ?_
  simp only [s144_0, s144_1, s144_2, s144_5, s144_6, s144_7, s144_8, s144_9, s144_15, s144_18, s144_19, s144_22, s144_23, s144_27, s144_30, s144_31, s144_32, s144_33, s144_34, s144_37, s144_38, s144_44, s144_45, s144_48, s144_49, s144_50, ldi_0, ldi_s, ldl_0, ldl_s, ldd_0, ldd_s, lda_0, lda_s, st1_0, st1_1, st2_0, st2_1, sti_0, sti_1, stj_0, stj_1, st1_2, sti_2, st2_2, stj_2, st1_3, sti_3, st2_3, stj_3, st1_4, sti_4, st2_4, stj_4, st1_5, sti_5, st2_5, stj_5, st1_6, sti_6, st2_6, stj_6, st1_7, sti_7, st2_7, stj_7, st1_8, sti_8, st2_8, stj_8, st1_9, sti_9, st2_9, stj_9, kil_n, kil_i, kil_r, kil_l, kil_d, gl_0, gl_s, cat_i, cat_r, true_and, NF_th, NF_gf]
  refine c144_12r sp_in ?_
  have e : decide (¬ p < 0 ∧ ¬ nI n < p) = false := by
    rw [decide_eq_false_iff_not]
    rintro ⟨h1, h2⟩
    rcases hp with h3 | h3
    · exact h1 h3
    · exact h2 (Int32.not_le.mp h3)
  simp only [s144_0, s144_1, s144_2, s144_5, s144_6, s144_7, s144_8, s144_9, s144_15, s144_18, s144_19, s144_22, s144_23, s144_27, s144_30, s144_31, s144_32, s144_33, s144_34, s144_37, s144_38, s144_44, s144_45, s144_48, s144_49, s144_50, ldi_0, ldi_s, ldl_0, ldl_s, ldd_0, ldd_s, lda_0, lda_s, st1_0, st1_1, st2_0, st2_1, sti_0, sti_1, stj_0, stj_1, st1_2, sti_2, st2_2, stj_2, st1_3, sti_3, st2_3, stj_3, st1_4, sti_4, st2_4, stj_4, st1_5, sti_5, st2_5, stj_5, st1_6, sti_6, st2_6, stj_6, st1_7, sti_7, st2_7, stj_7, st1_8, sti_8, st2_8, stj_8, st1_9, sti_9, st2_9, stj_9, kil_n, kil_i, kil_r, kil_l, kil_d, gl_0, gl_s, cat_i, cat_r, true_and]
  rw [e, br_0 (by decide)]
  refine c144_24r NF_m sp_throws_t ?_
  simp only [s144_0, s144_1, s144_2, s144_5, s144_6, s144_7, s144_8, s144_9, s144_15, s144_18, s144_19, s144_22, s144_23, s144_27, s144_30, s144_31, s144_32, s144_33, s144_34, s144_37, s144_38, s144_44, s144_45, s144_48, s144_49, s144_50, ldi_0, ldi_s, ldl_0, ldl_s, ldd_0, ldd_s, lda_0, lda_s, st1_0, st1_1, st2_0, st2_1, sti_0, sti_1, stj_0, stj_1, st1_2, sti_2, st2_2, stj_2, st1_3, sti_3, st2_3, stj_3, st1_4, sti_4, st2_4, stj_4, st1_5, sti_5, st2_5, stj_5, st1_6, sti_6, st2_6, stj_6, st1_7, sti_7, st2_7, stj_7, st1_8, sti_8, st2_8, stj_8, st1_9, sti_9, st2_9, stj_9, kil_n, kil_i, kil_r, kil_l, kil_d, gl_0, gl_s, cat_i, cat_r, true_and]
  rw [br_0 (by decide)]
  exact out_RR
theorem sp_rounded (hB : MB h m t t2 SG) (hX : ∀ S C F D, Tb (XH h m t t2 ns G th n S C F D) T X) (h9 : size ≤ 9) (hC : ∀ q, 10 ≤ q → C q = 0) (hF : ∀ q, 11 ≤ q → F q = 0) (hD : ∀ q, 10 ≤ q → D q = 0) {k : Int64} : Sp 13 164 [.ref m, .ref T, .int (nI size), .long k] (XH h m t t2 ns G th n S C F D) z 0 0 (ExP h m t t2 ns G th n z (ctL X size) (cofM X size) (some (.long (hor (cofM X size) k (size + 1) 0)))) := by
  have hT := hB.1
  refine Sp_in (al := [some (.ref m), some (.ref T), some (.int (nI size)), some (.long k), none, none, none, none]) ?_
  simp only [s164_0, s164_1, s164_2, s164_6, s164_7, s164_9, s164_10, s164_14, s164_17, s164_19, s164_20, s164_21, s164_22, s164_25, s164_27, s164_28, s164_29, s164_31, s164_34, s164_37, s164_39, ldi_0, ldi_s, ldl_0, ldl_s, ldd_0, ldd_s, lda_0, lda_s, st1_0, st1_1, st2_0, st2_1, sti_0, sti_1, stj_0, stj_1, st1_2, sti_2, st2_2, stj_2, st1_3, sti_3, st2_3, stj_3, st1_4, sti_4, st2_4, stj_4, st1_5, sti_5, st2_5, stj_5, st1_6, sti_6, st2_6, stj_6, st1_7, sti_7, st2_7, stj_7, st1_8, sti_8, st2_8, stj_8, st1_9, sti_9, st2_9, stj_9, kil_n, kil_i, kil_r, kil_l, kil_d, gl_0, gl_s, cat_i, cat_r, true_and]
  refine c164_3 XH_m (sp_expands hB hX h9 hC hF hD) (by omega) (by omega) ?_
  rintro _ _ z ⟨rfl, rfl, S', F', hF', rfl⟩
  show aW (Sp 12) 164 0 0 _ 6 _ _ _ _ _ _
  simp only [s164_0, s164_1, s164_2, s164_6, s164_7, s164_9, s164_10, s164_14, s164_17, s164_19, s164_20, s164_21, s164_22, s164_25, s164_27, s164_28, s164_29, s164_31, s164_34, s164_37, s164_39, ldi_0, ldi_s, ldl_0, ldl_s, ldd_0, ldd_s, lda_0, lda_s, st1_0, st1_1, st2_0, st2_1, sti_0, sti_1, stj_0, stj_1, st1_2, sti_2, st2_2, stj_2, st1_3, sti_3, st2_3, stj_3, st1_4, sti_4, st2_4, stj_4, st1_5, sti_5, st2_5, stj_5, st1_6, sti_6, st2_6, stj_6, st1_7, sti_7, st2_7, stj_7, st1_8, sti_8, st2_8, stj_8, st1_9, sti_9, st2_9, stj_9, kil_n, kil_i, kil_r, kil_l, kil_d, gl_0, gl_s, cat_i, cat_r, true_and]
  have key : ∀ j, j ≤ size + 1 → ∀ s : Int64, hor (cofM X size) k (size + 1) 0 = hor (cofM X size) k j s → aW (Sp 12) 164 0 0 (ExP h m t t2 ns G th n z (ctL X size) (cofM X size) (some (.long (hor (cofM X size) k (size + 1) 0)))) 12 [some (.ref m), some (.ref T), some (.int (nI size)), some (.long k), none, some (.long s), none, some (.int (nI j + (-1)))] [] (XH h m t t2 ns G th n S' (ctL X size) F' (cofM X size)) z (0 + 0) (0 + 0) := by
    refine aDn ?_ fun j hj ih => ?_
    · intro s e
      rw [s164_12]
      simp only [s164_0, s164_1, s164_2, s164_6, s164_7, s164_9, s164_10, s164_14, s164_17, s164_19, s164_20, s164_21, s164_22, s164_25, s164_27, s164_28, s164_29, s164_31, s164_34, s164_37, s164_39, ldi_0, ldi_s, ldl_0, ldl_s, ldd_0, ldd_s, lda_0, lda_s, st1_0, st1_1, st2_0, st2_1, sti_0, sti_1, stj_0, stj_1, st1_2, sti_2, st2_2, stj_2, st1_3, sti_3, st2_3, stj_3, st1_4, sti_4, st2_4, stj_4, st1_5, sti_5, st2_5, stj_5, st1_6, sti_6, st2_6, stj_6, st1_7, sti_7, st2_7, stj_7, st1_8, sti_8, st2_8, stj_8, st1_9, sti_9, st2_9, stj_9, kil_n, kil_i, kil_r, kil_l, kil_d, gl_0, gl_s, cat_i, cat_r, true_and]
      rw [br_1 (by decide), e]
      exact ⟨by omega, by omega, rfl, rfl, S', F', hF', rfl⟩
    · intro s e
      rw [nI_pm, s164_12]
      simp only [s164_0, s164_1, s164_2, s164_6, s164_7, s164_9, s164_10, s164_14, s164_17, s164_19, s164_20, s164_21, s164_22, s164_25, s164_27, s164_28, s164_29, s164_31, s164_34, s164_37, s164_39, ldi_0, ldi_s, ldl_0, ldl_s, ldd_0, ldd_s, lda_0, lda_s, st1_0, st1_1, st2_0, st2_1, sti_0, sti_1, stj_0, stj_1, st1_2, sti_2, st2_2, stj_2, st1_3, sti_3, st2_3, stj_3, st1_4, sti_4, st2_4, stj_4, st1_5, sti_5, st2_5, stj_5, st1_6, sti_6, st2_6, stj_6, st1_7, sti_7, st2_7, stj_7, st1_8, sti_8, st2_8, stj_8, st1_9, sti_9, st2_9, stj_9, kil_n, kil_i, kil_r, kil_l, kil_d, gl_0, gl_s, cat_i, cat_r, true_and, XH_gf, ald_la (XH_D hT) (show j < 10 by omega)]
      rw [br_0 (nI_pos (by omega))]
      exact ih _ e
  have k0 := key (size + 1) (Nat.le_refl _) 0 rfl
  rw [nI_pm] at k0
  exact k0
theorem sp_rounded0 (hB : MB h m t t2 SG) (hA : ScA h m) (hn : n ≤ 9) {k : Int64} : Sp 13 164 [.ref m, .ref t, .int (nI n), .long k] (NF h m t t2 ns G th n) z 0 0 (ExP h m t t2 ns G th n z (ctL G n) (cofM G n) (some (.long (hor (cofM G n) k (n + 1) 0)))) := by
  obtain ⟨⟨S, a1⟩, ⟨C, a2, a3⟩, ⟨D, a4, a5⟩, ⟨F, a6, a7⟩⟩ := hA
  rw [XH_e a1 a2 a4 a6]
  exact sp_rounded hB (XH_Tb hB) hn a3 a7 a5
theorem sp_mround (hB : MB h m t t2 SG) (hA : ScA h m) (hn : n ≤ 9) {k : Int32} : Sp 20 163 [.ref m, .int k] (NF h m t t2 ns G th n) z 0 0 (ExP h m t t2 ns G th n z (ctL G n) (cofM G n) (some (.long (hor (cofM G n) k.toInt64 (n + 1) 0)))) := by
  refine Sp_in (al := [some (.ref m), some (.int k)]) ?_
  simp only [s163_0, s163_1, s163_2, s163_5, s163_6, s163_9, s163_10, s163_14, ldi_0, ldi_s, ldl_0, ldl_s, ldd_0, ldd_s, lda_0, lda_s, st1_0, st1_1, st2_0, st2_1, sti_0, sti_1, stj_0, stj_1, st1_2, sti_2, st2_2, stj_2, st1_3, sti_3, st2_3, stj_3, st1_4, sti_4, st2_4, stj_4, st1_5, sti_5, st2_5, stj_5, st1_6, sti_6, st2_6, stj_6, st1_7, sti_7, st2_7, stj_7, st1_8, sti_8, st2_8, stj_8, st1_9, sti_9, st2_9, stj_9, kil_n, kil_i, kil_r, kil_l, kil_d, gl_0, gl_s, cat_i, cat_r, true_and, NF_gf]
  refine c163_11 NF_m (sp_rounded0 hB hA hn) (by omega) (by omega) ?_
  rintro _ _ z ⟨rfl, rfl, S', F', hF', rfl⟩
  show aW (Sp 19) 163 0 0 _ 14 _ _ _ _ _ _
  simp only [s163_0, s163_1, s163_2, s163_5, s163_6, s163_9, s163_10, s163_14, ldi_0, ldi_s, ldl_0, ldl_s, ldd_0, ldd_s, lda_0, lda_s, st1_0, st1_1, st2_0, st2_1, sti_0, sti_1, stj_0, stj_1, st1_2, sti_2, st2_2, stj_2, st1_3, sti_3, st2_3, stj_3, st1_4, sti_4, st2_4, stj_4, st1_5, sti_5, st2_5, stj_5, st1_6, sti_6, st2_6, stj_6, st1_7, sti_7, st2_7, stj_7, st1_8, sti_8, st2_8, stj_8, st1_9, sti_9, st2_9, stj_9, kil_n, kil_i, kil_r, kil_l, kil_d, gl_0, gl_s, cat_i, cat_r, true_and]
  exact ⟨by omega, by omega, rfl, rfl, S', F', hF', rfl⟩
theorem sp_mdirections (hB : MB h m t t2 SG) (hA : ScA h m) (hn : n ≤ 9) : Sp 20 187 [.ref m] (NF h m t t2 ns G th n) z 0 0 (ExP h m t t2 ns G th n z (ctL G n) (cofM G n) (some (.long (absL (hor (cofM G n) (-1) (n + 1) 0))))) := by
  refine Sp_in (al := [some (.ref m), none, none]) ?_
  simp only [s187_0, s187_1, s187_2, s187_5, s187_6, s187_9, s187_15, s187_16, s187_17, s187_18, s187_19, s187_22, s187_23, s187_24, s187_27, s187_28, ldi_0, ldi_s, ldl_0, ldl_s, ldd_0, ldd_s, lda_0, lda_s, st1_0, st1_1, st2_0, st2_1, sti_0, sti_1, stj_0, stj_1, st1_2, sti_2, st2_2, stj_2, st1_3, sti_3, st2_3, stj_3, st1_4, sti_4, st2_4, stj_4, st1_5, sti_5, st2_5, stj_5, st1_6, sti_6, st2_6, stj_6, st1_7, sti_7, st2_7, stj_7, st1_8, sti_8, st2_8, stj_8, st1_9, sti_9, st2_9, stj_9, kil_n, kil_i, kil_r, kil_l, kil_d, gl_0, gl_s, cat_i, cat_r, true_and, NF_gf]
  refine c187_12 NF_m (sp_rounded0 hB hA hn) (by omega) (by omega) ?_
  rintro _ _ z ⟨rfl, rfl, S', F', hF', rfl⟩
  show aW (Sp 19) 187 0 0 _ 15 _ _ _ _ _ _
  simp only [s187_0, s187_1, s187_2, s187_5, s187_6, s187_9, s187_15, s187_16, s187_17, s187_18, s187_19, s187_22, s187_23, s187_24, s187_27, s187_28, ldi_0, ldi_s, ldl_0, ldl_s, ldd_0, ldd_s, lda_0, lda_s, st1_0, st1_1, st2_0, st2_1, sti_0, sti_1, stj_0, stj_1, st1_2, sti_2, st2_2, stj_2, st1_3, sti_3, st2_3, stj_3, st1_4, sti_4, st2_4, stj_4, st1_5, sti_5, st2_5, stj_5, st1_6, sti_6, st2_6, stj_6, st1_7, sti_7, st2_7, stj_7, st1_8, sti_8, st2_8, stj_8, st1_9, sti_9, st2_9, stj_9, kil_n, kil_i, kil_r, kil_l, kil_d, gl_0, gl_s, cat_i, cat_r, true_and]
  refine ⟨fun h1 => ?_, fun h1 => ?_⟩
  · exact ⟨by omega, by omega, by unfold absL; rw [if_pos h1], rfl, S', F', hF', rfl⟩
  · exact ⟨by omega, by omega, by unfold absL; rw [if_neg h1], rfl, S', F', hF', rfl⟩
end Mod8
