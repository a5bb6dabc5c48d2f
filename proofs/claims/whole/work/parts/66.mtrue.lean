/-! ColourmapModel.isTrue -/
def amI (F : Nat → Int64) (n pc i : Nat) : Bool := if pc ≤ i then decide (0 < if (n - i) % 2 = 0 then F i else -F i) else decide ((if (n - i) % 2 = 0 then F i else -F i) = 0)
def amF (F : Nat → Int64) (n w pc : Nat) : Bool := decide (F n = 1) && (decide (n = 0) || decide (F (n - 1) = (-(nI w)).toInt64)) && alF (amI F n pc) (n + 1)
/-- the value at k, as the reference has it -/
def atM (n : Nat) (G : Nat → Nat → Bool) (k : Int64) : Int64 := hor (cofM G n) k (n + 1) 0
section MTrue
variable {h h2 : AH} {m t t2 ns n z : Nat} {G SG X : Nat → Nat → Bool} {th : Int32}
theorem MS.tab {X : Nat → Nat → Bool} (hS : MS h m) (hX : ∀ a b, 9 ≤ a ∨ 9 ≤ b → X a b = false) : MS (tbS h (m + 40) X) m ∧ Fr (m + 40) (m + 50) h (tbS h (m + 40) X) := by
  obtain ⟨⟨R1, s1⟩, s2, ⟨R3, s3⟩, ⟨R4, s4⟩, ⟨R5, s5⟩, ⟨R6, s6⟩, ⟨X7, s7, d7⟩, ⟨X8, s8, d8⟩⟩ := hS
  have f : Fr (m + 40) (m + 50) h (tbS h (m + 40) X) := fun q hq => tbS_ne (by omega)
  exact ⟨⟨⟨R1, (f _ (by omega)).trans s1⟩, s2.fr fun q _ _ _ => f _ (by omega), ⟨R3, (f _ (by omega)).trans s3⟩, ⟨R4, (f _ (by omega)).trans s4⟩, ⟨R5, (f _ (by omega)).trans s5⟩, ⟨R6, (f _ (by omega)).trans s6⟩, ⟨X7, s7.fr fun q _ _ => f _ (by omega), d7⟩, ⟨X, tbS_Tb s8.1, hX⟩⟩, f⟩
theorem MS.lead {X : Nat → Nat → Bool} (hS : MS h m) (hX : ∀ p, X p p = false) : MS (tbS h (m + 30) X) m ∧ Fr (m + 30) (m + 40) h (tbS h (m + 30) X) := by
  obtain ⟨⟨R1, s1⟩, s2, ⟨R3, s3⟩, ⟨R4, s4⟩, ⟨R5, s5⟩, ⟨R6, s6⟩, ⟨X7, s7, d7⟩, ⟨X8, s8, d8⟩⟩ := hS
  have f : Fr (m + 30) (m + 40) h (tbS h (m + 30) X) := fun q hq => tbS_ne (by omega)
  exact ⟨⟨⟨R1, (f _ (by omega)).trans s1⟩, s2.fr fun q _ _ _ => f _ (by omega), ⟨R3, (f _ (by omega)).trans s3⟩, ⟨R4, (f _ (by omega)).trans s4⟩, ⟨R5, (f _ (by omega)).trans s5⟩, ⟨R6, (f _ (by omega)).trans s6⟩, ⟨X, tbS_Tb s7.1, hX⟩, ⟨X8, s8.fr fun q _ _ => f _ (by omega), d8⟩⟩, f⟩
theorem ldB_diag {w a : Nat} (hX : ∀ p, X p p = false) (b : Nat) (hb : b ≤ a) : ∀ p, ldB G w a X b p p = false := by
  induction b with
  | zero => exact hX
  | succ b ih =>
    intro p
    show gUpd (gUpd (ldB G w a X b) a b (ldT G w a b)) b a (G a b && !ldT G w a b) p p = false
    unfold gUpd
    rw [if_neg (by omega), if_neg (by omega)]
    exact ih (by omega) p
theorem ldA_diag {w : Nat} (hX : ∀ p, X p p = false) (a : Nat) : ∀ p, ldA G w X a p p = false := by
  induction a with
  | zero => exact hX
  | succ a ih => exact ldB_diag ih a (Nat.le_refl _)
theorem drF_diag (hX : ∀ p, X p p = false) (w : Nat) : ∀ p, (drF G n X w).2 p p = false := by
  induction w with
  | zero => exact hX
  | succ w ih => exact ldA_diag ih n
def RoP (h : AH) (m t t2 ns : Nat) (G SG : Nat → Nat → Bool) (th : Int32) (n z : Nat) (v : Option Value) : AP := fun o h' z' => o = .inl v ∧ z' = z ∧ ∃ h2, h' = NF h2 m t t2 ns G th n ∧ MB h2 m t t2 SG ∧ MS h2 m ∧ Fr (m + 22) (m + 27) h h2
theorem sp_roundedT {T size : Nat} (hB : MB h m t t2 SG) (hS : MS h m) (hX : ∀ h2, MB h2 m t t2 SG → Fr (m + 22) (m + 27) h h2 → Tb (NF h2 m t t2 ns G th n) T X) (h9 : size ≤ 9) {k : Int64} : Sp 13 164 [.ref m, .ref T, .int (nI size), .long k] (NF h m t t2 ns G th n) z 0 0 (RoP h m t t2 ns G SG th n z (some (.long (hor (cofM X size) k (size + 1) 0)))) := by
  obtain ⟨⟨S, a1⟩, ⟨C, a2, a3⟩, ⟨D, a4, a5⟩, ⟨F, a6, a7⟩⟩ := hS.2.1
  have e := sp_rounded (z := z) (G := G) (th := th) (ns := ns) (n := n) (S := S) (C := C) (F := F) (D := D) (T := T) (X := X) (size := size) (k := k) hB (fun S C F D => by rw [XH_base]; exact hX _ hB.xc XC_Fr) h9 a3 a7 a5
  rw [← XH_e a1 a2 a4 a6] at e
  refine Sp_conseq ?_ e
  rintro _ _ z ⟨rfl, rfl, S', F', hF', rfl⟩
  have k := hS.xc (S := S') (F := F') (C := ctL X size) (D := cofM X size) (ctL_big h9) (cofM_big h9) hF'
  exact ⟨rfl, rfl, _, XH_base, hB.xc, k.1, XC_Fr⟩
theorem sp_areCoeff (hB : MB h m t t2 SG) (hS : MS h m) (hG : GOK n G) {pc : Nat} (hpc : ∀ R, pcF n (prF n G R) n = pc) : Sp 21 207 [.ref m] (NF h m t t2 ns G th n) z 0 0 (MR h m t t2 ns G SG th n z (some (.int (bI (amF (cofM G n) n (wys G n) pc))))) := by
  have hT := hB.1
  have hn := hG.1
  have hw := wys_lt hG
  obtain ⟨R, hR⟩ := hS.1
  have hpn : pc ≤ n := by rw [← hpc R]; exact cnt_le _ n
  refine Sp_in (al := [some (.ref m), none, none, none, none]) ?_
  simp only [s207_0, s207_4, s207_5, s207_6, s207_7, s207_10, s207_11, s207_17, s207_18, s207_21, s207_22, s207_25, s207_26, s207_27, s207_28, s207_31, s207_32, s207_35, s207_38, s207_39, s207_42, s207_43, s207_46, s207_47, s207_48, s207_49, s207_53, s207_54, s207_55, s207_56, s207_59, s207_60, s207_61, s207_62, s207_64, s207_65, s207_68, s207_71, s207_72, s207_75, s207_76, s207_77, s207_78, s207_79, s207_82, s207_83, s207_86, s207_87, s207_88, s207_91, s207_92, s207_95, s207_96, s207_97, s207_98, s207_99, s207_100, s207_101, s207_104, s207_105, s207_106, s207_107, s207_110, s207_113, s207_114, s207_115, s207_116, s207_119, s207_120, s207_121, s207_124, s207_127, s207_128, ldi_0, ldi_s, ldl_0, ldl_s, ldd_0, ldd_s, lda_0, lda_s, st1_0, st1_1, st2_0, st2_1, sti_0, sti_1, stj_0, stj_1, st1_2, sti_2, st2_2, stj_2, st1_3, sti_3, st2_3, stj_3, st1_4, sti_4, st2_4, stj_4, st1_5, sti_5, st2_5, stj_5, st1_6, sti_6, st2_6, stj_6, st1_7, sti_7, st2_7, stj_7, st1_8, sti_8, st2_8, stj_8, st1_9, sti_9, st2_9, stj_9, kil_n, kil_i, kil_r, kil_l, kil_d, gl_0, gl_s, cat_i, cat_r, true_and]
  refine c207_1r NF_m (sp_mpieces hB hn hR) ?_
  rw [hpc R]
  have k1 := hS.row (a := m + 21) (R := prF n G R) (Or.inl rfl)
  have b1 : MB (hup h (m + 21) (na 9 (prF n G R))) m t t2 SG := hB.sc (by omega)
  generalize hup h (m + 21) (na 9 (prF n G R)) = H1 at k1 b1 ⊢
  simp only [s207_0, s207_4, s207_5, s207_6, s207_7, s207_10, s207_11, s207_17, s207_18, s207_21, s207_22, s207_25, s207_26, s207_27, s207_28, s207_31, s207_32, s207_35, s207_38, s207_39, s207_42, s207_43, s207_46, s207_47, s207_48, s207_49, s207_53, s207_54, s207_55, s207_56, s207_59, s207_60, s207_61, s207_62, s207_64, s207_65, s207_68, s207_71, s207_72, s207_75, s207_76, s207_77, s207_78, s207_79, s207_82, s207_83, s207_86, s207_87, s207_88, s207_91, s207_92, s207_95, s207_96, s207_97, s207_98, s207_99, s207_100, s207_101, s207_104, s207_105, s207_106, s207_107, s207_110, s207_113, s207_114, s207_115, s207_116, s207_119, s207_120, s207_121, s207_124, s207_127, s207_128, ldi_0, ldi_s, ldl_0, ldl_s, ldd_0, ldd_s, lda_0, lda_s, st1_0, st1_1, st2_0, st2_1, sti_0, sti_1, stj_0, stj_1, st1_2, sti_2, st2_2, stj_2, st1_3, sti_3, st2_3, stj_3, st1_4, sti_4, st2_4, stj_4, st1_5, sti_5, st2_5, stj_5, st1_6, sti_6, st2_6, stj_6, st1_7, sti_7, st2_7, stj_7, st1_8, sti_8, st2_8, stj_8, st1_9, sti_9, st2_9, stj_9, kil_n, kil_i, kil_r, kil_l, kil_d, gl_0, gl_s, cat_i, cat_r, true_and, NF_gf]
  refine c207_14 NF_m (Sp_le (show 12 ≤ 20 by omega) (sp_expands0 b1 k1.1.2.1 hn)) (by omega) (by omega) ?_
  rintro _ _ z ⟨rfl, rfl, S', F', hF', rfl⟩
  show aW (Sp 20) 207 0 0 _ 17 _ _ _ _ (0 + 0) (0 + 0)
  have k := k1.1.xc (S := S') (F := F') (C := ctL G n) (D := cofM G n) (ctL_big hn) (cofM_big hn) hF'
  have hB2 : MB (XC H1 m S' (ctL G n) F' (cofM G n)) m t t2 SG := b1.xc
  have hD2 : XC H1 m S' (ctL G n) F' (cofM G n) (m + 25) = some (la 10 (cofM G n)) := by unfold XC XB; rw [hup_ne (by omega), hup_ne (by omega), hup_same]
  rw [XH_base]
  have hf2 := k1.2.trans k.2
  generalize XC H1 m S' (ctL G n) F' (cofM G n) = H at k hB2 hD2 hf2 ⊢
  have hDN : NF H m t t2 ns G th n (m + 25) = some (la 10 (cofM G n)) := by rw [NF_old hT (by omega)]; exact hD2
  generalize cofM G n = F at hDN ⊢
  simp only [s207_0, s207_4, s207_5, s207_6, s207_7, s207_10, s207_11, s207_17, s207_18, s207_21, s207_22, s207_25, s207_26, s207_27, s207_28, s207_31, s207_32, s207_35, s207_38, s207_39, s207_42, s207_43, s207_46, s207_47, s207_48, s207_49, s207_53, s207_54, s207_55, s207_56, s207_59, s207_60, s207_61, s207_62, s207_64, s207_65, s207_68, s207_71, s207_72, s207_75, s207_76, s207_77, s207_78, s207_79, s207_82, s207_83, s207_86, s207_87, s207_88, s207_91, s207_92, s207_95, s207_96, s207_97, s207_98, s207_99, s207_100, s207_101, s207_104, s207_105, s207_106, s207_107, s207_110, s207_113, s207_114, s207_115, s207_116, s207_119, s207_120, s207_121, s207_124, s207_127, s207_128, ldi_0, ldi_s, ldl_0, ldl_s, ldd_0, ldd_s, lda_0, lda_s, st1_0, st1_1, st2_0, st2_1, sti_0, sti_1, stj_0, stj_1, st1_2, sti_2, st2_2, stj_2, st1_3, sti_3, st2_3, stj_3, st1_4, sti_4, st2_4, stj_4, st1_5, sti_5, st2_5, stj_5, st1_6, sti_6, st2_6, stj_6, st1_7, sti_7, st2_7, stj_7, st1_8, sti_8, st2_8, stj_8, st1_9, sti_9, st2_9, stj_9, kil_n, kil_i, kil_r, kil_l, kil_d, gl_0, gl_s, cat_i, cat_r, true_and, NF_gf, ald_la hDN (show n < 10 by omega), lg_cmp_eq]
  have out : ∀ v, MR h m t t2 ns G SG th n z (some (.int v)) (.inl (some (.int v))) (NF H m t t2 ns G th n) z := fun v => ⟨rfl, rfl, H, rfl, hB2, k.1, hf2⟩
  have loop : (decide (F n = 1) && (decide (n = 0) || decide (F (n - 1) = (-(nI (wys G n))).toInt64))) = true → aW (Sp 20) 207 0 0 (MR h m t t2 ns G SG th n z (some (.int (bI (amF F n (wys G n) pc))))) 61 [some (.ref m), some (.int (nI pc)), none, none, none] [] (NF H m t t2 ns G th n) z (0 + 0) (0 + 0) := by
    intro h0
    simp only [s207_0, s207_4, s207_5, s207_6, s207_7, s207_10, s207_11, s207_17, s207_18, s207_21, s207_22, s207_25, s207_26, s207_27, s207_28, s207_31, s207_32, s207_35, s207_38, s207_39, s207_42, s207_43, s207_46, s207_47, s207_48, s207_49, s207_53, s207_54, s207_55, s207_56, s207_59, s207_60, s207_61, s207_62, s207_64, s207_65, s207_68, s207_71, s207_72, s207_75, s207_76, s207_77, s207_78, s207_79, s207_82, s207_83, s207_86, s207_87, s207_88, s207_91, s207_92, s207_95, s207_96, s207_97, s207_98, s207_99, s207_100, s207_101, s207_104, s207_105, s207_106, s207_107, s207_110, s207_113, s207_114, s207_115, s207_116, s207_119, s207_120, s207_121, s207_124, s207_127, s207_128, ldi_0, ldi_s, ldl_0, ldl_s, ldd_0, ldd_s, lda_0, lda_s, st1_0, st1_1, st2_0, st2_1, sti_0, sti_1, stj_0, stj_1, st1_2, sti_2, st2_2, stj_2, st1_3, sti_3, st2_3, stj_3, st1_4, sti_4, st2_4, stj_4, st1_5, sti_5, st2_5, stj_5, st1_6, sti_6, st2_6, stj_6, st1_7, sti_7, st2_7, stj_7, st1_8, sti_8, st2_8, stj_8, st1_9, sti_9, st2_9, stj_9, kil_n, kil_i, kil_r, kil_l, kil_d, gl_0, gl_s, cat_i, cat_r, true_and]
    unfold amF
    rw [h0, Bool.true_and]
    have key : ∀ i, i ≤ n + 1 → alF (amI F n pc) i = true → ∀ b : Option Value, aW (Sp 20) 207 0 0 (MR h m t t2 ns G SG th n z (some (.int (bI (alF (amI F n pc) (n + 1)))))) 63 [some (.ref m), some (.int (nI pc)), some (.int (nI i)), b, none] [] (NF H m t t2 ns G th n) z (0 + 0) (0 + 0) := by
      refine aUp ?_ fun i hi ih => ?_
      · intro e b
        rw [s207_63]
        simp only [s207_0, s207_4, s207_5, s207_6, s207_7, s207_10, s207_11, s207_17, s207_18, s207_21, s207_22, s207_25, s207_26, s207_27, s207_28, s207_31, s207_32, s207_35, s207_38, s207_39, s207_42, s207_43, s207_46, s207_47, s207_48, s207_49, s207_53, s207_54, s207_55, s207_56, s207_59, s207_60, s207_61, s207_62, s207_64, s207_65, s207_68, s207_71, s207_72, s207_75, s207_76, s207_77, s207_78, s207_79, s207_82, s207_83, s207_86, s207_87, s207_88, s207_91, s207_92, s207_95, s207_96, s207_97, s207_98, s207_99, s207_100, s207_101, s207_104, s207_105, s207_106, s207_107, s207_110, s207_113, s207_114, s207_115, s207_116, s207_119, s207_120, s207_121, s207_124, s207_127, s207_128, ldi_0, ldi_s, ldl_0, ldl_s, ldd_0, ldd_s, lda_0, lda_s, st1_0, st1_1, st2_0, st2_1, sti_0, sti_1, stj_0, stj_1, st1_2, sti_2, st2_2, stj_2, st1_3, sti_3, st2_3, stj_3, st1_4, sti_4, st2_4, stj_4, st1_5, sti_5, st2_5, stj_5, st1_6, sti_6, st2_6, stj_6, st1_7, sti_7, st2_7, stj_7, st1_8, sti_8, st2_8, stj_8, st1_9, sti_9, st2_9, stj_9, kil_n, kil_i, kil_r, kil_l, kil_d, gl_0, gl_s, cat_i, cat_r, true_and, NF_gf]
        rw [br_1 (nI_lt (Nat.lt_succ_self n) (by omega)), e]
        exact ⟨by decide, by omega, by omega, out _⟩
      · intro e b
        have ec : alF (amI F n pc) (i + 1) = amI F n pc i := by
          show (alF (amI F n pc) i && amI F n pc i) = _
          rw [e, Bool.true_and]
        have bad : amI F n pc i = false → alF (amI F n pc) (n + 1) = false := fun w => alF_f (i := i + 1) (by rw [ec]; exact w) (show i + 1 ≤ n + 1 from hi)
        have tail : ∀ c : Int64, (if (n - i) % 2 = 0 then F i else -F i) = c → aW (Sp 20) 207 0 0 (MR h m t t2 ns G SG th n z (some (.int (bI (alF (amI F n pc) (n + 1)))))) 98 [some (.ref m), some (.int (nI pc)), some (.int (nI i)), b, none] [.long c] (NF H m t t2 ns G th n) z (0 + 0) (0 + 0) := by
          intro c hc
          have ea : amI F n pc i = if pc ≤ i then decide (0 < c) else decide (c = 0) := by unfold amI; rw [hc]
          simp only [s207_0, s207_4, s207_5, s207_6, s207_7, s207_10, s207_11, s207_17, s207_18, s207_21, s207_22, s207_25, s207_26, s207_27, s207_28, s207_31, s207_32, s207_35, s207_38, s207_39, s207_42, s207_43, s207_46, s207_47, s207_48, s207_49, s207_53, s207_54, s207_55, s207_56, s207_59, s207_60, s207_61, s207_62, s207_64, s207_65, s207_68, s207_71, s207_72, s207_75, s207_76, s207_77, s207_78, s207_79, s207_82, s207_83, s207_86, s207_87, s207_88, s207_91, s207_92, s207_95, s207_96, s207_97, s207_98, s207_99, s207_100, s207_101, s207_104, s207_105, s207_106, s207_107, s207_110, s207_113, s207_114, s207_115, s207_116, s207_119, s207_120, s207_121, s207_124, s207_127, s207_128, ldi_0, ldi_s, ldl_0, ldl_s, ldd_0, ldd_s, lda_0, lda_s, st1_0, st1_1, st2_0, st2_1, sti_0, sti_1, stj_0, stj_1, st1_2, sti_2, st2_2, stj_2, st1_3, sti_3, st2_3, stj_3, st1_4, sti_4, st2_4, stj_4, st1_5, sti_5, st2_5, stj_5, st1_6, sti_6, st2_6, stj_6, st1_7, sti_7, st2_7, stj_7, st1_8, sti_8, st2_8, stj_8, st1_9, sti_9, st2_9, stj_9, kil_n, kil_i, kil_r, kil_l, kil_d, gl_0, gl_s, cat_i, cat_r, true_and, lg_cmp_eq, lg_cmp_gt, nI_1]
          rw [nI_ltI (by omega) (by omega)]
          refine ⟨fun h1 => ?_, fun h1 => ?_⟩
          · rw [if_neg (by omega)] at ea
            refine ⟨fun h2 => ?_, fun h2 => ?_⟩
            · exact ih (by rw [ec, ea]; exact decide_eq_true h2) _
            · rw [decide_eq_false h2] at ea
              exact ⟨by decide, by omega, by omega, by rw [bad ea]; exact out _⟩
          · rw [if_pos (by omega)] at ea
            refine ⟨fun h2 => ?_, fun h2 => ?_⟩
            · exact ih (by rw [ec, ea]; exact decide_eq_true h2) _
            · rw [decide_eq_false h2] at ea
              exact ⟨by decide, by omega, by omega, by rw [bad ea]; exact out _⟩
        simp only [s207_0, s207_4, s207_5, s207_6, s207_7, s207_10, s207_11, s207_17, s207_18, s207_21, s207_22, s207_25, s207_26, s207_27, s207_28, s207_31, s207_32, s207_35, s207_38, s207_39, s207_42, s207_43, s207_46, s207_47, s207_48, s207_49, s207_53, s207_54, s207_55, s207_56, s207_59, s207_60, s207_61, s207_62, s207_64, s207_65, s207_68, s207_71, s207_72, s207_75, s207_76, s207_77, s207_78, s207_79, s207_82, s207_83, s207_86, s207_87, s207_88, s207_91, s207_92, s207_95, s207_96, s207_97, s207_98, s207_99, s207_100, s207_101, s207_104, s207_105, s207_106, s207_107, s207_110, s207_113, s207_114, s207_115, s207_116, s207_119, s207_120, s207_121, s207_124, s207_127, s207_128, ldi_0, ldi_s, ldl_0, ldl_s, ldd_0, ldd_s, lda_0, lda_s, st1_0, st1_1, st2_0, st2_1, sti_0, sti_1, stj_0, stj_1, st1_2, sti_2, st2_2, stj_2, st1_3, sti_3, st2_3, stj_3, st1_4, sti_4, st2_4, stj_4, st1_5, sti_5, st2_5, stj_5, st1_6, sti_6, st2_6, stj_6, st1_7, sti_7, st2_7, stj_7, st1_8, sti_8, st2_8, stj_8, st1_9, sti_9, st2_9, stj_9, kil_n, kil_i, kil_r, kil_l, kil_d, gl_0, gl_s, cat_i, cat_r, true_and, lg_cmp_eq, lg_cmp_gt, nI_1] at tail
        rw [s207_63]
        simp only [s207_0, s207_4, s207_5, s207_6, s207_7, s207_10, s207_11, s207_17, s207_18, s207_21, s207_22, s207_25, s207_26, s207_27, s207_28, s207_31, s207_32, s207_35, s207_38, s207_39, s207_42, s207_43, s207_46, s207_47, s207_48, s207_49, s207_53, s207_54, s207_55, s207_56, s207_59, s207_60, s207_61, s207_62, s207_64, s207_65, s207_68, s207_71, s207_72, s207_75, s207_76, s207_77, s207_78, s207_79, s207_82, s207_83, s207_86, s207_87, s207_88, s207_91, s207_92, s207_95, s207_96, s207_97, s207_98, s207_99, s207_100, s207_101, s207_104, s207_105, s207_106, s207_107, s207_110, s207_113, s207_114, s207_115, s207_116, s207_119, s207_120, s207_121, s207_124, s207_127, s207_128, ldi_0, ldi_s, ldl_0, ldl_s, ldd_0, ldd_s, lda_0, lda_s, st1_0, st1_1, st2_0, st2_1, sti_0, sti_1, stj_0, stj_1, st1_2, sti_2, st2_2, stj_2, st1_3, sti_3, st2_3, stj_3, st1_4, sti_4, st2_4, stj_4, st1_5, sti_5, st2_5, stj_5, st1_6, sti_6, st2_6, stj_6, st1_7, sti_7, st2_7, stj_7, st1_8, sti_8, st2_8, stj_8, st1_9, sti_9, st2_9, stj_9, kil_n, kil_i, kil_r, kil_l, kil_d, gl_0, gl_s, cat_i, cat_r, true_and, NF_gf, ne2, ald_la hDN (show i < 10 by omega), lg_cmp_eq, lg_cmp_gt, nI_1]
        rw [br_0 (nI_nlt (show i ≤ n by omega) (by omega)), pk_sub (show i ≤ n by omega), nI_lit2, pk_rem (by omega) (by decide) (by decide), nI_z (by omega)]
        refine ⟨fun h2 => tail _ (if_neg h2), fun h2 => tail _ (if_pos (Decidable.not_not.mp h2))⟩
    exact key 0 (by omega) rfl none
  simp only [s207_0, s207_4, s207_5, s207_6, s207_7, s207_10, s207_11, s207_17, s207_18, s207_21, s207_22, s207_25, s207_26, s207_27, s207_28, s207_31, s207_32, s207_35, s207_38, s207_39, s207_42, s207_43, s207_46, s207_47, s207_48, s207_49, s207_53, s207_54, s207_55, s207_56, s207_59, s207_60, s207_61, s207_62, s207_64, s207_65, s207_68, s207_71, s207_72, s207_75, s207_76, s207_77, s207_78, s207_79, s207_82, s207_83, s207_86, s207_87, s207_88, s207_91, s207_92, s207_95, s207_96, s207_97, s207_98, s207_99, s207_100, s207_101, s207_104, s207_105, s207_106, s207_107, s207_110, s207_113, s207_114, s207_115, s207_116, s207_119, s207_120, s207_121, s207_124, s207_127, s207_128, ldi_0, ldi_s, ldl_0, ldl_s, ldd_0, ldd_s, lda_0, lda_s, st1_0, st1_1, st2_0, st2_1, sti_0, sti_1, stj_0, stj_1, st1_2, sti_2, st2_2, stj_2, st1_3, sti_3, st2_3, stj_3, st1_4, sti_4, st2_4, stj_4, st1_5, sti_5, st2_5, stj_5, st1_6, sti_6, st2_6, stj_6, st1_7, sti_7, st2_7, stj_7, st1_8, sti_8, st2_8, stj_8, st1_9, sti_9, st2_9, stj_9, kil_n, kil_i, kil_r, kil_l, kil_d, gl_0, gl_s, cat_i, cat_r, true_and] at loop
  refine ⟨fun h1 => ?_, fun h1 => ?_⟩
  · refine ⟨by decide, by omega, by omega, ?_⟩
    unfold amF
    rw [decide_eq_false h1]
    exact out _
  · rw [decide_eq_true (Decidable.not_not.mp h1), Bool.true_and] at loop
    refine ⟨fun h2 => ?_, fun h2 => ?_⟩
    · have h3 : n = 0 := Nat.le_zero.mp (Nat.le_of_not_lt fun w => nI_nle w (by omega) h2)
      exact loop (by rw [decide_eq_true h3]; rfl)
    · have h3 : 0 < n := by
        rcases Nat.eq_zero_or_pos n with h4 | h4
        · exact absurd (by rw [h4]; decide) h2
        · exact h4
      rw [nI_lit1, pk_sub h3, ald_la hDN (show n - 1 < 10 by omega)]
      refine c207_50r NF_m (sp_mways hB2 hn) ?_
      simp only [s207_0, s207_4, s207_5, s207_6, s207_7, s207_10, s207_11, s207_17, s207_18, s207_21, s207_22, s207_25, s207_26, s207_27, s207_28, s207_31, s207_32, s207_35, s207_38, s207_39, s207_42, s207_43, s207_46, s207_47, s207_48, s207_49, s207_53, s207_54, s207_55, s207_56, s207_59, s207_60, s207_61, s207_62, s207_64, s207_65, s207_68, s207_71, s207_72, s207_75, s207_76, s207_77, s207_78, s207_79, s207_82, s207_83, s207_86, s207_87, s207_88, s207_91, s207_92, s207_95, s207_96, s207_97, s207_98, s207_99, s207_100, s207_101, s207_104, s207_105, s207_106, s207_107, s207_110, s207_113, s207_114, s207_115, s207_116, s207_119, s207_120, s207_121, s207_124, s207_127, s207_128, ldi_0, ldi_s, ldl_0, ldl_s, ldd_0, ldd_s, lda_0, lda_s, st1_0, st1_1, st2_0, st2_1, sti_0, sti_1, stj_0, stj_1, st1_2, sti_2, st2_2, stj_2, st1_3, sti_3, st2_3, stj_3, st1_4, sti_4, st2_4, stj_4, st1_5, sti_5, st2_5, stj_5, st1_6, sti_6, st2_6, stj_6, st1_7, sti_7, st2_7, stj_7, st1_8, sti_8, st2_8, stj_8, st1_9, sti_9, st2_9, stj_9, kil_n, kil_i, kil_r, kil_l, kil_d, gl_0, gl_s, cat_i, cat_r, true_and, lg_cmp_eq]
      refine ⟨fun h4 => ?_, fun h4 => ?_⟩
      · exact loop (by rw [decide_eq_true h4, Bool.or_true])
      · refine ⟨by decide, by omega, by omega, ?_⟩
        unfold amF
        rw [decide_eq_false (show ¬ n = 0 by omega), decide_eq_false h4, Bool.or_false, Bool.and_false, Bool.false_and]
        exact out _
theorem sp_copies (hB : MB h m t t2 SG) (hG : GOK n G) (hX : Tb h (m + 40) X) (hz : ∀ a b, 9 ≤ a ∨ 9 ≤ b → X a b = false) : Sp 1 209 [.ref m] (NF h m t t2 ns G th n) z 0 0 (RR none (NF (tbS h (m + 40) G) m t t2 ns G th n) z) := by
  have hT := hB.1
  have hA : ∀ Y, Tb (NF (tbS h (m + 40) Y) m t t2 ns G th n) (m + 40) Y := fun Y => NF_TT hT (by omega) (tbS_Tb hX.1)
  have hG2 : ∀ Y, Tb (NF (tbS h (m + 40) Y) m t t2 ns G th n) t G := fun Y => NF_Tb (hB.tt (by omega))
  have hU : ∀ Y Y', tbS (NF (tbS h (m + 40) Y) m t t2 ns G th n) (m + 40) Y' = NF (tbS h (m + 40) Y') m t t2 ns G th n := fun Y Y' => by rw [NF_tt hT (by omega), tbS_tbS]
  refine Sp_in (al := [some (.ref m), none, none]) ?_
  simp only [s209_0, s209_1, s209_3, s209_5, s209_8, s209_9, s209_11, s209_13, s209_16, s209_17, s209_20, s209_21, s209_22, s209_23, s209_24, s209_27, s209_28, s209_29, s209_30, s209_31, s209_32, s209_35, s209_38, s209_41, s209_44, ldi_0, ldi_s, ldl_0, ldl_s, ldd_0, ldd_s, lda_0, lda_s, st1_0, st1_1, st2_0, st2_1, sti_0, sti_1, stj_0, stj_1, st1_2, sti_2, st2_2, stj_2, st1_3, sti_3, st2_3, stj_3, st1_4, sti_4, st2_4, stj_4, st1_5, sti_5, st2_5, stj_5, st1_6, sti_6, st2_6, stj_6, st1_7, sti_7, st2_7, stj_7, st1_8, sti_8, st2_8, stj_8, st1_9, sti_9, st2_9, stj_9, kil_n, kil_i, kil_r, kil_l, kil_d, gl_0, gl_s, cat_i, cat_r, true_and]
  have key : ∀ a, a ≤ 9 → ∀ s : Option Value, aW (Sp 0) 209 0 0 (RR none (NF (tbS h (m + 40) G) m t t2 ns G th n) z) 2 [some (.ref m), some (.int (nI a)), s] [] (NF (tbS h (m + 40) (stD a 0 G X)) m t t2 ns G th n) z 0 0 := by
    refine aUp ?_ fun a ha ih => ?_
    · intro s
      rw [s209_2]
      simp only [s209_0, s209_1, s209_3, s209_5, s209_8, s209_9, s209_11, s209_13, s209_16, s209_17, s209_20, s209_21, s209_22, s209_23, s209_24, s209_27, s209_28, s209_29, s209_30, s209_31, s209_32, s209_35, s209_38, s209_41, s209_44, ldi_0, ldi_s, ldl_0, ldl_s, ldd_0, ldd_s, lda_0, lda_s, st1_0, st1_1, st2_0, st2_1, sti_0, sti_1, stj_0, stj_1, st1_2, sti_2, st2_2, stj_2, st1_3, sti_3, st2_3, stj_3, st1_4, sti_4, st2_4, stj_4, st1_5, sti_5, st2_5, stj_5, st1_6, sti_6, st2_6, stj_6, st1_7, sti_7, st2_7, stj_7, st1_8, sti_8, st2_8, stj_8, st1_9, sti_9, st2_9, stj_9, kil_n, kil_i, kil_r, kil_l, kil_d, gl_0, gl_s, cat_i, cat_r, true_and]
      rw [br_1 (by decide), stD_end (fun a b ha => by rw [hG.z9 _ _ (Or.inl ha), hz _ _ (Or.inl ha)])]
      exact out_RR
    · intro s
      rw [s209_2]
      simp only [s209_0, s209_1, s209_3, s209_5, s209_8, s209_9, s209_11, s209_13, s209_16, s209_17, s209_20, s209_21, s209_22, s209_23, s209_24, s209_27, s209_28, s209_29, s209_30, s209_31, s209_32, s209_35, s209_38, s209_41, s209_44, ldi_0, ldi_s, ldl_0, ldl_s, ldd_0, ldd_s, lda_0, lda_s, st1_0, st1_1, st2_0, st2_1, sti_0, sti_1, stj_0, stj_1, st1_2, sti_2, st2_2, stj_2, st1_3, sti_3, st2_3, stj_3, st1_4, sti_4, st2_4, stj_4, st1_5, sti_5, st2_5, stj_5, st1_6, sti_6, st2_6, stj_6, st1_7, sti_7, st2_7, stj_7, st1_8, sti_8, st2_8, stj_8, st1_9, sti_9, st2_9, stj_9, kil_n, kil_i, kil_r, kil_l, kil_d, gl_0, gl_s, cat_i, cat_r, true_and]
      rw [nI_lit9, br_0 (nI_ge ha (by decide))]
      have inn : ∀ b, b ≤ 9 → aW (Sp 0) 209 0 0 (RR none (NF (tbS h (m + 40) G) m t t2 ns G th n) z) 10 [some (.ref m), some (.int (nI a)), some (.int (nI b))] [] (NF (tbS h (m + 40) (stD a b G X)) m t t2 ns G th n) z 0 0 := by
        refine aUp ?_ fun b hb ihb => ?_
        · rw [s209_10]
          simp only [s209_0, s209_1, s209_3, s209_5, s209_8, s209_9, s209_11, s209_13, s209_16, s209_17, s209_20, s209_21, s209_22, s209_23, s209_24, s209_27, s209_28, s209_29, s209_30, s209_31, s209_32, s209_35, s209_38, s209_41, s209_44, ldi_0, ldi_s, ldl_0, ldl_s, ldd_0, ldd_s, lda_0, lda_s, st1_0, st1_1, st2_0, st2_1, sti_0, sti_1, stj_0, stj_1, st1_2, sti_2, st2_2, stj_2, st1_3, sti_3, st2_3, stj_3, st1_4, sti_4, st2_4, stj_4, st1_5, sti_5, st2_5, stj_5, st1_6, sti_6, st2_6, stj_6, st1_7, sti_7, st2_7, stj_7, st1_8, sti_8, st2_8, stj_8, st1_9, sti_9, st2_9, stj_9, kil_n, kil_i, kil_r, kil_l, kil_d, gl_0, gl_s, cat_i, cat_r, true_and, nI_1]
          rw [br_1 (by decide), stD_row (fun b hb => by rw [hG.z9 _ _ (Or.inr hb), hz _ _ (Or.inr hb)])]
          exact ih _
        · rw [s209_10]
          simp only [s209_0, s209_1, s209_3, s209_5, s209_8, s209_9, s209_11, s209_13, s209_16, s209_17, s209_20, s209_21, s209_22, s209_23, s209_24, s209_27, s209_28, s209_29, s209_30, s209_31, s209_32, s209_35, s209_38, s209_41, s209_44, ldi_0, ldi_s, ldl_0, ldl_s, ldd_0, ldd_s, lda_0, lda_s, st1_0, st1_1, st2_0, st2_1, sti_0, sti_1, stj_0, stj_1, st1_2, sti_2, st2_2, stj_2, st1_3, sti_3, st2_3, stj_3, st1_4, sti_4, st2_4, stj_4, st1_5, sti_5, st2_5, stj_5, st1_6, sti_6, st2_6, stj_6, st1_7, sti_7, st2_7, stj_7, st1_8, sti_8, st2_8, stj_8, st1_9, sti_9, st2_9, stj_9, kil_n, kil_i, kil_r, kil_l, kil_d, gl_0, gl_s, cat_i, cat_r, true_and, NF_gf, nI_1, ald_tb (hG2 _) ha, ald_tr (hG2 _) ha hb, ald_tb (hA _) ha, nar_bI, ast_tr (hA _) ha hb, hU]
          rw [nI_lit9, br_0 (nI_ge hb (by decide)), stD_s]
          exact ihb
      exact inn 0 (by omega)
  have k0 := key 0 (by omega) none
  rw [stD_0 (fun a b h => absurd h (Nat.not_lt_zero a)), tbS_id hX] at k0
  exact k0
def wtM (n : Nat) (G : Nat → Nat → Bool) (a b k : Nat) : Bool := decide (atM n G (nI k).toInt64 = atM n (gCut a b G) (nI k).toInt64 - atM (n - 1) (gDel b (gMrg a b n (gCut a b G))) (nI k).toInt64)
theorem sp_isTorn (hB : MB h m t t2 SG) (hS : MS h m) (hG : GOK n G) {a b : Nat} (ha : a < n) (hb : b < n) (hab : a ≠ b) : Sp 14 208 [.ref m, .int (nI a), .int (nI b)] (NF h m t t2 ns G th n) z 0 0 (MR h m t t2 ns G SG th n z (some (.int (bI (alF (wtM n G a b) 10))))) := by
  have hT := hB.1
  have hn := hG.1
  have a9 : a < 9 := by omega
  have b9 : b < 9 := by omega
  have gC : GOK n (gCut a b G) := gCut_ok hG
  have gD : GOK (n - 1) (gDel b (gMrg a b n (gCut a b G))) := gDel_ok (gMrg_ok (a := a) (b := b) (k := n) gC ha) hb
  refine Sp_in (al := [some (.ref m), some (.int (nI a)), some (.int (nI b)), none, none, none, none, none]) ?_
  simp only [s208_0, s208_1, s208_3, s208_5, s208_8, s208_9, s208_10, s208_13, s208_14, s208_17, s208_18, s208_22, s208_24, s208_28, s208_29, s208_32, s208_33, s208_34, s208_35, s208_36, s208_37, s208_38, s208_41, s208_42, s208_43, s208_44, s208_45, s208_46, s208_47, s208_48, s208_51, s208_52, s208_55, s208_56, s208_60, s208_62, s208_63, s208_66, s208_67, s208_70, s208_71, s208_75, s208_77, s208_79, s208_80, s208_81, s208_84, s208_85, s208_88, s208_89, s208_90, s208_91, s208_95, s208_96, s208_97, s208_100, s208_101, s208_102, s208_105, s208_108, s208_109, ldi_0, ldi_s, ldl_0, ldl_s, ldd_0, ldd_s, lda_0, lda_s, st1_0, st1_1, st2_0, st2_1, sti_0, sti_1, stj_0, stj_1, st1_2, sti_2, st2_2, stj_2, st1_3, sti_3, st2_3, stj_3, st1_4, sti_4, st2_4, stj_4, st1_5, sti_5, st2_5, stj_5, st1_6, sti_6, st2_6, stj_6, st1_7, sti_7, st2_7, stj_7, st1_8, sti_8, st2_8, stj_8, st1_9, sti_9, st2_9, stj_9, kil_n, kil_i, kil_r, kil_l, kil_d, gl_0, gl_s, cat_i, cat_r, true_and]
  have key : ∀ k, k ≤ 10 → alF (wtM n G a b) k = true → ∀ H, MB H m t t2 SG → MS H m → Fr (m + 21) (m + 50) h H → ∀ b1 b2 b3 b4 : Option Value, aW (Sp 13) 208 0 0 (MR h m t t2 ns G SG th n z (some (.int (bI (alF (wtM n G a b) 10))))) 2 [some (.ref m), some (.int (nI a)), some (.int (nI b)), some (.int (nI k)), b1, b2, b3, b4] [] (NF H m t t2 ns G th n) z 0 0 := by
    refine aUp ?_ fun k hk ih => ?_
    · intro e H hB2 hS2 hF b1 b2 b3 b4
      rw [s208_2]
      simp only [s208_0, s208_1, s208_3, s208_5, s208_8, s208_9, s208_10, s208_13, s208_14, s208_17, s208_18, s208_22, s208_24, s208_28, s208_29, s208_32, s208_33, s208_34, s208_35, s208_36, s208_37, s208_38, s208_41, s208_42, s208_43, s208_44, s208_45, s208_46, s208_47, s208_48, s208_51, s208_52, s208_55, s208_56, s208_60, s208_62, s208_63, s208_66, s208_67, s208_70, s208_71, s208_75, s208_77, s208_79, s208_80, s208_81, s208_84, s208_85, s208_88, s208_89, s208_90, s208_91, s208_95, s208_96, s208_97, s208_100, s208_101, s208_102, s208_105, s208_108, s208_109, ldi_0, ldi_s, ldl_0, ldl_s, ldd_0, ldd_s, lda_0, lda_s, st1_0, st1_1, st2_0, st2_1, sti_0, sti_1, stj_0, stj_1, st1_2, sti_2, st2_2, stj_2, st1_3, sti_3, st2_3, stj_3, st1_4, sti_4, st2_4, stj_4, st1_5, sti_5, st2_5, stj_5, st1_6, sti_6, st2_6, stj_6, st1_7, sti_7, st2_7, stj_7, st1_8, sti_8, st2_8, stj_8, st1_9, sti_9, st2_9, stj_9, kil_n, kil_i, kil_r, kil_l, kil_d, gl_0, gl_s, cat_i, cat_r, true_and]
      rw [br_1 (by decide), e]
      exact ⟨by decide, by omega, by omega, rfl, rfl, H, rfl, hB2, hS2, hF⟩
    · intro e H hB2 hS2 hF b1 b2 b3 b4
      rw [s208_2]
      simp only [s208_0, s208_1, s208_3, s208_5, s208_8, s208_9, s208_10, s208_13, s208_14, s208_17, s208_18, s208_22, s208_24, s208_28, s208_29, s208_32, s208_33, s208_34, s208_35, s208_36, s208_37, s208_38, s208_41, s208_42, s208_43, s208_44, s208_45, s208_46, s208_47, s208_48, s208_51, s208_52, s208_55, s208_56, s208_60, s208_62, s208_63, s208_66, s208_67, s208_70, s208_71, s208_75, s208_77, s208_79, s208_80, s208_81, s208_84, s208_85, s208_88, s208_89, s208_90, s208_91, s208_95, s208_96, s208_97, s208_100, s208_101, s208_102, s208_105, s208_108, s208_109, ldi_0, ldi_s, ldl_0, ldl_s, ldd_0, ldd_s, lda_0, lda_s, st1_0, st1_1, st2_0, st2_1, sti_0, sti_1, stj_0, stj_1, st1_2, sti_2, st2_2, stj_2, st1_3, sti_3, st2_3, stj_3, st1_4, sti_4, st2_4, stj_4, st1_5, sti_5, st2_5, stj_5, st1_6, sti_6, st2_6, stj_6, st1_7, sti_7, st2_7, stj_7, st1_8, sti_8, st2_8, stj_8, st1_9, sti_9, st2_9, stj_9, kil_n, kil_i, kil_r, kil_l, kil_d, gl_0, gl_s, cat_i, cat_r, true_and, NF_gf]
      rw [nI_lit10, br_0 (nI_ge hk (by decide))]
      refine c208_19 NF_m (sp_roundedT (T := t) (X := G) (size := n) hB2 hS2 (fun h2 hb2 _ => NF_Tb hb2) hn) (by omega) (by omega) ?_
      rintro _ _ z ⟨rfl, rfl, H1, rfl, hB3, hS3, hF3⟩
      show aW (Sp 13) 208 0 0 _ 22 _ _ _ _ (0 + 0) (0 + 0)
      simp only [s208_0, s208_1, s208_3, s208_5, s208_8, s208_9, s208_10, s208_13, s208_14, s208_17, s208_18, s208_22, s208_24, s208_28, s208_29, s208_32, s208_33, s208_34, s208_35, s208_36, s208_37, s208_38, s208_41, s208_42, s208_43, s208_44, s208_45, s208_46, s208_47, s208_48, s208_51, s208_52, s208_55, s208_56, s208_60, s208_62, s208_63, s208_66, s208_67, s208_70, s208_71, s208_75, s208_77, s208_79, s208_80, s208_81, s208_84, s208_85, s208_88, s208_89, s208_90, s208_91, s208_95, s208_96, s208_97, s208_100, s208_101, s208_102, s208_105, s208_108, s208_109, ldi_0, ldi_s, ldl_0, ldl_s, ldd_0, ldd_s, lda_0, lda_s, st1_0, st1_1, st2_0, st2_1, sti_0, sti_1, stj_0, stj_1, st1_2, sti_2, st2_2, stj_2, st1_3, sti_3, st2_3, stj_3, st1_4, sti_4, st2_4, stj_4, st1_5, sti_5, st2_5, stj_5, st1_6, sti_6, st2_6, stj_6, st1_7, sti_7, st2_7, stj_7, st1_8, sti_8, st2_8, stj_8, st1_9, sti_9, st2_9, stj_9, kil_n, kil_i, kil_r, kil_l, kil_d, gl_0, gl_s, cat_i, cat_r, true_and, NF_gf]
      obtain ⟨X8, x8, d8⟩ := hS3.2.2.2.2.2.2.2
      refine c208_25r NF_m (sp_copies hB3 hG x8 d8) ?_
      have g1 : Fr (m + 21) (m + 50) h H1 := hF.trans (hF3.mono (by omega) (by omega))
      have hA : ∀ Y, Tb (NF (tbS H1 (m + 40) Y) m t t2 ns G th n) (m + 40) Y := fun Y => NF_TT hT (by omega) (tbS_Tb x8.1)
      have hU : ∀ Y Y', tbS (NF (tbS H1 (m + 40) Y) m t t2 ns G th n) (m + 40) Y' = NF (tbS H1 (m + 40) Y') m t t2 ns G th n := fun Y Y' => by rw [NF_tt hT (by omega), tbS_tbS]
      simp only [s208_0, s208_1, s208_3, s208_5, s208_8, s208_9, s208_10, s208_13, s208_14, s208_17, s208_18, s208_22, s208_24, s208_28, s208_29, s208_32, s208_33, s208_34, s208_35, s208_36, s208_37, s208_38, s208_41, s208_42, s208_43, s208_44, s208_45, s208_46, s208_47, s208_48, s208_51, s208_52, s208_55, s208_56, s208_60, s208_62, s208_63, s208_66, s208_67, s208_70, s208_71, s208_75, s208_77, s208_79, s208_80, s208_81, s208_84, s208_85, s208_88, s208_89, s208_90, s208_91, s208_95, s208_96, s208_97, s208_100, s208_101, s208_102, s208_105, s208_108, s208_109, ldi_0, ldi_s, ldl_0, ldl_s, ldd_0, ldd_s, lda_0, lda_s, st1_0, st1_1, st2_0, st2_1, sti_0, sti_1, stj_0, stj_1, st1_2, sti_2, st2_2, stj_2, st1_3, sti_3, st2_3, stj_3, st1_4, sti_4, st2_4, stj_4, st1_5, sti_5, st2_5, stj_5, st1_6, sti_6, st2_6, stj_6, st1_7, sti_7, st2_7, stj_7, st1_8, sti_8, st2_8, stj_8, st1_9, sti_9, st2_9, stj_9, kil_n, kil_i, kil_r, kil_l, kil_d, gl_0, gl_s, cat_i, cat_r, true_and, NF_gf, ald_tb (hA _) a9, ald_tb (hA _) b9, narF, ast_tr (hA _) a9 b9, ast_tr (hA _) b9 a9, hU, gCut_upd]
      have s4 := hS3.tab gC.z9
      have m4 : MB (tbS H1 (m + 40) (gCut a b G)) m t t2 SG := hB3.tt (by omega)
      have x4 : Tb (tbS H1 (m + 40) (gCut a b G)) (m + 40) (gCut a b G) := tbS_Tb x8.1
      have g4 : Fr (m + 21) (m + 50) h (tbS H1 (m + 40) (gCut a b G)) := g1.trans (s4.2.mono (by omega) (by omega))
      generalize tbS H1 (m + 40) (gCut a b G) = H2 at s4 m4 x4 g4 ⊢
      refine c208_57 NF_m (sp_roundedT (T := m + 40) (X := gCut a b G) (size := n) m4 s4.1 (fun h2 hb2 hf2 => NF_TT hT (by omega) (x4.fr fun q _ _ => hf2 q (by omega))) hn) (by omega) (by omega) ?_
      rintro _ _ z ⟨rfl, rfl, H3, rfl, hB5, hS5, hF5⟩
      show aW (Sp 13) 208 0 0 _ 60 _ _ _ _ (0 + 0) (0 + 0)
      have x5 : Tb H3 (m + 40) (gCut a b G) := x4.fr fun q _ _ => hF5 q (by omega)
      have g5 : Fr (m + 21) (m + 50) h H3 := g4.trans (hF5.mono (by omega) (by omega))
      simp only [s208_0, s208_1, s208_3, s208_5, s208_8, s208_9, s208_10, s208_13, s208_14, s208_17, s208_18, s208_22, s208_24, s208_28, s208_29, s208_32, s208_33, s208_34, s208_35, s208_36, s208_37, s208_38, s208_41, s208_42, s208_43, s208_44, s208_45, s208_46, s208_47, s208_48, s208_51, s208_52, s208_55, s208_56, s208_60, s208_62, s208_63, s208_66, s208_67, s208_70, s208_71, s208_75, s208_77, s208_79, s208_80, s208_81, s208_84, s208_85, s208_88, s208_89, s208_90, s208_91, s208_95, s208_96, s208_97, s208_100, s208_101, s208_102, s208_105, s208_108, s208_109, ldi_0, ldi_s, ldl_0, ldl_s, ldd_0, ldd_s, lda_0, lda_s, st1_0, st1_1, st2_0, st2_1, sti_0, sti_1, stj_0, stj_1, st1_2, sti_2, st2_2, stj_2, st1_3, sti_3, st2_3, stj_3, st1_4, sti_4, st2_4, stj_4, st1_5, sti_5, st2_5, stj_5, st1_6, sti_6, st2_6, stj_6, st1_7, sti_7, st2_7, stj_7, st1_8, sti_8, st2_8, stj_8, st1_9, sti_9, st2_9, stj_9, kil_n, kil_i, kil_r, kil_l, kil_d, gl_0, gl_s, cat_i, cat_r, true_and, NF_gf]
      refine c208_72r (sp_draws (NF_TT hT (by omega) x5) gC ha hb hab) ?_
      rw [NF_tt hT (by omega)]
      have s6 := hS5.tab gD.z9
      have m6 : MB (tbS H3 (m + 40) (gDel b (gMrg a b n (gCut a b G)))) m t t2 SG := hB5.tt (by omega)
      have x6 : Tb (tbS H3 (m + 40) (gDel b (gMrg a b n (gCut a b G)))) (m + 40) (gDel b (gMrg a b n (gCut a b G))) := tbS_Tb x5.1
      have g6 : Fr (m + 21) (m + 50) h (tbS H3 (m + 40) (gDel b (gMrg a b n (gCut a b G)))) := g5.trans (s6.2.mono (by omega) (by omega))
      generalize tbS H3 (m + 40) (gDel b (gMrg a b n (gCut a b G))) = H4 at s6 m6 x6 g6 ⊢
      simp only [s208_0, s208_1, s208_3, s208_5, s208_8, s208_9, s208_10, s208_13, s208_14, s208_17, s208_18, s208_22, s208_24, s208_28, s208_29, s208_32, s208_33, s208_34, s208_35, s208_36, s208_37, s208_38, s208_41, s208_42, s208_43, s208_44, s208_45, s208_46, s208_47, s208_48, s208_51, s208_52, s208_55, s208_56, s208_60, s208_62, s208_63, s208_66, s208_67, s208_70, s208_71, s208_75, s208_77, s208_79, s208_80, s208_81, s208_84, s208_85, s208_88, s208_89, s208_90, s208_91, s208_95, s208_96, s208_97, s208_100, s208_101, s208_102, s208_105, s208_108, s208_109, ldi_0, ldi_s, ldl_0, ldl_s, ldd_0, ldd_s, lda_0, lda_s, st1_0, st1_1, st2_0, st2_1, sti_0, sti_1, stj_0, stj_1, st1_2, sti_2, st2_2, stj_2, st1_3, sti_3, st2_3, stj_3, st1_4, sti_4, st2_4, stj_4, st1_5, sti_5, st2_5, stj_5, st1_6, sti_6, st2_6, stj_6, st1_7, sti_7, st2_7, stj_7, st1_8, sti_8, st2_8, stj_8, st1_9, sti_9, st2_9, stj_9, kil_n, kil_i, kil_r, kil_l, kil_d, gl_0, gl_s, cat_i, cat_r, true_and, NF_gf]
      rw [nI_lit1, pk_sub (show 1 ≤ n by omega)]
      refine c208_92 NF_m (sp_roundedT (T := m + 40) (X := gDel b (gMrg a b n (gCut a b G))) (size := n - 1) m6 s6.1 (fun h2 hb2 hf2 => NF_TT hT (by omega) (x6.fr fun q _ _ => hf2 q (by omega))) (by omega)) (by omega) (by omega) ?_
      rintro _ _ z ⟨rfl, rfl, H5, rfl, hB7, hS7, hF7⟩
      show aW (Sp 13) 208 0 0 _ 95 _ _ _ _ (0 + 0) (0 + 0)
      have g7 : Fr (m + 21) (m + 50) h H5 := g6.trans (hF7.mono (by omega) (by omega))
      simp only [s208_0, s208_1, s208_3, s208_5, s208_8, s208_9, s208_10, s208_13, s208_14, s208_17, s208_18, s208_22, s208_24, s208_28, s208_29, s208_32, s208_33, s208_34, s208_35, s208_36, s208_37, s208_38, s208_41, s208_42, s208_43, s208_44, s208_45, s208_46, s208_47, s208_48, s208_51, s208_52, s208_55, s208_56, s208_60, s208_62, s208_63, s208_66, s208_67, s208_70, s208_71, s208_75, s208_77, s208_79, s208_80, s208_81, s208_84, s208_85, s208_88, s208_89, s208_90, s208_91, s208_95, s208_96, s208_97, s208_100, s208_101, s208_102, s208_105, s208_108, s208_109, ldi_0, ldi_s, ldl_0, ldl_s, ldd_0, ldd_s, lda_0, lda_s, st1_0, st1_1, st2_0, st2_1, sti_0, sti_1, stj_0, stj_1, st1_2, sti_2, st2_2, stj_2, st1_3, sti_3, st2_3, stj_3, st1_4, sti_4, st2_4, stj_4, st1_5, sti_5, st2_5, stj_5, st1_6, sti_6, st2_6, stj_6, st1_7, sti_7, st2_7, stj_7, st1_8, sti_8, st2_8, stj_8, st1_9, sti_9, st2_9, stj_9, kil_n, kil_i, kil_r, kil_l, kil_d, gl_0, gl_s, cat_i, cat_r, true_and, lg_cmp_eq, nI_1]
      have ec : alF (wtM n G a b) (k + 1) = wtM n G a b k := by
        show (alF (wtM n G a b) k && wtM n G a b k) = _
        rw [e, Bool.true_and]
      refine ⟨fun h1 => ?_, fun h1 => ?_⟩
      · exact ih (by rw [ec]; exact decide_eq_true h1) H5 hB7 hS7 g7 _ _ _ _
      · exact ⟨by decide, by omega, by omega, by rw [alF_f (i := k + 1) (by rw [ec]; exact decide_eq_false h1) (show k + 1 ≤ 10 from hk)]; rfl, rfl, H5, rfl, hB7, hS7, g7⟩
  exact key 0 (by omega) rfl h hB hS Fr.refl none none none none
def cnM (n : Nat) (G : Nat → Nat → Bool) (k : Nat) : Bool := decide (atM n G (nI k).toInt64 = (pnm n G k).toInt64)
def dhM (n : Nat) (G : Nat → Nat → Bool) (d : Nat) : Bool := decide (10 < wys G n) || decide (absL (atM n G (-1)) = (nI d).toInt64)
def fmB (n : Nat) (G : Nat → Nat → Bool) (a : Nat) (els : Bool) : Nat → Bool
  | 0 => els
  | i + 1 => if G a (n - (i + 1)) then alF (wtM n G a (n - (i + 1))) 10 else fmB n G a els i
def fmA (n : Nat) (G : Nat → Nat → Bool) : Nat → Bool
  | 0 => true
  | j + 1 => fmB n G (n - (j + 1)) (fmA n G j) j
def fhM (n : Nat) (G : Nat → Nat → Bool) : Bool := !decide (decide (¬ pnm n G 2 ≤ 0) = ohr G n n) && decide (n ≤ fsp (ptm G n) n n * mxS n G false (2 ^ n)) && decide (mxS n G true (2 ^ n) ≤ fsp (ptm G n) n n) && decide (fsp (ptm G n) n n ≤ mxR (colF G) n)
def itM (n : Nat) (G : Nat → Nat → Bool) (pc d : Nat) : Bool := amF (cofM G n) n (wys G n) pc && (alF (cnM n G) 4 && (dhM n G d && (fmA n G n && fhM n G)))
theorem sp_mpaintB (hB : MB h m t t2 SG) (hS : MS h m) (hn : n ≤ 9) {k : Nat} (hk : k < 2 ^ 30) : Sp 10 125 [.ref m, .int (nI 0), .int (nI k)] (NF h m t t2 ns G th n) z 0 0 (MR h m t t2 ns G SG th n z (some (.int (pnm n G k)))) := by
  obtain ⟨S, e⟩ := hS.2.2.1
  rw [QH_e e]
  exact Sp_conseq (QtR_MR hB hS) (sp_mpaint0 hB hn hk)
theorem sp_inRowB (hB : MB h m t t2 SG) (hS : MS h m) {p : Nat} (hp : p < 9) : Sp 1 135 [.ref m, .int (nI p)] (NF h m t t2 ns G th n) z 0 0 (MR h m t t2 ns G SG th n z (some (.int (nI (colF G p))))) := by
  obtain ⟨S, e⟩ := hS.2.2.1
  rw [QH_e e]
  refine Sp_conseq ?_ (sp_inRow_m hB hp)
  rintro _ _ _ ⟨rfl, rfl, rfl⟩
  have k := hS.row (a := m + 24) (R := stg S (colF G) (p + 1)) (Or.inr rfl)
  exact ⟨rfl, rfl, _, rfl, hB.sc (by omega), k.1, k.2⟩
theorem sp_mtail (hB : MB h m t t2 SG) (hS : MS h m) (hG : GOK n G) {f : Value} {b3 b4 : Option Value} : aW (Sp 22) 206 0 0 (MR h m t t2 ns G SG th n z (some (.int (bI (fhM n G))))) 141 [some (.ref m), some f, kil b3, kil b4, none] [] (NF h m t t2 ns G th n) z 0 0 := by
  have hT := hB.1
  have hn := hG.1
  have hfs := fsp_le (R := ptm G n) (n := n) n
  have hm1 := mxS_le (n := n) (G := G) (w := false) (2 ^ n)
  have hm2 := mxS_le (n := n) (G := G) (w := true) (2 ^ n)
  obtain ⟨⟨S, a1⟩, ⟨C, a2, a3⟩, -⟩ := hS.2.1
  simp only [s206_0, s206_4, s206_7, s206_8, s206_9, s206_10, s206_12, s206_13, s206_16, s206_17, s206_18, s206_21, s206_22, s206_25, s206_26, s206_30, s206_31, s206_32, s206_36, s206_37, s206_38, s206_41, s206_42, s206_43, s206_46, s206_49, s206_53, s206_55, s206_58, s206_62, s206_66, s206_67, s206_68, s206_71, s206_72, s206_73, s206_74, s206_75, s206_76, s206_78, s206_79, s206_82, s206_85, s206_86, s206_89, s206_90, s206_91, s206_92, s206_94, s206_95, s206_98, s206_101, s206_102, s206_105, s206_106, s206_109, s206_110, s206_111, s206_112, s206_113, s206_114, s206_115, s206_118, s206_119, s206_120, s206_124, s206_127, s206_128, s206_129, s206_132, s206_135, s206_138, s206_141, s206_145, s206_146, s206_147, s206_148, s206_149, s206_153, s206_154, s206_157, s206_160, s206_161, s206_166, s206_167, s206_170, s206_171, s206_176, s206_177, s206_178, s206_181, s206_182, s206_183, s206_186, s206_189, s206_193, s206_197, s206_200, s206_201, s206_204, s206_205, s206_209, s206_210, s206_213, s206_214, s206_218, s206_221, s206_222, s206_223, s206_226, s206_227, s206_230, s206_231, ldi_0, ldi_s, ldl_0, ldl_s, ldd_0, ldd_s, lda_0, lda_s, st1_0, st1_1, st2_0, st2_1, sti_0, sti_1, stj_0, stj_1, st1_2, sti_2, st2_2, stj_2, st1_3, sti_3, st2_3, stj_3, st1_4, sti_4, st2_4, stj_4, st1_5, sti_5, st2_5, stj_5, st1_6, sti_6, st2_6, stj_6, st1_7, sti_7, st2_7, stj_7, st1_8, sti_8, st2_8, stj_8, st1_9, sti_9, st2_9, stj_9, kil_n, kil_i, kil_r, kil_l, kil_d, gl_0, gl_s, cat_i, cat_r, true_and]
  refine c206_142 NF_m (sp_mfewest hB hn a1 a2 a3) (by omega) (by omega) ?_
  intro o h' z' hq
  obtain ⟨rfl, rfl, H1, rfl, hB1, hS1, g1⟩ := CtR_MR hB hS hn o h' z' hq
  show aW (Sp 22) 206 0 0 _ 145 _ _ _ _ (0 + 0) (0 + 0)
  simp only [s206_0, s206_4, s206_7, s206_8, s206_9, s206_10, s206_12, s206_13, s206_16, s206_17, s206_18, s206_21, s206_22, s206_25, s206_26, s206_30, s206_31, s206_32, s206_36, s206_37, s206_38, s206_41, s206_42, s206_43, s206_46, s206_49, s206_53, s206_55, s206_58, s206_62, s206_66, s206_67, s206_68, s206_71, s206_72, s206_73, s206_74, s206_75, s206_76, s206_78, s206_79, s206_82, s206_85, s206_86, s206_89, s206_90, s206_91, s206_92, s206_94, s206_95, s206_98, s206_101, s206_102, s206_105, s206_106, s206_109, s206_110, s206_111, s206_112, s206_113, s206_114, s206_115, s206_118, s206_119, s206_120, s206_124, s206_127, s206_128, s206_129, s206_132, s206_135, s206_138, s206_141, s206_145, s206_146, s206_147, s206_148, s206_149, s206_153, s206_154, s206_157, s206_160, s206_161, s206_166, s206_167, s206_170, s206_171, s206_176, s206_177, s206_178, s206_181, s206_182, s206_183, s206_186, s206_189, s206_193, s206_197, s206_200, s206_201, s206_204, s206_205, s206_209, s206_210, s206_213, s206_214, s206_218, s206_221, s206_222, s206_223, s206_226, s206_227, s206_230, s206_231, ldi_0, ldi_s, ldl_0, ldl_s, ldd_0, ldd_s, lda_0, lda_s, st1_0, st1_1, st2_0, st2_1, sti_0, sti_1, stj_0, stj_1, st1_2, sti_2, st2_2, stj_2, st1_3, sti_3, st2_3, stj_3, st1_4, sti_4, st2_4, stj_4, st1_5, sti_5, st2_5, stj_5, st1_6, sti_6, st2_6, stj_6, st1_7, sti_7, st2_7, stj_7, st1_8, sti_8, st2_8, stj_8, st1_9, sti_9, st2_9, stj_9, kil_n, kil_i, kil_r, kil_l, kil_d, gl_0, gl_s, cat_i, cat_r, true_and]
  have col : ∀ p, p ≤ n → ∀ H, MB H m t t2 SG → MS H m → Fr (m + 21) (m + 50) h H → aW (Sp 22) 206 0 0 (MR h m t t2 ns G SG th n z' (some (.int (bI (fhM n G))))) 151 [some (.ref m), kil (some f), some (.int (nI (fsp (ptm G n) n n))), some (.int (nI (mxR (colF G) p))), some (.int (nI p))] [] (NF H m t t2 ns G th n) z' (0 + 0) (0 + 0) := by
    refine aUp ?_ fun p hp ih => ?_
    · intro H hB2 hS2 g2
      have hc10 := mxR_le (R := colF G) n fun q hq => Nat.le_trans (colF_le q) (by omega)
      rw [s206_151]
      simp only [s206_0, s206_4, s206_7, s206_8, s206_9, s206_10, s206_12, s206_13, s206_16, s206_17, s206_18, s206_21, s206_22, s206_25, s206_26, s206_30, s206_31, s206_32, s206_36, s206_37, s206_38, s206_41, s206_42, s206_43, s206_46, s206_49, s206_53, s206_55, s206_58, s206_62, s206_66, s206_67, s206_68, s206_71, s206_72, s206_73, s206_74, s206_75, s206_76, s206_78, s206_79, s206_82, s206_85, s206_86, s206_89, s206_90, s206_91, s206_92, s206_94, s206_95, s206_98, s206_101, s206_102, s206_105, s206_106, s206_109, s206_110, s206_111, s206_112, s206_113, s206_114, s206_115, s206_118, s206_119, s206_120, s206_124, s206_127, s206_128, s206_129, s206_132, s206_135, s206_138, s206_141, s206_145, s206_146, s206_147, s206_148, s206_149, s206_153, s206_154, s206_157, s206_160, s206_161, s206_166, s206_167, s206_170, s206_171, s206_176, s206_177, s206_178, s206_181, s206_182, s206_183, s206_186, s206_189, s206_193, s206_197, s206_200, s206_201, s206_204, s206_205, s206_209, s206_210, s206_213, s206_214, s206_218, s206_221, s206_222, s206_223, s206_226, s206_227, s206_230, s206_231, ldi_0, ldi_s, ldl_0, ldl_s, ldd_0, ldd_s, lda_0, lda_s, st1_0, st1_1, st2_0, st2_1, sti_0, sti_1, stj_0, stj_1, st1_2, sti_2, st2_2, stj_2, st1_3, sti_3, st2_3, stj_3, st1_4, sti_4, st2_4, stj_4, st1_5, sti_5, st2_5, stj_5, st1_6, sti_6, st2_6, stj_6, st1_7, sti_7, st2_7, stj_7, st1_8, sti_8, st2_8, stj_8, st1_9, sti_9, st2_9, stj_9, kil_n, kil_i, kil_r, kil_l, kil_d, gl_0, gl_s, cat_i, cat_r, true_and, NF_gf]
      rw [br_1 (nI_le (Nat.le_refl _) (by omega))]
      obtain ⟨S2, e2⟩ := hS2.2.2.1
      refine c206_190 NF_m (sp_misTwo hB2 hn e2) (by omega) (by omega) ?_
      intro o h' z'' hq
      obtain ⟨rfl, rfl, H3, rfl, hB3, hS3, g3⟩ := QtR_MR hB2 hS2 o h' z'' hq
      show aW (Sp 22) 206 0 0 _ 193 _ _ _ _ (0 + 0) (0 + 0)
      have out : ∀ v, MR h m t t2 ns G SG th n z'' (some (.int v)) (.inl (some (.int v))) (NF H3 m t t2 ns G th n) z'' := fun v => ⟨rfl, rfl, H3, rfl, hB3, hS3, g2.trans g3⟩
      simp only [s206_0, s206_4, s206_7, s206_8, s206_9, s206_10, s206_12, s206_13, s206_16, s206_17, s206_18, s206_21, s206_22, s206_25, s206_26, s206_30, s206_31, s206_32, s206_36, s206_37, s206_38, s206_41, s206_42, s206_43, s206_46, s206_49, s206_53, s206_55, s206_58, s206_62, s206_66, s206_67, s206_68, s206_71, s206_72, s206_73, s206_74, s206_75, s206_76, s206_78, s206_79, s206_82, s206_85, s206_86, s206_89, s206_90, s206_91, s206_92, s206_94, s206_95, s206_98, s206_101, s206_102, s206_105, s206_106, s206_109, s206_110, s206_111, s206_112, s206_113, s206_114, s206_115, s206_118, s206_119, s206_120, s206_124, s206_127, s206_128, s206_129, s206_132, s206_135, s206_138, s206_141, s206_145, s206_146, s206_147, s206_148, s206_149, s206_153, s206_154, s206_157, s206_160, s206_161, s206_166, s206_167, s206_170, s206_171, s206_176, s206_177, s206_178, s206_181, s206_182, s206_183, s206_186, s206_189, s206_193, s206_197, s206_200, s206_201, s206_204, s206_205, s206_209, s206_210, s206_213, s206_214, s206_218, s206_221, s206_222, s206_223, s206_226, s206_227, s206_230, s206_231, ldi_0, ldi_s, ldl_0, ldl_s, ldd_0, ldd_s, lda_0, lda_s, st1_0, st1_1, st2_0, st2_1, sti_0, sti_1, stj_0, stj_1, st1_2, sti_2, st2_2, stj_2, st1_3, sti_3, st2_3, stj_3, st1_4, sti_4, st2_4, stj_4, st1_5, sti_5, st2_5, stj_5, st1_6, sti_6, st2_6, stj_6, st1_7, sti_7, st2_7, stj_7, st1_8, sti_8, st2_8, stj_8, st1_9, sti_9, st2_9, stj_9, kil_n, kil_i, kil_r, kil_l, kil_d, gl_0, gl_s, cat_i, cat_r, true_and]
      refine c206_194r NF_m (sp_hasOddRing hB3 hn) ?_
      simp only [s206_0, s206_4, s206_7, s206_8, s206_9, s206_10, s206_12, s206_13, s206_16, s206_17, s206_18, s206_21, s206_22, s206_25, s206_26, s206_30, s206_31, s206_32, s206_36, s206_37, s206_38, s206_41, s206_42, s206_43, s206_46, s206_49, s206_53, s206_55, s206_58, s206_62, s206_66, s206_67, s206_68, s206_71, s206_72, s206_73, s206_74, s206_75, s206_76, s206_78, s206_79, s206_82, s206_85, s206_86, s206_89, s206_90, s206_91, s206_92, s206_94, s206_95, s206_98, s206_101, s206_102, s206_105, s206_106, s206_109, s206_110, s206_111, s206_112, s206_113, s206_114, s206_115, s206_118, s206_119, s206_120, s206_124, s206_127, s206_128, s206_129, s206_132, s206_135, s206_138, s206_141, s206_145, s206_146, s206_147, s206_148, s206_149, s206_153, s206_154, s206_157, s206_160, s206_161, s206_166, s206_167, s206_170, s206_171, s206_176, s206_177, s206_178, s206_181, s206_182, s206_183, s206_186, s206_189, s206_193, s206_197, s206_200, s206_201, s206_204, s206_205, s206_209, s206_210, s206_213, s206_214, s206_218, s206_221, s206_222, s206_223, s206_226, s206_227, s206_230, s206_231, ldi_0, ldi_s, ldl_0, ldl_s, ldd_0, ldd_s, lda_0, lda_s, st1_0, st1_1, st2_0, st2_1, sti_0, sti_1, stj_0, stj_1, st1_2, sti_2, st2_2, stj_2, st1_3, sti_3, st2_3, stj_3, st1_4, sti_4, st2_4, stj_4, st1_5, sti_5, st2_5, stj_5, st1_6, sti_6, st2_6, stj_6, st1_7, sti_7, st2_7, stj_7, st1_8, sti_8, st2_8, stj_8, st1_9, sti_9, st2_9, stj_9, kil_n, kil_i, kil_r, kil_l, kil_d, gl_0, gl_s, cat_i, cat_r, true_and, NF_gf, bI_inj]
      unfold fhM
      refine ⟨fun h1 => ?_, fun h1 => ?_⟩
      · rw [decide_eq_true h1]
        exact ⟨by decide, by omega, by omega, out _⟩
      · rw [decide_eq_false h1, Bool.not_false, Bool.true_and]
        refine c206_206r NF_m (sp_mapart hB3 hn) ?_
        have hprod : fsp (ptm G n) n n * mxS n G false (2 ^ n) ≤ 9 * 9 := Nat.mul_le_mul (by omega) (by omega)
        simp only [s206_0, s206_4, s206_7, s206_8, s206_9, s206_10, s206_12, s206_13, s206_16, s206_17, s206_18, s206_21, s206_22, s206_25, s206_26, s206_30, s206_31, s206_32, s206_36, s206_37, s206_38, s206_41, s206_42, s206_43, s206_46, s206_49, s206_53, s206_55, s206_58, s206_62, s206_66, s206_67, s206_68, s206_71, s206_72, s206_73, s206_74, s206_75, s206_76, s206_78, s206_79, s206_82, s206_85, s206_86, s206_89, s206_90, s206_91, s206_92, s206_94, s206_95, s206_98, s206_101, s206_102, s206_105, s206_106, s206_109, s206_110, s206_111, s206_112, s206_113, s206_114, s206_115, s206_118, s206_119, s206_120, s206_124, s206_127, s206_128, s206_129, s206_132, s206_135, s206_138, s206_141, s206_145, s206_146, s206_147, s206_148, s206_149, s206_153, s206_154, s206_157, s206_160, s206_161, s206_166, s206_167, s206_170, s206_171, s206_176, s206_177, s206_178, s206_181, s206_182, s206_183, s206_186, s206_189, s206_193, s206_197, s206_200, s206_201, s206_204, s206_205, s206_209, s206_210, s206_213, s206_214, s206_218, s206_221, s206_222, s206_223, s206_226, s206_227, s206_230, s206_231, ldi_0, ldi_s, ldl_0, ldl_s, ldd_0, ldd_s, lda_0, lda_s, st1_0, st1_1, st2_0, st2_1, sti_0, sti_1, stj_0, stj_1, st1_2, sti_2, st2_2, stj_2, st1_3, sti_3, st2_3, stj_3, st1_4, sti_4, st2_4, stj_4, st1_5, sti_5, st2_5, stj_5, st1_6, sti_6, st2_6, stj_6, st1_7, sti_7, st2_7, stj_7, st1_8, sti_8, st2_8, stj_8, st1_9, sti_9, st2_9, stj_9, kil_n, kil_i, kil_r, kil_l, kil_d, gl_0, gl_s, cat_i, cat_r, true_and, NF_gf, pk_mul]
        rw [nI_ltI (by omega) (by omega)]
        refine ⟨fun h2 => ?_, fun h2 => ?_⟩
        · rw [decide_eq_false (show ¬ n ≤ fsp (ptm G n) n n * mxS n G false (2 ^ n) by omega)]
          exact ⟨by decide, by omega, by omega, out _⟩
        · rw [decide_eq_true (show n ≤ fsp (ptm G n) n n * mxS n G false (2 ^ n) by omega), Bool.true_and]
          refine c206_215r NF_m (sp_mtogether hB3 hn) ?_
          simp only [s206_0, s206_4, s206_7, s206_8, s206_9, s206_10, s206_12, s206_13, s206_16, s206_17, s206_18, s206_21, s206_22, s206_25, s206_26, s206_30, s206_31, s206_32, s206_36, s206_37, s206_38, s206_41, s206_42, s206_43, s206_46, s206_49, s206_53, s206_55, s206_58, s206_62, s206_66, s206_67, s206_68, s206_71, s206_72, s206_73, s206_74, s206_75, s206_76, s206_78, s206_79, s206_82, s206_85, s206_86, s206_89, s206_90, s206_91, s206_92, s206_94, s206_95, s206_98, s206_101, s206_102, s206_105, s206_106, s206_109, s206_110, s206_111, s206_112, s206_113, s206_114, s206_115, s206_118, s206_119, s206_120, s206_124, s206_127, s206_128, s206_129, s206_132, s206_135, s206_138, s206_141, s206_145, s206_146, s206_147, s206_148, s206_149, s206_153, s206_154, s206_157, s206_160, s206_161, s206_166, s206_167, s206_170, s206_171, s206_176, s206_177, s206_178, s206_181, s206_182, s206_183, s206_186, s206_189, s206_193, s206_197, s206_200, s206_201, s206_204, s206_205, s206_209, s206_210, s206_213, s206_214, s206_218, s206_221, s206_222, s206_223, s206_226, s206_227, s206_230, s206_231, ldi_0, ldi_s, ldl_0, ldl_s, ldd_0, ldd_s, lda_0, lda_s, st1_0, st1_1, st2_0, st2_1, sti_0, sti_1, stj_0, stj_1, st1_2, sti_2, st2_2, stj_2, st1_3, sti_3, st2_3, stj_3, st1_4, sti_4, st2_4, stj_4, st1_5, sti_5, st2_5, stj_5, st1_6, sti_6, st2_6, stj_6, st1_7, sti_7, st2_7, stj_7, st1_8, sti_8, st2_8, stj_8, st1_9, sti_9, st2_9, stj_9, kil_n, kil_i, kil_r, kil_l, kil_d, gl_0, gl_s, cat_i, cat_r, true_and, NF_gf]
          rw [nI_ltI (by omega) (by omega)]
          refine ⟨fun h3 => ?_, fun h3 => ?_⟩
          · rw [decide_eq_false (show ¬ mxS n G true (2 ^ n) ≤ fsp (ptm G n) n n by omega)]
            exact ⟨by decide, by omega, by omega, out _⟩
          · rw [decide_eq_true (show mxS n G true (2 ^ n) ≤ fsp (ptm G n) n n by omega), Bool.true_and, nI_ltI (by omega) (by omega)]
            refine ⟨fun h4 => ?_, fun h4 => ?_⟩
            · rw [decide_eq_false (show ¬ fsp (ptm G n) n n ≤ mxR (colF G) n by omega)]
              exact ⟨by decide, by omega, by omega, out _⟩
            · rw [decide_eq_true (show fsp (ptm G n) n n ≤ mxR (colF G) n by omega)]
              exact ⟨by decide, by omega, by omega, out _⟩
    · intro H hB2 hS2 g2
      have hc10 := mxR_le (R := colF G) p fun q hq => Nat.le_trans (colF_le q) (by omega)
      have hcp := colF_le (G := G) p
      rw [s206_151]
      simp only [s206_0, s206_4, s206_7, s206_8, s206_9, s206_10, s206_12, s206_13, s206_16, s206_17, s206_18, s206_21, s206_22, s206_25, s206_26, s206_30, s206_31, s206_32, s206_36, s206_37, s206_38, s206_41, s206_42, s206_43, s206_46, s206_49, s206_53, s206_55, s206_58, s206_62, s206_66, s206_67, s206_68, s206_71, s206_72, s206_73, s206_74, s206_75, s206_76, s206_78, s206_79, s206_82, s206_85, s206_86, s206_89, s206_90, s206_91, s206_92, s206_94, s206_95, s206_98, s206_101, s206_102, s206_105, s206_106, s206_109, s206_110, s206_111, s206_112, s206_113, s206_114, s206_115, s206_118, s206_119, s206_120, s206_124, s206_127, s206_128, s206_129, s206_132, s206_135, s206_138, s206_141, s206_145, s206_146, s206_147, s206_148, s206_149, s206_153, s206_154, s206_157, s206_160, s206_161, s206_166, s206_167, s206_170, s206_171, s206_176, s206_177, s206_178, s206_181, s206_182, s206_183, s206_186, s206_189, s206_193, s206_197, s206_200, s206_201, s206_204, s206_205, s206_209, s206_210, s206_213, s206_214, s206_218, s206_221, s206_222, s206_223, s206_226, s206_227, s206_230, s206_231, ldi_0, ldi_s, ldl_0, ldl_s, ldd_0, ldd_s, lda_0, lda_s, st1_0, st1_1, st2_0, st2_1, sti_0, sti_1, stj_0, stj_1, st1_2, sti_2, st2_2, stj_2, st1_3, sti_3, st2_3, stj_3, st1_4, sti_4, st2_4, stj_4, st1_5, sti_5, st2_5, stj_5, st1_6, sti_6, st2_6, stj_6, st1_7, sti_7, st2_7, stj_7, st1_8, sti_8, st2_8, stj_8, st1_9, sti_9, st2_9, stj_9, kil_n, kil_i, kil_r, kil_l, kil_d, gl_0, gl_s, cat_i, cat_r, true_and, NF_gf]
      rw [br_0 (nI_ge hp (by omega))]
      refine c206_163 NF_m (sp_inRowB hB2 hS2 (show p < 9 by omega)) (by omega) (by omega) ?_
      rintro _ _ z ⟨rfl, rfl, H3, rfl, hB3, hS3, g3⟩
      show aW (Sp 22) 206 0 0 _ 166 _ _ _ _ (0 + 0) (0 + 0)
      simp only [s206_0, s206_4, s206_7, s206_8, s206_9, s206_10, s206_12, s206_13, s206_16, s206_17, s206_18, s206_21, s206_22, s206_25, s206_26, s206_30, s206_31, s206_32, s206_36, s206_37, s206_38, s206_41, s206_42, s206_43, s206_46, s206_49, s206_53, s206_55, s206_58, s206_62, s206_66, s206_67, s206_68, s206_71, s206_72, s206_73, s206_74, s206_75, s206_76, s206_78, s206_79, s206_82, s206_85, s206_86, s206_89, s206_90, s206_91, s206_92, s206_94, s206_95, s206_98, s206_101, s206_102, s206_105, s206_106, s206_109, s206_110, s206_111, s206_112, s206_113, s206_114, s206_115, s206_118, s206_119, s206_120, s206_124, s206_127, s206_128, s206_129, s206_132, s206_135, s206_138, s206_141, s206_145, s206_146, s206_147, s206_148, s206_149, s206_153, s206_154, s206_157, s206_160, s206_161, s206_166, s206_167, s206_170, s206_171, s206_176, s206_177, s206_178, s206_181, s206_182, s206_183, s206_186, s206_189, s206_193, s206_197, s206_200, s206_201, s206_204, s206_205, s206_209, s206_210, s206_213, s206_214, s206_218, s206_221, s206_222, s206_223, s206_226, s206_227, s206_230, s206_231, ldi_0, ldi_s, ldl_0, ldl_s, ldd_0, ldd_s, lda_0, lda_s, st1_0, st1_1, st2_0, st2_1, sti_0, sti_1, stj_0, stj_1, st1_2, sti_2, st2_2, stj_2, st1_3, sti_3, st2_3, stj_3, st1_4, sti_4, st2_4, stj_4, st1_5, sti_5, st2_5, stj_5, st1_6, sti_6, st2_6, stj_6, st1_7, sti_7, st2_7, stj_7, st1_8, sti_8, st2_8, stj_8, st1_9, sti_9, st2_9, stj_9, kil_n, kil_i, kil_r, kil_l, kil_d, gl_0, gl_s, cat_i, cat_r, true_and]
      rw [nI_ltI (by omega) (by omega)]
      have em : mxR (colF G) (p + 1) = max (mxR (colF G) p) (colF G p + 1) := rfl
      refine ⟨fun h1 => ?_, fun h1 => ?_⟩
      · simp only [nI_1]
        rw [em, Nat.max_eq_left (by omega)] at ih
        exact ih H3 hB3 hS3 (g2.trans g3)
      · refine c206_173 NF_m (sp_inRowB hB3 hS3 (show p < 9 by omega)) (by omega) (by omega) ?_
        rintro _ _ z ⟨rfl, rfl, H4, rfl, hB4, hS4, g4⟩
        show aW (Sp 22) 206 0 0 _ 176 _ _ _ _ (0 + 0) (0 + 0)
        simp only [s206_0, s206_4, s206_7, s206_8, s206_9, s206_10, s206_12, s206_13, s206_16, s206_17, s206_18, s206_21, s206_22, s206_25, s206_26, s206_30, s206_31, s206_32, s206_36, s206_37, s206_38, s206_41, s206_42, s206_43, s206_46, s206_49, s206_53, s206_55, s206_58, s206_62, s206_66, s206_67, s206_68, s206_71, s206_72, s206_73, s206_74, s206_75, s206_76, s206_78, s206_79, s206_82, s206_85, s206_86, s206_89, s206_90, s206_91, s206_92, s206_94, s206_95, s206_98, s206_101, s206_102, s206_105, s206_106, s206_109, s206_110, s206_111, s206_112, s206_113, s206_114, s206_115, s206_118, s206_119, s206_120, s206_124, s206_127, s206_128, s206_129, s206_132, s206_135, s206_138, s206_141, s206_145, s206_146, s206_147, s206_148, s206_149, s206_153, s206_154, s206_157, s206_160, s206_161, s206_166, s206_167, s206_170, s206_171, s206_176, s206_177, s206_178, s206_181, s206_182, s206_183, s206_186, s206_189, s206_193, s206_197, s206_200, s206_201, s206_204, s206_205, s206_209, s206_210, s206_213, s206_214, s206_218, s206_221, s206_222, s206_223, s206_226, s206_227, s206_230, s206_231, ldi_0, ldi_s, ldl_0, ldl_s, ldd_0, ldd_s, lda_0, lda_s, st1_0, st1_1, st2_0, st2_1, sti_0, sti_1, stj_0, stj_1, st1_2, sti_2, st2_2, stj_2, st1_3, sti_3, st2_3, stj_3, st1_4, sti_4, st2_4, stj_4, st1_5, sti_5, st2_5, stj_5, st1_6, sti_6, st2_6, stj_6, st1_7, sti_7, st2_7, stj_7, st1_8, sti_8, st2_8, stj_8, st1_9, sti_9, st2_9, stj_9, kil_n, kil_i, kil_r, kil_l, kil_d, gl_0, gl_s, cat_i, cat_r, true_and, nI_1]
        rw [em, Nat.max_eq_right (by omega)] at ih
        exact ih H4 hB4 hS4 ((g2.trans g3).trans g4)
  exact col 0 (by omega) H1 hB1 hS1 g1
end MTrue
