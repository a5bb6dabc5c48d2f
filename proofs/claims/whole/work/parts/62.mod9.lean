/-! ColourmapModel: the reference's arrays; value, bits, sign, digit, rest, compare -/
/-- all arrays and tables that the reference works with -/
def MS (h : AH) (m : Nat) : Prop := (∃ R, h (m + 21) = some (na 9 R)) ∧ ScA h m ∧ (∃ S, h (m + 24) = some (na 9 S)) ∧ (∃ R, h (m + 27) = some (na 100 R)) ∧ (∃ R, h (m + 28) = some (na 100 R)) ∧ (∃ R, h (m + 29) = some (na 100 R)) ∧ (∃ X, Tb h (m + 30) X ∧ ∀ p, X p p = false) ∧ (∃ X, Tb h (m + 40) X ∧ ∀ a b, 9 ≤ a ∨ 9 ≤ b → X a b = false)
def MR (h : AH) (m t t2 ns : Nat) (G SG : Nat → Nat → Bool) (th : Int32) (n z : Nat) (v : Option Value) : AP := fun o h' z' => o = .inl v ∧ z' = z ∧ ∃ h2, h' = NF h2 m t t2 ns G th n ∧ MB h2 m t t2 SG ∧ MS h2 m ∧ Fr (m + 21) (m + 50) h h2
section Mod9
variable {h h2 : AH} {m t t2 ns n z : Nat} {G SG : Nat → Nat → Bool} {th : Int32} {S R T : Nat → Nat} {C F D : Nat → Int64}
theorem ScA.fr (hA : ScA h m) (hf : ∀ q, m + 22 ≤ q → q < m + 27 → q ≠ m + 24 → h2 q = h q) : ScA h2 m := by
  obtain ⟨⟨S, a1⟩, ⟨C, a2, a3⟩, ⟨D, a4, a5⟩, ⟨F, a6, a7⟩⟩ := hA
  exact ⟨⟨S, (hf _ (by omega) (by omega) (by omega)).trans a1⟩, ⟨C, (hf _ (by omega) (by omega) (by omega)).trans a2, a3⟩, ⟨D, (hf _ (by omega) (by omega) (by omega)).trans a4, a5⟩, ⟨F, (hf _ (by omega) (by omega) (by omega)).trans a6, a7⟩⟩
theorem MS.row {a : Nat} {R : Nat → Nat} (hS : MS h m) (ha : a = m + 21 ∨ a = m + 24) : MS (hup h a (na 9 R)) m ∧ Fr (m + 21) (m + 50) h (hup h a (na 9 R)) := by
  obtain ⟨⟨R1, s1⟩, s2, ⟨R3, s3⟩, ⟨R4, s4⟩, ⟨R5, s5⟩, ⟨R6, s6⟩, ⟨X7, s7, d7⟩, ⟨X8, s8, d8⟩⟩ := hS
  refine ⟨⟨?_, s2.fr fun q _ _ _ => hup_ne (by omega), ?_, ⟨R4, by rw [hup_ne (by omega)]; exact s4⟩, ⟨R5, by rw [hup_ne (by omega)]; exact s5⟩, ⟨R6, by rw [hup_ne (by omega)]; exact s6⟩, ⟨X7, s7.fr fun q _ _ => hup_ne (by omega), d7⟩, ⟨X8, s8.fr fun q _ _ => hup_ne (by omega), d8⟩⟩, Fr.hup (by omega) (by omega)⟩
  · rcases ha with rfl | rfl
    · exact ⟨R, hup_same⟩
    · exact ⟨R1, by rw [hup_ne (by omega)]; exact s1⟩
  · rcases ha with rfl | rfl
    · exact ⟨R3, by rw [hup_ne (by omega)]; exact s3⟩
    · exact ⟨R, hup_same⟩
theorem MS.big {a : Nat} {R : Nat → Nat} (hS : MS h m) (ha : a = m + 27 ∨ a = m + 28 ∨ a = m + 29) : MS (hup h a (na 100 R)) m ∧ Fr (m + 21) (m + 50) h (hup h a (na 100 R)) := by
  obtain ⟨⟨R1, s1⟩, s2, ⟨R3, s3⟩, ⟨R4, s4⟩, ⟨R5, s5⟩, ⟨R6, s6⟩, ⟨X7, s7, d7⟩, ⟨X8, s8, d8⟩⟩ := hS
  refine ⟨⟨⟨R1, by rw [hup_ne (by omega)]; exact s1⟩, s2.fr fun q _ _ _ => hup_ne (by omega), ⟨R3, by rw [hup_ne (by omega)]; exact s3⟩, ?_, ?_, ?_, ⟨X7, s7.fr fun q _ _ => hup_ne (by omega), d7⟩, ⟨X8, s8.fr fun q _ _ => hup_ne (by omega), d8⟩⟩, Fr.hup (by omega) (by omega)⟩
  · rcases ha with rfl | rfl | rfl
    · exact ⟨R, hup_same⟩
    · exact ⟨R4, by rw [hup_ne (by omega)]; exact s4⟩
    · exact ⟨R4, by rw [hup_ne (by omega)]; exact s4⟩
  · rcases ha with rfl | rfl | rfl
    · exact ⟨R5, by rw [hup_ne (by omega)]; exact s5⟩
    · exact ⟨R, hup_same⟩
    · exact ⟨R5, by rw [hup_ne (by omega)]; exact s5⟩
  · rcases ha with rfl | rfl | rfl
    · exact ⟨R6, by rw [hup_ne (by omega)]; exact s6⟩
    · exact ⟨R6, by rw [hup_ne (by omega)]; exact s6⟩
    · exact ⟨R, hup_same⟩
/-- the base under XH's heap -/
def XC (h : AH) (m : Nat) (S : Nat → Nat) (C F D : Nat → Int64) : AH := hup (hup (XB h m F D) (m + 22) (na 9 S)) (m + 23) (la 10 C)
theorem XH_base : XH h m t t2 ns G th n S C F D = NF (XC h m S C F D) m t t2 ns G th n := rfl
theorem XC_Fr : Fr (m + 22) (m + 27) h (XC h m S C F D) := by
  intro q hq
  unfold XC XB
  rw [hup_ne (by omega), hup_ne (by omega), hup_ne (by omega), hup_ne (by omega)]
theorem XC_A (hC : ∀ q, 10 ≤ q → C q = 0) (hD : ∀ q, 10 ≤ q → D q = 0) (hF : ∀ q, 11 ≤ q → F q = 0) : ScA (XC h m S C F D) m := by
  unfold XC XB
  refine ⟨⟨S, by rw [hup_ne (by omega), hup_same]⟩, ⟨C, hup_same, hC⟩, ⟨D, by rw [hup_ne (by omega), hup_ne (by omega), hup_same], hD⟩, ⟨F, by rw [hup_ne (by omega), hup_ne (by omega), hup_ne (by omega), hup_same], hF⟩⟩
theorem MB.xc (hB : MB h m t t2 SG) : MB (XC h m S C F D) m t t2 SG := (hB.xb.sc (by omega)).sc (by omega)
theorem MS.xc (hS : MS h m) (hC : ∀ q, 10 ≤ q → C q = 0) (hD : ∀ q, 10 ≤ q → D q = 0) (hF : ∀ q, 11 ≤ q → F q = 0) : MS (XC h m S C F D) m ∧ Fr (m + 21) (m + 50) h (XC h m S C F D) := by
  obtain ⟨⟨R1, s1⟩, s2, ⟨R3, s3⟩, ⟨R4, s4⟩, ⟨R5, s5⟩, ⟨R6, s6⟩, ⟨X7, s7, d7⟩, ⟨X8, s8, d8⟩⟩ := hS
  have f : Fr (m + 22) (m + 27) h (XC h m S C F D) := XC_Fr
  refine ⟨⟨⟨R1, (f _ (by omega)).trans s1⟩, XC_A hC hD hF, ⟨R3, ?_⟩, ⟨R4, (f _ (by omega)).trans s4⟩, ⟨R5, (f _ (by omega)).trans s5⟩, ⟨R6, (f _ (by omega)).trans s6⟩, ⟨X7, s7.fr fun q _ _ => f q (by omega), d7⟩, ⟨X8, s8.fr fun q _ _ => f q (by omega), d8⟩⟩, f.mono (by omega) (by omega)⟩
  unfold XC XB
  rw [hup_ne (by omega), hup_ne (by omega), hup_ne (by omega), hup_ne (by omega)]
  exact s3
theorem ctL_big (hn : n ≤ 9) : ∀ q, 10 ≤ q → ctL G n q = 0 := by
  intro q hq
  rw [ctL_e]
  have gen : ∀ (j p u : Nat) (S : Nat → Nat), u + j < q → prm G j p u S q = 0 := by
    intro j
    induction j with
    | zero =>
      intro p u S h1
      show (if q = u then 1 else 0) = 0
      rw [if_neg (by omega)]
    | succ j ih =>
      intro p u S h1
      refine sumV_z _ fun s hs => ?_
      split
      · exact ih _ _ _ (by split <;> omega)
      · rfl
  show lN (prm G n 0 0 (fun _ => 0) q) = 0
  rw [gen n 0 0 _ (by omega)]
  rfl
theorem cofM_big (hn : n ≤ 9) : ∀ q, 10 ≤ q → cofM G n q = 0 := (exS_big hn _).1
theorem ExP_MR {v : Option Value} (hB : MB h m t t2 SG) (hS : MS h m) (hn : n ≤ 9) : ∀ o h' z', ExP h m t t2 ns G th n z (ctL G n) (cofM G n) v o h' z' → MR h m t t2 ns G SG th n z v o h' z' := by
  rintro _ _ _ ⟨rfl, rfl, S', F', hF', rfl⟩
  have k := hS.xc (S := S') (F := F') (C := ctL G n) (D := cofM G n) (ctL_big hn) (cofM_big hn) hF'
  exact ⟨rfl, rfl, _, XH_base, hB.xc, k.1, k.2⟩
theorem PH_xc (hS : ScA h m) : ∃ F D, (∀ q, 10 ≤ q → D q = 0) ∧ (∀ q, 11 ≤ q → F q = 0) ∧ XB h m F D = h := by
  obtain ⟨⟨S, a1⟩, ⟨C, a2, a3⟩, ⟨D, a4, a5⟩, ⟨F, a6, a7⟩⟩ := hS
  refine ⟨F, D, a5, a7, ?_⟩
  unfold XB
  rw [hup_id a6, hup_id a4]
theorem CtR_MR {v : Option Value} (hB : MB h m t t2 SG) (hS : MS h m) (hn : n ≤ 9) : ∀ o h' z', CtR h m t t2 ns G th n z (ctL G n) v o h' z' → MR h m t t2 ns G SG th n z v o h' z' := by
  rintro _ _ _ ⟨rfl, rfl, S', rfl⟩
  obtain ⟨F, D, f1, f2, f3⟩ := PH_xc hS.2.1
  have k := hS.xc (S := S') (F := F) (C := ctL G n) (D := D) (ctL_big hn) f1 f2
  have e : XC h m S' (ctL G n) F D = hup (hup h (m + 22) (na 9 S')) (m + 23) (la 10 (ctL G n)) := by
    unfold XC
    rw [f3]
  rw [e] at k
  exact ⟨rfl, rfl, _, rfl, (hB.sc (by omega)).sc (by omega), k.1, k.2⟩
theorem QtR_MR {v : Option Value} (hB : MB h m t t2 SG) (hS : MS h m) : ∀ o h' z', QtR h m t t2 ns G th n z v o h' z' → MR h m t t2 ns G SG th n z v o h' z' := by
  rintro _ _ _ ⟨rfl, rfl, S', rfl⟩
  have k := hS.row (a := m + 24) (R := S') (Or.inr rfl)
  exact ⟨rfl, rfl, _, rfl, hB.sc (by omega), k.1, k.2⟩
theorem RR_MR {v : Option Value} (hB : MB h m t t2 SG) (hS : MS h m) : ∀ o h' z', RR v (NF h m t t2 ns G th n) z o h' z' → MR h m t t2 ns G SG th n z v o h' z' := by
  rintro _ _ _ ⟨rfl, rfl, rfl⟩
  exact ⟨rfl, rfl, h, rfl, hB, hS, Fr.refl⟩
/-- the base under ZH's heap -/
def ZB (h : AH) (m : Nat) (S : Nat → Nat) (C F D : Nat → Int64) (R T : Nat → Nat) : AH := XC (RB h m R T) m S C F D
theorem ZH_base : ZH h m t t2 ns G th n S C F D R T = NF (ZB h m S C F D R T) m t t2 ns G th n := rfl
theorem MB.zb (hB : MB h m t t2 SG) : MB (ZB h m S C F D R T) m t t2 SG := hB.rb.xc
theorem MS.zb (hS : MS h m) (hC : ∀ q, 10 ≤ q → C q = 0) (hD : ∀ q, 10 ≤ q → D q = 0) (hF : ∀ q, 11 ≤ q → F q = 0) : MS (ZB h m S C F D R T) m ∧ Fr (m + 21) (m + 50) h (ZB h m S C F D R T) := by
  have k1 := hS.big (a := m + 27) (R := R) (Or.inl rfl)
  have k2 := k1.1.big (a := m + 28) (R := T) (Or.inr (Or.inl rfl))
  have k3 := k2.1.xc (S := S) hC hD hF
  exact ⟨k3.1, k1.2.trans (k2.2.trans k3.2)⟩
theorem RkP_MR {V : Nat} {v : Option Value} (hB : MB h m t t2 SG) (hS : MS h m) (hn : n ≤ 9) : ∀ o h' z', RkP h m t t2 ns G th n z (ctL G n) (cofM G n) V v o h' z' → MR h m t t2 ns G SG th n z v o h' z' := by
  rintro _ _ _ ⟨rfl, rfl, S', F', R, T, hF', hR, rfl⟩
  have k := hS.zb (S := S') (F := F') (R := R) (T := T) (C := ctL G n) (D := cofM G n) (ctL_big hn) (cofM_big hn) hF'
  exact ⟨rfl, rfl, _, ZH_base, hB.zb, k.1, k.2⟩
/-- what reckons does for k: V and its sign -/
def RkH (m t t2 ns : Nat) (G SG : Nat → Nat → Bool) (n : Nat) (k : Int32) (V : Nat) (sg : Int32) : Prop := ∀ (h : AH) (th : Int32) (z : Nat), MB h m t t2 SG → MS h m → Sp 13 157 [.ref m, .int k] (NF h m t t2 ns G th n) z 0 0 (RkP h m t t2 ns G th n z (ctL G n) (cofM G n) V (some (.int (if V = 0 then 0 else sg))))
theorem sp_msign {k sg : Int32} {V : Nat} (hr : RkH m t t2 ns G SG n k V sg) (hB : MB h m t t2 SG) (hS : MS h m) : Sp 20 172 [.ref m, .int k] (NF h m t t2 ns G th n) z 0 0 (RkP h m t t2 ns G th n z (ctL G n) (cofM G n) V (some (.int (if V = 0 then 0 else sg)))) := by
  refine Sp_in (al := [some (.ref m), some (.int k)]) ?_
  simp only [s172_0, s172_1, s172_5, ldi_0, ldi_s, ldl_0, ldl_s, ldd_0, ldd_s, lda_0, lda_s, st1_0, st1_1, st2_0, st2_1, sti_0, sti_1, stj_0, stj_1, st1_2, sti_2, st2_2, stj_2, st1_3, sti_3, st2_3, stj_3, st1_4, sti_4, st2_4, stj_4, st1_5, sti_5, st2_5, stj_5, st1_6, sti_6, st2_6, stj_6, st1_7, sti_7, st2_7, stj_7, st1_8, sti_8, st2_8, stj_8, st1_9, sti_9, st2_9, stj_9, kil_n, kil_i, kil_r, kil_l, kil_d, gl_0, gl_s, cat_i, cat_r, true_and]
  refine c172_2 NF_m (hr h th z hB hS) (by omega) (by omega) ?_
  rintro _ _ z ⟨rfl, rfl, S', F', R, T, hF', hR, rfl⟩
  show aW (Sp 19) 172 0 0 _ 5 _ _ _ _ _ _
  simp only [s172_0, s172_1, s172_5, ldi_0, ldi_s, ldl_0, ldl_s, ldd_0, ldd_s, lda_0, lda_s, st1_0, st1_1, st2_0, st2_1, sti_0, sti_1, stj_0, stj_1, st1_2, sti_2, st2_2, stj_2, st1_3, sti_3, st2_3, stj_3, st1_4, sti_4, st2_4, stj_4, st1_5, sti_5, st2_5, stj_5, st1_6, sti_6, st2_6, stj_6, st1_7, sti_7, st2_7, stj_7, st1_8, sti_8, st2_8, stj_8, st1_9, sti_9, st2_9, stj_9, kil_n, kil_i, kil_r, kil_l, kil_d, gl_0, gl_s, cat_i, cat_r, true_and]
  exact ⟨by omega, by omega, rfl, rfl, S', F', R, T, hF', hR, rfl⟩
theorem sp_mdigit {k sg : Int32} {V : Nat} (hr : RkH m t t2 ns G SG n k V sg) (hB : MB h m t t2 SG) (hS : MS h m) {d : Nat} (hd : d < 100) : Sp 20 176 [.ref m, .int k, .int (nI d)] (NF h m t t2 ns G th n) z 0 0 (RkP h m t t2 ns G 0 n z (ctL G n) (cofM G n) V (some (.int (nI (dgN V d))))) := by
  have hT := hB.1
  refine Sp_in (al := [some (.ref m), some (.int k), some (.int (nI d)), none]) ?_
  simp only [s176_0, s176_1, s176_2, s176_5, s176_6, s176_7, s176_8, s176_13, s176_16, s176_17, s176_20, s176_21, s176_25, s176_28, s176_29, s176_30, s176_31, s176_35, s176_36, s176_37, s176_40, s176_41, s176_42, ldi_0, ldi_s, ldl_0, ldl_s, ldd_0, ldd_s, lda_0, lda_s, st1_0, st1_1, st2_0, st2_1, sti_0, sti_1, stj_0, stj_1, st1_2, sti_2, st2_2, stj_2, st1_3, sti_3, st2_3, stj_3, st1_4, sti_4, st2_4, stj_4, st1_5, sti_5, st2_5, stj_5, st1_6, sti_6, st2_6, stj_6, st1_7, sti_7, st2_7, stj_7, st1_8, sti_8, st2_8, stj_8, st1_9, sti_9, st2_9, stj_9, kil_n, kil_i, kil_r, kil_l, kil_d, gl_0, gl_s, cat_i, cat_r, true_and, NF_th]
  refine c176_10r sp_in ?_
  have e : decide (¬ nI d < 0 ∧ ¬ (99 : Int32) < nI d) = true := by
    rw [decide_eq_true_eq]
    exact ⟨nI_pos (by omega), nI_nlt (show d ≤ 99 by omega) (by decide)⟩
  simp only [s176_0, s176_1, s176_2, s176_5, s176_6, s176_7, s176_8, s176_13, s176_16, s176_17, s176_20, s176_21, s176_25, s176_28, s176_29, s176_30, s176_31, s176_35, s176_36, s176_37, s176_40, s176_41, s176_42, ldi_0, ldi_s, ldl_0, ldl_s, ldd_0, ldd_s, lda_0, lda_s, st1_0, st1_1, st2_0, st2_1, sti_0, sti_1, stj_0, stj_1, st1_2, sti_2, st2_2, stj_2, st1_3, sti_3, st2_3, stj_3, st1_4, sti_4, st2_4, stj_4, st1_5, sti_5, st2_5, stj_5, st1_6, sti_6, st2_6, stj_6, st1_7, sti_7, st2_7, stj_7, st1_8, sti_8, st2_8, stj_8, st1_9, sti_9, st2_9, stj_9, kil_n, kil_i, kil_r, kil_l, kil_d, gl_0, gl_s, cat_i, cat_r, true_and]
  rw [e, br_1 (by decide)]
  refine c176_22r NF_m (sp_throws_f NF_m) ?_
  simp only [s176_0, s176_1, s176_2, s176_5, s176_6, s176_7, s176_8, s176_13, s176_16, s176_17, s176_20, s176_21, s176_25, s176_28, s176_29, s176_30, s176_31, s176_35, s176_36, s176_37, s176_40, s176_41, s176_42, ldi_0, ldi_s, ldl_0, ldl_s, ldd_0, ldd_s, lda_0, lda_s, st1_0, st1_1, st2_0, st2_1, sti_0, sti_1, stj_0, stj_1, st1_2, sti_2, st2_2, stj_2, st1_3, sti_3, st2_3, stj_3, st1_4, sti_4, st2_4, stj_4, st1_5, sti_5, st2_5, stj_5, st1_6, sti_6, st2_6, stj_6, st1_7, sti_7, st2_7, stj_7, st1_8, sti_8, st2_8, stj_8, st1_9, sti_9, st2_9, stj_9, kil_n, kil_i, kil_r, kil_l, kil_d, gl_0, gl_s, cat_i, cat_r, true_and]
  rw [br_1 (by decide)]
  refine c176_32 NF_m (hr h 0 z hB hS) (by omega) (by omega) ?_
  rintro _ _ z ⟨rfl, rfl, S', F', R, T, hF', hR, rfl⟩
  show aW (Sp 19) 176 0 0 _ 35 _ _ _ _ _ _
  simp only [s176_0, s176_1, s176_2, s176_5, s176_6, s176_7, s176_8, s176_13, s176_16, s176_17, s176_20, s176_21, s176_25, s176_28, s176_29, s176_30, s176_31, s176_35, s176_36, s176_37, s176_40, s176_41, s176_42, ldi_0, ldi_s, ldl_0, ldl_s, ldd_0, ldd_s, lda_0, lda_s, st1_0, st1_1, st2_0, st2_1, sti_0, sti_1, stj_0, stj_1, st1_2, sti_2, st2_2, stj_2, st1_3, sti_3, st2_3, stj_3, st1_4, sti_4, st2_4, stj_4, st1_5, sti_5, st2_5, stj_5, st1_6, sti_6, st2_6, stj_6, st1_7, sti_7, st2_7, stj_7, st1_8, sti_8, st2_8, stj_8, st1_9, sti_9, st2_9, stj_9, kil_n, kil_i, kil_r, kil_l, kil_d, gl_0, gl_s, cat_i, cat_r, true_and, ZH_gf, ald_na (ZH_R hT) hd]
  exact ⟨by omega, by omega, by rw [hR d hd], rfl, S', F', R, T, hF', hR, rfl⟩
theorem sp_mdigit_no {k p : Int32} (hp : p < 0 ∨ ¬ p < 100) : Sp 20 176 [.ref m, .int k, .int p] (NF h m t t2 ns G th n) z 0 0 (RR (some (.int 0)) (NF h m t t2 ns G 1 n) z) := by
  refine Sp_in (al := [some (.ref m), some (.int k), some (.int p), none]) ?_
  simp only [s176_0, s176_1, s176_2, s176_5, s176_6, s176_7, s176_8, s176_13, s176_16, s176_17, s176_20, s176_21, s176_25, s176_28, s176_29, s176_30, s176_31, s176_35, s176_36, s176_37, s176_40, s176_41, s176_42, ldi_0, ldi_s, ldl_0, ldl_s, ldd_0, ldd_s, lda_0, lda_s, st1_0, st1_1, st2_0, st2_1, sti_0, sti_1, stj_0, stj_1, st1_2, sti_2, st2_2, stj_2, st1_3, sti_3, st2_3, stj_3, st1_4, sti_4, st2_4, stj_4, st1_5, sti_5, st2_5, stj_5, st1_6, sti_6, st2_6, stj_6, st1_7, sti_7, st2_7, stj_7, st1_8, sti_8, st2_8, stj_8, st1_9, sti_9, st2_9, stj_9, kil_n, kil_i, kil_r, kil_l, kil_d, gl_0, gl_s, cat_i, cat_r, true_and, NF_th]
  refine c176_10r sp_in ?_
  have e : decide (¬ p < 0 ∧ ¬ (99 : Int32) < p) = false := by
    rw [decide_eq_false_iff_not]
    rintro ⟨h1, h2⟩
    rcases hp with h3 | h3
    · exact h1 h3
    · apply h3
      rw [Int32.lt_iff_toInt_lt] at h2 ⊢
      rw [show (99 : Int32).toInt = 99 from rfl] at h2
      rw [show (100 : Int32).toInt = 100 from rfl]
      omega
  simp only [s176_0, s176_1, s176_2, s176_5, s176_6, s176_7, s176_8, s176_13, s176_16, s176_17, s176_20, s176_21, s176_25, s176_28, s176_29, s176_30, s176_31, s176_35, s176_36, s176_37, s176_40, s176_41, s176_42, ldi_0, ldi_s, ldl_0, ldl_s, ldd_0, ldd_s, lda_0, lda_s, st1_0, st1_1, st2_0, st2_1, sti_0, sti_1, stj_0, stj_1, st1_2, sti_2, st2_2, stj_2, st1_3, sti_3, st2_3, stj_3, st1_4, sti_4, st2_4, stj_4, st1_5, sti_5, st2_5, stj_5, st1_6, sti_6, st2_6, stj_6, st1_7, sti_7, st2_7, stj_7, st1_8, sti_8, st2_8, stj_8, st1_9, sti_9, st2_9, stj_9, kil_n, kil_i, kil_r, kil_l, kil_d, gl_0, gl_s, cat_i, cat_r, true_and]
  rw [e, br_0 (by decide)]
  refine c176_22r NF_m sp_throws_t ?_
  simp only [s176_0, s176_1, s176_2, s176_5, s176_6, s176_7, s176_8, s176_13, s176_16, s176_17, s176_20, s176_21, s176_25, s176_28, s176_29, s176_30, s176_31, s176_35, s176_36, s176_37, s176_40, s176_41, s176_42, ldi_0, ldi_s, ldl_0, ldl_s, ldd_0, ldd_s, lda_0, lda_s, st1_0, st1_1, st2_0, st2_1, sti_0, sti_1, stj_0, stj_1, st1_2, sti_2, st2_2, stj_2, st1_3, sti_3, st2_3, stj_3, st1_4, sti_4, st2_4, stj_4, st1_5, sti_5, st2_5, stj_5, st1_6, sti_6, st2_6, stj_6, st1_7, sti_7, st2_7, stj_7, st1_8, sti_8, st2_8, stj_8, st1_9, sti_9, st2_9, stj_9, kil_n, kil_i, kil_r, kil_l, kil_d, gl_0, gl_s, cat_i, cat_r, true_and]
  rw [br_0 (by decide)]
  exact out_RR
/-- how many binary digits, of a number below 2 ^ f -/
def blN : Nat → Nat → Nat
  | 0, _ => 0
  | f + 1, V => if V = 0 then 0 else blN f (V / 2) + 1
theorem blN_le (f : Nat) : ∀ V, blN f V ≤ f := by
  induction f with
  | zero => exact fun _ => Nat.le_refl _
  | succ f ih =>
    intro V
    unfold blN
    split
    · exact Nat.zero_le _
    · have := ih (V / 2)
      omega
theorem half_step (Y : Nat) : (10 * (Y / 10 % 2) + Y % 10) / 2 = Y / 2 % 10 ∧ (10 * (Y / 10 % 2) + Y % 10) % 2 = Y % 2 := by omega
theorem sp_mbits {k sg : Int32} {V : Nat} (hr : RkH m t t2 ns G SG n k V sg) (hB : MB h m t t2 SG) (hS : MS h m) (hV : V < 10 ^ 100) : Sp 20 169 [.ref m, .int k] (NF h m t t2 ns G th n) z 0 0 (RkP h m t t2 ns G th n z (ctL G n) (cofM G n) 0 (some (.int (nI (blN 333 V))))) := by
  have hT := hB.1
  refine Sp_in (al := [some (.ref m), some (.int k), none, none, none, none]) ?_
  simp only [s169_0, s169_1, s169_5, s169_6, s169_7, s169_9, s169_15, s169_18, s169_19, s169_21, s169_23, s169_27, s169_30, s169_32, s169_34, s169_35, s169_36, s169_39, s169_41, s169_42, s169_43, s169_45, s169_46, s169_49, s169_51, s169_53, s169_54, s169_55, s169_56, s169_58, s169_59, s169_60, s169_62, s169_65, s169_68, s169_71, s169_74, s169_75, ldi_0, ldi_s, ldl_0, ldl_s, ldd_0, ldd_s, lda_0, lda_s, st1_0, st1_1, st2_0, st2_1, sti_0, sti_1, stj_0, stj_1, st1_2, sti_2, st2_2, stj_2, st1_3, sti_3, st2_3, stj_3, st1_4, sti_4, st2_4, stj_4, st1_5, sti_5, st2_5, stj_5, st1_6, sti_6, st2_6, stj_6, st1_7, sti_7, st2_7, stj_7, st1_8, sti_8, st2_8, stj_8, st1_9, sti_9, st2_9, stj_9, kil_n, kil_i, kil_r, kil_l, kil_d, gl_0, gl_s, cat_i, cat_r, true_and]
  refine c169_2 NF_m (hr h th z hB hS) (by omega) (by omega) ?_
  rintro _ _ z ⟨rfl, rfl, S', F', R, T, hF', hR, rfl⟩
  show aW (Sp 19) 169 0 0 _ 5 _ _ _ _ (0 + 0) (0 + 0)
  simp only [s169_0, s169_1, s169_5, s169_6, s169_7, s169_9, s169_15, s169_18, s169_19, s169_21, s169_23, s169_27, s169_30, s169_32, s169_34, s169_35, s169_36, s169_39, s169_41, s169_42, s169_43, s169_45, s169_46, s169_49, s169_51, s169_53, s169_54, s169_55, s169_56, s169_58, s169_59, s169_60, s169_62, s169_65, s169_68, s169_71, s169_74, s169_75, ldi_0, ldi_s, ldl_0, ldl_s, ldd_0, ldd_s, lda_0, lda_s, st1_0, st1_1, st2_0, st2_1, sti_0, sti_1, stj_0, stj_1, st1_2, sti_2, st2_2, stj_2, st1_3, sti_3, st2_3, stj_3, st1_4, sti_4, st2_4, stj_4, st1_5, sti_5, st2_5, stj_5, st1_6, sti_6, st2_6, stj_6, st1_7, sti_7, st2_7, stj_7, st1_8, sti_8, st2_8, stj_8, st1_9, sti_9, st2_9, stj_9, kil_n, kil_i, kil_r, kil_l, kil_d, gl_0, gl_s, cat_i, cat_r, true_and]
  have main : ∀ f W c R, W < 2 ^ f → W < 10 ^ 100 → DG R W → c + blN f W = blN 333 V → ∀ b1 b2 : Option Value, aW (Sp 19) 169 0 0 (RkP h m t t2 ns G th n z (ctL G n) (cofM G n) 0 (some (.int (nI (blN 333 V))))) 8 [some (.ref m), some (.int k), some (.int (if V = 0 then 0 else sg)), some (.int (nI c)), kil b1, b2] [] (ZH h m t t2 ns G th n S' (ctL G n) F' (cofM G n) R T) z (0 + 0) (0 + 0) := by
    intro f
    induction f with
    | zero =>
      intro W c R hW hW2 hR e b1 b2
      have hW0 : W = 0 := by
        rw [Nat.pow_zero] at hW
        omega
      subst hW0
      rw [s169_8]
      simp only [s169_0, s169_1, s169_5, s169_6, s169_7, s169_9, s169_15, s169_18, s169_19, s169_21, s169_23, s169_27, s169_30, s169_32, s169_34, s169_35, s169_36, s169_39, s169_41, s169_42, s169_43, s169_45, s169_46, s169_49, s169_51, s169_53, s169_54, s169_55, s169_56, s169_58, s169_59, s169_60, s169_62, s169_65, s169_68, s169_71, s169_74, s169_75, ldi_0, ldi_s, ldl_0, ldl_s, ldd_0, ldd_s, lda_0, lda_s, st1_0, st1_1, st2_0, st2_1, sti_0, sti_1, stj_0, stj_1, st1_2, sti_2, st2_2, stj_2, st1_3, sti_3, st2_3, stj_3, st1_4, sti_4, st2_4, stj_4, st1_5, sti_5, st2_5, stj_5, st1_6, sti_6, st2_6, stj_6, st1_7, sti_7, st2_7, stj_7, st1_8, sti_8, st2_8, stj_8, st1_9, sti_9, st2_9, stj_9, kil_n, kil_i, kil_r, kil_l, kil_d, gl_0, gl_s, cat_i, cat_r, true_and, ZH_gf]
      refine c169_12r (sp_isZero (ZH_R hT) (fun i hi => by have := hR.le hi; omega)) ?_
      rw [zrN_z hR hW2]
      simp only [s169_0, s169_1, s169_5, s169_6, s169_7, s169_9, s169_15, s169_18, s169_19, s169_21, s169_23, s169_27, s169_30, s169_32, s169_34, s169_35, s169_36, s169_39, s169_41, s169_42, s169_43, s169_45, s169_46, s169_49, s169_51, s169_53, s169_54, s169_55, s169_56, s169_58, s169_59, s169_60, s169_62, s169_65, s169_68, s169_71, s169_74, s169_75, ldi_0, ldi_s, ldl_0, ldl_s, ldd_0, ldd_s, lda_0, lda_s, st1_0, st1_1, st2_0, st2_1, sti_0, sti_1, stj_0, stj_1, st1_2, sti_2, st2_2, stj_2, st1_3, sti_3, st2_3, stj_3, st1_4, sti_4, st2_4, stj_4, st1_5, sti_5, st2_5, stj_5, st1_6, sti_6, st2_6, stj_6, st1_7, sti_7, st2_7, stj_7, st1_8, sti_8, st2_8, stj_8, st1_9, sti_9, st2_9, stj_9, kil_n, kil_i, kil_r, kil_l, kil_d, gl_0, gl_s, cat_i, cat_r, true_and]
      rw [br_1 (by decide)]
      exact ⟨by omega, by omega, by rw [← e]; rfl, rfl, S', F', R, T, hF', hR, rfl⟩
    | succ f ih =>
      intro W c R hW hW2 hR e b1 b2
      rw [s169_8]
      simp only [s169_0, s169_1, s169_5, s169_6, s169_7, s169_9, s169_15, s169_18, s169_19, s169_21, s169_23, s169_27, s169_30, s169_32, s169_34, s169_35, s169_36, s169_39, s169_41, s169_42, s169_43, s169_45, s169_46, s169_49, s169_51, s169_53, s169_54, s169_55, s169_56, s169_58, s169_59, s169_60, s169_62, s169_65, s169_68, s169_71, s169_74, s169_75, ldi_0, ldi_s, ldl_0, ldl_s, ldd_0, ldd_s, lda_0, lda_s, st1_0, st1_1, st2_0, st2_1, sti_0, sti_1, stj_0, stj_1, st1_2, sti_2, st2_2, stj_2, st1_3, sti_3, st2_3, stj_3, st1_4, sti_4, st2_4, stj_4, st1_5, sti_5, st2_5, stj_5, st1_6, sti_6, st2_6, stj_6, st1_7, sti_7, st2_7, stj_7, st1_8, sti_8, st2_8, stj_8, st1_9, sti_9, st2_9, stj_9, kil_n, kil_i, kil_r, kil_l, kil_d, gl_0, gl_s, cat_i, cat_r, true_and, ZH_gf]
      refine c169_12r (sp_isZero (ZH_R hT) (fun i hi => by have := hR.le hi; omega)) ?_
      rw [zrN_z hR hW2]
      by_cases h0 : W = 0
      · subst h0
        simp only [s169_0, s169_1, s169_5, s169_6, s169_7, s169_9, s169_15, s169_18, s169_19, s169_21, s169_23, s169_27, s169_30, s169_32, s169_34, s169_35, s169_36, s169_39, s169_41, s169_42, s169_43, s169_45, s169_46, s169_49, s169_51, s169_53, s169_54, s169_55, s169_56, s169_58, s169_59, s169_60, s169_62, s169_65, s169_68, s169_71, s169_74, s169_75, ldi_0, ldi_s, ldl_0, ldl_s, ldd_0, ldd_s, lda_0, lda_s, st1_0, st1_1, st2_0, st2_1, sti_0, sti_1, stj_0, stj_1, st1_2, sti_2, st2_2, stj_2, st1_3, sti_3, st2_3, stj_3, st1_4, sti_4, st2_4, stj_4, st1_5, sti_5, st2_5, stj_5, st1_6, sti_6, st2_6, stj_6, st1_7, sti_7, st2_7, stj_7, st1_8, sti_8, st2_8, stj_8, st1_9, sti_9, st2_9, stj_9, kil_n, kil_i, kil_r, kil_l, kil_d, gl_0, gl_s, cat_i, cat_r, true_and]
        rw [br_1 (by decide)]
        refine ⟨by omega, by omega, ?_, rfl, S', F', R, T, hF', hR, rfl⟩
        rw [← e]
        unfold blN
        rw [if_pos rfl, Nat.add_zero]
      · have hb : blN (f + 1) W = blN f (W / 2) + 1 := by
          show (if W = 0 then 0 else blN f (W / 2) + 1) = _
          rw [if_neg h0]
        rw [decide_eq_false h0]
        simp only [s169_0, s169_1, s169_5, s169_6, s169_7, s169_9, s169_15, s169_18, s169_19, s169_21, s169_23, s169_27, s169_30, s169_32, s169_34, s169_35, s169_36, s169_39, s169_41, s169_42, s169_43, s169_45, s169_46, s169_49, s169_51, s169_53, s169_54, s169_55, s169_56, s169_58, s169_59, s169_60, s169_62, s169_65, s169_68, s169_71, s169_74, s169_75, ldi_0, ldi_s, ldl_0, ldl_s, ldd_0, ldd_s, lda_0, lda_s, st1_0, st1_1, st2_0, st2_1, sti_0, sti_1, stj_0, stj_1, st1_2, sti_2, st2_2, stj_2, st1_3, sti_3, st2_3, stj_3, st1_4, sti_4, st2_4, stj_4, st1_5, sti_5, st2_5, stj_5, st1_6, sti_6, st2_6, stj_6, st1_7, sti_7, st2_7, stj_7, st1_8, sti_8, st2_8, stj_8, st1_9, sti_9, st2_9, stj_9, kil_n, kil_i, kil_r, kil_l, kil_d, gl_0, gl_s, cat_i, cat_r, true_and]
        rw [br_0 (by decide)]
        have inn : ∀ i, i ≤ 100 → aW (Sp 19) 169 0 0 (RkP h m t t2 ns G th n z (ctL G n) (cofM G n) 0 (some (.int (nI (blN 333 V))))) 25 [some (.ref m), some (.int k), some (.int (if V = 0 then 0 else sg)), some (.int (nI c)), some (.int (nI (W / 10 ^ i % 2))), some (.int (nI i + (-1)))] [] (ZH h m t t2 ns G th n S' (ctL G n) F' (cofM G n) (std R (dgN (W / 2)) 100 i) T) z (0 + 0) (0 + 0) := by
          refine aDn ?_ fun i hi ihi => ?_
          · rw [s169_25]
            simp only [s169_0, s169_1, s169_5, s169_6, s169_7, s169_9, s169_15, s169_18, s169_19, s169_21, s169_23, s169_27, s169_30, s169_32, s169_34, s169_35, s169_36, s169_39, s169_41, s169_42, s169_43, s169_45, s169_46, s169_49, s169_51, s169_53, s169_54, s169_55, s169_56, s169_58, s169_59, s169_60, s169_62, s169_65, s169_68, s169_71, s169_74, s169_75, ldi_0, ldi_s, ldl_0, ldl_s, ldd_0, ldd_s, lda_0, lda_s, st1_0, st1_1, st2_0, st2_1, sti_0, sti_1, stj_0, stj_1, st1_2, sti_2, st2_2, stj_2, st1_3, sti_3, st2_3, stj_3, st1_4, sti_4, st2_4, stj_4, st1_5, sti_5, st2_5, stj_5, st1_6, sti_6, st2_6, stj_6, st1_7, sti_7, st2_7, stj_7, st1_8, sti_8, st2_8, stj_8, st1_9, sti_9, st2_9, stj_9, kil_n, kil_i, kil_r, kil_l, kil_d, gl_0, gl_s, cat_i, cat_r, true_and, nI_1]
            rw [br_1 (by decide)]
            refine ih (W / 2) (c + 1) _ (by rw [Nat.pow_succ] at hW; omega) (Nat.lt_of_le_of_lt (Nat.div_le_self _ _) hW2) (fun i hi => if_pos ⟨Nat.zero_le _, hi⟩) (by omega) (some (.int _)) _
          · have h9 := hR.le hi
            have e1 : W / 10 ^ (i + 1) = W / 10 ^ i / 10 := by rw [Nat.pow_succ, Nat.div_div_eq_div_mul]
            have e2 : R i = W / 10 ^ i % 10 := hR i hi
            have e3 : W / 2 / 10 ^ i = W / 10 ^ i / 2 := by rw [Nat.div_div_eq_div_mul, Nat.mul_comm, Nat.div_div_eq_div_mul]
            have hs := half_step (W / 10 ^ i)
            have e4 := stdN_s (P := R) (D := dgN (W / 2)) hi
            rw [show dgN (W / 2) i = (10 * (W / 10 ^ (i + 1) % 2) + R i) / 2 by rw [e1, e2, hs.1]; unfold dgN; rw [e3]] at e4
            rw [← e4, ← hs.2, ← e1, ← e2] at ihi
            have hlt : W / 10 ^ (i + 1) % 2 < 2 := Nat.mod_lt _ (by decide)
            rw [nI_pm, s169_25]
            simp only [s169_0, s169_1, s169_5, s169_6, s169_7, s169_9, s169_15, s169_18, s169_19, s169_21, s169_23, s169_27, s169_30, s169_32, s169_34, s169_35, s169_36, s169_39, s169_41, s169_42, s169_43, s169_45, s169_46, s169_49, s169_51, s169_53, s169_54, s169_55, s169_56, s169_58, s169_59, s169_60, s169_62, s169_65, s169_68, s169_71, s169_74, s169_75, ldi_0, ldi_s, ldl_0, ldl_s, ldd_0, ldd_s, lda_0, lda_s, st1_0, st1_1, st2_0, st2_1, sti_0, sti_1, stj_0, stj_1, st1_2, sti_2, st2_2, stj_2, st1_3, sti_3, st2_3, stj_3, st1_4, sti_4, st2_4, stj_4, st1_5, sti_5, st2_5, stj_5, st1_6, sti_6, st2_6, stj_6, st1_7, sti_7, st2_7, stj_7, st1_8, sti_8, st2_8, stj_8, st1_9, sti_9, st2_9, stj_9, kil_n, kil_i, kil_r, kil_l, kil_d, gl_0, gl_s, cat_i, cat_r, true_and, ZH_gf, ald_na (ZH_R hT) hi, std_at, ne2]
            rw [br_0 (nI_pos (by omega)), nI_lit10, pk_mul, nI_add, nI_lit2, pk_rem (by omega) (by decide) (by decide), pk_div (by omega) (by decide) (by decide), ast_na (ZH_R hT) hi, ZH_uR hT]
            exact ihi
        have i0 := inn 100 (Nat.le_refl _)
        rw [std_n, Nat.div_eq_of_lt hW2] at i0
        exact i0
  exact main 333 V 0 R (Nat.lt_trans hV (by decide)) hV hR (by rw [Nat.zero_add]) none none
theorem rest_step (Y b : Nat) : (10 * (Y / 10 % b) + Y % 10) % b = Y % b := by
  have h1 := Nat.div_add_mod Y 10
  conv => rhs; rw [← h1]
  rw [Nat.add_mod, Nat.mul_mod, Nat.mod_mod, ← Nat.mul_mod, ← Nat.add_mod]
theorem sp_mrest {k sg : Int32} {V : Nat} (hr : RkH m t t2 ns G SG n k V sg) (hB : MB h m t t2 SG) (hS : MS h m) (hV : V < 10 ^ 100) {b : Nat} (hb1 : 1 ≤ b) (hb : b < 2 ^ 31) (hsg : sg = 1 ∨ sg = -1) : Sp 20 181 [.ref m, .int k, .int (nI b)] (NF h m t t2 ns G th n) z 0 0 (RkP h m t t2 ns G 0 n z (ctL G n) (cofM G n) V (some (.int (nI (if sg = -1 ∧ V % b ≠ 0 then b - V % b else V % b))))) := by
  have hT := hB.1
  refine Sp_in (al := [some (.ref m), some (.int k), some (.int (nI b)), none, none, none, none]) ?_
  simp only [s181_0, s181_1, s181_2, s181_5, s181_6, s181_7, s181_8, s181_11, s181_12, s181_15, s181_16, s181_20, s181_23, s181_24, s181_25, s181_26, s181_30, s181_31, s181_32, s181_34, s181_36, s181_40, s181_43, s181_46, s181_48, s181_49, s181_50, s181_53, s181_55, s181_56, s181_57, s181_58, s181_59, s181_60, s181_61, s181_63, s181_66, s181_69, s181_70, s181_73, s181_75, s181_76, s181_77, s181_80, s181_81, s181_82, s181_84, s181_85, s181_88, s181_90, s181_91, ldi_0, ldi_s, ldl_0, ldl_s, ldd_0, ldd_s, lda_0, lda_s, st1_0, st1_1, st2_0, st2_1, sti_0, sti_1, stj_0, stj_1, st1_2, sti_2, st2_2, stj_2, st1_3, sti_3, st2_3, stj_3, st1_4, sti_4, st2_4, stj_4, st1_5, sti_5, st2_5, stj_5, st1_6, sti_6, st2_6, stj_6, st1_7, sti_7, st2_7, stj_7, st1_8, sti_8, st2_8, stj_8, st1_9, sti_9, st2_9, stj_9, kil_n, kil_i, kil_r, kil_l, kil_d, gl_0, gl_s, cat_i, cat_r, true_and, NF_th]
  rw [nI_lit1, br_1 (nI_le hb1 hb)]
  refine c181_17r NF_m (sp_throws_f NF_m) ?_
  simp only [s181_0, s181_1, s181_2, s181_5, s181_6, s181_7, s181_8, s181_11, s181_12, s181_15, s181_16, s181_20, s181_23, s181_24, s181_25, s181_26, s181_30, s181_31, s181_32, s181_34, s181_36, s181_40, s181_43, s181_46, s181_48, s181_49, s181_50, s181_53, s181_55, s181_56, s181_57, s181_58, s181_59, s181_60, s181_61, s181_63, s181_66, s181_69, s181_70, s181_73, s181_75, s181_76, s181_77, s181_80, s181_81, s181_82, s181_84, s181_85, s181_88, s181_90, s181_91, ldi_0, ldi_s, ldl_0, ldl_s, ldd_0, ldd_s, lda_0, lda_s, st1_0, st1_1, st2_0, st2_1, sti_0, sti_1, stj_0, stj_1, st1_2, sti_2, st2_2, stj_2, st1_3, sti_3, st2_3, stj_3, st1_4, sti_4, st2_4, stj_4, st1_5, sti_5, st2_5, stj_5, st1_6, sti_6, st2_6, stj_6, st1_7, sti_7, st2_7, stj_7, st1_8, sti_8, st2_8, stj_8, st1_9, sti_9, st2_9, stj_9, kil_n, kil_i, kil_r, kil_l, kil_d, gl_0, gl_s, cat_i, cat_r, true_and]
  rw [br_1 (by decide)]
  refine c181_27 NF_m (hr h 0 z hB hS) (by omega) (by omega) ?_
  rintro _ _ z ⟨rfl, rfl, S', F', R, T, hF', hR, rfl⟩
  show aW (Sp 19) 181 0 0 _ 30 _ _ _ _ (0 + 0) (0 + 0)
  simp only [s181_0, s181_1, s181_2, s181_5, s181_6, s181_7, s181_8, s181_11, s181_12, s181_15, s181_16, s181_20, s181_23, s181_24, s181_25, s181_26, s181_30, s181_31, s181_32, s181_34, s181_36, s181_40, s181_43, s181_46, s181_48, s181_49, s181_50, s181_53, s181_55, s181_56, s181_57, s181_58, s181_59, s181_60, s181_61, s181_63, s181_66, s181_69, s181_70, s181_73, s181_75, s181_76, s181_77, s181_80, s181_81, s181_82, s181_84, s181_85, s181_88, s181_90, s181_91, ldi_0, ldi_s, ldl_0, ldl_s, ldd_0, ldd_s, lda_0, lda_s, st1_0, st1_1, st2_0, st2_1, sti_0, sti_1, stj_0, stj_1, st1_2, sti_2, st2_2, stj_2, st1_3, sti_3, st2_3, stj_3, st1_4, sti_4, st2_4, stj_4, st1_5, sti_5, st2_5, stj_5, st1_6, sti_6, st2_6, stj_6, st1_7, sti_7, st2_7, stj_7, st1_8, sti_8, st2_8, stj_8, st1_9, sti_9, st2_9, stj_9, kil_n, kil_i, kil_r, kil_l, kil_d, gl_0, gl_s, cat_i, cat_r, true_and]
  have hbl : V % b < b := Nat.mod_lt _ hb1
  have inn : ∀ i, i ≤ 100 → aW (Sp 19) 181 0 0 (RkP h m t t2 ns G 0 n z (ctL G n) (cofM G n) V (some (.int (nI (if sg = -1 ∧ V % b ≠ 0 then b - V % b else V % b))))) 38 [some (.ref m), some (.int k), some (.int (nI b)), some (.int (if V = 0 then 0 else sg)), some (.long (lN (V / 10 ^ i % b))), none, some (.int (nI i + (-1)))] [] (ZH h m t t2 ns G 0 n S' (ctL G n) F' (cofM G n) R T) z (0 + 0) (0 + 0) := by
    refine aDn ?_ fun i hi ih => ?_
    · rw [s181_38]
      simp only [s181_0, s181_1, s181_2, s181_5, s181_6, s181_7, s181_8, s181_11, s181_12, s181_15, s181_16, s181_20, s181_23, s181_24, s181_25, s181_26, s181_30, s181_31, s181_32, s181_34, s181_36, s181_40, s181_43, s181_46, s181_48, s181_49, s181_50, s181_53, s181_55, s181_56, s181_57, s181_58, s181_59, s181_60, s181_61, s181_63, s181_66, s181_69, s181_70, s181_73, s181_75, s181_76, s181_77, s181_80, s181_81, s181_82, s181_84, s181_85, s181_88, s181_90, s181_91, ldi_0, ldi_s, ldl_0, ldl_s, ldd_0, ldd_s, lda_0, lda_s, st1_0, st1_1, st2_0, st2_1, sti_0, sti_1, stj_0, stj_1, st1_2, sti_2, st2_2, stj_2, st1_3, sti_3, st2_3, stj_3, st1_4, sti_4, st2_4, stj_4, st1_5, sti_5, st2_5, stj_5, st1_6, sti_6, st2_6, stj_6, st1_7, sti_7, st2_7, stj_7, st1_8, sti_8, st2_8, stj_8, st1_9, sti_9, st2_9, stj_9, kil_n, kil_i, kil_r, kil_l, kil_d, gl_0, gl_s, cat_i, cat_r, true_and, Nat.pow_zero, Nat.div_one]
      rw [br_1 (by decide)]
      by_cases h0 : V = 0
      · subst h0
        rw [if_pos rfl, br_1 (by decide)]
        exact ⟨by omega, by omega, by rw [lN_i, if_neg (by rw [Nat.zero_mod]; simp)], rfl, S', F', R, T, hF', hR, rfl⟩
      · rw [if_neg h0]
        rcases hsg with rfl | rfl
        · rw [br_1 (by decide)]
          exact ⟨by omega, by omega, by rw [lN_i, if_neg (fun w => absurd w.1 (by decide))], rfl, S', F', R, T, hF', hR, rfl⟩
        · rw [br_0 (by decide), lg_cmp_le, show (0 : Int64) = lN 0 from rfl, pk_lLE (by omega) (by decide)]
          refine ⟨fun h1 => ?_, fun h1 => ?_⟩
          · exact ⟨by omega, by omega, by rw [lN_i, if_neg (fun w => w.2 (by omega))], rfl, S', F', R, T, hF', hR, rfl⟩
          · refine ⟨by omega, by omega, ?_, rfl, S', F', R, T, hF', hR, rfl⟩
            rw [nI_l hb, lN_sub (by omega), lN_i, if_pos ⟨rfl, by omega⟩]
    · have h9 := hR.le hi
      have e1 : V / 10 ^ (i + 1) = V / 10 ^ i / 10 := by rw [Nat.pow_succ, Nat.div_div_eq_div_mul]
      have e2 : R i = V / 10 ^ i % 10 := hR i hi
      rw [← rest_step (V / 10 ^ i), ← e1, ← e2] at ih
      have hlt : V / 10 ^ (i + 1) % b < b := Nat.mod_lt _ hb1
      rw [nI_pm, s181_38]
      simp only [s181_0, s181_1, s181_2, s181_5, s181_6, s181_7, s181_8, s181_11, s181_12, s181_15, s181_16, s181_20, s181_23, s181_24, s181_25, s181_26, s181_30, s181_31, s181_32, s181_34, s181_36, s181_40, s181_43, s181_46, s181_48, s181_49, s181_50, s181_53, s181_55, s181_56, s181_57, s181_58, s181_59, s181_60, s181_61, s181_63, s181_66, s181_69, s181_70, s181_73, s181_75, s181_76, s181_77, s181_80, s181_81, s181_82, s181_84, s181_85, s181_88, s181_90, s181_91, ldi_0, ldi_s, ldl_0, ldl_s, ldd_0, ldd_s, lda_0, lda_s, st1_0, st1_1, st2_0, st2_1, sti_0, sti_1, stj_0, stj_1, st1_2, sti_2, st2_2, stj_2, st1_3, sti_3, st2_3, stj_3, st1_4, sti_4, st2_4, stj_4, st1_5, sti_5, st2_5, stj_5, st1_6, sti_6, st2_6, stj_6, st1_7, sti_7, st2_7, stj_7, st1_8, sti_8, st2_8, stj_8, st1_9, sti_9, st2_9, stj_9, kil_n, kil_i, kil_r, kil_l, kil_d, gl_0, gl_s, cat_i, cat_r, true_and, ZH_gf, ald_na (ZH_R hT) hi]
      rw [br_0 (nI_pos (by omega)), nI_l hb, nI_l (by omega), lit10L, lN_mul, lN_add, pk_lRem (by omega) (by omega) (by omega)]
      refine ⟨?_, ih⟩
      rw [show (0 : Int64) = lN 0 from rfl, ne_eq, pk_lEQ (by omega) (by decide)]
      omega
  have i0 := inn 100 (Nat.le_refl _)
  rw [Nat.div_eq_of_lt hV, Nat.zero_mod] at i0
  exact i0
theorem sp_mrest_no {k y : Int32} (hy : ¬ 1 ≤ y) : Sp 20 181 [.ref m, .int k, .int y] (NF h m t t2 ns G th n) z 0 0 (RR (some (.int 0)) (NF h m t t2 ns G 1 n) z) := by
  refine Sp_in (al := [some (.ref m), some (.int k), some (.int y), none, none, none, none]) ?_
  simp only [s181_0, s181_1, s181_2, s181_5, s181_6, s181_7, s181_8, s181_11, s181_12, s181_15, s181_16, s181_20, s181_23, s181_24, s181_25, s181_26, s181_30, s181_31, s181_32, s181_34, s181_36, s181_40, s181_43, s181_46, s181_48, s181_49, s181_50, s181_53, s181_55, s181_56, s181_57, s181_58, s181_59, s181_60, s181_61, s181_63, s181_66, s181_69, s181_70, s181_73, s181_75, s181_76, s181_77, s181_80, s181_81, s181_82, s181_84, s181_85, s181_88, s181_90, s181_91, ldi_0, ldi_s, ldl_0, ldl_s, ldd_0, ldd_s, lda_0, lda_s, st1_0, st1_1, st2_0, st2_1, sti_0, sti_1, stj_0, stj_1, st1_2, sti_2, st2_2, stj_2, st1_3, sti_3, st2_3, stj_3, st1_4, sti_4, st2_4, stj_4, st1_5, sti_5, st2_5, stj_5, st1_6, sti_6, st2_6, stj_6, st1_7, sti_7, st2_7, stj_7, st1_8, sti_8, st2_8, stj_8, st1_9, sti_9, st2_9, stj_9, kil_n, kil_i, kil_r, kil_l, kil_d, gl_0, gl_s, cat_i, cat_r, true_and, NF_th]
  rw [br_0 hy]
  refine c181_17r NF_m sp_throws_t ?_
  simp only [s181_0, s181_1, s181_2, s181_5, s181_6, s181_7, s181_8, s181_11, s181_12, s181_15, s181_16, s181_20, s181_23, s181_24, s181_25, s181_26, s181_30, s181_31, s181_32, s181_34, s181_36, s181_40, s181_43, s181_46, s181_48, s181_49, s181_50, s181_53, s181_55, s181_56, s181_57, s181_58, s181_59, s181_60, s181_61, s181_63, s181_66, s181_69, s181_70, s181_73, s181_75, s181_76, s181_77, s181_80, s181_81, s181_82, s181_84, s181_85, s181_88, s181_90, s181_91, ldi_0, ldi_s, ldl_0, ldl_s, ldd_0, ldd_s, lda_0, lda_s, st1_0, st1_1, st2_0, st2_1, sti_0, sti_1, stj_0, stj_1, st1_2, sti_2, st2_2, stj_2, st1_3, sti_3, st2_3, stj_3, st1_4, sti_4, st2_4, stj_4, st1_5, sti_5, st2_5, stj_5, st1_6, sti_6, st2_6, stj_6, st1_7, sti_7, st2_7, stj_7, st1_8, sti_8, st2_8, stj_8, st1_9, sti_9, st2_9, stj_9, kil_n, kil_i, kil_r, kil_l, kil_d, gl_0, gl_s, cat_i, cat_r, true_and]
  rw [br_0 (by decide)]
  exact out_RR
end Mod9
