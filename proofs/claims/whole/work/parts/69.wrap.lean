/-! the two sides together; the wrappers of the law -/
/-- the reference's object and cells, told of the heap itself -/
def MD (h : AH) (m t t2 n ns : Nat) (G SG : Nat → Nat → Bool) (th : Int32) : Prop := h m = some (moO m th n t ns t2) ∧ Tb h t G ∧ MB h m t t2 SG ∧ MS h m
section Sides
variable {h h' h2 : AH} {x m t t2 n ns : Nat} {G SG : Nat → Nat → Bool} {th : Int32}
theorem MD.nf (hM : MD h m t t2 n ns G SG th) : NF h m t t2 ns G th n = h := by
  unfold NF
  rw [tbS_id hM.2.1, hup_id hM.1]
theorem MS.fr (hS : MS h m) (hf : ∀ q, m + 21 ≤ q → q < m + 50 → h' q = h q) : MS h' m := by
  obtain ⟨⟨R1, s1⟩, s2, ⟨R3, s3⟩, ⟨R4, s4⟩, ⟨R5, s5⟩, ⟨R6, s6⟩, ⟨X7, s7, d7⟩, ⟨X8, s8, d8⟩⟩ := hS
  exact ⟨⟨R1, (hf _ (by omega) (by omega)).trans s1⟩, s2.fr fun q _ _ _ => hf _ (by omega) (by omega), ⟨R3, (hf _ (by omega) (by omega)).trans s3⟩, ⟨R4, (hf _ (by omega) (by omega)).trans s4⟩, ⟨R5, (hf _ (by omega) (by omega)).trans s5⟩, ⟨R6, (hf _ (by omega) (by omega)).trans s6⟩, ⟨X7, s7.fr fun q _ _ => hf _ (by omega) (by omega), d7⟩, ⟨X8, s8.fr fun q _ _ => hf _ (by omega) (by omega), d8⟩⟩
theorem MD.fr (hM : MD h m t t2 n ns G SG th) (hf : ∀ q, m ≤ q → q < m + 50 → h' q = h q) : MD h' m t t2 n ns G SG th := by
  have e := hM.2.2.1.1
  unfold TT at e
  exact ⟨(hf _ (by omega) (by omega)).trans hM.1, hM.2.1.fr fun q _ _ => hf _ (by omega) (by omega), hM.2.2.1.fr fun q _ _ => hf _ (by omega) (by omega), hM.2.2.2.fr fun q _ _ => hf _ (by omega) (by omega)⟩
theorem MD_of (hB : MB h2 m t t2 SG) (hS : MS h2 m) : MD (NF h2 m t t2 ns G th n) m t t2 n ns G SG th := by
  have e := hB.1
  unfold TT at e
  exact ⟨NF_m, NF_Tb hB, ⟨hB.1, (NF_Tb hB).1, NF_T2 hB⟩, hS.fr fun q _ _ => NF_old hB.1 (by omega)⟩
theorem MI.md (hM : MI h m t t2 n ns G SG th) : MD h m t t2 n ns G SG th := by
  obtain ⟨h2, rfl, hB, hS⟩ := hM
  exact MD_of hB hS
/-- behind a call of the class that answers -/
def cQ (h : AH) (x N : Nat) (G : Nat → Nat → Bool) (sn : Nat) (SG : Nat → Nat → Bool) (z : Nat) (v : Value) : AP := fun o h' z' => o = .inl (some v) ∧ z' = z ∧ (∃ c r c2 r2, K h' x c r c2 r2 N G sn SG) ∧ Fr x (x + 38) h h'
/-- behind one that throws -/
def cX (h : AH) (x N : Nat) (G : Nat → Nat → Bool) (sn : Nat) (SG : Nat → Nat → Bool) (z E : Nat) : AP := fun o h' z' => o = .inr E ∧ z ≤ z' ∧ (∃ c r c2 r2, K h' x c r c2 r2 N G sn SG) ∧ Fr x (x + 38) h h'
/-- behind a call of the reference -/
def mQ (h : AH) (m N : Nat) (G : Nat → Nat → Bool) (sn : Nat) (SG : Nat → Nat → Bool) (th : Int32) (z : Nat) (v : Value) : AP := fun o h' z' => o = .inl (some v) ∧ z' = z ∧ (∃ t t2, MD h' m t t2 N sn G SG th) ∧ Fr m (m + 50) h h'
theorem MR_mQ {z : Nat} {v : Value} (hM : MD h m t t2 n ns G SG th) {th' : Int32} : ∀ o h' z', MR h m t t2 ns G SG th' n z (some v) o h' z' → mQ h m n G ns SG th' z v o h' z' := by
  rintro _ _ _ ⟨rfl, rfl, h2, rfl, hB, hS, hF⟩
  have e := hB.1
  unfold TT at e
  refine ⟨rfl, rfl, ⟨t, t2, MD_of hB hS⟩, fun q hq => ?_⟩
  rw [NF_ne (by omega) (by omega), hF q (by omega)]
theorem RR_mQ {z N : Nat} {v : Value} {G' : Nat → Nat → Bool} (hM : MD h m t t2 n ns G SG th) {th' : Int32} : ∀ o h' z', RR (some v) (NF h m t t2 ns G' th' N) z o h' z' → mQ h m N G' ns SG th' z v o h' z' := by
  rintro _ _ _ ⟨rfl, rfl, rfl⟩
  have e := hM.2.2.1.1
  unfold TT at e
  refine ⟨rfl, rfl, ⟨t, t2, MD_of hM.2.2.1 hM.2.2.2⟩, fun q hq => NF_ne (by omega) (by omega)⟩
end Sides
section Wraps
variable {h : AH} {x z out : Nat} {p0 p1 : Int32} {O : Nat → Int64} {P' : AP}
theorem w_begin {v : Int32} {fs : List Value} (hx : h x = some (ob 5 fs)) (hs : Sp 21 8 [.ref x, .int p0] h z 0 0 P') (hP : ∀ o h' z', P' o h' z' → o = .inl (some (.int v)) ∧ h' out = some (la 1 O)) : Sp 22 7 [.ref x, .int p0, .ref out] h z 0 0 (fun o h' z' => o = .inl (some (.int 0)) ∧ ∃ h1, P' (.inl (some (.int v))) h1 z' ∧ h' = hup h1 out (la 1 (updL O 0 (v.toInt64)))) := by
  refine Sp_in (al := [some (.ref x), some (.int p0), some (.ref out), none]) ?_
  simp only [s7_0, s7_1, s7_2, s7_3, s7_7, s7_8, s7_9, s7_12, s7_13, s7_14, s7_15, s7_16, ldi_0, ldi_s, ldl_0, ldl_s, ldd_0, ldd_s, lda_0, lda_s, st1_0, st1_1, st2_0, st2_1, sti_0, sti_1, stj_0, stj_1, st1_2, sti_2, st2_2, stj_2, st1_3, sti_3, st2_3, stj_3, st1_4, sti_4, st2_4, stj_4, st1_5, sti_5, st2_5, stj_5, st1_6, sti_6, st2_6, stj_6, st1_7, sti_7, st2_7, stj_7, st1_8, sti_8, st2_8, stj_8, st1_9, sti_9, st2_9, stj_9, kil_n, kil_i, kil_r, kil_l, kil_d, gl_0, gl_s, cat_i, cat_r, true_and]
  refine c7_4 hx hs (by omega) (by omega) ?_
  intro o h' z' hq
  obtain ⟨rfl, ho⟩ := hP o h' z' hq
  show aW (Sp 21) 7 0 0 _ 7 _ _ _ _ _ _
  simp only [s7_0, s7_1, s7_2, s7_3, s7_7, s7_8, s7_9, s7_12, s7_13, s7_14, s7_15, s7_16, ldi_0, ldi_s, ldl_0, ldl_s, ldd_0, ldd_s, lda_0, lda_s, st1_0, st1_1, st2_0, st2_1, sti_0, sti_1, stj_0, stj_1, st1_2, sti_2, st2_2, stj_2, st1_3, sti_3, st2_3, stj_3, st1_4, sti_4, st2_4, stj_4, st1_5, sti_5, st2_5, stj_5, st1_6, sti_6, st2_6, stj_6, st1_7, sti_7, st2_7, stj_7, st1_8, sti_8, st2_8, stj_8, st1_9, sti_9, st2_9, stj_9, kil_n, kil_i, kil_r, kil_l, kil_d, gl_0, gl_s, cat_i, cat_r, true_and]
  rw [nI_lit0, ast_la ho (by decide)]
  exact ⟨by omega, by omega, rfl, h', hq, rfl⟩
theorem x_begin_1 {fs : List Value} (hx : h x = some (ob 5 fs)) (hs : Sp 21 8 [.ref x, .int p0] h z 1 6 P') (hP : ∀ o h' z', P' o h' z' → o = .inr 0) : Sp 22 7 [.ref x, .int p0, .ref out] h z 1 6 (fun o h' z' => o = .inl (some (.int 1)) ∧ P' (.inr 0) h' z') := by
  refine Sp_in (al := [some (.ref x), some (.int p0), some (.ref out), none]) ?_
  simp only [s7_0, s7_1, s7_2, s7_3, s7_7, s7_8, s7_9, s7_12, s7_13, s7_14, s7_15, s7_16, ldi_0, ldi_s, ldl_0, ldl_s, ldd_0, ldd_s, lda_0, lda_s, st1_0, st1_1, st2_0, st2_1, sti_0, sti_1, stj_0, stj_1, st1_2, sti_2, st2_2, stj_2, st1_3, sti_3, st2_3, stj_3, st1_4, sti_4, st2_4, stj_4, st1_5, sti_5, st2_5, stj_5, st1_6, sti_6, st2_6, stj_6, st1_7, sti_7, st2_7, stj_7, st1_8, sti_8, st2_8, stj_8, st1_9, sti_9, st2_9, stj_9, kil_n, kil_i, kil_r, kil_l, kil_d, gl_0, gl_s, cat_i, cat_r, true_and]
  refine c7_4 hx hs (by omega) (by omega) ?_
  intro o h' z' hq
  obtain rfl := hP o h' z' hq
  obtain ⟨hp, e⟩ : ∃ hp, hdl 7 0 4 = some hp := ⟨_, rfl⟩
  unfold aRet
  dsimp only
  rw [show hdl 7 0 4 = some _ from rfl]
  intro q
  simp only [s7_0, s7_1, s7_2, s7_3, s7_7, s7_8, s7_9, s7_12, s7_13, s7_14, s7_15, s7_16, ldi_0, ldi_s, ldl_0, ldl_s, ldd_0, ldd_s, lda_0, lda_s, st1_0, st1_1, st2_0, st2_1, sti_0, sti_1, stj_0, stj_1, st1_2, sti_2, st2_2, stj_2, st1_3, sti_3, st2_3, stj_3, st1_4, sti_4, st2_4, stj_4, st1_5, sti_5, st2_5, stj_5, st1_6, sti_6, st2_6, stj_6, st1_7, sti_7, st2_7, stj_7, st1_8, sti_8, st2_8, stj_8, st1_9, sti_9, st2_9, stj_9, kil_n, kil_i, kil_r, kil_l, kil_d, gl_0, gl_s, cat_i, cat_r, true_and]
  exact ⟨by omega, by omega, rfl, hq⟩
theorem w_place {v : Int32} {fs : List Value} (hx : h x = some (ob 5 fs)) (hs : Sp 21 19 [.ref x] h z 0 0 P') (hP : ∀ o h' z', P' o h' z' → o = .inl (some (.int v)) ∧ h' out = some (la 1 O)) : Sp 22 18 [.ref x, .ref out] h z 0 0 (fun o h' z' => o = .inl (some (.int 0)) ∧ ∃ h1, P' (.inl (some (.int v))) h1 z' ∧ h' = hup h1 out (la 1 (updL O 0 (v.toInt64)))) := by
  refine Sp_in (al := [some (.ref x), some (.ref out), none]) ?_
  simp only [s18_0, s18_1, s18_2, s18_6, s18_7, s18_8, s18_11, s18_12, s18_13, s18_14, s18_15, ldi_0, ldi_s, ldl_0, ldl_s, ldd_0, ldd_s, lda_0, lda_s, st1_0, st1_1, st2_0, st2_1, sti_0, sti_1, stj_0, stj_1, st1_2, sti_2, st2_2, stj_2, st1_3, sti_3, st2_3, stj_3, st1_4, sti_4, st2_4, stj_4, st1_5, sti_5, st2_5, stj_5, st1_6, sti_6, st2_6, stj_6, st1_7, sti_7, st2_7, stj_7, st1_8, sti_8, st2_8, stj_8, st1_9, sti_9, st2_9, stj_9, kil_n, kil_i, kil_r, kil_l, kil_d, gl_0, gl_s, cat_i, cat_r, true_and]
  refine c18_3 hx hs (by omega) (by omega) ?_
  intro o h' z' hq
  obtain ⟨rfl, ho⟩ := hP o h' z' hq
  show aW (Sp 21) 18 0 0 _ 6 _ _ _ _ _ _
  simp only [s18_0, s18_1, s18_2, s18_6, s18_7, s18_8, s18_11, s18_12, s18_13, s18_14, s18_15, ldi_0, ldi_s, ldl_0, ldl_s, ldd_0, ldd_s, lda_0, lda_s, st1_0, st1_1, st2_0, st2_1, sti_0, sti_1, stj_0, stj_1, st1_2, sti_2, st2_2, stj_2, st1_3, sti_3, st2_3, stj_3, st1_4, sti_4, st2_4, stj_4, st1_5, sti_5, st2_5, stj_5, st1_6, sti_6, st2_6, stj_6, st1_7, sti_7, st2_7, stj_7, st1_8, sti_8, st2_8, stj_8, st1_9, sti_9, st2_9, stj_9, kil_n, kil_i, kil_r, kil_l, kil_d, gl_0, gl_s, cat_i, cat_r, true_and]
  rw [nI_lit0, ast_la ho (by decide)]
  exact ⟨by omega, by omega, rfl, h', hq, rfl⟩
theorem x_place_1 {fs : List Value} (hx : h x = some (ob 5 fs)) (hs : Sp 21 19 [.ref x] h z 1 6 P') (hP : ∀ o h' z', P' o h' z' → o = .inr 1) : Sp 22 18 [.ref x, .ref out] h z 1 6 (fun o h' z' => o = .inl (some (.int 1)) ∧ P' (.inr 1) h' z') := by
  refine Sp_in (al := [some (.ref x), some (.ref out), none]) ?_
  simp only [s18_0, s18_1, s18_2, s18_6, s18_7, s18_8, s18_11, s18_12, s18_13, s18_14, s18_15, ldi_0, ldi_s, ldl_0, ldl_s, ldd_0, ldd_s, lda_0, lda_s, st1_0, st1_1, st2_0, st2_1, sti_0, sti_1, stj_0, stj_1, st1_2, sti_2, st2_2, stj_2, st1_3, sti_3, st2_3, stj_3, st1_4, sti_4, st2_4, stj_4, st1_5, sti_5, st2_5, stj_5, st1_6, sti_6, st2_6, stj_6, st1_7, sti_7, st2_7, stj_7, st1_8, sti_8, st2_8, stj_8, st1_9, sti_9, st2_9, stj_9, kil_n, kil_i, kil_r, kil_l, kil_d, gl_0, gl_s, cat_i, cat_r, true_and]
  refine c18_3 hx hs (by omega) (by omega) ?_
  intro o h' z' hq
  obtain rfl := hP o h' z' hq
  obtain ⟨hp, e⟩ : ∃ hp, hdl 18 1 3 = some hp := ⟨_, rfl⟩
  unfold aRet
  dsimp only
  rw [show hdl 18 1 3 = some _ from rfl]
  intro q
  simp only [s18_0, s18_1, s18_2, s18_6, s18_7, s18_8, s18_11, s18_12, s18_13, s18_14, s18_15, ldi_0, ldi_s, ldl_0, ldl_s, ldd_0, ldd_s, lda_0, lda_s, st1_0, st1_1, st2_0, st2_1, sti_0, sti_1, stj_0, stj_1, st1_2, sti_2, st2_2, stj_2, st1_3, sti_3, st2_3, stj_3, st1_4, sti_4, st2_4, stj_4, st1_5, sti_5, st2_5, stj_5, st1_6, sti_6, st2_6, stj_6, st1_7, sti_7, st2_7, stj_7, st1_8, sti_8, st2_8, stj_8, st1_9, sti_9, st2_9, stj_9, kil_n, kil_i, kil_r, kil_l, kil_d, gl_0, gl_s, cat_i, cat_r, true_and]
  exact ⟨by omega, by omega, rfl, hq⟩
theorem w_star {v : Int32} {fs : List Value} (hx : h x = some (ob 5 fs)) (hs : Sp 21 25 [.ref x] h z 0 0 P') (hP : ∀ o h' z', P' o h' z' → o = .inl (some (.int v)) ∧ h' out = some (la 1 O)) : Sp 22 24 [.ref x, .ref out] h z 0 0 (fun o h' z' => o = .inl (some (.int 0)) ∧ ∃ h1, P' (.inl (some (.int v))) h1 z' ∧ h' = hup h1 out (la 1 (updL O 0 (v.toInt64)))) := by
  refine Sp_in (al := [some (.ref x), some (.ref out), none]) ?_
  simp only [s24_0, s24_1, s24_2, s24_6, s24_7, s24_8, s24_11, s24_12, s24_13, s24_14, s24_15, ldi_0, ldi_s, ldl_0, ldl_s, ldd_0, ldd_s, lda_0, lda_s, st1_0, st1_1, st2_0, st2_1, sti_0, sti_1, stj_0, stj_1, st1_2, sti_2, st2_2, stj_2, st1_3, sti_3, st2_3, stj_3, st1_4, sti_4, st2_4, stj_4, st1_5, sti_5, st2_5, stj_5, st1_6, sti_6, st2_6, stj_6, st1_7, sti_7, st2_7, stj_7, st1_8, sti_8, st2_8, stj_8, st1_9, sti_9, st2_9, stj_9, kil_n, kil_i, kil_r, kil_l, kil_d, gl_0, gl_s, cat_i, cat_r, true_and]
  refine c24_3 hx hs (by omega) (by omega) ?_
  intro o h' z' hq
  obtain ⟨rfl, ho⟩ := hP o h' z' hq
  show aW (Sp 21) 24 0 0 _ 6 _ _ _ _ _ _
  simp only [s24_0, s24_1, s24_2, s24_6, s24_7, s24_8, s24_11, s24_12, s24_13, s24_14, s24_15, ldi_0, ldi_s, ldl_0, ldl_s, ldd_0, ldd_s, lda_0, lda_s, st1_0, st1_1, st2_0, st2_1, sti_0, sti_1, stj_0, stj_1, st1_2, sti_2, st2_2, stj_2, st1_3, sti_3, st2_3, stj_3, st1_4, sti_4, st2_4, stj_4, st1_5, sti_5, st2_5, stj_5, st1_6, sti_6, st2_6, stj_6, st1_7, sti_7, st2_7, stj_7, st1_8, sti_8, st2_8, stj_8, st1_9, sti_9, st2_9, stj_9, kil_n, kil_i, kil_r, kil_l, kil_d, gl_0, gl_s, cat_i, cat_r, true_and]
  rw [nI_lit0, ast_la ho (by decide)]
  exact ⟨by omega, by omega, rfl, h', hq, rfl⟩
theorem x_star_1 {fs : List Value} (hx : h x = some (ob 5 fs)) (hs : Sp 21 25 [.ref x] h z 1 6 P') (hP : ∀ o h' z', P' o h' z' → o = .inr 1) : Sp 22 24 [.ref x, .ref out] h z 1 6 (fun o h' z' => o = .inl (some (.int 1)) ∧ P' (.inr 1) h' z') := by
  refine Sp_in (al := [some (.ref x), some (.ref out), none]) ?_
  simp only [s24_0, s24_1, s24_2, s24_6, s24_7, s24_8, s24_11, s24_12, s24_13, s24_14, s24_15, ldi_0, ldi_s, ldl_0, ldl_s, ldd_0, ldd_s, lda_0, lda_s, st1_0, st1_1, st2_0, st2_1, sti_0, sti_1, stj_0, stj_1, st1_2, sti_2, st2_2, stj_2, st1_3, sti_3, st2_3, stj_3, st1_4, sti_4, st2_4, stj_4, st1_5, sti_5, st2_5, stj_5, st1_6, sti_6, st2_6, stj_6, st1_7, sti_7, st2_7, stj_7, st1_8, sti_8, st2_8, stj_8, st1_9, sti_9, st2_9, stj_9, kil_n, kil_i, kil_r, kil_l, kil_d, gl_0, gl_s, cat_i, cat_r, true_and]
  refine c24_3 hx hs (by omega) (by omega) ?_
  intro o h' z' hq
  obtain rfl := hP o h' z' hq
  obtain ⟨hp, e⟩ : ∃ hp, hdl 24 1 3 = some hp := ⟨_, rfl⟩
  unfold aRet
  dsimp only
  rw [show hdl 24 1 3 = some _ from rfl]
  intro q
  simp only [s24_0, s24_1, s24_2, s24_6, s24_7, s24_8, s24_11, s24_12, s24_13, s24_14, s24_15, ldi_0, ldi_s, ldl_0, ldl_s, ldd_0, ldd_s, lda_0, lda_s, st1_0, st1_1, st2_0, st2_1, sti_0, sti_1, stj_0, stj_1, st1_2, sti_2, st2_2, stj_2, st1_3, sti_3, st2_3, stj_3, st1_4, sti_4, st2_4, stj_4, st1_5, sti_5, st2_5, stj_5, st1_6, sti_6, st2_6, stj_6, st1_7, sti_7, st2_7, stj_7, st1_8, sti_8, st2_8, stj_8, st1_9, sti_9, st2_9, stj_9, kil_n, kil_i, kil_r, kil_l, kil_d, gl_0, gl_s, cat_i, cat_r, true_and]
  exact ⟨by omega, by omega, rfl, hq⟩
theorem w_leave {v : Int32} {fs : List Value} (hx : h x = some (ob 5 fs)) (hs : Sp 21 32 [.ref x, .int p0] h z 0 0 P') (hP : ∀ o h' z', P' o h' z' → o = .inl (some (.int v)) ∧ h' out = some (la 1 O)) : Sp 22 31 [.ref x, .int p0, .ref out] h z 0 0 (fun o h' z' => o = .inl (some (.int 0)) ∧ ∃ h1, P' (.inl (some (.int v))) h1 z' ∧ h' = hup h1 out (la 1 (updL O 0 (v.toInt64)))) := by
  refine Sp_in (al := [some (.ref x), some (.int p0), some (.ref out), none]) ?_
  simp only [s31_0, s31_1, s31_2, s31_3, s31_7, s31_8, s31_9, s31_12, s31_13, s31_14, s31_15, s31_16, ldi_0, ldi_s, ldl_0, ldl_s, ldd_0, ldd_s, lda_0, lda_s, st1_0, st1_1, st2_0, st2_1, sti_0, sti_1, stj_0, stj_1, st1_2, sti_2, st2_2, stj_2, st1_3, sti_3, st2_3, stj_3, st1_4, sti_4, st2_4, stj_4, st1_5, sti_5, st2_5, stj_5, st1_6, sti_6, st2_6, stj_6, st1_7, sti_7, st2_7, stj_7, st1_8, sti_8, st2_8, stj_8, st1_9, sti_9, st2_9, stj_9, kil_n, kil_i, kil_r, kil_l, kil_d, gl_0, gl_s, cat_i, cat_r, true_and]
  refine c31_4 hx hs (by omega) (by omega) ?_
  intro o h' z' hq
  obtain ⟨rfl, ho⟩ := hP o h' z' hq
  show aW (Sp 21) 31 0 0 _ 7 _ _ _ _ _ _
  simp only [s31_0, s31_1, s31_2, s31_3, s31_7, s31_8, s31_9, s31_12, s31_13, s31_14, s31_15, s31_16, ldi_0, ldi_s, ldl_0, ldl_s, ldd_0, ldd_s, lda_0, lda_s, st1_0, st1_1, st2_0, st2_1, sti_0, sti_1, stj_0, stj_1, st1_2, sti_2, st2_2, stj_2, st1_3, sti_3, st2_3, stj_3, st1_4, sti_4, st2_4, stj_4, st1_5, sti_5, st2_5, stj_5, st1_6, sti_6, st2_6, stj_6, st1_7, sti_7, st2_7, stj_7, st1_8, sti_8, st2_8, stj_8, st1_9, sti_9, st2_9, stj_9, kil_n, kil_i, kil_r, kil_l, kil_d, gl_0, gl_s, cat_i, cat_r, true_and]
  rw [nI_lit0, ast_la ho (by decide)]
  exact ⟨by omega, by omega, rfl, h', hq, rfl⟩
theorem x_leave_1 {fs : List Value} (hx : h x = some (ob 5 fs)) (hs : Sp 21 32 [.ref x, .int p0] h z 1 6 P') (hP : ∀ o h' z', P' o h' z' → o = .inr 2) : Sp 22 31 [.ref x, .int p0, .ref out] h z 1 6 (fun o h' z' => o = .inl (some (.int 1)) ∧ P' (.inr 2) h' z') := by
  refine Sp_in (al := [some (.ref x), some (.int p0), some (.ref out), none]) ?_
  simp only [s31_0, s31_1, s31_2, s31_3, s31_7, s31_8, s31_9, s31_12, s31_13, s31_14, s31_15, s31_16, ldi_0, ldi_s, ldl_0, ldl_s, ldd_0, ldd_s, lda_0, lda_s, st1_0, st1_1, st2_0, st2_1, sti_0, sti_1, stj_0, stj_1, st1_2, sti_2, st2_2, stj_2, st1_3, sti_3, st2_3, stj_3, st1_4, sti_4, st2_4, stj_4, st1_5, sti_5, st2_5, stj_5, st1_6, sti_6, st2_6, stj_6, st1_7, sti_7, st2_7, stj_7, st1_8, sti_8, st2_8, stj_8, st1_9, sti_9, st2_9, stj_9, kil_n, kil_i, kil_r, kil_l, kil_d, gl_0, gl_s, cat_i, cat_r, true_and]
  refine c31_4 hx hs (by omega) (by omega) ?_
  intro o h' z' hq
  obtain rfl := hP o h' z' hq
  obtain ⟨hp, e⟩ : ∃ hp, hdl 31 2 4 = some hp := ⟨_, rfl⟩
  unfold aRet
  dsimp only
  rw [show hdl 31 2 4 = some _ from rfl]
  intro q
  simp only [s31_0, s31_1, s31_2, s31_3, s31_7, s31_8, s31_9, s31_12, s31_13, s31_14, s31_15, s31_16, ldi_0, ldi_s, ldl_0, ldl_s, ldd_0, ldd_s, lda_0, lda_s, st1_0, st1_1, st2_0, st2_1, sti_0, sti_1, stj_0, stj_1, st1_2, sti_2, st2_2, stj_2, st1_3, sti_3, st2_3, stj_3, st1_4, sti_4, st2_4, stj_4, st1_5, sti_5, st2_5, stj_5, st1_6, sti_6, st2_6, stj_6, st1_7, sti_7, st2_7, stj_7, st1_8, sti_8, st2_8, stj_8, st1_9, sti_9, st2_9, stj_9, kil_n, kil_i, kil_r, kil_l, kil_d, gl_0, gl_s, cat_i, cat_r, true_and]
  exact ⟨by omega, by omega, rfl, hq⟩
theorem w_way {v : Bool} {fs : List Value} (hx : h x = some (ob 5 fs)) (hs : Sp 21 43 [.ref x, .int p0, .int p1] h z 0 0 P') (hP : ∀ o h' z', P' o h' z' → o = .inl (some (.int (bI v))) ∧ h' out = some (la 1 O)) : Sp 22 42 [.ref x, .int p0, .int p1, .ref out] h z 0 0 (fun o h' z' => o = .inl (some (.int 0)) ∧ ∃ h1, P' (.inl (some (.int (bI v)))) h1 z' ∧ h' = hup h1 out (la 1 (updL O 0 (if v then 1 else 0)))) := by
  refine Sp_in (al := [some (.ref x), some (.int p0), some (.int p1), some (.ref out), none]) ?_
  simp only [s42_0, s42_1, s42_2, s42_3, s42_4, s42_8, s42_11, s42_12, s42_15, s42_16, s42_17, s42_20, s42_22, s42_23, s42_24, s42_26, s42_27, s42_28, s42_29, ldi_0, ldi_s, ldl_0, ldl_s, ldd_0, ldd_s, lda_0, lda_s, st1_0, st1_1, st2_0, st2_1, sti_0, sti_1, stj_0, stj_1, st1_2, sti_2, st2_2, stj_2, st1_3, sti_3, st2_3, stj_3, st1_4, sti_4, st2_4, stj_4, st1_5, sti_5, st2_5, stj_5, st1_6, sti_6, st2_6, stj_6, st1_7, sti_7, st2_7, stj_7, st1_8, sti_8, st2_8, stj_8, st1_9, sti_9, st2_9, stj_9, kil_n, kil_i, kil_r, kil_l, kil_d, gl_0, gl_s, cat_i, cat_r, true_and]
  refine c42_5 hx hs (by omega) (by omega) ?_
  intro o h' z' hq
  obtain ⟨rfl, ho⟩ := hP o h' z' hq
  show aW (Sp 21) 42 0 0 _ 8 _ _ _ _ _ _
  simp only [s42_0, s42_1, s42_2, s42_3, s42_4, s42_8, s42_11, s42_12, s42_15, s42_16, s42_17, s42_20, s42_22, s42_23, s42_24, s42_26, s42_27, s42_28, s42_29, ldi_0, ldi_s, ldl_0, ldl_s, ldd_0, ldd_s, lda_0, lda_s, st1_0, st1_1, st2_0, st2_1, sti_0, sti_1, stj_0, stj_1, st1_2, sti_2, st2_2, stj_2, st1_3, sti_3, st2_3, stj_3, st1_4, sti_4, st2_4, stj_4, st1_5, sti_5, st2_5, stj_5, st1_6, sti_6, st2_6, stj_6, st1_7, sti_7, st2_7, stj_7, st1_8, sti_8, st2_8, stj_8, st1_9, sti_9, st2_9, stj_9, kil_n, kil_i, kil_r, kil_l, kil_d, gl_0, gl_s, cat_i, cat_r, true_and]
  rw [nI_lit0, ast_la ho (by decide), ast_la ho (by decide)]
  cases v
  · rw [br_1 (by decide)]
    exact ⟨by omega, by omega, rfl, h', hq, rfl⟩
  · rw [br_0 (by decide)]
    exact ⟨by omega, by omega, rfl, h', hq, rfl⟩
theorem x_way_1 {fs : List Value} (hx : h x = some (ob 5 fs)) (hs : Sp 21 43 [.ref x, .int p0, .int p1] h z 1 6 P') (hP : ∀ o h' z', P' o h' z' → o = .inr 2) : Sp 22 42 [.ref x, .int p0, .int p1, .ref out] h z 1 6 (fun o h' z' => o = .inl (some (.int 1)) ∧ P' (.inr 2) h' z') := by
  refine Sp_in (al := [some (.ref x), some (.int p0), some (.int p1), some (.ref out), none]) ?_
  simp only [s42_0, s42_1, s42_2, s42_3, s42_4, s42_8, s42_11, s42_12, s42_15, s42_16, s42_17, s42_20, s42_22, s42_23, s42_24, s42_26, s42_27, s42_28, s42_29, ldi_0, ldi_s, ldl_0, ldl_s, ldd_0, ldd_s, lda_0, lda_s, st1_0, st1_1, st2_0, st2_1, sti_0, sti_1, stj_0, stj_1, st1_2, sti_2, st2_2, stj_2, st1_3, sti_3, st2_3, stj_3, st1_4, sti_4, st2_4, stj_4, st1_5, sti_5, st2_5, stj_5, st1_6, sti_6, st2_6, stj_6, st1_7, sti_7, st2_7, stj_7, st1_8, sti_8, st2_8, stj_8, st1_9, sti_9, st2_9, stj_9, kil_n, kil_i, kil_r, kil_l, kil_d, gl_0, gl_s, cat_i, cat_r, true_and]
  refine c42_5 hx hs (by omega) (by omega) ?_
  intro o h' z' hq
  obtain rfl := hP o h' z' hq
  obtain ⟨hp, e⟩ : ∃ hp, hdl 42 2 5 = some hp := ⟨_, rfl⟩
  unfold aRet
  dsimp only
  rw [show hdl 42 2 5 = some _ from rfl]
  intro q
  simp only [s42_0, s42_1, s42_2, s42_3, s42_4, s42_8, s42_11, s42_12, s42_15, s42_16, s42_17, s42_20, s42_22, s42_23, s42_24, s42_26, s42_27, s42_28, s42_29, ldi_0, ldi_s, ldl_0, ldl_s, ldd_0, ldd_s, lda_0, lda_s, st1_0, st1_1, st2_0, st2_1, sti_0, sti_1, stj_0, stj_1, st1_2, sti_2, st2_2, stj_2, st1_3, sti_3, st2_3, stj_3, st1_4, sti_4, st2_4, stj_4, st1_5, sti_5, st2_5, stj_5, st1_6, sti_6, st2_6, stj_6, st1_7, sti_7, st2_7, stj_7, st1_8, sti_8, st2_8, stj_8, st1_9, sti_9, st2_9, stj_9, kil_n, kil_i, kil_r, kil_l, kil_d, gl_0, gl_s, cat_i, cat_r, true_and]
  exact ⟨by omega, by omega, rfl, hq⟩
theorem x_way_2 {fs : List Value} (hx : h x = some (ob 5 fs)) (hs : Sp 21 43 [.ref x, .int p0, .int p1] h z 1 6 P') (hP : ∀ o h' z', P' o h' z' → o = .inr 0) : Sp 22 42 [.ref x, .int p0, .int p1, .ref out] h z 1 6 (fun o h' z' => o = .inl (some (.int 2)) ∧ P' (.inr 0) h' z') := by
  refine Sp_in (al := [some (.ref x), some (.int p0), some (.int p1), some (.ref out), none]) ?_
  simp only [s42_0, s42_1, s42_2, s42_3, s42_4, s42_8, s42_11, s42_12, s42_15, s42_16, s42_17, s42_20, s42_22, s42_23, s42_24, s42_26, s42_27, s42_28, s42_29, ldi_0, ldi_s, ldl_0, ldl_s, ldd_0, ldd_s, lda_0, lda_s, st1_0, st1_1, st2_0, st2_1, sti_0, sti_1, stj_0, stj_1, st1_2, sti_2, st2_2, stj_2, st1_3, sti_3, st2_3, stj_3, st1_4, sti_4, st2_4, stj_4, st1_5, sti_5, st2_5, stj_5, st1_6, sti_6, st2_6, stj_6, st1_7, sti_7, st2_7, stj_7, st1_8, sti_8, st2_8, stj_8, st1_9, sti_9, st2_9, stj_9, kil_n, kil_i, kil_r, kil_l, kil_d, gl_0, gl_s, cat_i, cat_r, true_and]
  refine c42_5 hx hs (by omega) (by omega) ?_
  intro o h' z' hq
  obtain rfl := hP o h' z' hq
  obtain ⟨hp, e⟩ : ∃ hp, hdl 42 0 5 = some hp := ⟨_, rfl⟩
  unfold aRet
  dsimp only
  rw [show hdl 42 0 5 = some _ from rfl]
  intro q
  simp only [s42_0, s42_1, s42_2, s42_3, s42_4, s42_8, s42_11, s42_12, s42_15, s42_16, s42_17, s42_20, s42_22, s42_23, s42_24, s42_26, s42_27, s42_28, s42_29, ldi_0, ldi_s, ldl_0, ldl_s, ldd_0, ldd_s, lda_0, lda_s, st1_0, st1_1, st2_0, st2_1, sti_0, sti_1, stj_0, stj_1, st1_2, sti_2, st2_2, stj_2, st1_3, sti_3, st2_3, stj_3, st1_4, sti_4, st2_4, stj_4, st1_5, sti_5, st2_5, stj_5, st1_6, sti_6, st2_6, stj_6, st1_7, sti_7, st2_7, stj_7, st1_8, sti_8, st2_8, stj_8, st1_9, sti_9, st2_9, stj_9, kil_n, kil_i, kil_r, kil_l, kil_d, gl_0, gl_s, cat_i, cat_r, true_and]
  exact ⟨by omega, by omega, rfl, hq⟩
theorem w_tear {v : Int32} {fs : List Value} (hx : h x = some (ob 5 fs)) (hs : Sp 21 49 [.ref x, .int p0, .int p1] h z 0 0 P') (hP : ∀ o h' z', P' o h' z' → o = .inl (some (.int v)) ∧ h' out = some (la 1 O)) : Sp 22 48 [.ref x, .int p0, .int p1, .ref out] h z 0 0 (fun o h' z' => o = .inl (some (.int 0)) ∧ ∃ h1, P' (.inl (some (.int v))) h1 z' ∧ h' = hup h1 out (la 1 (updL O 0 (v.toInt64)))) := by
  refine Sp_in (al := [some (.ref x), some (.int p0), some (.int p1), some (.ref out), none]) ?_
  simp only [s48_0, s48_1, s48_2, s48_3, s48_4, s48_8, s48_9, s48_10, s48_13, s48_15, s48_16, s48_17, s48_19, s48_20, s48_21, s48_22, ldi_0, ldi_s, ldl_0, ldl_s, ldd_0, ldd_s, lda_0, lda_s, st1_0, st1_1, st2_0, st2_1, sti_0, sti_1, stj_0, stj_1, st1_2, sti_2, st2_2, stj_2, st1_3, sti_3, st2_3, stj_3, st1_4, sti_4, st2_4, stj_4, st1_5, sti_5, st2_5, stj_5, st1_6, sti_6, st2_6, stj_6, st1_7, sti_7, st2_7, stj_7, st1_8, sti_8, st2_8, stj_8, st1_9, sti_9, st2_9, stj_9, kil_n, kil_i, kil_r, kil_l, kil_d, gl_0, gl_s, cat_i, cat_r, true_and]
  refine c48_5 hx hs (by omega) (by omega) ?_
  intro o h' z' hq
  obtain ⟨rfl, ho⟩ := hP o h' z' hq
  show aW (Sp 21) 48 0 0 _ 8 _ _ _ _ _ _
  simp only [s48_0, s48_1, s48_2, s48_3, s48_4, s48_8, s48_9, s48_10, s48_13, s48_15, s48_16, s48_17, s48_19, s48_20, s48_21, s48_22, ldi_0, ldi_s, ldl_0, ldl_s, ldd_0, ldd_s, lda_0, lda_s, st1_0, st1_1, st2_0, st2_1, sti_0, sti_1, stj_0, stj_1, st1_2, sti_2, st2_2, stj_2, st1_3, sti_3, st2_3, stj_3, st1_4, sti_4, st2_4, stj_4, st1_5, sti_5, st2_5, stj_5, st1_6, sti_6, st2_6, stj_6, st1_7, sti_7, st2_7, stj_7, st1_8, sti_8, st2_8, stj_8, st1_9, sti_9, st2_9, stj_9, kil_n, kil_i, kil_r, kil_l, kil_d, gl_0, gl_s, cat_i, cat_r, true_and]
  rw [nI_lit0, ast_la ho (by decide)]
  exact ⟨by omega, by omega, rfl, h', hq, rfl⟩
theorem x_tear_1 {fs : List Value} (hx : h x = some (ob 5 fs)) (hs : Sp 21 49 [.ref x, .int p0, .int p1] h z 1 6 P') (hP : ∀ o h' z', P' o h' z' → o = .inr 2) : Sp 22 48 [.ref x, .int p0, .int p1, .ref out] h z 1 6 (fun o h' z' => o = .inl (some (.int 1)) ∧ P' (.inr 2) h' z') := by
  refine Sp_in (al := [some (.ref x), some (.int p0), some (.int p1), some (.ref out), none]) ?_
  simp only [s48_0, s48_1, s48_2, s48_3, s48_4, s48_8, s48_9, s48_10, s48_13, s48_15, s48_16, s48_17, s48_19, s48_20, s48_21, s48_22, ldi_0, ldi_s, ldl_0, ldl_s, ldd_0, ldd_s, lda_0, lda_s, st1_0, st1_1, st2_0, st2_1, sti_0, sti_1, stj_0, stj_1, st1_2, sti_2, st2_2, stj_2, st1_3, sti_3, st2_3, stj_3, st1_4, sti_4, st2_4, stj_4, st1_5, sti_5, st2_5, stj_5, st1_6, sti_6, st2_6, stj_6, st1_7, sti_7, st2_7, stj_7, st1_8, sti_8, st2_8, stj_8, st1_9, sti_9, st2_9, stj_9, kil_n, kil_i, kil_r, kil_l, kil_d, gl_0, gl_s, cat_i, cat_r, true_and]
  refine c48_5 hx hs (by omega) (by omega) ?_
  intro o h' z' hq
  obtain rfl := hP o h' z' hq
  obtain ⟨hp, e⟩ : ∃ hp, hdl 48 2 5 = some hp := ⟨_, rfl⟩
  unfold aRet
  dsimp only
  rw [show hdl 48 2 5 = some _ from rfl]
  intro q
  simp only [s48_0, s48_1, s48_2, s48_3, s48_4, s48_8, s48_9, s48_10, s48_13, s48_15, s48_16, s48_17, s48_19, s48_20, s48_21, s48_22, ldi_0, ldi_s, ldl_0, ldl_s, ldd_0, ldd_s, lda_0, lda_s, st1_0, st1_1, st2_0, st2_1, sti_0, sti_1, stj_0, stj_1, st1_2, sti_2, st2_2, stj_2, st1_3, sti_3, st2_3, stj_3, st1_4, sti_4, st2_4, stj_4, st1_5, sti_5, st2_5, stj_5, st1_6, sti_6, st2_6, stj_6, st1_7, sti_7, st2_7, stj_7, st1_8, sti_8, st2_8, stj_8, st1_9, sti_9, st2_9, stj_9, kil_n, kil_i, kil_r, kil_l, kil_d, gl_0, gl_s, cat_i, cat_r, true_and]
  exact ⟨by omega, by omega, rfl, hq⟩
theorem x_tear_2 {fs : List Value} (hx : h x = some (ob 5 fs)) (hs : Sp 21 49 [.ref x, .int p0, .int p1] h z 1 6 P') (hP : ∀ o h' z', P' o h' z' → o = .inr 3) : Sp 22 48 [.ref x, .int p0, .int p1, .ref out] h z 1 6 (fun o h' z' => o = .inl (some (.int 2)) ∧ P' (.inr 3) h' z') := by
  refine Sp_in (al := [some (.ref x), some (.int p0), some (.int p1), some (.ref out), none]) ?_
  simp only [s48_0, s48_1, s48_2, s48_3, s48_4, s48_8, s48_9, s48_10, s48_13, s48_15, s48_16, s48_17, s48_19, s48_20, s48_21, s48_22, ldi_0, ldi_s, ldl_0, ldl_s, ldd_0, ldd_s, lda_0, lda_s, st1_0, st1_1, st2_0, st2_1, sti_0, sti_1, stj_0, stj_1, st1_2, sti_2, st2_2, stj_2, st1_3, sti_3, st2_3, stj_3, st1_4, sti_4, st2_4, stj_4, st1_5, sti_5, st2_5, stj_5, st1_6, sti_6, st2_6, stj_6, st1_7, sti_7, st2_7, stj_7, st1_8, sti_8, st2_8, stj_8, st1_9, sti_9, st2_9, stj_9, kil_n, kil_i, kil_r, kil_l, kil_d, gl_0, gl_s, cat_i, cat_r, true_and]
  refine c48_5 hx hs (by omega) (by omega) ?_
  intro o h' z' hq
  obtain rfl := hP o h' z' hq
  obtain ⟨hp, e⟩ : ∃ hp, hdl 48 3 5 = some hp := ⟨_, rfl⟩
  unfold aRet
  dsimp only
  rw [show hdl 48 3 5 = some _ from rfl]
  intro q
  simp only [s48_0, s48_1, s48_2, s48_3, s48_4, s48_8, s48_9, s48_10, s48_13, s48_15, s48_16, s48_17, s48_19, s48_20, s48_21, s48_22, ldi_0, ldi_s, ldl_0, ldl_s, ldd_0, ldd_s, lda_0, lda_s, st1_0, st1_1, st2_0, st2_1, sti_0, sti_1, stj_0, stj_1, st1_2, sti_2, st2_2, stj_2, st1_3, sti_3, st2_3, stj_3, st1_4, sti_4, st2_4, stj_4, st1_5, sti_5, st2_5, stj_5, st1_6, sti_6, st2_6, stj_6, st1_7, sti_7, st2_7, stj_7, st1_8, sti_8, st2_8, stj_8, st1_9, sti_9, st2_9, stj_9, kil_n, kil_i, kil_r, kil_l, kil_d, gl_0, gl_s, cat_i, cat_r, true_and]
  exact ⟨by omega, by omega, rfl, hq⟩
theorem w_draw {v : Int32} {fs : List Value} (hx : h x = some (ob 5 fs)) (hs : Sp 21 53 [.ref x, .int p0, .int p1] h z 0 0 P') (hP : ∀ o h' z', P' o h' z' → o = .inl (some (.int v)) ∧ h' out = some (la 1 O)) : Sp 22 52 [.ref x, .int p0, .int p1, .ref out] h z 0 0 (fun o h' z' => o = .inl (some (.int 0)) ∧ ∃ h1, P' (.inl (some (.int v))) h1 z' ∧ h' = hup h1 out (la 1 (updL O 0 (v.toInt64)))) := by
  refine Sp_in (al := [some (.ref x), some (.int p0), some (.int p1), some (.ref out), none]) ?_
  simp only [s52_0, s52_1, s52_2, s52_3, s52_4, s52_8, s52_9, s52_10, s52_13, s52_15, s52_16, s52_17, s52_19, s52_20, s52_21, s52_22, ldi_0, ldi_s, ldl_0, ldl_s, ldd_0, ldd_s, lda_0, lda_s, st1_0, st1_1, st2_0, st2_1, sti_0, sti_1, stj_0, stj_1, st1_2, sti_2, st2_2, stj_2, st1_3, sti_3, st2_3, stj_3, st1_4, sti_4, st2_4, stj_4, st1_5, sti_5, st2_5, stj_5, st1_6, sti_6, st2_6, stj_6, st1_7, sti_7, st2_7, stj_7, st1_8, sti_8, st2_8, stj_8, st1_9, sti_9, st2_9, stj_9, kil_n, kil_i, kil_r, kil_l, kil_d, gl_0, gl_s, cat_i, cat_r, true_and]
  refine c52_5 hx hs (by omega) (by omega) ?_
  intro o h' z' hq
  obtain ⟨rfl, ho⟩ := hP o h' z' hq
  show aW (Sp 21) 52 0 0 _ 8 _ _ _ _ _ _
  simp only [s52_0, s52_1, s52_2, s52_3, s52_4, s52_8, s52_9, s52_10, s52_13, s52_15, s52_16, s52_17, s52_19, s52_20, s52_21, s52_22, ldi_0, ldi_s, ldl_0, ldl_s, ldd_0, ldd_s, lda_0, lda_s, st1_0, st1_1, st2_0, st2_1, sti_0, sti_1, stj_0, stj_1, st1_2, sti_2, st2_2, stj_2, st1_3, sti_3, st2_3, stj_3, st1_4, sti_4, st2_4, stj_4, st1_5, sti_5, st2_5, stj_5, st1_6, sti_6, st2_6, stj_6, st1_7, sti_7, st2_7, stj_7, st1_8, sti_8, st2_8, stj_8, st1_9, sti_9, st2_9, stj_9, kil_n, kil_i, kil_r, kil_l, kil_d, gl_0, gl_s, cat_i, cat_r, true_and]
  rw [nI_lit0, ast_la ho (by decide)]
  exact ⟨by omega, by omega, rfl, h', hq, rfl⟩
theorem x_draw_1 {fs : List Value} (hx : h x = some (ob 5 fs)) (hs : Sp 21 53 [.ref x, .int p0, .int p1] h z 1 6 P') (hP : ∀ o h' z', P' o h' z' → o = .inr 2) : Sp 22 52 [.ref x, .int p0, .int p1, .ref out] h z 1 6 (fun o h' z' => o = .inl (some (.int 1)) ∧ P' (.inr 2) h' z') := by
  refine Sp_in (al := [some (.ref x), some (.int p0), some (.int p1), some (.ref out), none]) ?_
  simp only [s52_0, s52_1, s52_2, s52_3, s52_4, s52_8, s52_9, s52_10, s52_13, s52_15, s52_16, s52_17, s52_19, s52_20, s52_21, s52_22, ldi_0, ldi_s, ldl_0, ldl_s, ldd_0, ldd_s, lda_0, lda_s, st1_0, st1_1, st2_0, st2_1, sti_0, sti_1, stj_0, stj_1, st1_2, sti_2, st2_2, stj_2, st1_3, sti_3, st2_3, stj_3, st1_4, sti_4, st2_4, stj_4, st1_5, sti_5, st2_5, stj_5, st1_6, sti_6, st2_6, stj_6, st1_7, sti_7, st2_7, stj_7, st1_8, sti_8, st2_8, stj_8, st1_9, sti_9, st2_9, stj_9, kil_n, kil_i, kil_r, kil_l, kil_d, gl_0, gl_s, cat_i, cat_r, true_and]
  refine c52_5 hx hs (by omega) (by omega) ?_
  intro o h' z' hq
  obtain rfl := hP o h' z' hq
  obtain ⟨hp, e⟩ : ∃ hp, hdl 52 2 5 = some hp := ⟨_, rfl⟩
  unfold aRet
  dsimp only
  rw [show hdl 52 2 5 = some _ from rfl]
  intro q
  simp only [s52_0, s52_1, s52_2, s52_3, s52_4, s52_8, s52_9, s52_10, s52_13, s52_15, s52_16, s52_17, s52_19, s52_20, s52_21, s52_22, ldi_0, ldi_s, ldl_0, ldl_s, ldd_0, ldd_s, lda_0, lda_s, st1_0, st1_1, st2_0, st2_1, sti_0, sti_1, stj_0, stj_1, st1_2, sti_2, st2_2, stj_2, st1_3, sti_3, st2_3, stj_3, st1_4, sti_4, st2_4, stj_4, st1_5, sti_5, st2_5, stj_5, st1_6, sti_6, st2_6, stj_6, st1_7, sti_7, st2_7, stj_7, st1_8, sti_8, st2_8, stj_8, st1_9, sti_9, st2_9, stj_9, kil_n, kil_i, kil_r, kil_l, kil_d, gl_0, gl_s, cat_i, cat_r, true_and]
  exact ⟨by omega, by omega, rfl, hq⟩
theorem x_draw_2 {fs : List Value} (hx : h x = some (ob 5 fs)) (hs : Sp 21 53 [.ref x, .int p0, .int p1] h z 1 6 P') (hP : ∀ o h' z', P' o h' z' → o = .inr 0) : Sp 22 52 [.ref x, .int p0, .int p1, .ref out] h z 1 6 (fun o h' z' => o = .inl (some (.int 2)) ∧ P' (.inr 0) h' z') := by
  refine Sp_in (al := [some (.ref x), some (.int p0), some (.int p1), some (.ref out), none]) ?_
  simp only [s52_0, s52_1, s52_2, s52_3, s52_4, s52_8, s52_9, s52_10, s52_13, s52_15, s52_16, s52_17, s52_19, s52_20, s52_21, s52_22, ldi_0, ldi_s, ldl_0, ldl_s, ldd_0, ldd_s, lda_0, lda_s, st1_0, st1_1, st2_0, st2_1, sti_0, sti_1, stj_0, stj_1, st1_2, sti_2, st2_2, stj_2, st1_3, sti_3, st2_3, stj_3, st1_4, sti_4, st2_4, stj_4, st1_5, sti_5, st2_5, stj_5, st1_6, sti_6, st2_6, stj_6, st1_7, sti_7, st2_7, stj_7, st1_8, sti_8, st2_8, stj_8, st1_9, sti_9, st2_9, stj_9, kil_n, kil_i, kil_r, kil_l, kil_d, gl_0, gl_s, cat_i, cat_r, true_and]
  refine c52_5 hx hs (by omega) (by omega) ?_
  intro o h' z' hq
  obtain rfl := hP o h' z' hq
  obtain ⟨hp, e⟩ : ∃ hp, hdl 52 0 5 = some hp := ⟨_, rfl⟩
  unfold aRet
  dsimp only
  rw [show hdl 52 0 5 = some _ from rfl]
  intro q
  simp only [s52_0, s52_1, s52_2, s52_3, s52_4, s52_8, s52_9, s52_10, s52_13, s52_15, s52_16, s52_17, s52_19, s52_20, s52_21, s52_22, ldi_0, ldi_s, ldl_0, ldl_s, ldd_0, ldd_s, lda_0, lda_s, st1_0, st1_1, st2_0, st2_1, sti_0, sti_1, stj_0, stj_1, st1_2, sti_2, st2_2, stj_2, st1_3, sti_3, st2_3, stj_3, st1_4, sti_4, st2_4, stj_4, st1_5, sti_5, st2_5, stj_5, st1_6, sti_6, st2_6, stj_6, st1_7, sti_7, st2_7, stj_7, st1_8, sti_8, st2_8, stj_8, st1_9, sti_9, st2_9, stj_9, kil_n, kil_i, kil_r, kil_l, kil_d, gl_0, gl_s, cat_i, cat_r, true_and]
  exact ⟨by omega, by omega, rfl, hq⟩
theorem w_swap {v : Bool} {fs : List Value} (hx : h x = some (ob 5 fs)) (hs : Sp 21 58 [.ref x, .int p0, .int p1] h z 0 0 P') (hP : ∀ o h' z', P' o h' z' → o = .inl (some (.int (bI v))) ∧ h' out = some (la 1 O)) : Sp 22 57 [.ref x, .int p0, .int p1, .ref out] h z 0 0 (fun o h' z' => o = .inl (some (.int 0)) ∧ ∃ h1, P' (.inl (some (.int (bI v)))) h1 z' ∧ h' = hup h1 out (la 1 (updL O 0 (if v then 1 else 0)))) := by
  refine Sp_in (al := [some (.ref x), some (.int p0), some (.int p1), some (.ref out), none]) ?_
  simp only [s57_0, s57_1, s57_2, s57_3, s57_4, s57_8, s57_11, s57_12, s57_15, s57_16, s57_17, s57_20, s57_22, s57_23, s57_24, s57_25, ldi_0, ldi_s, ldl_0, ldl_s, ldd_0, ldd_s, lda_0, lda_s, st1_0, st1_1, st2_0, st2_1, sti_0, sti_1, stj_0, stj_1, st1_2, sti_2, st2_2, stj_2, st1_3, sti_3, st2_3, stj_3, st1_4, sti_4, st2_4, stj_4, st1_5, sti_5, st2_5, stj_5, st1_6, sti_6, st2_6, stj_6, st1_7, sti_7, st2_7, stj_7, st1_8, sti_8, st2_8, stj_8, st1_9, sti_9, st2_9, stj_9, kil_n, kil_i, kil_r, kil_l, kil_d, gl_0, gl_s, cat_i, cat_r, true_and]
  refine c57_5 hx hs (by omega) (by omega) ?_
  intro o h' z' hq
  obtain ⟨rfl, ho⟩ := hP o h' z' hq
  show aW (Sp 21) 57 0 0 _ 8 _ _ _ _ _ _
  simp only [s57_0, s57_1, s57_2, s57_3, s57_4, s57_8, s57_11, s57_12, s57_15, s57_16, s57_17, s57_20, s57_22, s57_23, s57_24, s57_25, ldi_0, ldi_s, ldl_0, ldl_s, ldd_0, ldd_s, lda_0, lda_s, st1_0, st1_1, st2_0, st2_1, sti_0, sti_1, stj_0, stj_1, st1_2, sti_2, st2_2, stj_2, st1_3, sti_3, st2_3, stj_3, st1_4, sti_4, st2_4, stj_4, st1_5, sti_5, st2_5, stj_5, st1_6, sti_6, st2_6, stj_6, st1_7, sti_7, st2_7, stj_7, st1_8, sti_8, st2_8, stj_8, st1_9, sti_9, st2_9, stj_9, kil_n, kil_i, kil_r, kil_l, kil_d, gl_0, gl_s, cat_i, cat_r, true_and]
  rw [nI_lit0, ast_la ho (by decide), ast_la ho (by decide)]
  cases v
  · rw [br_1 (by decide)]
    exact ⟨by omega, by omega, rfl, h', hq, rfl⟩
  · rw [br_0 (by decide)]
    exact ⟨by omega, by omega, rfl, h', hq, rfl⟩
theorem x_swap_1 {fs : List Value} (hx : h x = some (ob 5 fs)) (hs : Sp 21 58 [.ref x, .int p0, .int p1] h z 1 6 P') (hP : ∀ o h' z', P' o h' z' → o = .inr 2) : Sp 22 57 [.ref x, .int p0, .int p1, .ref out] h z 1 6 (fun o h' z' => o = .inl (some (.int 1)) ∧ P' (.inr 2) h' z') := by
  refine Sp_in (al := [some (.ref x), some (.int p0), some (.int p1), some (.ref out), none]) ?_
  simp only [s57_0, s57_1, s57_2, s57_3, s57_4, s57_8, s57_11, s57_12, s57_15, s57_16, s57_17, s57_20, s57_22, s57_23, s57_24, s57_25, ldi_0, ldi_s, ldl_0, ldl_s, ldd_0, ldd_s, lda_0, lda_s, st1_0, st1_1, st2_0, st2_1, sti_0, sti_1, stj_0, stj_1, st1_2, sti_2, st2_2, stj_2, st1_3, sti_3, st2_3, stj_3, st1_4, sti_4, st2_4, stj_4, st1_5, sti_5, st2_5, stj_5, st1_6, sti_6, st2_6, stj_6, st1_7, sti_7, st2_7, stj_7, st1_8, sti_8, st2_8, stj_8, st1_9, sti_9, st2_9, stj_9, kil_n, kil_i, kil_r, kil_l, kil_d, gl_0, gl_s, cat_i, cat_r, true_and]
  refine c57_5 hx hs (by omega) (by omega) ?_
  intro o h' z' hq
  obtain rfl := hP o h' z' hq
  obtain ⟨hp, e⟩ : ∃ hp, hdl 57 2 5 = some hp := ⟨_, rfl⟩
  unfold aRet
  dsimp only
  rw [show hdl 57 2 5 = some _ from rfl]
  intro q
  simp only [s57_0, s57_1, s57_2, s57_3, s57_4, s57_8, s57_11, s57_12, s57_15, s57_16, s57_17, s57_20, s57_22, s57_23, s57_24, s57_25, ldi_0, ldi_s, ldl_0, ldl_s, ldd_0, ldd_s, lda_0, lda_s, st1_0, st1_1, st2_0, st2_1, sti_0, sti_1, stj_0, stj_1, st1_2, sti_2, st2_2, stj_2, st1_3, sti_3, st2_3, stj_3, st1_4, sti_4, st2_4, stj_4, st1_5, sti_5, st2_5, stj_5, st1_6, sti_6, st2_6, stj_6, st1_7, sti_7, st2_7, stj_7, st1_8, sti_8, st2_8, stj_8, st1_9, sti_9, st2_9, stj_9, kil_n, kil_i, kil_r, kil_l, kil_d, gl_0, gl_s, cat_i, cat_r, true_and]
  exact ⟨by omega, by omega, rfl, hq⟩
theorem w_beside {v : Int32} {fs : List Value} (hx : h x = some (ob 5 fs)) (hs : Sp 21 72 [.ref x] h z 0 0 P') (hP : ∀ o h' z', P' o h' z' → o = .inl (some (.int v)) ∧ h' out = some (la 1 O)) : Sp 22 71 [.ref x, .ref out] h z 0 0 (fun o h' z' => o = .inl (some (.int 0)) ∧ ∃ h1, P' (.inl (some (.int v))) h1 z' ∧ h' = hup h1 out (la 1 (updL O 0 (v.toInt64)))) := by
  refine Sp_in (al := [some (.ref x), some (.ref out), none]) ?_
  simp only [s71_0, s71_1, s71_2, s71_6, s71_7, s71_8, s71_11, s71_12, s71_13, s71_14, s71_15, ldi_0, ldi_s, ldl_0, ldl_s, ldd_0, ldd_s, lda_0, lda_s, st1_0, st1_1, st2_0, st2_1, sti_0, sti_1, stj_0, stj_1, st1_2, sti_2, st2_2, stj_2, st1_3, sti_3, st2_3, stj_3, st1_4, sti_4, st2_4, stj_4, st1_5, sti_5, st2_5, stj_5, st1_6, sti_6, st2_6, stj_6, st1_7, sti_7, st2_7, stj_7, st1_8, sti_8, st2_8, stj_8, st1_9, sti_9, st2_9, stj_9, kil_n, kil_i, kil_r, kil_l, kil_d, gl_0, gl_s, cat_i, cat_r, true_and]
  refine c71_3 hx hs (by omega) (by omega) ?_
  intro o h' z' hq
  obtain ⟨rfl, ho⟩ := hP o h' z' hq
  show aW (Sp 21) 71 0 0 _ 6 _ _ _ _ _ _
  simp only [s71_0, s71_1, s71_2, s71_6, s71_7, s71_8, s71_11, s71_12, s71_13, s71_14, s71_15, ldi_0, ldi_s, ldl_0, ldl_s, ldd_0, ldd_s, lda_0, lda_s, st1_0, st1_1, st2_0, st2_1, sti_0, sti_1, stj_0, stj_1, st1_2, sti_2, st2_2, stj_2, st1_3, sti_3, st2_3, stj_3, st1_4, sti_4, st2_4, stj_4, st1_5, sti_5, st2_5, stj_5, st1_6, sti_6, st2_6, stj_6, st1_7, sti_7, st2_7, stj_7, st1_8, sti_8, st2_8, stj_8, st1_9, sti_9, st2_9, stj_9, kil_n, kil_i, kil_r, kil_l, kil_d, gl_0, gl_s, cat_i, cat_r, true_and]
  rw [nI_lit0, ast_la ho (by decide)]
  exact ⟨by omega, by omega, rfl, h', hq, rfl⟩
theorem x_beside_1 {fs : List Value} (hx : h x = some (ob 5 fs)) (hs : Sp 21 72 [.ref x] h z 1 6 P') (hP : ∀ o h' z', P' o h' z' → o = .inr 1) : Sp 22 71 [.ref x, .ref out] h z 1 6 (fun o h' z' => o = .inl (some (.int 1)) ∧ P' (.inr 1) h' z') := by
  refine Sp_in (al := [some (.ref x), some (.ref out), none]) ?_
  simp only [s71_0, s71_1, s71_2, s71_6, s71_7, s71_8, s71_11, s71_12, s71_13, s71_14, s71_15, ldi_0, ldi_s, ldl_0, ldl_s, ldd_0, ldd_s, lda_0, lda_s, st1_0, st1_1, st2_0, st2_1, sti_0, sti_1, stj_0, stj_1, st1_2, sti_2, st2_2, stj_2, st1_3, sti_3, st2_3, stj_3, st1_4, sti_4, st2_4, stj_4, st1_5, sti_5, st2_5, stj_5, st1_6, sti_6, st2_6, stj_6, st1_7, sti_7, st2_7, stj_7, st1_8, sti_8, st2_8, stj_8, st1_9, sti_9, st2_9, stj_9, kil_n, kil_i, kil_r, kil_l, kil_d, gl_0, gl_s, cat_i, cat_r, true_and]
  refine c71_3 hx hs (by omega) (by omega) ?_
  intro o h' z' hq
  obtain rfl := hP o h' z' hq
  obtain ⟨hp, e⟩ : ∃ hp, hdl 71 1 3 = some hp := ⟨_, rfl⟩
  unfold aRet
  dsimp only
  rw [show hdl 71 1 3 = some _ from rfl]
  intro q
  simp only [s71_0, s71_1, s71_2, s71_6, s71_7, s71_8, s71_11, s71_12, s71_13, s71_14, s71_15, ldi_0, ldi_s, ldl_0, ldl_s, ldd_0, ldd_s, lda_0, lda_s, st1_0, st1_1, st2_0, st2_1, sti_0, sti_1, stj_0, stj_1, st1_2, sti_2, st2_2, stj_2, st1_3, sti_3, st2_3, stj_3, st1_4, sti_4, st2_4, stj_4, st1_5, sti_5, st2_5, stj_5, st1_6, sti_6, st2_6, stj_6, st1_7, sti_7, st2_7, stj_7, st1_8, sti_8, st2_8, stj_8, st1_9, sti_9, st2_9, stj_9, kil_n, kil_i, kil_r, kil_l, kil_d, gl_0, gl_s, cat_i, cat_r, true_and]
  exact ⟨by omega, by omega, rfl, hq⟩
theorem w_isWay {v : Bool} {fs : List Value} (hx : h x = some (ob 5 fs)) (hs : Sp 21 79 [.ref x, .int p0, .int p1] h z 0 0 P') (hP : ∀ o h' z', P' o h' z' → o = .inl (some (.int (bI v))) ∧ h' out = some (la 1 O)) : Sp 22 78 [.ref x, .int p0, .int p1, .ref out] h z 0 0 (fun o h' z' => o = .inl (some (.int 0)) ∧ ∃ h1, P' (.inl (some (.int (bI v)))) h1 z' ∧ h' = hup h1 out (la 1 (updL O 0 (if v then 1 else 0)))) := by
  refine Sp_in (al := [some (.ref x), some (.int p0), some (.int p1), some (.ref out), none]) ?_
  simp only [s78_0, s78_1, s78_2, s78_3, s78_4, s78_8, s78_11, s78_12, s78_15, s78_16, s78_17, s78_20, s78_22, s78_23, s78_24, s78_25, ldi_0, ldi_s, ldl_0, ldl_s, ldd_0, ldd_s, lda_0, lda_s, st1_0, st1_1, st2_0, st2_1, sti_0, sti_1, stj_0, stj_1, st1_2, sti_2, st2_2, stj_2, st1_3, sti_3, st2_3, stj_3, st1_4, sti_4, st2_4, stj_4, st1_5, sti_5, st2_5, stj_5, st1_6, sti_6, st2_6, stj_6, st1_7, sti_7, st2_7, stj_7, st1_8, sti_8, st2_8, stj_8, st1_9, sti_9, st2_9, stj_9, kil_n, kil_i, kil_r, kil_l, kil_d, gl_0, gl_s, cat_i, cat_r, true_and]
  refine c78_5 hx hs (by omega) (by omega) ?_
  intro o h' z' hq
  obtain ⟨rfl, ho⟩ := hP o h' z' hq
  show aW (Sp 21) 78 0 0 _ 8 _ _ _ _ _ _
  simp only [s78_0, s78_1, s78_2, s78_3, s78_4, s78_8, s78_11, s78_12, s78_15, s78_16, s78_17, s78_20, s78_22, s78_23, s78_24, s78_25, ldi_0, ldi_s, ldl_0, ldl_s, ldd_0, ldd_s, lda_0, lda_s, st1_0, st1_1, st2_0, st2_1, sti_0, sti_1, stj_0, stj_1, st1_2, sti_2, st2_2, stj_2, st1_3, sti_3, st2_3, stj_3, st1_4, sti_4, st2_4, stj_4, st1_5, sti_5, st2_5, stj_5, st1_6, sti_6, st2_6, stj_6, st1_7, sti_7, st2_7, stj_7, st1_8, sti_8, st2_8, stj_8, st1_9, sti_9, st2_9, stj_9, kil_n, kil_i, kil_r, kil_l, kil_d, gl_0, gl_s, cat_i, cat_r, true_and]
  rw [nI_lit0, ast_la ho (by decide), ast_la ho (by decide)]
  cases v
  · rw [br_1 (by decide)]
    exact ⟨by omega, by omega, rfl, h', hq, rfl⟩
  · rw [br_0 (by decide)]
    exact ⟨by omega, by omega, rfl, h', hq, rfl⟩
theorem x_isWay_1 {fs : List Value} (hx : h x = some (ob 5 fs)) (hs : Sp 21 79 [.ref x, .int p0, .int p1] h z 1 6 P') (hP : ∀ o h' z', P' o h' z' → o = .inr 2) : Sp 22 78 [.ref x, .int p0, .int p1, .ref out] h z 1 6 (fun o h' z' => o = .inl (some (.int 1)) ∧ P' (.inr 2) h' z') := by
  refine Sp_in (al := [some (.ref x), some (.int p0), some (.int p1), some (.ref out), none]) ?_
  simp only [s78_0, s78_1, s78_2, s78_3, s78_4, s78_8, s78_11, s78_12, s78_15, s78_16, s78_17, s78_20, s78_22, s78_23, s78_24, s78_25, ldi_0, ldi_s, ldl_0, ldl_s, ldd_0, ldd_s, lda_0, lda_s, st1_0, st1_1, st2_0, st2_1, sti_0, sti_1, stj_0, stj_1, st1_2, sti_2, st2_2, stj_2, st1_3, sti_3, st2_3, stj_3, st1_4, sti_4, st2_4, stj_4, st1_5, sti_5, st2_5, stj_5, st1_6, sti_6, st2_6, stj_6, st1_7, sti_7, st2_7, stj_7, st1_8, sti_8, st2_8, stj_8, st1_9, sti_9, st2_9, stj_9, kil_n, kil_i, kil_r, kil_l, kil_d, gl_0, gl_s, cat_i, cat_r, true_and]
  refine c78_5 hx hs (by omega) (by omega) ?_
  intro o h' z' hq
  obtain rfl := hP o h' z' hq
  obtain ⟨hp, e⟩ : ∃ hp, hdl 78 2 5 = some hp := ⟨_, rfl⟩
  unfold aRet
  dsimp only
  rw [show hdl 78 2 5 = some _ from rfl]
  intro q
  simp only [s78_0, s78_1, s78_2, s78_3, s78_4, s78_8, s78_11, s78_12, s78_15, s78_16, s78_17, s78_20, s78_22, s78_23, s78_24, s78_25, ldi_0, ldi_s, ldl_0, ldl_s, ldd_0, ldd_s, lda_0, lda_s, st1_0, st1_1, st2_0, st2_1, sti_0, sti_1, stj_0, stj_1, st1_2, sti_2, st2_2, stj_2, st1_3, sti_3, st2_3, stj_3, st1_4, sti_4, st2_4, stj_4, st1_5, sti_5, st2_5, stj_5, st1_6, sti_6, st2_6, stj_6, st1_7, sti_7, st2_7, stj_7, st1_8, sti_8, st2_8, stj_8, st1_9, sti_9, st2_9, stj_9, kil_n, kil_i, kil_r, kil_l, kil_d, gl_0, gl_s, cat_i, cat_r, true_and]
  exact ⟨by omega, by omega, rfl, hq⟩
theorem w_degree {v : Int32} {fs : List Value} (hx : h x = some (ob 5 fs)) (hs : Sp 21 82 [.ref x, .int p0] h z 0 0 P') (hP : ∀ o h' z', P' o h' z' → o = .inl (some (.int v)) ∧ h' out = some (la 1 O)) : Sp 22 81 [.ref x, .int p0, .ref out] h z 0 0 (fun o h' z' => o = .inl (some (.int 0)) ∧ ∃ h1, P' (.inl (some (.int v))) h1 z' ∧ h' = hup h1 out (la 1 (updL O 0 (v.toInt64)))) := by
  refine Sp_in (al := [some (.ref x), some (.int p0), some (.ref out), none]) ?_
  simp only [s81_0, s81_1, s81_2, s81_3, s81_7, s81_8, s81_9, s81_12, s81_13, s81_14, s81_15, s81_16, ldi_0, ldi_s, ldl_0, ldl_s, ldd_0, ldd_s, lda_0, lda_s, st1_0, st1_1, st2_0, st2_1, sti_0, sti_1, stj_0, stj_1, st1_2, sti_2, st2_2, stj_2, st1_3, sti_3, st2_3, stj_3, st1_4, sti_4, st2_4, stj_4, st1_5, sti_5, st2_5, stj_5, st1_6, sti_6, st2_6, stj_6, st1_7, sti_7, st2_7, stj_7, st1_8, sti_8, st2_8, stj_8, st1_9, sti_9, st2_9, stj_9, kil_n, kil_i, kil_r, kil_l, kil_d, gl_0, gl_s, cat_i, cat_r, true_and]
  refine c81_4 hx hs (by omega) (by omega) ?_
  intro o h' z' hq
  obtain ⟨rfl, ho⟩ := hP o h' z' hq
  show aW (Sp 21) 81 0 0 _ 7 _ _ _ _ _ _
  simp only [s81_0, s81_1, s81_2, s81_3, s81_7, s81_8, s81_9, s81_12, s81_13, s81_14, s81_15, s81_16, ldi_0, ldi_s, ldl_0, ldl_s, ldd_0, ldd_s, lda_0, lda_s, st1_0, st1_1, st2_0, st2_1, sti_0, sti_1, stj_0, stj_1, st1_2, sti_2, st2_2, stj_2, st1_3, sti_3, st2_3, stj_3, st1_4, sti_4, st2_4, stj_4, st1_5, sti_5, st2_5, stj_5, st1_6, sti_6, st2_6, stj_6, st1_7, sti_7, st2_7, stj_7, st1_8, sti_8, st2_8, stj_8, st1_9, sti_9, st2_9, stj_9, kil_n, kil_i, kil_r, kil_l, kil_d, gl_0, gl_s, cat_i, cat_r, true_and]
  rw [nI_lit0, ast_la ho (by decide)]
  exact ⟨by omega, by omega, rfl, h', hq, rfl⟩
theorem x_degree_1 {fs : List Value} (hx : h x = some (ob 5 fs)) (hs : Sp 21 82 [.ref x, .int p0] h z 1 6 P') (hP : ∀ o h' z', P' o h' z' → o = .inr 2) : Sp 22 81 [.ref x, .int p0, .ref out] h z 1 6 (fun o h' z' => o = .inl (some (.int 1)) ∧ P' (.inr 2) h' z') := by
  refine Sp_in (al := [some (.ref x), some (.int p0), some (.ref out), none]) ?_
  simp only [s81_0, s81_1, s81_2, s81_3, s81_7, s81_8, s81_9, s81_12, s81_13, s81_14, s81_15, s81_16, ldi_0, ldi_s, ldl_0, ldl_s, ldd_0, ldd_s, lda_0, lda_s, st1_0, st1_1, st2_0, st2_1, sti_0, sti_1, stj_0, stj_1, st1_2, sti_2, st2_2, stj_2, st1_3, sti_3, st2_3, stj_3, st1_4, sti_4, st2_4, stj_4, st1_5, sti_5, st2_5, stj_5, st1_6, sti_6, st2_6, stj_6, st1_7, sti_7, st2_7, stj_7, st1_8, sti_8, st2_8, stj_8, st1_9, sti_9, st2_9, stj_9, kil_n, kil_i, kil_r, kil_l, kil_d, gl_0, gl_s, cat_i, cat_r, true_and]
  refine c81_4 hx hs (by omega) (by omega) ?_
  intro o h' z' hq
  obtain rfl := hP o h' z' hq
  obtain ⟨hp, e⟩ : ∃ hp, hdl 81 2 4 = some hp := ⟨_, rfl⟩
  unfold aRet
  dsimp only
  rw [show hdl 81 2 4 = some _ from rfl]
  intro q
  simp only [s81_0, s81_1, s81_2, s81_3, s81_7, s81_8, s81_9, s81_12, s81_13, s81_14, s81_15, s81_16, ldi_0, ldi_s, ldl_0, ldl_s, ldd_0, ldd_s, lda_0, lda_s, st1_0, st1_1, st2_0, st2_1, sti_0, sti_1, stj_0, stj_1, st1_2, sti_2, st2_2, stj_2, st1_3, sti_3, st2_3, stj_3, st1_4, sti_4, st2_4, stj_4, st1_5, sti_5, st2_5, stj_5, st1_6, sti_6, st2_6, stj_6, st1_7, sti_7, st2_7, stj_7, st1_8, sti_8, st2_8, stj_8, st1_9, sti_9, st2_9, stj_9, kil_n, kil_i, kil_r, kil_l, kil_d, gl_0, gl_s, cat_i, cat_r, true_and]
  exact ⟨by omega, by omega, rfl, hq⟩
theorem w_next {v : Int32} {fs : List Value} (hx : h x = some (ob 5 fs)) (hs : Sp 21 85 [.ref x, .int p0, .int p1] h z 0 0 P') (hP : ∀ o h' z', P' o h' z' → o = .inl (some (.int v)) ∧ h' out = some (la 1 O)) : Sp 22 84 [.ref x, .int p0, .int p1, .ref out] h z 0 0 (fun o h' z' => o = .inl (some (.int 0)) ∧ ∃ h1, P' (.inl (some (.int v))) h1 z' ∧ h' = hup h1 out (la 1 (updL O 0 (v.toInt64)))) := by
  refine Sp_in (al := [some (.ref x), some (.int p0), some (.int p1), some (.ref out), none]) ?_
  simp only [s84_0, s84_1, s84_2, s84_3, s84_4, s84_8, s84_9, s84_10, s84_13, s84_15, s84_16, s84_17, s84_18, ldi_0, ldi_s, ldl_0, ldl_s, ldd_0, ldd_s, lda_0, lda_s, st1_0, st1_1, st2_0, st2_1, sti_0, sti_1, stj_0, stj_1, st1_2, sti_2, st2_2, stj_2, st1_3, sti_3, st2_3, stj_3, st1_4, sti_4, st2_4, stj_4, st1_5, sti_5, st2_5, stj_5, st1_6, sti_6, st2_6, stj_6, st1_7, sti_7, st2_7, stj_7, st1_8, sti_8, st2_8, stj_8, st1_9, sti_9, st2_9, stj_9, kil_n, kil_i, kil_r, kil_l, kil_d, gl_0, gl_s, cat_i, cat_r, true_and]
  refine c84_5 hx hs (by omega) (by omega) ?_
  intro o h' z' hq
  obtain ⟨rfl, ho⟩ := hP o h' z' hq
  show aW (Sp 21) 84 0 0 _ 8 _ _ _ _ _ _
  simp only [s84_0, s84_1, s84_2, s84_3, s84_4, s84_8, s84_9, s84_10, s84_13, s84_15, s84_16, s84_17, s84_18, ldi_0, ldi_s, ldl_0, ldl_s, ldd_0, ldd_s, lda_0, lda_s, st1_0, st1_1, st2_0, st2_1, sti_0, sti_1, stj_0, stj_1, st1_2, sti_2, st2_2, stj_2, st1_3, sti_3, st2_3, stj_3, st1_4, sti_4, st2_4, stj_4, st1_5, sti_5, st2_5, stj_5, st1_6, sti_6, st2_6, stj_6, st1_7, sti_7, st2_7, stj_7, st1_8, sti_8, st2_8, stj_8, st1_9, sti_9, st2_9, stj_9, kil_n, kil_i, kil_r, kil_l, kil_d, gl_0, gl_s, cat_i, cat_r, true_and]
  rw [nI_lit0, ast_la ho (by decide)]
  exact ⟨by omega, by omega, rfl, h', hq, rfl⟩
theorem x_next_1 {fs : List Value} (hx : h x = some (ob 5 fs)) (hs : Sp 21 85 [.ref x, .int p0, .int p1] h z 1 6 P') (hP : ∀ o h' z', P' o h' z' → o = .inr 2) : Sp 22 84 [.ref x, .int p0, .int p1, .ref out] h z 1 6 (fun o h' z' => o = .inl (some (.int 1)) ∧ P' (.inr 2) h' z') := by
  refine Sp_in (al := [some (.ref x), some (.int p0), some (.int p1), some (.ref out), none]) ?_
  simp only [s84_0, s84_1, s84_2, s84_3, s84_4, s84_8, s84_9, s84_10, s84_13, s84_15, s84_16, s84_17, s84_18, ldi_0, ldi_s, ldl_0, ldl_s, ldd_0, ldd_s, lda_0, lda_s, st1_0, st1_1, st2_0, st2_1, sti_0, sti_1, stj_0, stj_1, st1_2, sti_2, st2_2, stj_2, st1_3, sti_3, st2_3, stj_3, st1_4, sti_4, st2_4, stj_4, st1_5, sti_5, st2_5, stj_5, st1_6, sti_6, st2_6, stj_6, st1_7, sti_7, st2_7, stj_7, st1_8, sti_8, st2_8, stj_8, st1_9, sti_9, st2_9, stj_9, kil_n, kil_i, kil_r, kil_l, kil_d, gl_0, gl_s, cat_i, cat_r, true_and]
  refine c84_5 hx hs (by omega) (by omega) ?_
  intro o h' z' hq
  obtain rfl := hP o h' z' hq
  obtain ⟨hp, e⟩ : ∃ hp, hdl 84 2 5 = some hp := ⟨_, rfl⟩
  unfold aRet
  dsimp only
  rw [show hdl 84 2 5 = some _ from rfl]
  intro q
  simp only [s84_0, s84_1, s84_2, s84_3, s84_4, s84_8, s84_9, s84_10, s84_13, s84_15, s84_16, s84_17, s84_18, ldi_0, ldi_s, ldl_0, ldl_s, ldd_0, ldd_s, lda_0, lda_s, st1_0, st1_1, st2_0, st2_1, sti_0, sti_1, stj_0, stj_1, st1_2, sti_2, st2_2, stj_2, st1_3, sti_3, st2_3, stj_3, st1_4, sti_4, st2_4, stj_4, st1_5, sti_5, st2_5, stj_5, st1_6, sti_6, st2_6, stj_6, st1_7, sti_7, st2_7, stj_7, st1_8, sti_8, st2_8, stj_8, st1_9, sti_9, st2_9, stj_9, kil_n, kil_i, kil_r, kil_l, kil_d, gl_0, gl_s, cat_i, cat_r, true_and]
  exact ⟨by omega, by omega, rfl, hq⟩
theorem w_previous {v : Int32} {fs : List Value} (hx : h x = some (ob 5 fs)) (hs : Sp 21 89 [.ref x, .int p0, .int p1] h z 0 0 P') (hP : ∀ o h' z', P' o h' z' → o = .inl (some (.int v)) ∧ h' out = some (la 1 O)) : Sp 22 88 [.ref x, .int p0, .int p1, .ref out] h z 0 0 (fun o h' z' => o = .inl (some (.int 0)) ∧ ∃ h1, P' (.inl (some (.int v))) h1 z' ∧ h' = hup h1 out (la 1 (updL O 0 (v.toInt64)))) := by
  refine Sp_in (al := [some (.ref x), some (.int p0), some (.int p1), some (.ref out), none]) ?_
  simp only [s88_0, s88_1, s88_2, s88_3, s88_4, s88_8, s88_9, s88_10, s88_13, s88_15, s88_16, s88_17, s88_18, ldi_0, ldi_s, ldl_0, ldl_s, ldd_0, ldd_s, lda_0, lda_s, st1_0, st1_1, st2_0, st2_1, sti_0, sti_1, stj_0, stj_1, st1_2, sti_2, st2_2, stj_2, st1_3, sti_3, st2_3, stj_3, st1_4, sti_4, st2_4, stj_4, st1_5, sti_5, st2_5, stj_5, st1_6, sti_6, st2_6, stj_6, st1_7, sti_7, st2_7, stj_7, st1_8, sti_8, st2_8, stj_8, st1_9, sti_9, st2_9, stj_9, kil_n, kil_i, kil_r, kil_l, kil_d, gl_0, gl_s, cat_i, cat_r, true_and]
  refine c88_5 hx hs (by omega) (by omega) ?_
  intro o h' z' hq
  obtain ⟨rfl, ho⟩ := hP o h' z' hq
  show aW (Sp 21) 88 0 0 _ 8 _ _ _ _ _ _
  simp only [s88_0, s88_1, s88_2, s88_3, s88_4, s88_8, s88_9, s88_10, s88_13, s88_15, s88_16, s88_17, s88_18, ldi_0, ldi_s, ldl_0, ldl_s, ldd_0, ldd_s, lda_0, lda_s, st1_0, st1_1, st2_0, st2_1, sti_0, sti_1, stj_0, stj_1, st1_2, sti_2, st2_2, stj_2, st1_3, sti_3, st2_3, stj_3, st1_4, sti_4, st2_4, stj_4, st1_5, sti_5, st2_5, stj_5, st1_6, sti_6, st2_6, stj_6, st1_7, sti_7, st2_7, stj_7, st1_8, sti_8, st2_8, stj_8, st1_9, sti_9, st2_9, stj_9, kil_n, kil_i, kil_r, kil_l, kil_d, gl_0, gl_s, cat_i, cat_r, true_and]
  rw [nI_lit0, ast_la ho (by decide)]
  exact ⟨by omega, by omega, rfl, h', hq, rfl⟩
theorem x_previous_1 {fs : List Value} (hx : h x = some (ob 5 fs)) (hs : Sp 21 89 [.ref x, .int p0, .int p1] h z 1 6 P') (hP : ∀ o h' z', P' o h' z' → o = .inr 2) : Sp 22 88 [.ref x, .int p0, .int p1, .ref out] h z 1 6 (fun o h' z' => o = .inl (some (.int 1)) ∧ P' (.inr 2) h' z') := by
  refine Sp_in (al := [some (.ref x), some (.int p0), some (.int p1), some (.ref out), none]) ?_
  simp only [s88_0, s88_1, s88_2, s88_3, s88_4, s88_8, s88_9, s88_10, s88_13, s88_15, s88_16, s88_17, s88_18, ldi_0, ldi_s, ldl_0, ldl_s, ldd_0, ldd_s, lda_0, lda_s, st1_0, st1_1, st2_0, st2_1, sti_0, sti_1, stj_0, stj_1, st1_2, sti_2, st2_2, stj_2, st1_3, sti_3, st2_3, stj_3, st1_4, sti_4, st2_4, stj_4, st1_5, sti_5, st2_5, stj_5, st1_6, sti_6, st2_6, stj_6, st1_7, sti_7, st2_7, stj_7, st1_8, sti_8, st2_8, stj_8, st1_9, sti_9, st2_9, stj_9, kil_n, kil_i, kil_r, kil_l, kil_d, gl_0, gl_s, cat_i, cat_r, true_and]
  refine c88_5 hx hs (by omega) (by omega) ?_
  intro o h' z' hq
  obtain rfl := hP o h' z' hq
  obtain ⟨hp, e⟩ : ∃ hp, hdl 88 2 5 = some hp := ⟨_, rfl⟩
  unfold aRet
  dsimp only
  rw [show hdl 88 2 5 = some _ from rfl]
  intro q
  simp only [s88_0, s88_1, s88_2, s88_3, s88_4, s88_8, s88_9, s88_10, s88_13, s88_15, s88_16, s88_17, s88_18, ldi_0, ldi_s, ldl_0, ldl_s, ldd_0, ldd_s, lda_0, lda_s, st1_0, st1_1, st2_0, st2_1, sti_0, sti_1, stj_0, stj_1, st1_2, sti_2, st2_2, stj_2, st1_3, sti_3, st2_3, stj_3, st1_4, sti_4, st2_4, stj_4, st1_5, sti_5, st2_5, stj_5, st1_6, sti_6, st2_6, stj_6, st1_7, sti_7, st2_7, stj_7, st1_8, sti_8, st2_8, stj_8, st1_9, sti_9, st2_9, stj_9, kil_n, kil_i, kil_r, kil_l, kil_d, gl_0, gl_s, cat_i, cat_r, true_and]
  exact ⟨by omega, by omega, rfl, hq⟩
theorem w_mean {v : UInt64} {D : Nat → Value} {fs : List Value} (hx : h x = some (ob 5 fs)) (hs : Sp 21 92 [.ref x] h z 0 0 P') (hP : ∀ o h' z', P' o h' z' → o = .inl (some (.double v)) ∧ h' out = some (ra 3 1 D)) : Sp 22 91 [.ref x, .ref out] h z 0 0 (fun o h' z' => o = .inl (some (.int 0)) ∧ ∃ h1, P' (.inl (some (.double v))) h1 z' ∧ h' = hup h1 out (ra 3 1 (updV' D 0 (.double v)))) := by
  refine Sp_in (al := [some (.ref x), some (.ref out), none]) ?_
  simp only [s91_0, s91_1, s91_2, s91_6, s91_7, s91_10, s91_11, s91_12, s91_13, s91_14, ldi_0, ldi_s, ldl_0, ldl_s, ldd_0, ldd_s, lda_0, lda_s, st1_0, st1_1, st2_0, st2_1, sti_0, sti_1, stj_0, stj_1, st1_2, sti_2, st2_2, stj_2, st1_3, sti_3, st2_3, stj_3, st1_4, sti_4, st2_4, stj_4, st1_5, sti_5, st2_5, stj_5, st1_6, sti_6, st2_6, stj_6, st1_7, sti_7, st2_7, stj_7, st1_8, sti_8, st2_8, stj_8, st1_9, sti_9, st2_9, stj_9, kil_n, kil_i, kil_r, kil_l, kil_d, gl_0, gl_s, cat_i, cat_r, true_and]
  refine c91_3 hx hs (by omega) (by omega) ?_
  intro o h' z' hq
  obtain ⟨rfl, ho⟩ := hP o h' z' hq
  show aW (Sp 21) 91 0 0 _ 6 _ _ _ _ _ _
  simp only [s91_0, s91_1, s91_2, s91_6, s91_7, s91_10, s91_11, s91_12, s91_13, s91_14, ldi_0, ldi_s, ldl_0, ldl_s, ldd_0, ldd_s, lda_0, lda_s, st1_0, st1_1, st2_0, st2_1, sti_0, sti_1, stj_0, stj_1, st1_2, sti_2, st2_2, stj_2, st1_3, sti_3, st2_3, stj_3, st1_4, sti_4, st2_4, stj_4, st1_5, sti_5, st2_5, stj_5, st1_6, sti_6, st2_6, stj_6, st1_7, sti_7, st2_7, stj_7, st1_8, sti_8, st2_8, stj_8, st1_9, sti_9, st2_9, stj_9, kil_n, kil_i, kil_r, kil_l, kil_d, gl_0, gl_s, cat_i, cat_r, true_and]
  rw [nI_lit0, ast_at ho (by decide)]
  exact ⟨by omega, by omega, rfl, h', hq, rfl⟩
theorem x_mean_1 {fs : List Value} (hx : h x = some (ob 5 fs)) (hs : Sp 21 92 [.ref x] h z 1 6 P') (hP : ∀ o h' z', P' o h' z' → o = .inr 1) : Sp 22 91 [.ref x, .ref out] h z 1 6 (fun o h' z' => o = .inl (some (.int 1)) ∧ P' (.inr 1) h' z') := by
  refine Sp_in (al := [some (.ref x), some (.ref out), none]) ?_
  simp only [s91_0, s91_1, s91_2, s91_6, s91_7, s91_10, s91_11, s91_12, s91_13, s91_14, ldi_0, ldi_s, ldl_0, ldl_s, ldd_0, ldd_s, lda_0, lda_s, st1_0, st1_1, st2_0, st2_1, sti_0, sti_1, stj_0, stj_1, st1_2, sti_2, st2_2, stj_2, st1_3, sti_3, st2_3, stj_3, st1_4, sti_4, st2_4, stj_4, st1_5, sti_5, st2_5, stj_5, st1_6, sti_6, st2_6, stj_6, st1_7, sti_7, st2_7, stj_7, st1_8, sti_8, st2_8, stj_8, st1_9, sti_9, st2_9, stj_9, kil_n, kil_i, kil_r, kil_l, kil_d, gl_0, gl_s, cat_i, cat_r, true_and]
  refine c91_3 hx hs (by omega) (by omega) ?_
  intro o h' z' hq
  obtain rfl := hP o h' z' hq
  obtain ⟨hp, e⟩ : ∃ hp, hdl 91 1 3 = some hp := ⟨_, rfl⟩
  unfold aRet
  dsimp only
  rw [show hdl 91 1 3 = some _ from rfl]
  intro q
  simp only [s91_0, s91_1, s91_2, s91_6, s91_7, s91_10, s91_11, s91_12, s91_13, s91_14, ldi_0, ldi_s, ldl_0, ldl_s, ldd_0, ldd_s, lda_0, lda_s, st1_0, st1_1, st2_0, st2_1, sti_0, sti_1, stj_0, stj_1, st1_2, sti_2, st2_2, stj_2, st1_3, sti_3, st2_3, stj_3, st1_4, sti_4, st2_4, stj_4, st1_5, sti_5, st2_5, stj_5, st1_6, sti_6, st2_6, stj_6, st1_7, sti_7, st2_7, stj_7, st1_8, sti_8, st2_8, stj_8, st1_9, sti_9, st2_9, stj_9, kil_n, kil_i, kil_r, kil_l, kil_d, gl_0, gl_s, cat_i, cat_r, true_and]
  exact ⟨by omega, by omega, rfl, hq⟩
theorem w_piece {v : Int32} {fs : List Value} (hx : h x = some (ob 5 fs)) (hs : Sp 21 101 [.ref x, .int p0] h z 0 0 P') (hP : ∀ o h' z', P' o h' z' → o = .inl (some (.int v)) ∧ h' out = some (la 1 O)) : Sp 22 100 [.ref x, .int p0, .ref out] h z 0 0 (fun o h' z' => o = .inl (some (.int 0)) ∧ ∃ h1, P' (.inl (some (.int v))) h1 z' ∧ h' = hup h1 out (la 1 (updL O 0 (v.toInt64)))) := by
  refine Sp_in (al := [some (.ref x), some (.int p0), some (.ref out), none]) ?_
  simp only [s100_0, s100_1, s100_2, s100_3, s100_7, s100_8, s100_9, s100_12, s100_13, s100_14, s100_15, s100_16, ldi_0, ldi_s, ldl_0, ldl_s, ldd_0, ldd_s, lda_0, lda_s, st1_0, st1_1, st2_0, st2_1, sti_0, sti_1, stj_0, stj_1, st1_2, sti_2, st2_2, stj_2, st1_3, sti_3, st2_3, stj_3, st1_4, sti_4, st2_4, stj_4, st1_5, sti_5, st2_5, stj_5, st1_6, sti_6, st2_6, stj_6, st1_7, sti_7, st2_7, stj_7, st1_8, sti_8, st2_8, stj_8, st1_9, sti_9, st2_9, stj_9, kil_n, kil_i, kil_r, kil_l, kil_d, gl_0, gl_s, cat_i, cat_r, true_and]
  refine c100_4 hx hs (by omega) (by omega) ?_
  intro o h' z' hq
  obtain ⟨rfl, ho⟩ := hP o h' z' hq
  show aW (Sp 21) 100 0 0 _ 7 _ _ _ _ _ _
  simp only [s100_0, s100_1, s100_2, s100_3, s100_7, s100_8, s100_9, s100_12, s100_13, s100_14, s100_15, s100_16, ldi_0, ldi_s, ldl_0, ldl_s, ldd_0, ldd_s, lda_0, lda_s, st1_0, st1_1, st2_0, st2_1, sti_0, sti_1, stj_0, stj_1, st1_2, sti_2, st2_2, stj_2, st1_3, sti_3, st2_3, stj_3, st1_4, sti_4, st2_4, stj_4, st1_5, sti_5, st2_5, stj_5, st1_6, sti_6, st2_6, stj_6, st1_7, sti_7, st2_7, stj_7, st1_8, sti_8, st2_8, stj_8, st1_9, sti_9, st2_9, stj_9, kil_n, kil_i, kil_r, kil_l, kil_d, gl_0, gl_s, cat_i, cat_r, true_and]
  rw [nI_lit0, ast_la ho (by decide)]
  exact ⟨by omega, by omega, rfl, h', hq, rfl⟩
theorem x_piece_1 {fs : List Value} (hx : h x = some (ob 5 fs)) (hs : Sp 21 101 [.ref x, .int p0] h z 1 6 P') (hP : ∀ o h' z', P' o h' z' → o = .inr 2) : Sp 22 100 [.ref x, .int p0, .ref out] h z 1 6 (fun o h' z' => o = .inl (some (.int 1)) ∧ P' (.inr 2) h' z') := by
  refine Sp_in (al := [some (.ref x), some (.int p0), some (.ref out), none]) ?_
  simp only [s100_0, s100_1, s100_2, s100_3, s100_7, s100_8, s100_9, s100_12, s100_13, s100_14, s100_15, s100_16, ldi_0, ldi_s, ldl_0, ldl_s, ldd_0, ldd_s, lda_0, lda_s, st1_0, st1_1, st2_0, st2_1, sti_0, sti_1, stj_0, stj_1, st1_2, sti_2, st2_2, stj_2, st1_3, sti_3, st2_3, stj_3, st1_4, sti_4, st2_4, stj_4, st1_5, sti_5, st2_5, stj_5, st1_6, sti_6, st2_6, stj_6, st1_7, sti_7, st2_7, stj_7, st1_8, sti_8, st2_8, stj_8, st1_9, sti_9, st2_9, stj_9, kil_n, kil_i, kil_r, kil_l, kil_d, gl_0, gl_s, cat_i, cat_r, true_and]
  refine c100_4 hx hs (by omega) (by omega) ?_
  intro o h' z' hq
  obtain rfl := hP o h' z' hq
  obtain ⟨hp, e⟩ : ∃ hp, hdl 100 2 4 = some hp := ⟨_, rfl⟩
  unfold aRet
  dsimp only
  rw [show hdl 100 2 4 = some _ from rfl]
  intro q
  simp only [s100_0, s100_1, s100_2, s100_3, s100_7, s100_8, s100_9, s100_12, s100_13, s100_14, s100_15, s100_16, ldi_0, ldi_s, ldl_0, ldl_s, ldd_0, ldd_s, lda_0, lda_s, st1_0, st1_1, st2_0, st2_1, sti_0, sti_1, stj_0, stj_1, st1_2, sti_2, st2_2, stj_2, st1_3, sti_3, st2_3, stj_3, st1_4, sti_4, st2_4, stj_4, st1_5, sti_5, st2_5, stj_5, st1_6, sti_6, st2_6, stj_6, st1_7, sti_7, st2_7, stj_7, st1_8, sti_8, st2_8, stj_8, st1_9, sti_9, st2_9, stj_9, kil_n, kil_i, kil_r, kil_l, kil_d, gl_0, gl_s, cat_i, cat_r, true_and]
  exact ⟨by omega, by omega, rfl, hq⟩
theorem w_partings {v : Int32} {fs : List Value} (hx : h x = some (ob 5 fs)) (hs : Sp 21 113 [.ref x, .int p0] h z 0 0 P') (hP : ∀ o h' z', P' o h' z' → o = .inl (some (.int v)) ∧ h' out = some (la 1 O)) : Sp 22 112 [.ref x, .int p0, .ref out] h z 0 0 (fun o h' z' => o = .inl (some (.int 0)) ∧ ∃ h1, P' (.inl (some (.int v))) h1 z' ∧ h' = hup h1 out (la 1 (updL O 0 (v.toInt64)))) := by
  refine Sp_in (al := [some (.ref x), some (.int p0), some (.ref out), none]) ?_
  simp only [s112_0, s112_1, s112_2, s112_3, s112_7, s112_8, s112_9, s112_12, s112_13, s112_14, s112_15, s112_16, ldi_0, ldi_s, ldl_0, ldl_s, ldd_0, ldd_s, lda_0, lda_s, st1_0, st1_1, st2_0, st2_1, sti_0, sti_1, stj_0, stj_1, st1_2, sti_2, st2_2, stj_2, st1_3, sti_3, st2_3, stj_3, st1_4, sti_4, st2_4, stj_4, st1_5, sti_5, st2_5, stj_5, st1_6, sti_6, st2_6, stj_6, st1_7, sti_7, st2_7, stj_7, st1_8, sti_8, st2_8, stj_8, st1_9, sti_9, st2_9, stj_9, kil_n, kil_i, kil_r, kil_l, kil_d, gl_0, gl_s, cat_i, cat_r, true_and]
  refine c112_4 hx hs (by omega) (by omega) ?_
  intro o h' z' hq
  obtain ⟨rfl, ho⟩ := hP o h' z' hq
  show aW (Sp 21) 112 0 0 _ 7 _ _ _ _ _ _
  simp only [s112_0, s112_1, s112_2, s112_3, s112_7, s112_8, s112_9, s112_12, s112_13, s112_14, s112_15, s112_16, ldi_0, ldi_s, ldl_0, ldl_s, ldd_0, ldd_s, lda_0, lda_s, st1_0, st1_1, st2_0, st2_1, sti_0, sti_1, stj_0, stj_1, st1_2, sti_2, st2_2, stj_2, st1_3, sti_3, st2_3, stj_3, st1_4, sti_4, st2_4, stj_4, st1_5, sti_5, st2_5, stj_5, st1_6, sti_6, st2_6, stj_6, st1_7, sti_7, st2_7, stj_7, st1_8, sti_8, st2_8, stj_8, st1_9, sti_9, st2_9, stj_9, kil_n, kil_i, kil_r, kil_l, kil_d, gl_0, gl_s, cat_i, cat_r, true_and]
  rw [nI_lit0, ast_la ho (by decide)]
  exact ⟨by omega, by omega, rfl, h', hq, rfl⟩
theorem x_partings_1 {fs : List Value} (hx : h x = some (ob 5 fs)) (hs : Sp 21 113 [.ref x, .int p0] h z 1 6 P') (hP : ∀ o h' z', P' o h' z' → o = .inr 0) : Sp 22 112 [.ref x, .int p0, .ref out] h z 1 6 (fun o h' z' => o = .inl (some (.int 1)) ∧ P' (.inr 0) h' z') := by
  refine Sp_in (al := [some (.ref x), some (.int p0), some (.ref out), none]) ?_
  simp only [s112_0, s112_1, s112_2, s112_3, s112_7, s112_8, s112_9, s112_12, s112_13, s112_14, s112_15, s112_16, ldi_0, ldi_s, ldl_0, ldl_s, ldd_0, ldd_s, lda_0, lda_s, st1_0, st1_1, st2_0, st2_1, sti_0, sti_1, stj_0, stj_1, st1_2, sti_2, st2_2, stj_2, st1_3, sti_3, st2_3, stj_3, st1_4, sti_4, st2_4, stj_4, st1_5, sti_5, st2_5, stj_5, st1_6, sti_6, st2_6, stj_6, st1_7, sti_7, st2_7, stj_7, st1_8, sti_8, st2_8, stj_8, st1_9, sti_9, st2_9, stj_9, kil_n, kil_i, kil_r, kil_l, kil_d, gl_0, gl_s, cat_i, cat_r, true_and]
  refine c112_4 hx hs (by omega) (by omega) ?_
  intro o h' z' hq
  obtain rfl := hP o h' z' hq
  obtain ⟨hp, e⟩ : ∃ hp, hdl 112 0 4 = some hp := ⟨_, rfl⟩
  unfold aRet
  dsimp only
  rw [show hdl 112 0 4 = some _ from rfl]
  intro q
  simp only [s112_0, s112_1, s112_2, s112_3, s112_7, s112_8, s112_9, s112_12, s112_13, s112_14, s112_15, s112_16, ldi_0, ldi_s, ldl_0, ldl_s, ldd_0, ldd_s, lda_0, lda_s, st1_0, st1_1, st2_0, st2_1, sti_0, sti_1, stj_0, stj_1, st1_2, sti_2, st2_2, stj_2, st1_3, sti_3, st2_3, stj_3, st1_4, sti_4, st2_4, stj_4, st1_5, sti_5, st2_5, stj_5, st1_6, sti_6, st2_6, stj_6, st1_7, sti_7, st2_7, stj_7, st1_8, sti_8, st2_8, stj_8, st1_9, sti_9, st2_9, stj_9, kil_n, kil_i, kil_r, kil_l, kil_d, gl_0, gl_s, cat_i, cat_r, true_and]
  exact ⟨by omega, by omega, rfl, hq⟩
theorem w_colour {v : Int32} {fs : List Value} (hx : h x = some (ob 5 fs)) (hs : Sp 21 130 [.ref x, .int p0] h z 0 0 P') (hP : ∀ o h' z', P' o h' z' → o = .inl (some (.int v)) ∧ h' out = some (la 1 O)) : Sp 22 129 [.ref x, .int p0, .ref out] h z 0 0 (fun o h' z' => o = .inl (some (.int 0)) ∧ ∃ h1, P' (.inl (some (.int v))) h1 z' ∧ h' = hup h1 out (la 1 (updL O 0 (v.toInt64)))) := by
  refine Sp_in (al := [some (.ref x), some (.int p0), some (.ref out), none]) ?_
  simp only [s129_0, s129_1, s129_2, s129_3, s129_7, s129_8, s129_9, s129_12, s129_13, s129_14, s129_15, s129_16, ldi_0, ldi_s, ldl_0, ldl_s, ldd_0, ldd_s, lda_0, lda_s, st1_0, st1_1, st2_0, st2_1, sti_0, sti_1, stj_0, stj_1, st1_2, sti_2, st2_2, stj_2, st1_3, sti_3, st2_3, stj_3, st1_4, sti_4, st2_4, stj_4, st1_5, sti_5, st2_5, stj_5, st1_6, sti_6, st2_6, stj_6, st1_7, sti_7, st2_7, stj_7, st1_8, sti_8, st2_8, stj_8, st1_9, sti_9, st2_9, stj_9, kil_n, kil_i, kil_r, kil_l, kil_d, gl_0, gl_s, cat_i, cat_r, true_and]
  refine c129_4 hx hs (by omega) (by omega) ?_
  intro o h' z' hq
  obtain ⟨rfl, ho⟩ := hP o h' z' hq
  show aW (Sp 21) 129 0 0 _ 7 _ _ _ _ _ _
  simp only [s129_0, s129_1, s129_2, s129_3, s129_7, s129_8, s129_9, s129_12, s129_13, s129_14, s129_15, s129_16, ldi_0, ldi_s, ldl_0, ldl_s, ldd_0, ldd_s, lda_0, lda_s, st1_0, st1_1, st2_0, st2_1, sti_0, sti_1, stj_0, stj_1, st1_2, sti_2, st2_2, stj_2, st1_3, sti_3, st2_3, stj_3, st1_4, sti_4, st2_4, stj_4, st1_5, sti_5, st2_5, stj_5, st1_6, sti_6, st2_6, stj_6, st1_7, sti_7, st2_7, stj_7, st1_8, sti_8, st2_8, stj_8, st1_9, sti_9, st2_9, stj_9, kil_n, kil_i, kil_r, kil_l, kil_d, gl_0, gl_s, cat_i, cat_r, true_and]
  rw [nI_lit0, ast_la ho (by decide)]
  exact ⟨by omega, by omega, rfl, h', hq, rfl⟩
theorem x_colour_1 {fs : List Value} (hx : h x = some (ob 5 fs)) (hs : Sp 21 130 [.ref x, .int p0] h z 1 6 P') (hP : ∀ o h' z', P' o h' z' → o = .inr 2) : Sp 22 129 [.ref x, .int p0, .ref out] h z 1 6 (fun o h' z' => o = .inl (some (.int 1)) ∧ P' (.inr 2) h' z') := by
  refine Sp_in (al := [some (.ref x), some (.int p0), some (.ref out), none]) ?_
  simp only [s129_0, s129_1, s129_2, s129_3, s129_7, s129_8, s129_9, s129_12, s129_13, s129_14, s129_15, s129_16, ldi_0, ldi_s, ldl_0, ldl_s, ldd_0, ldd_s, lda_0, lda_s, st1_0, st1_1, st2_0, st2_1, sti_0, sti_1, stj_0, stj_1, st1_2, sti_2, st2_2, stj_2, st1_3, sti_3, st2_3, stj_3, st1_4, sti_4, st2_4, stj_4, st1_5, sti_5, st2_5, stj_5, st1_6, sti_6, st2_6, stj_6, st1_7, sti_7, st2_7, stj_7, st1_8, sti_8, st2_8, stj_8, st1_9, sti_9, st2_9, stj_9, kil_n, kil_i, kil_r, kil_l, kil_d, gl_0, gl_s, cat_i, cat_r, true_and]
  refine c129_4 hx hs (by omega) (by omega) ?_
  intro o h' z' hq
  obtain rfl := hP o h' z' hq
  obtain ⟨hp, e⟩ : ∃ hp, hdl 129 2 4 = some hp := ⟨_, rfl⟩
  unfold aRet
  dsimp only
  rw [show hdl 129 2 4 = some _ from rfl]
  intro q
  simp only [s129_0, s129_1, s129_2, s129_3, s129_7, s129_8, s129_9, s129_12, s129_13, s129_14, s129_15, s129_16, ldi_0, ldi_s, ldl_0, ldl_s, ldd_0, ldd_s, lda_0, lda_s, st1_0, st1_1, st2_0, st2_1, sti_0, sti_1, stj_0, stj_1, st1_2, sti_2, st2_2, stj_2, st1_3, sti_3, st2_3, stj_3, st1_4, sti_4, st2_4, stj_4, st1_5, sti_5, st2_5, stj_5, st1_6, sti_6, st2_6, stj_6, st1_7, sti_7, st2_7, stj_7, st1_8, sti_8, st2_8, stj_8, st1_9, sti_9, st2_9, stj_9, kil_n, kil_i, kil_r, kil_l, kil_d, gl_0, gl_s, cat_i, cat_r, true_and]
  exact ⟨by omega, by omega, rfl, hq⟩
theorem w_colourings {v : Int32} {fs : List Value} (hx : h x = some (ob 5 fs)) (hs : Sp 21 137 [.ref x, .int p0] h z 0 0 P') (hP : ∀ o h' z', P' o h' z' → o = .inl (some (.int v)) ∧ h' out = some (la 1 O)) : Sp 22 136 [.ref x, .int p0, .ref out] h z 0 0 (fun o h' z' => o = .inl (some (.int 0)) ∧ ∃ h1, P' (.inl (some (.int v))) h1 z' ∧ h' = hup h1 out (la 1 (updL O 0 (v.toInt64)))) := by
  refine Sp_in (al := [some (.ref x), some (.int p0), some (.ref out), none]) ?_
  simp only [s136_0, s136_1, s136_2, s136_3, s136_7, s136_8, s136_9, s136_12, s136_13, s136_14, s136_15, s136_16, ldi_0, ldi_s, ldl_0, ldl_s, ldd_0, ldd_s, lda_0, lda_s, st1_0, st1_1, st2_0, st2_1, sti_0, sti_1, stj_0, stj_1, st1_2, sti_2, st2_2, stj_2, st1_3, sti_3, st2_3, stj_3, st1_4, sti_4, st2_4, stj_4, st1_5, sti_5, st2_5, stj_5, st1_6, sti_6, st2_6, stj_6, st1_7, sti_7, st2_7, stj_7, st1_8, sti_8, st2_8, stj_8, st1_9, sti_9, st2_9, stj_9, kil_n, kil_i, kil_r, kil_l, kil_d, gl_0, gl_s, cat_i, cat_r, true_and]
  refine c136_4 hx hs (by omega) (by omega) ?_
  intro o h' z' hq
  obtain ⟨rfl, ho⟩ := hP o h' z' hq
  show aW (Sp 21) 136 0 0 _ 7 _ _ _ _ _ _
  simp only [s136_0, s136_1, s136_2, s136_3, s136_7, s136_8, s136_9, s136_12, s136_13, s136_14, s136_15, s136_16, ldi_0, ldi_s, ldl_0, ldl_s, ldd_0, ldd_s, lda_0, lda_s, st1_0, st1_1, st2_0, st2_1, sti_0, sti_1, stj_0, stj_1, st1_2, sti_2, st2_2, stj_2, st1_3, sti_3, st2_3, stj_3, st1_4, sti_4, st2_4, stj_4, st1_5, sti_5, st2_5, stj_5, st1_6, sti_6, st2_6, stj_6, st1_7, sti_7, st2_7, stj_7, st1_8, sti_8, st2_8, stj_8, st1_9, sti_9, st2_9, stj_9, kil_n, kil_i, kil_r, kil_l, kil_d, gl_0, gl_s, cat_i, cat_r, true_and]
  rw [nI_lit0, ast_la ho (by decide)]
  exact ⟨by omega, by omega, rfl, h', hq, rfl⟩
theorem x_colourings_1 {fs : List Value} (hx : h x = some (ob 5 fs)) (hs : Sp 21 137 [.ref x, .int p0] h z 1 6 P') (hP : ∀ o h' z', P' o h' z' → o = .inr 0) : Sp 22 136 [.ref x, .int p0, .ref out] h z 1 6 (fun o h' z' => o = .inl (some (.int 1)) ∧ P' (.inr 0) h' z') := by
  refine Sp_in (al := [some (.ref x), some (.int p0), some (.ref out), none]) ?_
  simp only [s136_0, s136_1, s136_2, s136_3, s136_7, s136_8, s136_9, s136_12, s136_13, s136_14, s136_15, s136_16, ldi_0, ldi_s, ldl_0, ldl_s, ldd_0, ldd_s, lda_0, lda_s, st1_0, st1_1, st2_0, st2_1, sti_0, sti_1, stj_0, stj_1, st1_2, sti_2, st2_2, stj_2, st1_3, sti_3, st2_3, stj_3, st1_4, sti_4, st2_4, stj_4, st1_5, sti_5, st2_5, stj_5, st1_6, sti_6, st2_6, stj_6, st1_7, sti_7, st2_7, stj_7, st1_8, sti_8, st2_8, stj_8, st1_9, sti_9, st2_9, stj_9, kil_n, kil_i, kil_r, kil_l, kil_d, gl_0, gl_s, cat_i, cat_r, true_and]
  refine c136_4 hx hs (by omega) (by omega) ?_
  intro o h' z' hq
  obtain rfl := hP o h' z' hq
  obtain ⟨hp, e⟩ : ∃ hp, hdl 136 0 4 = some hp := ⟨_, rfl⟩
  unfold aRet
  dsimp only
  rw [show hdl 136 0 4 = some _ from rfl]
  intro q
  simp only [s136_0, s136_1, s136_2, s136_3, s136_7, s136_8, s136_9, s136_12, s136_13, s136_14, s136_15, s136_16, ldi_0, ldi_s, ldl_0, ldl_s, ldd_0, ldd_s, lda_0, lda_s, st1_0, st1_1, st2_0, st2_1, sti_0, sti_1, stj_0, stj_1, st1_2, sti_2, st2_2, stj_2, st1_3, sti_3, st2_3, stj_3, st1_4, sti_4, st2_4, stj_4, st1_5, sti_5, st2_5, stj_5, st1_6, sti_6, st2_6, stj_6, st1_7, sti_7, st2_7, stj_7, st1_8, sti_8, st2_8, stj_8, st1_9, sti_9, st2_9, stj_9, kil_n, kil_i, kil_r, kil_l, kil_d, gl_0, gl_s, cat_i, cat_r, true_and]
  exact ⟨by omega, by omega, rfl, hq⟩
theorem w_coefficient {v : Int64} {fs : List Value} (hx : h x = some (ob 5 fs)) (hs : Sp 21 142 [.ref x, .int p0] h z 0 0 P') (hP : ∀ o h' z', P' o h' z' → o = .inl (some (.long v)) ∧ h' out = some (la 1 O)) : Sp 22 141 [.ref x, .int p0, .ref out] h z 0 0 (fun o h' z' => o = .inl (some (.int 0)) ∧ ∃ h1, P' (.inl (some (.long v))) h1 z' ∧ h' = hup h1 out (la 1 (updL O 0 (v)))) := by
  refine Sp_in (al := [some (.ref x), some (.int p0), some (.ref out), none]) ?_
  simp only [s141_0, s141_1, s141_2, s141_3, s141_7, s141_8, s141_11, s141_12, s141_13, s141_14, s141_15, ldi_0, ldi_s, ldl_0, ldl_s, ldd_0, ldd_s, lda_0, lda_s, st1_0, st1_1, st2_0, st2_1, sti_0, sti_1, stj_0, stj_1, st1_2, sti_2, st2_2, stj_2, st1_3, sti_3, st2_3, stj_3, st1_4, sti_4, st2_4, stj_4, st1_5, sti_5, st2_5, stj_5, st1_6, sti_6, st2_6, stj_6, st1_7, sti_7, st2_7, stj_7, st1_8, sti_8, st2_8, stj_8, st1_9, sti_9, st2_9, stj_9, kil_n, kil_i, kil_r, kil_l, kil_d, gl_0, gl_s, cat_i, cat_r, true_and]
  refine c141_4 hx hs (by omega) (by omega) ?_
  intro o h' z' hq
  obtain ⟨rfl, ho⟩ := hP o h' z' hq
  show aW (Sp 21) 141 0 0 _ 7 _ _ _ _ _ _
  simp only [s141_0, s141_1, s141_2, s141_3, s141_7, s141_8, s141_11, s141_12, s141_13, s141_14, s141_15, ldi_0, ldi_s, ldl_0, ldl_s, ldd_0, ldd_s, lda_0, lda_s, st1_0, st1_1, st2_0, st2_1, sti_0, sti_1, stj_0, stj_1, st1_2, sti_2, st2_2, stj_2, st1_3, sti_3, st2_3, stj_3, st1_4, sti_4, st2_4, stj_4, st1_5, sti_5, st2_5, stj_5, st1_6, sti_6, st2_6, stj_6, st1_7, sti_7, st2_7, stj_7, st1_8, sti_8, st2_8, stj_8, st1_9, sti_9, st2_9, stj_9, kil_n, kil_i, kil_r, kil_l, kil_d, gl_0, gl_s, cat_i, cat_r, true_and]
  rw [nI_lit0, ast_la ho (by decide)]
  exact ⟨by omega, by omega, rfl, h', hq, rfl⟩
theorem x_coefficient_1 {fs : List Value} (hx : h x = some (ob 5 fs)) (hs : Sp 21 142 [.ref x, .int p0] h z 1 6 P') (hP : ∀ o h' z', P' o h' z' → o = .inr 2) : Sp 22 141 [.ref x, .int p0, .ref out] h z 1 6 (fun o h' z' => o = .inl (some (.int 1)) ∧ P' (.inr 2) h' z') := by
  refine Sp_in (al := [some (.ref x), some (.int p0), some (.ref out), none]) ?_
  simp only [s141_0, s141_1, s141_2, s141_3, s141_7, s141_8, s141_11, s141_12, s141_13, s141_14, s141_15, ldi_0, ldi_s, ldl_0, ldl_s, ldd_0, ldd_s, lda_0, lda_s, st1_0, st1_1, st2_0, st2_1, sti_0, sti_1, stj_0, stj_1, st1_2, sti_2, st2_2, stj_2, st1_3, sti_3, st2_3, stj_3, st1_4, sti_4, st2_4, stj_4, st1_5, sti_5, st2_5, stj_5, st1_6, sti_6, st2_6, stj_6, st1_7, sti_7, st2_7, stj_7, st1_8, sti_8, st2_8, stj_8, st1_9, sti_9, st2_9, stj_9, kil_n, kil_i, kil_r, kil_l, kil_d, gl_0, gl_s, cat_i, cat_r, true_and]
  refine c141_4 hx hs (by omega) (by omega) ?_
  intro o h' z' hq
  obtain rfl := hP o h' z' hq
  obtain ⟨hp, e⟩ : ∃ hp, hdl 141 2 4 = some hp := ⟨_, rfl⟩
  unfold aRet
  dsimp only
  rw [show hdl 141 2 4 = some _ from rfl]
  intro q
  simp only [s141_0, s141_1, s141_2, s141_3, s141_7, s141_8, s141_11, s141_12, s141_13, s141_14, s141_15, ldi_0, ldi_s, ldl_0, ldl_s, ldd_0, ldd_s, lda_0, lda_s, st1_0, st1_1, st2_0, st2_1, sti_0, sti_1, stj_0, stj_1, st1_2, sti_2, st2_2, stj_2, st1_3, sti_3, st2_3, stj_3, st1_4, sti_4, st2_4, stj_4, st1_5, sti_5, st2_5, stj_5, st1_6, sti_6, st2_6, stj_6, st1_7, sti_7, st2_7, stj_7, st1_8, sti_8, st2_8, stj_8, st1_9, sti_9, st2_9, stj_9, kil_n, kil_i, kil_r, kil_l, kil_d, gl_0, gl_s, cat_i, cat_r, true_and]
  exact ⟨by omega, by omega, rfl, hq⟩
theorem w_value {v : Int32} {fs : List Value} (hx : h x = some (ob 5 fs)) (hs : Sp 21 147 [.ref x, .int p0] h z 0 0 P') (hP : ∀ o h' z', P' o h' z' → o = .inl (some (.int v)) ∧ h' out = some (la 1 O)) : Sp 22 146 [.ref x, .int p0, .ref out] h z 0 0 (fun o h' z' => o = .inl (some (.int 0)) ∧ ∃ h1, P' (.inl (some (.int v))) h1 z' ∧ h' = hup h1 out (la 1 (updL O 0 (v.toInt64)))) := by
  refine Sp_in (al := [some (.ref x), some (.int p0), some (.ref out), none]) ?_
  simp only [s146_0, s146_1, s146_2, s146_3, s146_7, s146_8, s146_9, s146_12, s146_13, s146_14, s146_15, s146_16, ldi_0, ldi_s, ldl_0, ldl_s, ldd_0, ldd_s, lda_0, lda_s, st1_0, st1_1, st2_0, st2_1, sti_0, sti_1, stj_0, stj_1, st1_2, sti_2, st2_2, stj_2, st1_3, sti_3, st2_3, stj_3, st1_4, sti_4, st2_4, stj_4, st1_5, sti_5, st2_5, stj_5, st1_6, sti_6, st2_6, stj_6, st1_7, sti_7, st2_7, stj_7, st1_8, sti_8, st2_8, stj_8, st1_9, sti_9, st2_9, stj_9, kil_n, kil_i, kil_r, kil_l, kil_d, gl_0, gl_s, cat_i, cat_r, true_and]
  refine c146_4 hx hs (by omega) (by omega) ?_
  intro o h' z' hq
  obtain ⟨rfl, ho⟩ := hP o h' z' hq
  show aW (Sp 21) 146 0 0 _ 7 _ _ _ _ _ _
  simp only [s146_0, s146_1, s146_2, s146_3, s146_7, s146_8, s146_9, s146_12, s146_13, s146_14, s146_15, s146_16, ldi_0, ldi_s, ldl_0, ldl_s, ldd_0, ldd_s, lda_0, lda_s, st1_0, st1_1, st2_0, st2_1, sti_0, sti_1, stj_0, stj_1, st1_2, sti_2, st2_2, stj_2, st1_3, sti_3, st2_3, stj_3, st1_4, sti_4, st2_4, stj_4, st1_5, sti_5, st2_5, stj_5, st1_6, sti_6, st2_6, stj_6, st1_7, sti_7, st2_7, stj_7, st1_8, sti_8, st2_8, stj_8, st1_9, sti_9, st2_9, stj_9, kil_n, kil_i, kil_r, kil_l, kil_d, gl_0, gl_s, cat_i, cat_r, true_and]
  rw [nI_lit0, ast_la ho (by decide)]
  exact ⟨by omega, by omega, rfl, h', hq, rfl⟩
theorem x_value_1 {fs : List Value} (hx : h x = some (ob 5 fs)) (hs : Sp 21 147 [.ref x, .int p0] h z 1 6 P') (hP : ∀ o h' z', P' o h' z' → o = .inr 4) : Sp 22 146 [.ref x, .int p0, .ref out] h z 1 6 (fun o h' z' => o = .inl (some (.int 1)) ∧ P' (.inr 4) h' z') := by
  refine Sp_in (al := [some (.ref x), some (.int p0), some (.ref out), none]) ?_
  simp only [s146_0, s146_1, s146_2, s146_3, s146_7, s146_8, s146_9, s146_12, s146_13, s146_14, s146_15, s146_16, ldi_0, ldi_s, ldl_0, ldl_s, ldd_0, ldd_s, lda_0, lda_s, st1_0, st1_1, st2_0, st2_1, sti_0, sti_1, stj_0, stj_1, st1_2, sti_2, st2_2, stj_2, st1_3, sti_3, st2_3, stj_3, st1_4, sti_4, st2_4, stj_4, st1_5, sti_5, st2_5, stj_5, st1_6, sti_6, st2_6, stj_6, st1_7, sti_7, st2_7, stj_7, st1_8, sti_8, st2_8, stj_8, st1_9, sti_9, st2_9, stj_9, kil_n, kil_i, kil_r, kil_l, kil_d, gl_0, gl_s, cat_i, cat_r, true_and]
  refine c146_4 hx hs (by omega) (by omega) ?_
  intro o h' z' hq
  obtain rfl := hP o h' z' hq
  obtain ⟨hp, e⟩ : ∃ hp, hdl 146 4 4 = some hp := ⟨_, rfl⟩
  unfold aRet
  dsimp only
  rw [show hdl 146 4 4 = some _ from rfl]
  intro q
  simp only [s146_0, s146_1, s146_2, s146_3, s146_7, s146_8, s146_9, s146_12, s146_13, s146_14, s146_15, s146_16, ldi_0, ldi_s, ldl_0, ldl_s, ldd_0, ldd_s, lda_0, lda_s, st1_0, st1_1, st2_0, st2_1, sti_0, sti_1, stj_0, stj_1, st1_2, sti_2, st2_2, stj_2, st1_3, sti_3, st2_3, stj_3, st1_4, sti_4, st2_4, stj_4, st1_5, sti_5, st2_5, stj_5, st1_6, sti_6, st2_6, stj_6, st1_7, sti_7, st2_7, stj_7, st1_8, sti_8, st2_8, stj_8, st1_9, sti_9, st2_9, stj_9, kil_n, kil_i, kil_r, kil_l, kil_d, gl_0, gl_s, cat_i, cat_r, true_and]
  exact ⟨by omega, by omega, rfl, hq⟩
theorem w_digit {v : Int32} {fs : List Value} (hx : h x = some (ob 5 fs)) (hs : Sp 21 174 [.ref x, .int p0, .int p1] h z 0 0 P') (hP : ∀ o h' z', P' o h' z' → o = .inl (some (.int v)) ∧ h' out = some (la 1 O)) : Sp 22 173 [.ref x, .int p0, .int p1, .ref out] h z 0 0 (fun o h' z' => o = .inl (some (.int 0)) ∧ ∃ h1, P' (.inl (some (.int v))) h1 z' ∧ h' = hup h1 out (la 1 (updL O 0 (v.toInt64)))) := by
  refine Sp_in (al := [some (.ref x), some (.int p0), some (.int p1), some (.ref out), none]) ?_
  simp only [s173_0, s173_1, s173_2, s173_3, s173_4, s173_8, s173_9, s173_10, s173_13, s173_15, s173_16, s173_17, s173_18, ldi_0, ldi_s, ldl_0, ldl_s, ldd_0, ldd_s, lda_0, lda_s, st1_0, st1_1, st2_0, st2_1, sti_0, sti_1, stj_0, stj_1, st1_2, sti_2, st2_2, stj_2, st1_3, sti_3, st2_3, stj_3, st1_4, sti_4, st2_4, stj_4, st1_5, sti_5, st2_5, stj_5, st1_6, sti_6, st2_6, stj_6, st1_7, sti_7, st2_7, stj_7, st1_8, sti_8, st2_8, stj_8, st1_9, sti_9, st2_9, stj_9, kil_n, kil_i, kil_r, kil_l, kil_d, gl_0, gl_s, cat_i, cat_r, true_and]
  refine c173_5 hx hs (by omega) (by omega) ?_
  intro o h' z' hq
  obtain ⟨rfl, ho⟩ := hP o h' z' hq
  show aW (Sp 21) 173 0 0 _ 8 _ _ _ _ _ _
  simp only [s173_0, s173_1, s173_2, s173_3, s173_4, s173_8, s173_9, s173_10, s173_13, s173_15, s173_16, s173_17, s173_18, ldi_0, ldi_s, ldl_0, ldl_s, ldd_0, ldd_s, lda_0, lda_s, st1_0, st1_1, st2_0, st2_1, sti_0, sti_1, stj_0, stj_1, st1_2, sti_2, st2_2, stj_2, st1_3, sti_3, st2_3, stj_3, st1_4, sti_4, st2_4, stj_4, st1_5, sti_5, st2_5, stj_5, st1_6, sti_6, st2_6, stj_6, st1_7, sti_7, st2_7, stj_7, st1_8, sti_8, st2_8, stj_8, st1_9, sti_9, st2_9, stj_9, kil_n, kil_i, kil_r, kil_l, kil_d, gl_0, gl_s, cat_i, cat_r, true_and]
  rw [nI_lit0, ast_la ho (by decide)]
  exact ⟨by omega, by omega, rfl, h', hq, rfl⟩
theorem x_digit_1 {fs : List Value} (hx : h x = some (ob 5 fs)) (hs : Sp 21 174 [.ref x, .int p0, .int p1] h z 1 6 P') (hP : ∀ o h' z', P' o h' z' → o = .inr 2) : Sp 22 173 [.ref x, .int p0, .int p1, .ref out] h z 1 6 (fun o h' z' => o = .inl (some (.int 1)) ∧ P' (.inr 2) h' z') := by
  refine Sp_in (al := [some (.ref x), some (.int p0), some (.int p1), some (.ref out), none]) ?_
  simp only [s173_0, s173_1, s173_2, s173_3, s173_4, s173_8, s173_9, s173_10, s173_13, s173_15, s173_16, s173_17, s173_18, ldi_0, ldi_s, ldl_0, ldl_s, ldd_0, ldd_s, lda_0, lda_s, st1_0, st1_1, st2_0, st2_1, sti_0, sti_1, stj_0, stj_1, st1_2, sti_2, st2_2, stj_2, st1_3, sti_3, st2_3, stj_3, st1_4, sti_4, st2_4, stj_4, st1_5, sti_5, st2_5, stj_5, st1_6, sti_6, st2_6, stj_6, st1_7, sti_7, st2_7, stj_7, st1_8, sti_8, st2_8, stj_8, st1_9, sti_9, st2_9, stj_9, kil_n, kil_i, kil_r, kil_l, kil_d, gl_0, gl_s, cat_i, cat_r, true_and]
  refine c173_5 hx hs (by omega) (by omega) ?_
  intro o h' z' hq
  obtain rfl := hP o h' z' hq
  obtain ⟨hp, e⟩ : ∃ hp, hdl 173 2 5 = some hp := ⟨_, rfl⟩
  unfold aRet
  dsimp only
  rw [show hdl 173 2 5 = some _ from rfl]
  intro q
  simp only [s173_0, s173_1, s173_2, s173_3, s173_4, s173_8, s173_9, s173_10, s173_13, s173_15, s173_16, s173_17, s173_18, ldi_0, ldi_s, ldl_0, ldl_s, ldd_0, ldd_s, lda_0, lda_s, st1_0, st1_1, st2_0, st2_1, sti_0, sti_1, stj_0, stj_1, st1_2, sti_2, st2_2, stj_2, st1_3, sti_3, st2_3, stj_3, st1_4, sti_4, st2_4, stj_4, st1_5, sti_5, st2_5, stj_5, st1_6, sti_6, st2_6, stj_6, st1_7, sti_7, st2_7, stj_7, st1_8, sti_8, st2_8, stj_8, st1_9, sti_9, st2_9, stj_9, kil_n, kil_i, kil_r, kil_l, kil_d, gl_0, gl_s, cat_i, cat_r, true_and]
  exact ⟨by omega, by omega, rfl, hq⟩
theorem w_rest {v : Int32} {fs : List Value} (hx : h x = some (ob 5 fs)) (hs : Sp 21 178 [.ref x, .int p0, .int p1] h z 0 0 P') (hP : ∀ o h' z', P' o h' z' → o = .inl (some (.int v)) ∧ h' out = some (la 1 O)) : Sp 22 177 [.ref x, .int p0, .int p1, .ref out] h z 0 0 (fun o h' z' => o = .inl (some (.int 0)) ∧ ∃ h1, P' (.inl (some (.int v))) h1 z' ∧ h' = hup h1 out (la 1 (updL O 0 (v.toInt64)))) := by
  refine Sp_in (al := [some (.ref x), some (.int p0), some (.int p1), some (.ref out), none]) ?_
  simp only [s177_0, s177_1, s177_2, s177_3, s177_4, s177_8, s177_9, s177_10, s177_13, s177_15, s177_16, s177_17, s177_18, ldi_0, ldi_s, ldl_0, ldl_s, ldd_0, ldd_s, lda_0, lda_s, st1_0, st1_1, st2_0, st2_1, sti_0, sti_1, stj_0, stj_1, st1_2, sti_2, st2_2, stj_2, st1_3, sti_3, st2_3, stj_3, st1_4, sti_4, st2_4, stj_4, st1_5, sti_5, st2_5, stj_5, st1_6, sti_6, st2_6, stj_6, st1_7, sti_7, st2_7, stj_7, st1_8, sti_8, st2_8, stj_8, st1_9, sti_9, st2_9, stj_9, kil_n, kil_i, kil_r, kil_l, kil_d, gl_0, gl_s, cat_i, cat_r, true_and]
  refine c177_5 hx hs (by omega) (by omega) ?_
  intro o h' z' hq
  obtain ⟨rfl, ho⟩ := hP o h' z' hq
  show aW (Sp 21) 177 0 0 _ 8 _ _ _ _ _ _
  simp only [s177_0, s177_1, s177_2, s177_3, s177_4, s177_8, s177_9, s177_10, s177_13, s177_15, s177_16, s177_17, s177_18, ldi_0, ldi_s, ldl_0, ldl_s, ldd_0, ldd_s, lda_0, lda_s, st1_0, st1_1, st2_0, st2_1, sti_0, sti_1, stj_0, stj_1, st1_2, sti_2, st2_2, stj_2, st1_3, sti_3, st2_3, stj_3, st1_4, sti_4, st2_4, stj_4, st1_5, sti_5, st2_5, stj_5, st1_6, sti_6, st2_6, stj_6, st1_7, sti_7, st2_7, stj_7, st1_8, sti_8, st2_8, stj_8, st1_9, sti_9, st2_9, stj_9, kil_n, kil_i, kil_r, kil_l, kil_d, gl_0, gl_s, cat_i, cat_r, true_and]
  rw [nI_lit0, ast_la ho (by decide)]
  exact ⟨by omega, by omega, rfl, h', hq, rfl⟩
theorem x_rest_1 {fs : List Value} (hx : h x = some (ob 5 fs)) (hs : Sp 21 178 [.ref x, .int p0, .int p1] h z 1 6 P') (hP : ∀ o h' z', P' o h' z' → o = .inr 4) : Sp 22 177 [.ref x, .int p0, .int p1, .ref out] h z 1 6 (fun o h' z' => o = .inl (some (.int 1)) ∧ P' (.inr 4) h' z') := by
  refine Sp_in (al := [some (.ref x), some (.int p0), some (.int p1), some (.ref out), none]) ?_
  simp only [s177_0, s177_1, s177_2, s177_3, s177_4, s177_8, s177_9, s177_10, s177_13, s177_15, s177_16, s177_17, s177_18, ldi_0, ldi_s, ldl_0, ldl_s, ldd_0, ldd_s, lda_0, lda_s, st1_0, st1_1, st2_0, st2_1, sti_0, sti_1, stj_0, stj_1, st1_2, sti_2, st2_2, stj_2, st1_3, sti_3, st2_3, stj_3, st1_4, sti_4, st2_4, stj_4, st1_5, sti_5, st2_5, stj_5, st1_6, sti_6, st2_6, stj_6, st1_7, sti_7, st2_7, stj_7, st1_8, sti_8, st2_8, stj_8, st1_9, sti_9, st2_9, stj_9, kil_n, kil_i, kil_r, kil_l, kil_d, gl_0, gl_s, cat_i, cat_r, true_and]
  refine c177_5 hx hs (by omega) (by omega) ?_
  intro o h' z' hq
  obtain rfl := hP o h' z' hq
  obtain ⟨hp, e⟩ : ∃ hp, hdl 177 4 5 = some hp := ⟨_, rfl⟩
  unfold aRet
  dsimp only
  rw [show hdl 177 4 5 = some _ from rfl]
  intro q
  simp only [s177_0, s177_1, s177_2, s177_3, s177_4, s177_8, s177_9, s177_10, s177_13, s177_15, s177_16, s177_17, s177_18, ldi_0, ldi_s, ldl_0, ldl_s, ldd_0, ldd_s, lda_0, lda_s, st1_0, st1_1, st2_0, st2_1, sti_0, sti_1, stj_0, stj_1, st1_2, sti_2, st2_2, stj_2, st1_3, sti_3, st2_3, stj_3, st1_4, sti_4, st2_4, stj_4, st1_5, sti_5, st2_5, stj_5, st1_6, sti_6, st2_6, stj_6, st1_7, sti_7, st2_7, stj_7, st1_8, sti_8, st2_8, stj_8, st1_9, sti_9, st2_9, stj_9, kil_n, kil_i, kil_r, kil_l, kil_d, gl_0, gl_s, cat_i, cat_r, true_and]
  exact ⟨by omega, by omega, rfl, hq⟩
theorem w_tried {v : Int32} {fs : List Value} (hx : h x = some (ob 5 fs)) (hs : Sp 21 189 [.ref x] h z 0 0 P') (hP : ∀ o h' z', P' o h' z' → o = .inl (some (.int v)) ∧ h' out = some (la 1 O)) : Sp 22 188 [.ref x, .ref out] h z 0 0 (fun o h' z' => o = .inl (some (.int 0)) ∧ ∃ h1, P' (.inl (some (.int v))) h1 z' ∧ h' = hup h1 out (la 1 (updL O 0 (v.toInt64)))) := by
  refine Sp_in (al := [some (.ref x), some (.ref out), none]) ?_
  simp only [s188_0, s188_1, s188_2, s188_6, s188_7, s188_8, s188_11, s188_12, s188_13, s188_14, s188_15, ldi_0, ldi_s, ldl_0, ldl_s, ldd_0, ldd_s, lda_0, lda_s, st1_0, st1_1, st2_0, st2_1, sti_0, sti_1, stj_0, stj_1, st1_2, sti_2, st2_2, stj_2, st1_3, sti_3, st2_3, stj_3, st1_4, sti_4, st2_4, stj_4, st1_5, sti_5, st2_5, stj_5, st1_6, sti_6, st2_6, stj_6, st1_7, sti_7, st2_7, stj_7, st1_8, sti_8, st2_8, stj_8, st1_9, sti_9, st2_9, stj_9, kil_n, kil_i, kil_r, kil_l, kil_d, gl_0, gl_s, cat_i, cat_r, true_and]
  refine c188_3 hx hs (by omega) (by omega) ?_
  intro o h' z' hq
  obtain ⟨rfl, ho⟩ := hP o h' z' hq
  show aW (Sp 21) 188 0 0 _ 6 _ _ _ _ _ _
  simp only [s188_0, s188_1, s188_2, s188_6, s188_7, s188_8, s188_11, s188_12, s188_13, s188_14, s188_15, ldi_0, ldi_s, ldl_0, ldl_s, ldd_0, ldd_s, lda_0, lda_s, st1_0, st1_1, st2_0, st2_1, sti_0, sti_1, stj_0, stj_1, st1_2, sti_2, st2_2, stj_2, st1_3, sti_3, st2_3, stj_3, st1_4, sti_4, st2_4, stj_4, st1_5, sti_5, st2_5, stj_5, st1_6, sti_6, st2_6, stj_6, st1_7, sti_7, st2_7, stj_7, st1_8, sti_8, st2_8, stj_8, st1_9, sti_9, st2_9, stj_9, kil_n, kil_i, kil_r, kil_l, kil_d, gl_0, gl_s, cat_i, cat_r, true_and]
  rw [nI_lit0, ast_la ho (by decide)]
  exact ⟨by omega, by omega, rfl, h', hq, rfl⟩
theorem x_tried_1 {fs : List Value} (hx : h x = some (ob 5 fs)) (hs : Sp 21 189 [.ref x] h z 1 6 P') (hP : ∀ o h' z', P' o h' z' → o = .inr 5) : Sp 22 188 [.ref x, .ref out] h z 1 6 (fun o h' z' => o = .inl (some (.int 1)) ∧ P' (.inr 5) h' z') := by
  refine Sp_in (al := [some (.ref x), some (.ref out), none]) ?_
  simp only [s188_0, s188_1, s188_2, s188_6, s188_7, s188_8, s188_11, s188_12, s188_13, s188_14, s188_15, ldi_0, ldi_s, ldl_0, ldl_s, ldd_0, ldd_s, lda_0, lda_s, st1_0, st1_1, st2_0, st2_1, sti_0, sti_1, stj_0, stj_1, st1_2, sti_2, st2_2, stj_2, st1_3, sti_3, st2_3, stj_3, st1_4, sti_4, st2_4, stj_4, st1_5, sti_5, st2_5, stj_5, st1_6, sti_6, st2_6, stj_6, st1_7, sti_7, st2_7, stj_7, st1_8, sti_8, st2_8, stj_8, st1_9, sti_9, st2_9, stj_9, kil_n, kil_i, kil_r, kil_l, kil_d, gl_0, gl_s, cat_i, cat_r, true_and]
  refine c188_3 hx hs (by omega) (by omega) ?_
  intro o h' z' hq
  obtain rfl := hP o h' z' hq
  obtain ⟨hp, e⟩ : ∃ hp, hdl 188 5 3 = some hp := ⟨_, rfl⟩
  unfold aRet
  dsimp only
  rw [show hdl 188 5 3 = some _ from rfl]
  intro q
  simp only [s188_0, s188_1, s188_2, s188_6, s188_7, s188_8, s188_11, s188_12, s188_13, s188_14, s188_15, ldi_0, ldi_s, ldl_0, ldl_s, ldd_0, ldd_s, lda_0, lda_s, st1_0, st1_1, st2_0, st2_1, sti_0, sti_1, stj_0, stj_1, st1_2, sti_2, st2_2, stj_2, st1_3, sti_3, st2_3, stj_3, st1_4, sti_4, st2_4, stj_4, st1_5, sti_5, st2_5, stj_5, st1_6, sti_6, st2_6, stj_6, st1_7, sti_7, st2_7, stj_7, st1_8, sti_8, st2_8, stj_8, st1_9, sti_9, st2_9, stj_9, kil_n, kil_i, kil_r, kil_l, kil_d, gl_0, gl_s, cat_i, cat_r, true_and]
  exact ⟨by omega, by omega, rfl, hq⟩
end Wraps
