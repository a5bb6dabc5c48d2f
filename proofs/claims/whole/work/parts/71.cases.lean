/-! the forty cases of the law -/
theorem K.fr {h h' : AH} {x c r c2 r2 n sn : Nat} {G SG : Nat → Nat → Bool} (hK : K h x c r c2 r2 n G sn SG) (hf : ∀ q, x ≤ q → q < x + 38 → h' q = h q) : K h' x c r c2 r2 n G sn SG := by
  obtain ⟨e1, e2, e3, e4, e5, e6, p0, p1, p2, p3, p4, p5, p6, p7, p8⟩ := hK
  have e := e2
  unfold Two at e
  exact ⟨(hf _ (by omega) (by omega)).trans e1, e2, e3.fr (hf _ (by omega) (by omega)) (hf _ (by omega) (by omega)), e4, e5.fr (hf _ (by omega) (by omega)) (hf _ (by omega) (by omega)), e6, p0.fr (fun q a b => hf q (by omega) (by omega)), p1.fr (fun q a b => hf q (by omega) (by omega)), p2.fr (fun q a b => hf q (by omega) (by omega)), p3.fr (fun q a b => hf q (by omega) (by omega)), p4.fr (fun q a b => hf q (by omega) (by omega)), p5.fr (fun q a b => hf q (by omega) (by omega)), p6.fr (fun q a b => hf q (by omega) (by omega)), p7.fr (fun q a b => hf q (by omega) (by omega)), p8.fr (fun q a b => hf q (by omega) (by omega))⟩
/-- the heap of the law: both objects, the places for answers, the script -/
def lwS (h : AH) (z b L : Nat) (xs : Nat → Int32) (x : Nat) : Prop := ∃ (c r c2 r2 t t2 N : Nat) (G : Nat → Nat → Bool) (sn : Nat) (SG : Nat → Nat → Bool) (th : Int32), K h x c r c2 r2 N G sn SG ∧ MD h (x + 38) t t2 N sn G SG th ∧ (∃ O, h (x + 88) = some (la 1 O)) ∧ (∃ D, h (x + 89) = some (ra 3 1 D)) ∧ h b = some (ra 5 L fun j => .int (xs j)) ∧ b < x ∧ x + 90 ≤ z
def jO {α : Type} (mk : α → Value) (Q : α → Prop) (cm mm : Nat) (As : List Value) (Ek : List (Nat × Int32)) (N : Nat) (G : Nat → Nat → Bool) (sn : Nat) (SG : Nat → Nat → Bool) : Prop :=
  (∃ (v : α) (N' : Nat) (G' : Nat → Nat → Bool) (sn' : Nat) (SG' : Nat → Nat → Bool), Q v ∧ (∀ h x z c r c2 r2, K h x c r c2 r2 N G sn SG → Sp 21 cm (.ref x :: As) h z 0 0 (cQ h x N' G' sn' SG' z (mk v))) ∧ (∀ h m t t2 th z, MD h m t t2 N sn G SG th → Sp 23 mm (.ref m :: As) h z 0 0 (mQ h m N' G' sn' SG' 0 z (mk v))))
  ∨ (∃ (E : Nat) (kk : Int32), (E, kk) ∈ Ek ∧ (∀ h x z c r c2 r2, K h x c r c2 r2 N G sn SG → Sp 21 cm (.ref x :: As) h z 1 6 (cX h x N G sn SG z E)) ∧ (∀ h m t t2 th z, MD h m t t2 N sn G SG th → ∃ v : α, Sp 23 mm (.ref m :: As) h z 0 0 (mQ h m N G sn SG kk z (mk v))))
def jN {α : Type} (mk : α → Value) (cm mm : Nat) (As : List Value) (N : Nat) (G : Nat → Nat → Bool) (sn : Nat) (SG : Nat → Nat → Bool) : Prop :=
  ∃ (v : α) (N' : Nat) (G' : Nat → Nat → Bool) (sn' : Nat) (SG' : Nat → Nat → Bool), (∀ h x z c r c2 r2, K h x c r c2 r2 N G sn SG → Sp 21 cm (.ref x :: As) h z 0 0 (cQ h x N' G' sn' SG' z (mk v))) ∧ (∀ h m t t2 th z, MD h m t t2 N sn G SG th → ∃ th', Sp 23 mm (.ref m :: As) h z 0 0 (mQ h m N' G' sn' SG' th' z (mk v)))
def lawP : AP := fun o _ _ => o = .inl (some (.int 1))
theorem scr_ald {h : AH} {b L j : Nat} {xs : Nat → Int32} {f : Value → Prop} (hb : h b = some (ra 5 L fun j => .int (xs j))) (hj : j < L) (hL : L ≤ 1536) : ald h b 0 (nI j) f = f (.int (xs j)) := ald_at (k0 := 0) hb hj (by omega) rfl
theorem sp_thr {h : AH} {m t t2 n ns z : Nat} {G SG : Nat → Nat → Bool} {th : Int32} (hM : MD h m t t2 n ns G SG th) : Sp 1 17 [.ref m] h z 0 0 (RR (some (.int th)) h z) := by
  have e := sp_mthrown (h := h) (m := m) (t := t) (t2 := t2) (ns := ns) (n := n) (G := G) (th := th) (z := z)
  rw [hM.nf] at e
  exact e
theorem nI_2 (a : Nat) : nI a + 2 = nI (a + 2) := nI_add a 2
/-- going on behind a call -/
def lwC (b L : Nat) (xs : Nat → Int32) (x i k n mc ms : Nat) : Prop := ∀ (h' : AH) (z' k' n' : Nat) (s6 s7 s8 : Option Value), lwS h' z' b L xs x → k' ≤ k + 1 → n' ≤ n + 6 → aW (Sp 60) 216 mc ms lawP 1881 [some (.ref b), some (.ref x), some (.ref (x + 38)), some (.ref (x + 88)), some (.ref (x + 89)), some (.int (nI (3 * i))), s6, s7, s8] [] h' z' k' n'
section Cases
variable {h : AH} {z b L x i k n mc ms : Nat} {xs : Nat → Int32} {s6 s7 s8 : Option Value}
theorem cs_begin (hS : lwS h z b L xs x) (hi : 3 * i + 2 < L) (hL : L ≤ 1536) (hk : k + 1 ≤ mc) (hn : n + 6 ≤ ms) (hJ : ∀ N G sn SG, GOK N G → GOK sn SG → jO (fun v : Int32 => Value.int v) (fun _ : Int32 => True) 8 13 [.int (xs (3 * i + 1))] [(0, 1)] N G sn SG) (ct : lwC b L xs x i k n mc ms) : aW (Sp 60) 216 mc ms lawP 220 [some (.ref b), some (.ref x), some (.ref (x + 38)), some (.ref (x + 88)), some (.ref (x + 89)), some (.int (nI (3 * i))), s6, s7, s8] [] h z k n := by
  obtain ⟨c, r, c2, r2, t, t2, N, G, sn, SG, th, hK, hM, ⟨O, hO⟩, ⟨D, hD⟩, hb, hbx, hz⟩ := hS
  simp only [s216_220, s216_221, s216_222, s216_224, s216_225, s216_226, s216_227, s216_231, s216_233, s216_234, s216_235, s216_237, s216_238, s216_239, s216_243, s216_245, s216_249, s216_251, s216_254, s216_255, s216_256, s216_258, s216_261, s216_262, s216_263, s216_264, s216_266, s216_267, s216_268, s216_271, s216_272, s216_273, ldi_0, ldi_s, ldl_0, ldl_s, ldd_0, ldd_s, lda_0, lda_s, st1_0, st1_1, st2_0, st2_1, sti_0, sti_1, stj_0, stj_1, st1_2, sti_2, st2_2, stj_2, st1_3, sti_3, st2_3, stj_3, st1_4, sti_4, st2_4, stj_4, st1_5, sti_5, st2_5, stj_5, st1_6, sti_6, st2_6, stj_6, st1_7, sti_7, st2_7, stj_7, st1_8, sti_8, st2_8, stj_8, st1_9, sti_9, st2_9, stj_9, kil_n, kil_i, kil_r, kil_l, kil_d, gl_0, gl_s, cat_i, cat_r, true_and, nI_1, nI_2, scr_ald hb (show 3 * i + 1 < L by omega) hL]
  rcases hJ N G sn SG hK.hG hK.hG2 with ⟨v, N', G', sn', SG', hQ, hc, hm⟩ | ⟨E, kk, hE, hc, hm⟩
  · refine c216_228 (w_begin hK.hx (hc h x z c r c2 r2 hK) (fun o h' z' hq => ⟨hq.1, (hq.2.2.2 _ (by omega)).trans hO⟩)) (by omega) (by omega) ?_
    rintro _ _ z1 ⟨rfl, h1, ⟨-, rfl, ⟨c', r', c2', r2', hK1⟩, hF1⟩, rfl⟩
    show aW (Sp 60) 216 mc ms lawP 231 _ _ _ _ _ _
    have hK2 : K (hup h1 (x + 88) (la 1 (updL O 0 (v.toInt64)))) x c' r' c2' r2' N' G' sn' SG' := hK1.fr fun q _ _ => hup_ne (by omega)
    have hM2 : MD (hup h1 (x + 88) (la 1 (updL O 0 (v.toInt64)))) (x + 38) t t2 N sn G SG th := hM.fr fun q _ _ => by rw [hup_ne (by omega), hF1 q (by omega)]
    have hb2 : (hup h1 (x + 88) (la 1 (updL O 0 (v.toInt64)))) b = some (ra 5 L fun j => .int (xs j)) := by rw [hup_ne (by omega), hF1 b (by omega)]; exact hb
    have hA2 : (hup h1 (x + 88) (la 1 (updL O 0 (v.toInt64)))) (x + 88) = some (la 1 (updL O 0 (v.toInt64))) := hup_same
    have hD2 : (hup h1 (x + 88) (la 1 (updL O 0 (v.toInt64)))) (x + 89) = some (ra 3 1 D) := by rw [hup_ne (by omega), hF1 _ (by omega)]; exact hD
    generalize hup h1 (x + 88) (la 1 (updL O 0 (v.toInt64))) = H1 at hK2 hM2 hb2 hA2 hD2 ⊢
    simp only [s216_220, s216_221, s216_222, s216_224, s216_225, s216_226, s216_227, s216_231, s216_233, s216_234, s216_235, s216_237, s216_238, s216_239, s216_243, s216_245, s216_249, s216_251, s216_254, s216_255, s216_256, s216_258, s216_261, s216_262, s216_263, s216_264, s216_266, s216_267, s216_268, s216_271, s216_272, s216_273, ldi_0, ldi_s, ldl_0, ldl_s, ldd_0, ldd_s, lda_0, lda_s, st1_0, st1_1, st2_0, st2_1, sti_0, sti_1, stj_0, stj_1, st1_2, sti_2, st2_2, stj_2, st1_3, sti_3, st2_3, stj_3, st1_4, sti_4, st2_4, stj_4, st1_5, sti_5, st2_5, stj_5, st1_6, sti_6, st2_6, stj_6, st1_7, sti_7, st2_7, stj_7, st1_8, sti_8, st2_8, stj_8, st1_9, sti_9, st2_9, stj_9, kil_n, kil_i, kil_r, kil_l, kil_d, gl_0, gl_s, cat_i, cat_r, true_and, nI_1, nI_2, scr_ald hb2 (show 3 * i + 1 < L by omega) hL]
    refine c216_240 hM2.1 (hm H1 (x + 38) t t2 th z1 hM2) (by omega) (by omega) ?_
    rintro _ H2 z2 ⟨rfl, rfl, ⟨t', t2', hM3⟩, hF3⟩
    show aW (Sp 60) 216 mc ms lawP 243 _ _ _ _ _ _
    have hK3 : K H2 x c' r' c2' r2' N' G' sn' SG' := hK2.fr fun q _ _ => hF3 q (by omega)
    have hb3 : H2 b = some (ra 5 L fun j => .int (xs j)) := by rw [hF3 b (by omega)]; exact hb2
    have hA3 : H2 (x + 88) = some (la 1 (updL O 0 (v.toInt64))) := by rw [hF3 _ (by omega)]; exact hA2
    have hD3 : H2 (x + 89) = some (ra 3 1 D) := by rw [hF3 _ (by omega)]; exact hD2
    have fin : lwS H2 z2 b L xs x := ⟨c', r', c2', r2', t', t2', N', G', sn', SG', 0, hK3, hM3, ⟨_, hA3⟩, ⟨_, hD3⟩, hb3, hbx, hz⟩
    simp only [s216_220, s216_221, s216_222, s216_224, s216_225, s216_226, s216_227, s216_231, s216_233, s216_234, s216_235, s216_237, s216_238, s216_239, s216_243, s216_245, s216_249, s216_251, s216_254, s216_255, s216_256, s216_258, s216_261, s216_262, s216_263, s216_264, s216_266, s216_267, s216_268, s216_271, s216_272, s216_273, ldi_0, ldi_s, ldl_0, ldl_s, ldd_0, ldd_s, lda_0, lda_s, st1_0, st1_1, st2_0, st2_1, sti_0, sti_1, stj_0, stj_1, st1_2, sti_2, st2_2, stj_2, st1_3, sti_3, st2_3, stj_3, st1_4, sti_4, st2_4, stj_4, st1_5, sti_5, st2_5, stj_5, st1_6, sti_6, st2_6, stj_6, st1_7, sti_7, st2_7, stj_7, st1_8, sti_8, st2_8, stj_8, st1_9, sti_9, st2_9, stj_9, kil_n, kil_i, kil_r, kil_l, kil_d, gl_0, gl_s, cat_i, cat_r, true_and, nI_1, nI_2, scr_ald hb3 (show 3 * i + 1 < L by omega) hL]
    refine c216_246r hM3.1 (sp_thr hM3) ?_
    simp only [s216_220, s216_221, s216_222, s216_224, s216_225, s216_226, s216_227, s216_231, s216_233, s216_234, s216_235, s216_237, s216_238, s216_239, s216_243, s216_245, s216_249, s216_251, s216_254, s216_255, s216_256, s216_258, s216_261, s216_262, s216_263, s216_264, s216_266, s216_267, s216_268, s216_271, s216_272, s216_273, ldi_0, ldi_s, ldl_0, ldl_s, ldd_0, ldd_s, lda_0, lda_s, st1_0, st1_1, st2_0, st2_1, sti_0, sti_1, stj_0, stj_1, st1_2, sti_2, st2_2, stj_2, st1_3, sti_3, st2_3, stj_3, st1_4, sti_4, st2_4, stj_4, st1_5, sti_5, st2_5, stj_5, st1_6, sti_6, st2_6, stj_6, st1_7, sti_7, st2_7, stj_7, st1_8, sti_8, st2_8, stj_8, st1_9, sti_9, st2_9, stj_9, kil_n, kil_i, kil_r, kil_l, kil_d, gl_0, gl_s, cat_i, cat_r, true_and, nI_1, nI_2, scr_ald hb3 (show 3 * i + 1 < L by omega) hL]
    rw [br_1 trivial, br_0 (fun w => w trivial), nI_lit0, ald_la hA3 (by decide)]
    simp only [s216_220, s216_221, s216_222, s216_224, s216_225, s216_226, s216_227, s216_231, s216_233, s216_234, s216_235, s216_237, s216_238, s216_239, s216_243, s216_245, s216_249, s216_251, s216_254, s216_255, s216_256, s216_258, s216_261, s216_262, s216_263, s216_264, s216_266, s216_267, s216_268, s216_271, s216_272, s216_273, ldi_0, ldi_s, ldl_0, ldl_s, ldd_0, ldd_s, lda_0, lda_s, st1_0, st1_1, st2_0, st2_1, sti_0, sti_1, stj_0, stj_1, st1_2, sti_2, st2_2, stj_2, st1_3, sti_3, st2_3, stj_3, st1_4, sti_4, st2_4, stj_4, st1_5, sti_5, st2_5, stj_5, st1_6, sti_6, st2_6, stj_6, st1_7, sti_7, st2_7, stj_7, st1_8, sti_8, st2_8, stj_8, st1_9, sti_9, st2_9, stj_9, kil_n, kil_i, kil_r, kil_l, kil_d, gl_0, gl_s, cat_i, cat_r, true_and, nI_1, nI_2, scr_ald hb3 (show 3 * i + 1 < L by omega) hL, lg_cmp_eq]
    rw [br_1 (show updL O 0 v.toInt64 0 = v.toInt64 from if_pos rfl)]
    exact ct _ _ _ _ _ _ _ fin (by omega) (by omega)
  · have thrown : ∀ h1 z1 kk' (v : Int32) s, cX h x N G sn SG z E (.inr E) h1 z1 → kk = kk' → ¬ kk' = 0 → aW (Sp 60) 216 mc ms lawP 231 [some (.ref b), some (.ref x), some (.ref (x + 38)), some (.ref (x + 88)), some (.ref (x + 89)), some (.int (nI (3 * i))), s, s7, s8] [.int kk'] h1 z1 (k + 1) (n + 6) := by
      rintro h1 z1 kk' v s ⟨-, hz1, ⟨c', r', c2', r2', hK1⟩, hF1⟩ rfl hk0
      have hM2 : MD h1 (x + 38) t t2 N sn G SG th := hM.fr fun q _ _ => hF1 q (by omega)
      have hb2 : h1 b = some (ra 5 L fun j => .int (xs j)) := by rw [hF1 b (by omega)]; exact hb
      have hO2 : h1 (x + 88) = some (la 1 O) := by rw [hF1 _ (by omega)]; exact hO
      have hD2 : h1 (x + 89) = some (ra 3 1 D) := by rw [hF1 _ (by omega)]; exact hD
      simp only [s216_220, s216_221, s216_222, s216_224, s216_225, s216_226, s216_227, s216_231, s216_233, s216_234, s216_235, s216_237, s216_238, s216_239, s216_243, s216_245, s216_249, s216_251, s216_254, s216_255, s216_256, s216_258, s216_261, s216_262, s216_263, s216_264, s216_266, s216_267, s216_268, s216_271, s216_272, s216_273, ldi_0, ldi_s, ldl_0, ldl_s, ldd_0, ldd_s, lda_0, lda_s, st1_0, st1_1, st2_0, st2_1, sti_0, sti_1, stj_0, stj_1, st1_2, sti_2, st2_2, stj_2, st1_3, sti_3, st2_3, stj_3, st1_4, sti_4, st2_4, stj_4, st1_5, sti_5, st2_5, stj_5, st1_6, sti_6, st2_6, stj_6, st1_7, sti_7, st2_7, stj_7, st1_8, sti_8, st2_8, stj_8, st1_9, sti_9, st2_9, stj_9, kil_n, kil_i, kil_r, kil_l, kil_d, gl_0, gl_s, cat_i, cat_r, true_and, nI_1, nI_2, scr_ald hb2 (show 3 * i + 1 < L by omega) hL]
      obtain ⟨w, hw⟩ := hm h1 (x + 38) t t2 th z1 hM2
      refine c216_240 hM2.1 hw (by omega) (by omega) ?_
      rintro _ H2 z2 ⟨rfl, rfl, ⟨t', t2', hM3⟩, hF3⟩
      show aW (Sp 60) 216 mc ms lawP 243 _ _ _ _ _ _
      have hK3 : K H2 x c' r' c2' r2' N G sn SG := hK1.fr fun q _ _ => hF3 q (by omega)
      have fin : lwS H2 z2 b L xs x := ⟨c', r', c2', r2', t', t2', N, G, sn, SG, kk, hK3, hM3, ⟨O, by rw [hF3 _ (by omega)]; exact hO2⟩, ⟨D, by rw [hF3 _ (by omega)]; exact hD2⟩, by rw [hF3 b (by omega)]; exact hb2, hbx, by omega⟩
      have hb3 : H2 b = some (ra 5 L fun j => .int (xs j)) := by rw [hF3 b (by omega)]; exact hb2
      simp only [s216_220, s216_221, s216_222, s216_224, s216_225, s216_226, s216_227, s216_231, s216_233, s216_234, s216_235, s216_237, s216_238, s216_239, s216_243, s216_245, s216_249, s216_251, s216_254, s216_255, s216_256, s216_258, s216_261, s216_262, s216_263, s216_264, s216_266, s216_267, s216_268, s216_271, s216_272, s216_273, ldi_0, ldi_s, ldl_0, ldl_s, ldd_0, ldd_s, lda_0, lda_s, st1_0, st1_1, st2_0, st2_1, sti_0, sti_1, stj_0, stj_1, st1_2, sti_2, st2_2, stj_2, st1_3, sti_3, st2_3, stj_3, st1_4, sti_4, st2_4, stj_4, st1_5, sti_5, st2_5, stj_5, st1_6, sti_6, st2_6, stj_6, st1_7, sti_7, st2_7, stj_7, st1_8, sti_8, st2_8, stj_8, st1_9, sti_9, st2_9, stj_9, kil_n, kil_i, kil_r, kil_l, kil_d, gl_0, gl_s, cat_i, cat_r, true_and, nI_1, nI_2, scr_ald hb3 (show 3 * i + 1 < L by omega) hL]
      refine c216_246r hM3.1 (sp_thr hM3) ?_
      simp only [s216_220, s216_221, s216_222, s216_224, s216_225, s216_226, s216_227, s216_231, s216_233, s216_234, s216_235, s216_237, s216_238, s216_239, s216_243, s216_245, s216_249, s216_251, s216_254, s216_255, s216_256, s216_258, s216_261, s216_262, s216_263, s216_264, s216_266, s216_267, s216_268, s216_271, s216_272, s216_273, ldi_0, ldi_s, ldl_0, ldl_s, ldd_0, ldd_s, lda_0, lda_s, st1_0, st1_1, st2_0, st2_1, sti_0, sti_1, stj_0, stj_1, st1_2, sti_2, st2_2, stj_2, st1_3, sti_3, st2_3, stj_3, st1_4, sti_4, st2_4, stj_4, st1_5, sti_5, st2_5, stj_5, st1_6, sti_6, st2_6, stj_6, st1_7, sti_7, st2_7, stj_7, st1_8, sti_8, st2_8, stj_8, st1_9, sti_9, st2_9, stj_9, kil_n, kil_i, kil_r, kil_l, kil_d, gl_0, gl_s, cat_i, cat_r, true_and, nI_1, nI_2, scr_ald hb3 (show 3 * i + 1 < L by omega) hL]
      rw [br_1 trivial, br_1 hk0]
      exact ct _ _ _ _ _ _ _ fin (by omega) (by omega)
    simp only [List.mem_cons, List.not_mem_nil, or_false, Prod.mk.injEq] at hE
    obtain ⟨rfl, rfl⟩ := hE
    refine c216_228 (x_begin_1 hK.hx (hc h x z c r c2 r2 hK) (fun o h' z' hq => hq.1)) (by omega) (by omega) ?_
    rintro _ h1 z1 ⟨rfl, hq⟩
    exact thrown h1 z1 1 0 s6 hq rfl (by decide)
theorem cs_place (hS : lwS h z b L xs x) (hi : 3 * i + 2 < L) (hL : L ≤ 1536) (hk : k + 1 ≤ mc) (hn : n + 6 ≤ ms) (hJ : ∀ N G sn SG, GOK N G → GOK sn SG → jO (fun v : Int32 => Value.int v) (fun _ : Int32 => True) 19 23 [] [(1, 1)] N G sn SG) (ct : lwC b L xs x i k n mc ms) : aW (Sp 60) 216 mc ms lawP 276 [some (.ref b), some (.ref x), some (.ref (x + 38)), some (.ref (x + 88)), some (.ref (x + 89)), some (.int (nI (3 * i))), s6, s7, s8] [] h z k n := by
  obtain ⟨c, r, c2, r2, t, t2, N, G, sn, SG, th, hK, hM, ⟨O, hO⟩, ⟨D, hD⟩, hb, hbx, hz⟩ := hS
  simp only [s216_276, s216_277, s216_281, s216_283, s216_287, s216_289, s216_293, s216_295, s216_298, s216_299, s216_300, s216_302, s216_305, s216_306, s216_307, s216_308, s216_310, s216_311, s216_312, s216_315, s216_316, s216_317, ldi_0, ldi_s, ldl_0, ldl_s, ldd_0, ldd_s, lda_0, lda_s, st1_0, st1_1, st2_0, st2_1, sti_0, sti_1, stj_0, stj_1, st1_2, sti_2, st2_2, stj_2, st1_3, sti_3, st2_3, stj_3, st1_4, sti_4, st2_4, stj_4, st1_5, sti_5, st2_5, stj_5, st1_6, sti_6, st2_6, stj_6, st1_7, sti_7, st2_7, stj_7, st1_8, sti_8, st2_8, stj_8, st1_9, sti_9, st2_9, stj_9, kil_n, kil_i, kil_r, kil_l, kil_d, gl_0, gl_s, cat_i, cat_r, true_and, nI_1, nI_2]
  rcases hJ N G sn SG hK.hG hK.hG2 with ⟨v, N', G', sn', SG', hQ, hc, hm⟩ | ⟨E, kk, hE, hc, hm⟩
  · refine c216_278 (w_place hK.hx (hc h x z c r c2 r2 hK) (fun o h' z' hq => ⟨hq.1, (hq.2.2.2 _ (by omega)).trans hO⟩)) (by omega) (by omega) ?_
    rintro _ _ z1 ⟨rfl, h1, ⟨-, rfl, ⟨c', r', c2', r2', hK1⟩, hF1⟩, rfl⟩
    show aW (Sp 60) 216 mc ms lawP 281 _ _ _ _ _ _
    have hK2 : K (hup h1 (x + 88) (la 1 (updL O 0 (v.toInt64)))) x c' r' c2' r2' N' G' sn' SG' := hK1.fr fun q _ _ => hup_ne (by omega)
    have hM2 : MD (hup h1 (x + 88) (la 1 (updL O 0 (v.toInt64)))) (x + 38) t t2 N sn G SG th := hM.fr fun q _ _ => by rw [hup_ne (by omega), hF1 q (by omega)]
    have hb2 : (hup h1 (x + 88) (la 1 (updL O 0 (v.toInt64)))) b = some (ra 5 L fun j => .int (xs j)) := by rw [hup_ne (by omega), hF1 b (by omega)]; exact hb
    have hA2 : (hup h1 (x + 88) (la 1 (updL O 0 (v.toInt64)))) (x + 88) = some (la 1 (updL O 0 (v.toInt64))) := hup_same
    have hD2 : (hup h1 (x + 88) (la 1 (updL O 0 (v.toInt64)))) (x + 89) = some (ra 3 1 D) := by rw [hup_ne (by omega), hF1 _ (by omega)]; exact hD
    generalize hup h1 (x + 88) (la 1 (updL O 0 (v.toInt64))) = H1 at hK2 hM2 hb2 hA2 hD2 ⊢
    simp only [s216_276, s216_277, s216_281, s216_283, s216_287, s216_289, s216_293, s216_295, s216_298, s216_299, s216_300, s216_302, s216_305, s216_306, s216_307, s216_308, s216_310, s216_311, s216_312, s216_315, s216_316, s216_317, ldi_0, ldi_s, ldl_0, ldl_s, ldd_0, ldd_s, lda_0, lda_s, st1_0, st1_1, st2_0, st2_1, sti_0, sti_1, stj_0, stj_1, st1_2, sti_2, st2_2, stj_2, st1_3, sti_3, st2_3, stj_3, st1_4, sti_4, st2_4, stj_4, st1_5, sti_5, st2_5, stj_5, st1_6, sti_6, st2_6, stj_6, st1_7, sti_7, st2_7, stj_7, st1_8, sti_8, st2_8, stj_8, st1_9, sti_9, st2_9, stj_9, kil_n, kil_i, kil_r, kil_l, kil_d, gl_0, gl_s, cat_i, cat_r, true_and, nI_1, nI_2]
    refine c216_284 hM2.1 (hm H1 (x + 38) t t2 th z1 hM2) (by omega) (by omega) ?_
    rintro _ H2 z2 ⟨rfl, rfl, ⟨t', t2', hM3⟩, hF3⟩
    show aW (Sp 60) 216 mc ms lawP 287 _ _ _ _ _ _
    have hK3 : K H2 x c' r' c2' r2' N' G' sn' SG' := hK2.fr fun q _ _ => hF3 q (by omega)
    have hb3 : H2 b = some (ra 5 L fun j => .int (xs j)) := by rw [hF3 b (by omega)]; exact hb2
    have hA3 : H2 (x + 88) = some (la 1 (updL O 0 (v.toInt64))) := by rw [hF3 _ (by omega)]; exact hA2
    have hD3 : H2 (x + 89) = some (ra 3 1 D) := by rw [hF3 _ (by omega)]; exact hD2
    have fin : lwS H2 z2 b L xs x := ⟨c', r', c2', r2', t', t2', N', G', sn', SG', 0, hK3, hM3, ⟨_, hA3⟩, ⟨_, hD3⟩, hb3, hbx, hz⟩
    simp only [s216_276, s216_277, s216_281, s216_283, s216_287, s216_289, s216_293, s216_295, s216_298, s216_299, s216_300, s216_302, s216_305, s216_306, s216_307, s216_308, s216_310, s216_311, s216_312, s216_315, s216_316, s216_317, ldi_0, ldi_s, ldl_0, ldl_s, ldd_0, ldd_s, lda_0, lda_s, st1_0, st1_1, st2_0, st2_1, sti_0, sti_1, stj_0, stj_1, st1_2, sti_2, st2_2, stj_2, st1_3, sti_3, st2_3, stj_3, st1_4, sti_4, st2_4, stj_4, st1_5, sti_5, st2_5, stj_5, st1_6, sti_6, st2_6, stj_6, st1_7, sti_7, st2_7, stj_7, st1_8, sti_8, st2_8, stj_8, st1_9, sti_9, st2_9, stj_9, kil_n, kil_i, kil_r, kil_l, kil_d, gl_0, gl_s, cat_i, cat_r, true_and, nI_1, nI_2]
    refine c216_290r hM3.1 (sp_thr hM3) ?_
    simp only [s216_276, s216_277, s216_281, s216_283, s216_287, s216_289, s216_293, s216_295, s216_298, s216_299, s216_300, s216_302, s216_305, s216_306, s216_307, s216_308, s216_310, s216_311, s216_312, s216_315, s216_316, s216_317, ldi_0, ldi_s, ldl_0, ldl_s, ldd_0, ldd_s, lda_0, lda_s, st1_0, st1_1, st2_0, st2_1, sti_0, sti_1, stj_0, stj_1, st1_2, sti_2, st2_2, stj_2, st1_3, sti_3, st2_3, stj_3, st1_4, sti_4, st2_4, stj_4, st1_5, sti_5, st2_5, stj_5, st1_6, sti_6, st2_6, stj_6, st1_7, sti_7, st2_7, stj_7, st1_8, sti_8, st2_8, stj_8, st1_9, sti_9, st2_9, stj_9, kil_n, kil_i, kil_r, kil_l, kil_d, gl_0, gl_s, cat_i, cat_r, true_and, nI_1, nI_2]
    rw [br_1 trivial, br_0 (fun w => w trivial), nI_lit0, ald_la hA3 (by decide)]
    simp only [s216_276, s216_277, s216_281, s216_283, s216_287, s216_289, s216_293, s216_295, s216_298, s216_299, s216_300, s216_302, s216_305, s216_306, s216_307, s216_308, s216_310, s216_311, s216_312, s216_315, s216_316, s216_317, ldi_0, ldi_s, ldl_0, ldl_s, ldd_0, ldd_s, lda_0, lda_s, st1_0, st1_1, st2_0, st2_1, sti_0, sti_1, stj_0, stj_1, st1_2, sti_2, st2_2, stj_2, st1_3, sti_3, st2_3, stj_3, st1_4, sti_4, st2_4, stj_4, st1_5, sti_5, st2_5, stj_5, st1_6, sti_6, st2_6, stj_6, st1_7, sti_7, st2_7, stj_7, st1_8, sti_8, st2_8, stj_8, st1_9, sti_9, st2_9, stj_9, kil_n, kil_i, kil_r, kil_l, kil_d, gl_0, gl_s, cat_i, cat_r, true_and, nI_1, nI_2, lg_cmp_eq]
    rw [br_1 (show updL O 0 v.toInt64 0 = v.toInt64 from if_pos rfl)]
    exact ct _ _ _ _ _ _ _ fin (by omega) (by omega)
  · have thrown : ∀ h1 z1 kk' (v : Int32) s, cX h x N G sn SG z E (.inr E) h1 z1 → kk = kk' → ¬ kk' = 0 → aW (Sp 60) 216 mc ms lawP 281 [some (.ref b), some (.ref x), some (.ref (x + 38)), some (.ref (x + 88)), some (.ref (x + 89)), some (.int (nI (3 * i))), s, s7, s8] [.int kk'] h1 z1 (k + 1) (n + 6) := by
      rintro h1 z1 kk' v s ⟨-, hz1, ⟨c', r', c2', r2', hK1⟩, hF1⟩ rfl hk0
      have hM2 : MD h1 (x + 38) t t2 N sn G SG th := hM.fr fun q _ _ => hF1 q (by omega)
      have hb2 : h1 b = some (ra 5 L fun j => .int (xs j)) := by rw [hF1 b (by omega)]; exact hb
      have hO2 : h1 (x + 88) = some (la 1 O) := by rw [hF1 _ (by omega)]; exact hO
      have hD2 : h1 (x + 89) = some (ra 3 1 D) := by rw [hF1 _ (by omega)]; exact hD
      simp only [s216_276, s216_277, s216_281, s216_283, s216_287, s216_289, s216_293, s216_295, s216_298, s216_299, s216_300, s216_302, s216_305, s216_306, s216_307, s216_308, s216_310, s216_311, s216_312, s216_315, s216_316, s216_317, ldi_0, ldi_s, ldl_0, ldl_s, ldd_0, ldd_s, lda_0, lda_s, st1_0, st1_1, st2_0, st2_1, sti_0, sti_1, stj_0, stj_1, st1_2, sti_2, st2_2, stj_2, st1_3, sti_3, st2_3, stj_3, st1_4, sti_4, st2_4, stj_4, st1_5, sti_5, st2_5, stj_5, st1_6, sti_6, st2_6, stj_6, st1_7, sti_7, st2_7, stj_7, st1_8, sti_8, st2_8, stj_8, st1_9, sti_9, st2_9, stj_9, kil_n, kil_i, kil_r, kil_l, kil_d, gl_0, gl_s, cat_i, cat_r, true_and, nI_1, nI_2]
      obtain ⟨w, hw⟩ := hm h1 (x + 38) t t2 th z1 hM2
      refine c216_284 hM2.1 hw (by omega) (by omega) ?_
      rintro _ H2 z2 ⟨rfl, rfl, ⟨t', t2', hM3⟩, hF3⟩
      show aW (Sp 60) 216 mc ms lawP 287 _ _ _ _ _ _
      have hK3 : K H2 x c' r' c2' r2' N G sn SG := hK1.fr fun q _ _ => hF3 q (by omega)
      have fin : lwS H2 z2 b L xs x := ⟨c', r', c2', r2', t', t2', N, G, sn, SG, kk, hK3, hM3, ⟨O, by rw [hF3 _ (by omega)]; exact hO2⟩, ⟨D, by rw [hF3 _ (by omega)]; exact hD2⟩, by rw [hF3 b (by omega)]; exact hb2, hbx, by omega⟩
      have hb3 : H2 b = some (ra 5 L fun j => .int (xs j)) := by rw [hF3 b (by omega)]; exact hb2
      simp only [s216_276, s216_277, s216_281, s216_283, s216_287, s216_289, s216_293, s216_295, s216_298, s216_299, s216_300, s216_302, s216_305, s216_306, s216_307, s216_308, s216_310, s216_311, s216_312, s216_315, s216_316, s216_317, ldi_0, ldi_s, ldl_0, ldl_s, ldd_0, ldd_s, lda_0, lda_s, st1_0, st1_1, st2_0, st2_1, sti_0, sti_1, stj_0, stj_1, st1_2, sti_2, st2_2, stj_2, st1_3, sti_3, st2_3, stj_3, st1_4, sti_4, st2_4, stj_4, st1_5, sti_5, st2_5, stj_5, st1_6, sti_6, st2_6, stj_6, st1_7, sti_7, st2_7, stj_7, st1_8, sti_8, st2_8, stj_8, st1_9, sti_9, st2_9, stj_9, kil_n, kil_i, kil_r, kil_l, kil_d, gl_0, gl_s, cat_i, cat_r, true_and, nI_1, nI_2]
      refine c216_290r hM3.1 (sp_thr hM3) ?_
      simp only [s216_276, s216_277, s216_281, s216_283, s216_287, s216_289, s216_293, s216_295, s216_298, s216_299, s216_300, s216_302, s216_305, s216_306, s216_307, s216_308, s216_310, s216_311, s216_312, s216_315, s216_316, s216_317, ldi_0, ldi_s, ldl_0, ldl_s, ldd_0, ldd_s, lda_0, lda_s, st1_0, st1_1, st2_0, st2_1, sti_0, sti_1, stj_0, stj_1, st1_2, sti_2, st2_2, stj_2, st1_3, sti_3, st2_3, stj_3, st1_4, sti_4, st2_4, stj_4, st1_5, sti_5, st2_5, stj_5, st1_6, sti_6, st2_6, stj_6, st1_7, sti_7, st2_7, stj_7, st1_8, sti_8, st2_8, stj_8, st1_9, sti_9, st2_9, stj_9, kil_n, kil_i, kil_r, kil_l, kil_d, gl_0, gl_s, cat_i, cat_r, true_and, nI_1, nI_2]
      rw [br_1 trivial, br_1 hk0]
      exact ct _ _ _ _ _ _ _ fin (by omega) (by omega)
    simp only [List.mem_cons, List.not_mem_nil, or_false, Prod.mk.injEq] at hE
    obtain ⟨rfl, rfl⟩ := hE
    refine c216_278 (x_place_1 hK.hx (hc h x z c r c2 r2 hK) (fun o h' z' hq => hq.1)) (by omega) (by omega) ?_
    rintro _ h1 z1 ⟨rfl, hq⟩
    exact thrown h1 z1 1 0 s6 hq rfl (by decide)
theorem cs_star (hS : lwS h z b L xs x) (hi : 3 * i + 2 < L) (hL : L ≤ 1536) (hk : k + 1 ≤ mc) (hn : n + 6 ≤ ms) (hJ : ∀ N G sn SG, GOK N G → GOK sn SG → jO (fun v : Int32 => Value.int v) (fun _ : Int32 => True) 25 28 [] [(1, 1)] N G sn SG) (ct : lwC b L xs x i k n mc ms) : aW (Sp 60) 216 mc ms lawP 320 [some (.ref b), some (.ref x), some (.ref (x + 38)), some (.ref (x + 88)), some (.ref (x + 89)), some (.int (nI (3 * i))), s6, s7, s8] [] h z k n := by
  obtain ⟨c, r, c2, r2, t, t2, N, G, sn, SG, th, hK, hM, ⟨O, hO⟩, ⟨D, hD⟩, hb, hbx, hz⟩ := hS
  simp only [s216_320, s216_321, s216_325, s216_327, s216_331, s216_333, s216_337, s216_339, s216_342, s216_343, s216_344, s216_346, s216_349, s216_350, s216_351, s216_352, s216_354, s216_355, s216_356, s216_359, s216_360, s216_361, ldi_0, ldi_s, ldl_0, ldl_s, ldd_0, ldd_s, lda_0, lda_s, st1_0, st1_1, st2_0, st2_1, sti_0, sti_1, stj_0, stj_1, st1_2, sti_2, st2_2, stj_2, st1_3, sti_3, st2_3, stj_3, st1_4, sti_4, st2_4, stj_4, st1_5, sti_5, st2_5, stj_5, st1_6, sti_6, st2_6, stj_6, st1_7, sti_7, st2_7, stj_7, st1_8, sti_8, st2_8, stj_8, st1_9, sti_9, st2_9, stj_9, kil_n, kil_i, kil_r, kil_l, kil_d, gl_0, gl_s, cat_i, cat_r, true_and, nI_1, nI_2]
  rcases hJ N G sn SG hK.hG hK.hG2 with ⟨v, N', G', sn', SG', hQ, hc, hm⟩ | ⟨E, kk, hE, hc, hm⟩
  · refine c216_322 (w_star hK.hx (hc h x z c r c2 r2 hK) (fun o h' z' hq => ⟨hq.1, (hq.2.2.2 _ (by omega)).trans hO⟩)) (by omega) (by omega) ?_
    rintro _ _ z1 ⟨rfl, h1, ⟨-, rfl, ⟨c', r', c2', r2', hK1⟩, hF1⟩, rfl⟩
    show aW (Sp 60) 216 mc ms lawP 325 _ _ _ _ _ _
    have hK2 : K (hup h1 (x + 88) (la 1 (updL O 0 (v.toInt64)))) x c' r' c2' r2' N' G' sn' SG' := hK1.fr fun q _ _ => hup_ne (by omega)
    have hM2 : MD (hup h1 (x + 88) (la 1 (updL O 0 (v.toInt64)))) (x + 38) t t2 N sn G SG th := hM.fr fun q _ _ => by rw [hup_ne (by omega), hF1 q (by omega)]
    have hb2 : (hup h1 (x + 88) (la 1 (updL O 0 (v.toInt64)))) b = some (ra 5 L fun j => .int (xs j)) := by rw [hup_ne (by omega), hF1 b (by omega)]; exact hb
    have hA2 : (hup h1 (x + 88) (la 1 (updL O 0 (v.toInt64)))) (x + 88) = some (la 1 (updL O 0 (v.toInt64))) := hup_same
    have hD2 : (hup h1 (x + 88) (la 1 (updL O 0 (v.toInt64)))) (x + 89) = some (ra 3 1 D) := by rw [hup_ne (by omega), hF1 _ (by omega)]; exact hD
    generalize hup h1 (x + 88) (la 1 (updL O 0 (v.toInt64))) = H1 at hK2 hM2 hb2 hA2 hD2 ⊢
    simp only [s216_320, s216_321, s216_325, s216_327, s216_331, s216_333, s216_337, s216_339, s216_342, s216_343, s216_344, s216_346, s216_349, s216_350, s216_351, s216_352, s216_354, s216_355, s216_356, s216_359, s216_360, s216_361, ldi_0, ldi_s, ldl_0, ldl_s, ldd_0, ldd_s, lda_0, lda_s, st1_0, st1_1, st2_0, st2_1, sti_0, sti_1, stj_0, stj_1, st1_2, sti_2, st2_2, stj_2, st1_3, sti_3, st2_3, stj_3, st1_4, sti_4, st2_4, stj_4, st1_5, sti_5, st2_5, stj_5, st1_6, sti_6, st2_6, stj_6, st1_7, sti_7, st2_7, stj_7, st1_8, sti_8, st2_8, stj_8, st1_9, sti_9, st2_9, stj_9, kil_n, kil_i, kil_r, kil_l, kil_d, gl_0, gl_s, cat_i, cat_r, true_and, nI_1, nI_2]
    refine c216_328 hM2.1 (hm H1 (x + 38) t t2 th z1 hM2) (by omega) (by omega) ?_
    rintro _ H2 z2 ⟨rfl, rfl, ⟨t', t2', hM3⟩, hF3⟩
    show aW (Sp 60) 216 mc ms lawP 331 _ _ _ _ _ _
    have hK3 : K H2 x c' r' c2' r2' N' G' sn' SG' := hK2.fr fun q _ _ => hF3 q (by omega)
    have hb3 : H2 b = some (ra 5 L fun j => .int (xs j)) := by rw [hF3 b (by omega)]; exact hb2
    have hA3 : H2 (x + 88) = some (la 1 (updL O 0 (v.toInt64))) := by rw [hF3 _ (by omega)]; exact hA2
    have hD3 : H2 (x + 89) = some (ra 3 1 D) := by rw [hF3 _ (by omega)]; exact hD2
    have fin : lwS H2 z2 b L xs x := ⟨c', r', c2', r2', t', t2', N', G', sn', SG', 0, hK3, hM3, ⟨_, hA3⟩, ⟨_, hD3⟩, hb3, hbx, hz⟩
    simp only [s216_320, s216_321, s216_325, s216_327, s216_331, s216_333, s216_337, s216_339, s216_342, s216_343, s216_344, s216_346, s216_349, s216_350, s216_351, s216_352, s216_354, s216_355, s216_356, s216_359, s216_360, s216_361, ldi_0, ldi_s, ldl_0, ldl_s, ldd_0, ldd_s, lda_0, lda_s, st1_0, st1_1, st2_0, st2_1, sti_0, sti_1, stj_0, stj_1, st1_2, sti_2, st2_2, stj_2, st1_3, sti_3, st2_3, stj_3, st1_4, sti_4, st2_4, stj_4, st1_5, sti_5, st2_5, stj_5, st1_6, sti_6, st2_6, stj_6, st1_7, sti_7, st2_7, stj_7, st1_8, sti_8, st2_8, stj_8, st1_9, sti_9, st2_9, stj_9, kil_n, kil_i, kil_r, kil_l, kil_d, gl_0, gl_s, cat_i, cat_r, true_and, nI_1, nI_2]
    refine c216_334r hM3.1 (sp_thr hM3) ?_
    simp only [s216_320, s216_321, s216_325, s216_327, s216_331, s216_333, s216_337, s216_339, s216_342, s216_343, s216_344, s216_346, s216_349, s216_350, s216_351, s216_352, s216_354, s216_355, s216_356, s216_359, s216_360, s216_361, ldi_0, ldi_s, ldl_0, ldl_s, ldd_0, ldd_s, lda_0, lda_s, st1_0, st1_1, st2_0, st2_1, sti_0, sti_1, stj_0, stj_1, st1_2, sti_2, st2_2, stj_2, st1_3, sti_3, st2_3, stj_3, st1_4, sti_4, st2_4, stj_4, st1_5, sti_5, st2_5, stj_5, st1_6, sti_6, st2_6, stj_6, st1_7, sti_7, st2_7, stj_7, st1_8, sti_8, st2_8, stj_8, st1_9, sti_9, st2_9, stj_9, kil_n, kil_i, kil_r, kil_l, kil_d, gl_0, gl_s, cat_i, cat_r, true_and, nI_1, nI_2]
    rw [br_1 trivial, br_0 (fun w => w trivial), nI_lit0, ald_la hA3 (by decide)]
    simp only [s216_320, s216_321, s216_325, s216_327, s216_331, s216_333, s216_337, s216_339, s216_342, s216_343, s216_344, s216_346, s216_349, s216_350, s216_351, s216_352, s216_354, s216_355, s216_356, s216_359, s216_360, s216_361, ldi_0, ldi_s, ldl_0, ldl_s, ldd_0, ldd_s, lda_0, lda_s, st1_0, st1_1, st2_0, st2_1, sti_0, sti_1, stj_0, stj_1, st1_2, sti_2, st2_2, stj_2, st1_3, sti_3, st2_3, stj_3, st1_4, sti_4, st2_4, stj_4, st1_5, sti_5, st2_5, stj_5, st1_6, sti_6, st2_6, stj_6, st1_7, sti_7, st2_7, stj_7, st1_8, sti_8, st2_8, stj_8, st1_9, sti_9, st2_9, stj_9, kil_n, kil_i, kil_r, kil_l, kil_d, gl_0, gl_s, cat_i, cat_r, true_and, nI_1, nI_2, lg_cmp_eq]
    rw [br_1 (show updL O 0 v.toInt64 0 = v.toInt64 from if_pos rfl)]
    exact ct _ _ _ _ _ _ _ fin (by omega) (by omega)
  · have thrown : ∀ h1 z1 kk' (v : Int32) s, cX h x N G sn SG z E (.inr E) h1 z1 → kk = kk' → ¬ kk' = 0 → aW (Sp 60) 216 mc ms lawP 325 [some (.ref b), some (.ref x), some (.ref (x + 38)), some (.ref (x + 88)), some (.ref (x + 89)), some (.int (nI (3 * i))), s, s7, s8] [.int kk'] h1 z1 (k + 1) (n + 6) := by
      rintro h1 z1 kk' v s ⟨-, hz1, ⟨c', r', c2', r2', hK1⟩, hF1⟩ rfl hk0
      have hM2 : MD h1 (x + 38) t t2 N sn G SG th := hM.fr fun q _ _ => hF1 q (by omega)
      have hb2 : h1 b = some (ra 5 L fun j => .int (xs j)) := by rw [hF1 b (by omega)]; exact hb
      have hO2 : h1 (x + 88) = some (la 1 O) := by rw [hF1 _ (by omega)]; exact hO
      have hD2 : h1 (x + 89) = some (ra 3 1 D) := by rw [hF1 _ (by omega)]; exact hD
      simp only [s216_320, s216_321, s216_325, s216_327, s216_331, s216_333, s216_337, s216_339, s216_342, s216_343, s216_344, s216_346, s216_349, s216_350, s216_351, s216_352, s216_354, s216_355, s216_356, s216_359, s216_360, s216_361, ldi_0, ldi_s, ldl_0, ldl_s, ldd_0, ldd_s, lda_0, lda_s, st1_0, st1_1, st2_0, st2_1, sti_0, sti_1, stj_0, stj_1, st1_2, sti_2, st2_2, stj_2, st1_3, sti_3, st2_3, stj_3, st1_4, sti_4, st2_4, stj_4, st1_5, sti_5, st2_5, stj_5, st1_6, sti_6, st2_6, stj_6, st1_7, sti_7, st2_7, stj_7, st1_8, sti_8, st2_8, stj_8, st1_9, sti_9, st2_9, stj_9, kil_n, kil_i, kil_r, kil_l, kil_d, gl_0, gl_s, cat_i, cat_r, true_and, nI_1, nI_2]
      obtain ⟨w, hw⟩ := hm h1 (x + 38) t t2 th z1 hM2
      refine c216_328 hM2.1 hw (by omega) (by omega) ?_
      rintro _ H2 z2 ⟨rfl, rfl, ⟨t', t2', hM3⟩, hF3⟩
      show aW (Sp 60) 216 mc ms lawP 331 _ _ _ _ _ _
      have hK3 : K H2 x c' r' c2' r2' N G sn SG := hK1.fr fun q _ _ => hF3 q (by omega)
      have fin : lwS H2 z2 b L xs x := ⟨c', r', c2', r2', t', t2', N, G, sn, SG, kk, hK3, hM3, ⟨O, by rw [hF3 _ (by omega)]; exact hO2⟩, ⟨D, by rw [hF3 _ (by omega)]; exact hD2⟩, by rw [hF3 b (by omega)]; exact hb2, hbx, by omega⟩
      have hb3 : H2 b = some (ra 5 L fun j => .int (xs j)) := by rw [hF3 b (by omega)]; exact hb2
      simp only [s216_320, s216_321, s216_325, s216_327, s216_331, s216_333, s216_337, s216_339, s216_342, s216_343, s216_344, s216_346, s216_349, s216_350, s216_351, s216_352, s216_354, s216_355, s216_356, s216_359, s216_360, s216_361, ldi_0, ldi_s, ldl_0, ldl_s, ldd_0, ldd_s, lda_0, lda_s, st1_0, st1_1, st2_0, st2_1, sti_0, sti_1, stj_0, stj_1, st1_2, sti_2, st2_2, stj_2, st1_3, sti_3, st2_3, stj_3, st1_4, sti_4, st2_4, stj_4, st1_5, sti_5, st2_5, stj_5, st1_6, sti_6, st2_6, stj_6, st1_7, sti_7, st2_7, stj_7, st1_8, sti_8, st2_8, stj_8, st1_9, sti_9, st2_9, stj_9, kil_n, kil_i, kil_r, kil_l, kil_d, gl_0, gl_s, cat_i, cat_r, true_and, nI_1, nI_2]
      refine c216_334r hM3.1 (sp_thr hM3) ?_
      simp only [s216_320, s216_321, s216_325, s216_327, s216_331, s216_333, s216_337, s216_339, s216_342, s216_343, s216_344, s216_346, s216_349, s216_350, s216_351, s216_352, s216_354, s216_355, s216_356, s216_359, s216_360, s216_361, ldi_0, ldi_s, ldl_0, ldl_s, ldd_0, ldd_s, lda_0, lda_s, st1_0, st1_1, st2_0, st2_1, sti_0, sti_1, stj_0, stj_1, st1_2, sti_2, st2_2, stj_2, st1_3, sti_3, st2_3, stj_3, st1_4, sti_4, st2_4, stj_4, st1_5, sti_5, st2_5, stj_5, st1_6, sti_6, st2_6, stj_6, st1_7, sti_7, st2_7, stj_7, st1_8, sti_8, st2_8, stj_8, st1_9, sti_9, st2_9, stj_9, kil_n, kil_i, kil_r, kil_l, kil_d, gl_0, gl_s, cat_i, cat_r, true_and, nI_1, nI_2]
      rw [br_1 trivial, br_1 hk0]
      exact ct _ _ _ _ _ _ _ fin (by omega) (by omega)
    simp only [List.mem_cons, List.not_mem_nil, or_false, Prod.mk.injEq] at hE
    obtain ⟨rfl, rfl⟩ := hE
    refine c216_322 (x_star_1 hK.hx (hc h x z c r c2 r2 hK) (fun o h' z' hq => hq.1)) (by omega) (by omega) ?_
    rintro _ h1 z1 ⟨rfl, hq⟩
    exact thrown h1 z1 1 0 s6 hq rfl (by decide)
theorem cs_leave (hS : lwS h z b L xs x) (hi : 3 * i + 2 < L) (hL : L ≤ 1536) (hk : k + 1 ≤ mc) (hn : n + 6 ≤ ms) (hJ : ∀ N G sn SG, GOK N G → GOK sn SG → jO (fun v : Int32 => Value.int v) (fun _ : Int32 => True) 32 38 [.int (xs (3 * i + 1))] [(2, 1)] N G sn SG) (ct : lwC b L xs x i k n mc ms) : aW (Sp 60) 216 mc ms lawP 364 [some (.ref b), some (.ref x), some (.ref (x + 38)), some (.ref (x + 88)), some (.ref (x + 89)), some (.int (nI (3 * i))), s6, s7, s8] [] h z k n := by
  obtain ⟨c, r, c2, r2, t, t2, N, G, sn, SG, th, hK, hM, ⟨O, hO⟩, ⟨D, hD⟩, hb, hbx, hz⟩ := hS
  simp only [s216_364, s216_365, s216_366, s216_368, s216_369, s216_370, s216_371, s216_375, s216_377, s216_378, s216_379, s216_381, s216_382, s216_383, s216_387, s216_389, s216_393, s216_395, s216_398, s216_399, s216_400, s216_402, s216_405, s216_406, s216_407, s216_408, s216_410, s216_411, s216_412, s216_415, s216_416, s216_417, ldi_0, ldi_s, ldl_0, ldl_s, ldd_0, ldd_s, lda_0, lda_s, st1_0, st1_1, st2_0, st2_1, sti_0, sti_1, stj_0, stj_1, st1_2, sti_2, st2_2, stj_2, st1_3, sti_3, st2_3, stj_3, st1_4, sti_4, st2_4, stj_4, st1_5, sti_5, st2_5, stj_5, st1_6, sti_6, st2_6, stj_6, st1_7, sti_7, st2_7, stj_7, st1_8, sti_8, st2_8, stj_8, st1_9, sti_9, st2_9, stj_9, kil_n, kil_i, kil_r, kil_l, kil_d, gl_0, gl_s, cat_i, cat_r, true_and, nI_1, nI_2, scr_ald hb (show 3 * i + 1 < L by omega) hL]
  rcases hJ N G sn SG hK.hG hK.hG2 with ⟨v, N', G', sn', SG', hQ, hc, hm⟩ | ⟨E, kk, hE, hc, hm⟩
  · refine c216_372 (w_leave hK.hx (hc h x z c r c2 r2 hK) (fun o h' z' hq => ⟨hq.1, (hq.2.2.2 _ (by omega)).trans hO⟩)) (by omega) (by omega) ?_
    rintro _ _ z1 ⟨rfl, h1, ⟨-, rfl, ⟨c', r', c2', r2', hK1⟩, hF1⟩, rfl⟩
    show aW (Sp 60) 216 mc ms lawP 375 _ _ _ _ _ _
    have hK2 : K (hup h1 (x + 88) (la 1 (updL O 0 (v.toInt64)))) x c' r' c2' r2' N' G' sn' SG' := hK1.fr fun q _ _ => hup_ne (by omega)
    have hM2 : MD (hup h1 (x + 88) (la 1 (updL O 0 (v.toInt64)))) (x + 38) t t2 N sn G SG th := hM.fr fun q _ _ => by rw [hup_ne (by omega), hF1 q (by omega)]
    have hb2 : (hup h1 (x + 88) (la 1 (updL O 0 (v.toInt64)))) b = some (ra 5 L fun j => .int (xs j)) := by rw [hup_ne (by omega), hF1 b (by omega)]; exact hb
    have hA2 : (hup h1 (x + 88) (la 1 (updL O 0 (v.toInt64)))) (x + 88) = some (la 1 (updL O 0 (v.toInt64))) := hup_same
    have hD2 : (hup h1 (x + 88) (la 1 (updL O 0 (v.toInt64)))) (x + 89) = some (ra 3 1 D) := by rw [hup_ne (by omega), hF1 _ (by omega)]; exact hD
    generalize hup h1 (x + 88) (la 1 (updL O 0 (v.toInt64))) = H1 at hK2 hM2 hb2 hA2 hD2 ⊢
    simp only [s216_364, s216_365, s216_366, s216_368, s216_369, s216_370, s216_371, s216_375, s216_377, s216_378, s216_379, s216_381, s216_382, s216_383, s216_387, s216_389, s216_393, s216_395, s216_398, s216_399, s216_400, s216_402, s216_405, s216_406, s216_407, s216_408, s216_410, s216_411, s216_412, s216_415, s216_416, s216_417, ldi_0, ldi_s, ldl_0, ldl_s, ldd_0, ldd_s, lda_0, lda_s, st1_0, st1_1, st2_0, st2_1, sti_0, sti_1, stj_0, stj_1, st1_2, sti_2, st2_2, stj_2, st1_3, sti_3, st2_3, stj_3, st1_4, sti_4, st2_4, stj_4, st1_5, sti_5, st2_5, stj_5, st1_6, sti_6, st2_6, stj_6, st1_7, sti_7, st2_7, stj_7, st1_8, sti_8, st2_8, stj_8, st1_9, sti_9, st2_9, stj_9, kil_n, kil_i, kil_r, kil_l, kil_d, gl_0, gl_s, cat_i, cat_r, true_and, nI_1, nI_2, scr_ald hb2 (show 3 * i + 1 < L by omega) hL]
    refine c216_384 hM2.1 (hm H1 (x + 38) t t2 th z1 hM2) (by omega) (by omega) ?_
    rintro _ H2 z2 ⟨rfl, rfl, ⟨t', t2', hM3⟩, hF3⟩
    show aW (Sp 60) 216 mc ms lawP 387 _ _ _ _ _ _
    have hK3 : K H2 x c' r' c2' r2' N' G' sn' SG' := hK2.fr fun q _ _ => hF3 q (by omega)
    have hb3 : H2 b = some (ra 5 L fun j => .int (xs j)) := by rw [hF3 b (by omega)]; exact hb2
    have hA3 : H2 (x + 88) = some (la 1 (updL O 0 (v.toInt64))) := by rw [hF3 _ (by omega)]; exact hA2
    have hD3 : H2 (x + 89) = some (ra 3 1 D) := by rw [hF3 _ (by omega)]; exact hD2
    have fin : lwS H2 z2 b L xs x := ⟨c', r', c2', r2', t', t2', N', G', sn', SG', 0, hK3, hM3, ⟨_, hA3⟩, ⟨_, hD3⟩, hb3, hbx, hz⟩
    simp only [s216_364, s216_365, s216_366, s216_368, s216_369, s216_370, s216_371, s216_375, s216_377, s216_378, s216_379, s216_381, s216_382, s216_383, s216_387, s216_389, s216_393, s216_395, s216_398, s216_399, s216_400, s216_402, s216_405, s216_406, s216_407, s216_408, s216_410, s216_411, s216_412, s216_415, s216_416, s216_417, ldi_0, ldi_s, ldl_0, ldl_s, ldd_0, ldd_s, lda_0, lda_s, st1_0, st1_1, st2_0, st2_1, sti_0, sti_1, stj_0, stj_1, st1_2, sti_2, st2_2, stj_2, st1_3, sti_3, st2_3, stj_3, st1_4, sti_4, st2_4, stj_4, st1_5, sti_5, st2_5, stj_5, st1_6, sti_6, st2_6, stj_6, st1_7, sti_7, st2_7, stj_7, st1_8, sti_8, st2_8, stj_8, st1_9, sti_9, st2_9, stj_9, kil_n, kil_i, kil_r, kil_l, kil_d, gl_0, gl_s, cat_i, cat_r, true_and, nI_1, nI_2, scr_ald hb3 (show 3 * i + 1 < L by omega) hL]
    refine c216_390r hM3.1 (sp_thr hM3) ?_
    simp only [s216_364, s216_365, s216_366, s216_368, s216_369, s216_370, s216_371, s216_375, s216_377, s216_378, s216_379, s216_381, s216_382, s216_383, s216_387, s216_389, s216_393, s216_395, s216_398, s216_399, s216_400, s216_402, s216_405, s216_406, s216_407, s216_408, s216_410, s216_411, s216_412, s216_415, s216_416, s216_417, ldi_0, ldi_s, ldl_0, ldl_s, ldd_0, ldd_s, lda_0, lda_s, st1_0, st1_1, st2_0, st2_1, sti_0, sti_1, stj_0, stj_1, st1_2, sti_2, st2_2, stj_2, st1_3, sti_3, st2_3, stj_3, st1_4, sti_4, st2_4, stj_4, st1_5, sti_5, st2_5, stj_5, st1_6, sti_6, st2_6, stj_6, st1_7, sti_7, st2_7, stj_7, st1_8, sti_8, st2_8, stj_8, st1_9, sti_9, st2_9, stj_9, kil_n, kil_i, kil_r, kil_l, kil_d, gl_0, gl_s, cat_i, cat_r, true_and, nI_1, nI_2, scr_ald hb3 (show 3 * i + 1 < L by omega) hL]
    rw [br_1 trivial, br_0 (fun w => w trivial), nI_lit0, ald_la hA3 (by decide)]
    simp only [s216_364, s216_365, s216_366, s216_368, s216_369, s216_370, s216_371, s216_375, s216_377, s216_378, s216_379, s216_381, s216_382, s216_383, s216_387, s216_389, s216_393, s216_395, s216_398, s216_399, s216_400, s216_402, s216_405, s216_406, s216_407, s216_408, s216_410, s216_411, s216_412, s216_415, s216_416, s216_417, ldi_0, ldi_s, ldl_0, ldl_s, ldd_0, ldd_s, lda_0, lda_s, st1_0, st1_1, st2_0, st2_1, sti_0, sti_1, stj_0, stj_1, st1_2, sti_2, st2_2, stj_2, st1_3, sti_3, st2_3, stj_3, st1_4, sti_4, st2_4, stj_4, st1_5, sti_5, st2_5, stj_5, st1_6, sti_6, st2_6, stj_6, st1_7, sti_7, st2_7, stj_7, st1_8, sti_8, st2_8, stj_8, st1_9, sti_9, st2_9, stj_9, kil_n, kil_i, kil_r, kil_l, kil_d, gl_0, gl_s, cat_i, cat_r, true_and, nI_1, nI_2, scr_ald hb3 (show 3 * i + 1 < L by omega) hL, lg_cmp_eq]
    rw [br_1 (show updL O 0 v.toInt64 0 = v.toInt64 from if_pos rfl)]
    exact ct _ _ _ _ _ _ _ fin (by omega) (by omega)
  · have thrown : ∀ h1 z1 kk' (v : Int32) s, cX h x N G sn SG z E (.inr E) h1 z1 → kk = kk' → ¬ kk' = 0 → aW (Sp 60) 216 mc ms lawP 375 [some (.ref b), some (.ref x), some (.ref (x + 38)), some (.ref (x + 88)), some (.ref (x + 89)), some (.int (nI (3 * i))), s, s7, s8] [.int kk'] h1 z1 (k + 1) (n + 6) := by
      rintro h1 z1 kk' v s ⟨-, hz1, ⟨c', r', c2', r2', hK1⟩, hF1⟩ rfl hk0
      have hM2 : MD h1 (x + 38) t t2 N sn G SG th := hM.fr fun q _ _ => hF1 q (by omega)
      have hb2 : h1 b = some (ra 5 L fun j => .int (xs j)) := by rw [hF1 b (by omega)]; exact hb
      have hO2 : h1 (x + 88) = some (la 1 O) := by rw [hF1 _ (by omega)]; exact hO
      have hD2 : h1 (x + 89) = some (ra 3 1 D) := by rw [hF1 _ (by omega)]; exact hD
      simp only [s216_364, s216_365, s216_366, s216_368, s216_369, s216_370, s216_371, s216_375, s216_377, s216_378, s216_379, s216_381, s216_382, s216_383, s216_387, s216_389, s216_393, s216_395, s216_398, s216_399, s216_400, s216_402, s216_405, s216_406, s216_407, s216_408, s216_410, s216_411, s216_412, s216_415, s216_416, s216_417, ldi_0, ldi_s, ldl_0, ldl_s, ldd_0, ldd_s, lda_0, lda_s, st1_0, st1_1, st2_0, st2_1, sti_0, sti_1, stj_0, stj_1, st1_2, sti_2, st2_2, stj_2, st1_3, sti_3, st2_3, stj_3, st1_4, sti_4, st2_4, stj_4, st1_5, sti_5, st2_5, stj_5, st1_6, sti_6, st2_6, stj_6, st1_7, sti_7, st2_7, stj_7, st1_8, sti_8, st2_8, stj_8, st1_9, sti_9, st2_9, stj_9, kil_n, kil_i, kil_r, kil_l, kil_d, gl_0, gl_s, cat_i, cat_r, true_and, nI_1, nI_2, scr_ald hb2 (show 3 * i + 1 < L by omega) hL]
      obtain ⟨w, hw⟩ := hm h1 (x + 38) t t2 th z1 hM2
      refine c216_384 hM2.1 hw (by omega) (by omega) ?_
      rintro _ H2 z2 ⟨rfl, rfl, ⟨t', t2', hM3⟩, hF3⟩
      show aW (Sp 60) 216 mc ms lawP 387 _ _ _ _ _ _
      have hK3 : K H2 x c' r' c2' r2' N G sn SG := hK1.fr fun q _ _ => hF3 q (by omega)
      have fin : lwS H2 z2 b L xs x := ⟨c', r', c2', r2', t', t2', N, G, sn, SG, kk, hK3, hM3, ⟨O, by rw [hF3 _ (by omega)]; exact hO2⟩, ⟨D, by rw [hF3 _ (by omega)]; exact hD2⟩, by rw [hF3 b (by omega)]; exact hb2, hbx, by omega⟩
      have hb3 : H2 b = some (ra 5 L fun j => .int (xs j)) := by rw [hF3 b (by omega)]; exact hb2
      simp only [s216_364, s216_365, s216_366, s216_368, s216_369, s216_370, s216_371, s216_375, s216_377, s216_378, s216_379, s216_381, s216_382, s216_383, s216_387, s216_389, s216_393, s216_395, s216_398, s216_399, s216_400, s216_402, s216_405, s216_406, s216_407, s216_408, s216_410, s216_411, s216_412, s216_415, s216_416, s216_417, ldi_0, ldi_s, ldl_0, ldl_s, ldd_0, ldd_s, lda_0, lda_s, st1_0, st1_1, st2_0, st2_1, sti_0, sti_1, stj_0, stj_1, st1_2, sti_2, st2_2, stj_2, st1_3, sti_3, st2_3, stj_3, st1_4, sti_4, st2_4, stj_4, st1_5, sti_5, st2_5, stj_5, st1_6, sti_6, st2_6, stj_6, st1_7, sti_7, st2_7, stj_7, st1_8, sti_8, st2_8, stj_8, st1_9, sti_9, st2_9, stj_9, kil_n, kil_i, kil_r, kil_l, kil_d, gl_0, gl_s, cat_i, cat_r, true_and, nI_1, nI_2, scr_ald hb3 (show 3 * i + 1 < L by omega) hL]
      refine c216_390r hM3.1 (sp_thr hM3) ?_
      simp only [s216_364, s216_365, s216_366, s216_368, s216_369, s216_370, s216_371, s216_375, s216_377, s216_378, s216_379, s216_381, s216_382, s216_383, s216_387, s216_389, s216_393, s216_395, s216_398, s216_399, s216_400, s216_402, s216_405, s216_406, s216_407, s216_408, s216_410, s216_411, s216_412, s216_415, s216_416, s216_417, ldi_0, ldi_s, ldl_0, ldl_s, ldd_0, ldd_s, lda_0, lda_s, st1_0, st1_1, st2_0, st2_1, sti_0, sti_1, stj_0, stj_1, st1_2, sti_2, st2_2, stj_2, st1_3, sti_3, st2_3, stj_3, st1_4, sti_4, st2_4, stj_4, st1_5, sti_5, st2_5, stj_5, st1_6, sti_6, st2_6, stj_6, st1_7, sti_7, st2_7, stj_7, st1_8, sti_8, st2_8, stj_8, st1_9, sti_9, st2_9, stj_9, kil_n, kil_i, kil_r, kil_l, kil_d, gl_0, gl_s, cat_i, cat_r, true_and, nI_1, nI_2, scr_ald hb3 (show 3 * i + 1 < L by omega) hL]
      rw [br_1 trivial, br_1 hk0]
      exact ct _ _ _ _ _ _ _ fin (by omega) (by omega)
    simp only [List.mem_cons, List.not_mem_nil, or_false, Prod.mk.injEq] at hE
    obtain ⟨rfl, rfl⟩ := hE
    refine c216_372 (x_leave_1 hK.hx (hc h x z c r c2 r2 hK) (fun o h' z' hq => hq.1)) (by omega) (by omega) ?_
    rintro _ h1 z1 ⟨rfl, hq⟩
    exact thrown h1 z1 1 0 s6 hq rfl (by decide)
theorem cs_way (hS : lwS h z b L xs x) (hi : 3 * i + 2 < L) (hL : L ≤ 1536) (hk : k + 1 ≤ mc) (hn : n + 6 ≤ ms) (hJ : ∀ N G sn SG, GOK N G → GOK sn SG → jO (fun v : Bool => Value.int (bI v)) (fun _ : Bool => True) 43 47 [.int (xs (3 * i + 1)), .int (xs (3 * i + 2))] [(2, 1), (0, 2)] N G sn SG) (ct : lwC b L xs x i k n mc ms) : aW (Sp 60) 216 mc ms lawP 420 [some (.ref b), some (.ref x), some (.ref (x + 38)), some (.ref (x + 88)), some (.ref (x + 89)), some (.int (nI (3 * i))), s6, s7, s8] [] h z k n := by
  obtain ⟨c, r, c2, r2, t, t2, N, G, sn, SG, th, hK, hM, ⟨O, hO⟩, ⟨D, hD⟩, hb, hbx, hz⟩ := hS
  simp only [s216_420, s216_421, s216_422, s216_424, s216_425, s216_426, s216_427, s216_428, s216_430, s216_431, s216_432, s216_433, s216_437, s216_439, s216_440, s216_441, s216_443, s216_444, s216_445, s216_446, s216_447, s216_449, s216_450, s216_451, s216_455, s216_457, s216_461, s216_463, s216_466, s216_467, s216_468, s216_470, s216_473, s216_474, s216_475, s216_476, s216_478, s216_481, s216_482, s216_485, s216_486, s216_487, s216_490, s216_491, s216_492, ldi_0, ldi_s, ldl_0, ldl_s, ldd_0, ldd_s, lda_0, lda_s, st1_0, st1_1, st2_0, st2_1, sti_0, sti_1, stj_0, stj_1, st1_2, sti_2, st2_2, stj_2, st1_3, sti_3, st2_3, stj_3, st1_4, sti_4, st2_4, stj_4, st1_5, sti_5, st2_5, stj_5, st1_6, sti_6, st2_6, stj_6, st1_7, sti_7, st2_7, stj_7, st1_8, sti_8, st2_8, stj_8, st1_9, sti_9, st2_9, stj_9, kil_n, kil_i, kil_r, kil_l, kil_d, gl_0, gl_s, cat_i, cat_r, true_and, nI_1, nI_2, scr_ald hb (show 3 * i + 1 < L by omega) hL, scr_ald hb (show 3 * i + 2 < L by omega) hL]
  rcases hJ N G sn SG hK.hG hK.hG2 with ⟨v, N', G', sn', SG', hQ, hc, hm⟩ | ⟨E, kk, hE, hc, hm⟩
  · refine c216_434 (w_way hK.hx (hc h x z c r c2 r2 hK) (fun o h' z' hq => ⟨hq.1, (hq.2.2.2 _ (by omega)).trans hO⟩)) (by omega) (by omega) ?_
    rintro _ _ z1 ⟨rfl, h1, ⟨-, rfl, ⟨c', r', c2', r2', hK1⟩, hF1⟩, rfl⟩
    show aW (Sp 60) 216 mc ms lawP 437 _ _ _ _ _ _
    have hK2 : K (hup h1 (x + 88) (la 1 (updL O 0 ((if v then 1 else 0))))) x c' r' c2' r2' N' G' sn' SG' := hK1.fr fun q _ _ => hup_ne (by omega)
    have hM2 : MD (hup h1 (x + 88) (la 1 (updL O 0 ((if v then 1 else 0))))) (x + 38) t t2 N sn G SG th := hM.fr fun q _ _ => by rw [hup_ne (by omega), hF1 q (by omega)]
    have hb2 : (hup h1 (x + 88) (la 1 (updL O 0 ((if v then 1 else 0))))) b = some (ra 5 L fun j => .int (xs j)) := by rw [hup_ne (by omega), hF1 b (by omega)]; exact hb
    have hA2 : (hup h1 (x + 88) (la 1 (updL O 0 ((if v then 1 else 0))))) (x + 88) = some (la 1 (updL O 0 ((if v then 1 else 0)))) := hup_same
    have hD2 : (hup h1 (x + 88) (la 1 (updL O 0 ((if v then 1 else 0))))) (x + 89) = some (ra 3 1 D) := by rw [hup_ne (by omega), hF1 _ (by omega)]; exact hD
    generalize hup h1 (x + 88) (la 1 (updL O 0 ((if v then 1 else 0)))) = H1 at hK2 hM2 hb2 hA2 hD2 ⊢
    simp only [s216_420, s216_421, s216_422, s216_424, s216_425, s216_426, s216_427, s216_428, s216_430, s216_431, s216_432, s216_433, s216_437, s216_439, s216_440, s216_441, s216_443, s216_444, s216_445, s216_446, s216_447, s216_449, s216_450, s216_451, s216_455, s216_457, s216_461, s216_463, s216_466, s216_467, s216_468, s216_470, s216_473, s216_474, s216_475, s216_476, s216_478, s216_481, s216_482, s216_485, s216_486, s216_487, s216_490, s216_491, s216_492, ldi_0, ldi_s, ldl_0, ldl_s, ldd_0, ldd_s, lda_0, lda_s, st1_0, st1_1, st2_0, st2_1, sti_0, sti_1, stj_0, stj_1, st1_2, sti_2, st2_2, stj_2, st1_3, sti_3, st2_3, stj_3, st1_4, sti_4, st2_4, stj_4, st1_5, sti_5, st2_5, stj_5, st1_6, sti_6, st2_6, stj_6, st1_7, sti_7, st2_7, stj_7, st1_8, sti_8, st2_8, stj_8, st1_9, sti_9, st2_9, stj_9, kil_n, kil_i, kil_r, kil_l, kil_d, gl_0, gl_s, cat_i, cat_r, true_and, nI_1, nI_2, scr_ald hb2 (show 3 * i + 1 < L by omega) hL, scr_ald hb2 (show 3 * i + 2 < L by omega) hL]
    refine c216_452 hM2.1 (hm H1 (x + 38) t t2 th z1 hM2) (by omega) (by omega) ?_
    rintro _ H2 z2 ⟨rfl, rfl, ⟨t', t2', hM3⟩, hF3⟩
    show aW (Sp 60) 216 mc ms lawP 455 _ _ _ _ _ _
    have hK3 : K H2 x c' r' c2' r2' N' G' sn' SG' := hK2.fr fun q _ _ => hF3 q (by omega)
    have hb3 : H2 b = some (ra 5 L fun j => .int (xs j)) := by rw [hF3 b (by omega)]; exact hb2
    have hA3 : H2 (x + 88) = some (la 1 (updL O 0 ((if v then 1 else 0)))) := by rw [hF3 _ (by omega)]; exact hA2
    have hD3 : H2 (x + 89) = some (ra 3 1 D) := by rw [hF3 _ (by omega)]; exact hD2
    have fin : lwS H2 z2 b L xs x := ⟨c', r', c2', r2', t', t2', N', G', sn', SG', 0, hK3, hM3, ⟨_, hA3⟩, ⟨_, hD3⟩, hb3, hbx, hz⟩
    simp only [s216_420, s216_421, s216_422, s216_424, s216_425, s216_426, s216_427, s216_428, s216_430, s216_431, s216_432, s216_433, s216_437, s216_439, s216_440, s216_441, s216_443, s216_444, s216_445, s216_446, s216_447, s216_449, s216_450, s216_451, s216_455, s216_457, s216_461, s216_463, s216_466, s216_467, s216_468, s216_470, s216_473, s216_474, s216_475, s216_476, s216_478, s216_481, s216_482, s216_485, s216_486, s216_487, s216_490, s216_491, s216_492, ldi_0, ldi_s, ldl_0, ldl_s, ldd_0, ldd_s, lda_0, lda_s, st1_0, st1_1, st2_0, st2_1, sti_0, sti_1, stj_0, stj_1, st1_2, sti_2, st2_2, stj_2, st1_3, sti_3, st2_3, stj_3, st1_4, sti_4, st2_4, stj_4, st1_5, sti_5, st2_5, stj_5, st1_6, sti_6, st2_6, stj_6, st1_7, sti_7, st2_7, stj_7, st1_8, sti_8, st2_8, stj_8, st1_9, sti_9, st2_9, stj_9, kil_n, kil_i, kil_r, kil_l, kil_d, gl_0, gl_s, cat_i, cat_r, true_and, nI_1, nI_2, scr_ald hb3 (show 3 * i + 1 < L by omega) hL, scr_ald hb3 (show 3 * i + 2 < L by omega) hL]
    refine c216_458r hM3.1 (sp_thr hM3) ?_
    simp only [s216_420, s216_421, s216_422, s216_424, s216_425, s216_426, s216_427, s216_428, s216_430, s216_431, s216_432, s216_433, s216_437, s216_439, s216_440, s216_441, s216_443, s216_444, s216_445, s216_446, s216_447, s216_449, s216_450, s216_451, s216_455, s216_457, s216_461, s216_463, s216_466, s216_467, s216_468, s216_470, s216_473, s216_474, s216_475, s216_476, s216_478, s216_481, s216_482, s216_485, s216_486, s216_487, s216_490, s216_491, s216_492, ldi_0, ldi_s, ldl_0, ldl_s, ldd_0, ldd_s, lda_0, lda_s, st1_0, st1_1, st2_0, st2_1, sti_0, sti_1, stj_0, stj_1, st1_2, sti_2, st2_2, stj_2, st1_3, sti_3, st2_3, stj_3, st1_4, sti_4, st2_4, stj_4, st1_5, sti_5, st2_5, stj_5, st1_6, sti_6, st2_6, stj_6, st1_7, sti_7, st2_7, stj_7, st1_8, sti_8, st2_8, stj_8, st1_9, sti_9, st2_9, stj_9, kil_n, kil_i, kil_r, kil_l, kil_d, gl_0, gl_s, cat_i, cat_r, true_and, nI_1, nI_2, scr_ald hb3 (show 3 * i + 1 < L by omega) hL, scr_ald hb3 (show 3 * i + 2 < L by omega) hL]
    rw [br_1 trivial, br_0 (fun w => w trivial), nI_lit0, ald_la hA3 (by decide)]
    simp only [s216_420, s216_421, s216_422, s216_424, s216_425, s216_426, s216_427, s216_428, s216_430, s216_431, s216_432, s216_433, s216_437, s216_439, s216_440, s216_441, s216_443, s216_444, s216_445, s216_446, s216_447, s216_449, s216_450, s216_451, s216_455, s216_457, s216_461, s216_463, s216_466, s216_467, s216_468, s216_470, s216_473, s216_474, s216_475, s216_476, s216_478, s216_481, s216_482, s216_485, s216_486, s216_487, s216_490, s216_491, s216_492, ldi_0, ldi_s, ldl_0, ldl_s, ldd_0, ldd_s, lda_0, lda_s, st1_0, st1_1, st2_0, st2_1, sti_0, sti_1, stj_0, stj_1, st1_2, sti_2, st2_2, stj_2, st1_3, sti_3, st2_3, stj_3, st1_4, sti_4, st2_4, stj_4, st1_5, sti_5, st2_5, stj_5, st1_6, sti_6, st2_6, stj_6, st1_7, sti_7, st2_7, stj_7, st1_8, sti_8, st2_8, stj_8, st1_9, sti_9, st2_9, stj_9, kil_n, kil_i, kil_r, kil_l, kil_d, gl_0, gl_s, cat_i, cat_r, true_and, nI_1, nI_2, scr_ald hb3 (show 3 * i + 1 < L by omega) hL, scr_ald hb3 (show 3 * i + 2 < L by omega) hL, lg_cmp_eq]
    rw [show updL O 0 (if v = true then 1 else 0) 0 = (if v = true then 1 else 0) from if_pos rfl]
    cases v
    · rw [br_1 (by decide), br_1 (by decide)]
      exact ct _ _ _ _ _ _ _ fin (by omega) (by omega)
    · rw [br_0 (by decide), br_1 (by decide)]
      exact ct _ _ _ _ _ _ _ fin (by omega) (by omega)
  · have thrown : ∀ h1 z1 kk' (v : Bool) s, cX h x N G sn SG z E (.inr E) h1 z1 → kk = kk' → ¬ kk' = 0 → aW (Sp 60) 216 mc ms lawP 437 [some (.ref b), some (.ref x), some (.ref (x + 38)), some (.ref (x + 88)), some (.ref (x + 89)), some (.int (nI (3 * i))), s, s7, s8] [.int kk'] h1 z1 (k + 1) (n + 6) := by
      rintro h1 z1 kk' v s ⟨-, hz1, ⟨c', r', c2', r2', hK1⟩, hF1⟩ rfl hk0
      have hM2 : MD h1 (x + 38) t t2 N sn G SG th := hM.fr fun q _ _ => hF1 q (by omega)
      have hb2 : h1 b = some (ra 5 L fun j => .int (xs j)) := by rw [hF1 b (by omega)]; exact hb
      have hO2 : h1 (x + 88) = some (la 1 O) := by rw [hF1 _ (by omega)]; exact hO
      have hD2 : h1 (x + 89) = some (ra 3 1 D) := by rw [hF1 _ (by omega)]; exact hD
      simp only [s216_420, s216_421, s216_422, s216_424, s216_425, s216_426, s216_427, s216_428, s216_430, s216_431, s216_432, s216_433, s216_437, s216_439, s216_440, s216_441, s216_443, s216_444, s216_445, s216_446, s216_447, s216_449, s216_450, s216_451, s216_455, s216_457, s216_461, s216_463, s216_466, s216_467, s216_468, s216_470, s216_473, s216_474, s216_475, s216_476, s216_478, s216_481, s216_482, s216_485, s216_486, s216_487, s216_490, s216_491, s216_492, ldi_0, ldi_s, ldl_0, ldl_s, ldd_0, ldd_s, lda_0, lda_s, st1_0, st1_1, st2_0, st2_1, sti_0, sti_1, stj_0, stj_1, st1_2, sti_2, st2_2, stj_2, st1_3, sti_3, st2_3, stj_3, st1_4, sti_4, st2_4, stj_4, st1_5, sti_5, st2_5, stj_5, st1_6, sti_6, st2_6, stj_6, st1_7, sti_7, st2_7, stj_7, st1_8, sti_8, st2_8, stj_8, st1_9, sti_9, st2_9, stj_9, kil_n, kil_i, kil_r, kil_l, kil_d, gl_0, gl_s, cat_i, cat_r, true_and, nI_1, nI_2, scr_ald hb2 (show 3 * i + 1 < L by omega) hL, scr_ald hb2 (show 3 * i + 2 < L by omega) hL]
      obtain ⟨w, hw⟩ := hm h1 (x + 38) t t2 th z1 hM2
      refine c216_452 hM2.1 hw (by omega) (by omega) ?_
      rintro _ H2 z2 ⟨rfl, rfl, ⟨t', t2', hM3⟩, hF3⟩
      show aW (Sp 60) 216 mc ms lawP 455 _ _ _ _ _ _
      have hK3 : K H2 x c' r' c2' r2' N G sn SG := hK1.fr fun q _ _ => hF3 q (by omega)
      have fin : lwS H2 z2 b L xs x := ⟨c', r', c2', r2', t', t2', N, G, sn, SG, kk, hK3, hM3, ⟨O, by rw [hF3 _ (by omega)]; exact hO2⟩, ⟨D, by rw [hF3 _ (by omega)]; exact hD2⟩, by rw [hF3 b (by omega)]; exact hb2, hbx, by omega⟩
      have hb3 : H2 b = some (ra 5 L fun j => .int (xs j)) := by rw [hF3 b (by omega)]; exact hb2
      simp only [s216_420, s216_421, s216_422, s216_424, s216_425, s216_426, s216_427, s216_428, s216_430, s216_431, s216_432, s216_433, s216_437, s216_439, s216_440, s216_441, s216_443, s216_444, s216_445, s216_446, s216_447, s216_449, s216_450, s216_451, s216_455, s216_457, s216_461, s216_463, s216_466, s216_467, s216_468, s216_470, s216_473, s216_474, s216_475, s216_476, s216_478, s216_481, s216_482, s216_485, s216_486, s216_487, s216_490, s216_491, s216_492, ldi_0, ldi_s, ldl_0, ldl_s, ldd_0, ldd_s, lda_0, lda_s, st1_0, st1_1, st2_0, st2_1, sti_0, sti_1, stj_0, stj_1, st1_2, sti_2, st2_2, stj_2, st1_3, sti_3, st2_3, stj_3, st1_4, sti_4, st2_4, stj_4, st1_5, sti_5, st2_5, stj_5, st1_6, sti_6, st2_6, stj_6, st1_7, sti_7, st2_7, stj_7, st1_8, sti_8, st2_8, stj_8, st1_9, sti_9, st2_9, stj_9, kil_n, kil_i, kil_r, kil_l, kil_d, gl_0, gl_s, cat_i, cat_r, true_and, nI_1, nI_2, scr_ald hb3 (show 3 * i + 1 < L by omega) hL, scr_ald hb3 (show 3 * i + 2 < L by omega) hL]
      refine c216_458r hM3.1 (sp_thr hM3) ?_
      simp only [s216_420, s216_421, s216_422, s216_424, s216_425, s216_426, s216_427, s216_428, s216_430, s216_431, s216_432, s216_433, s216_437, s216_439, s216_440, s216_441, s216_443, s216_444, s216_445, s216_446, s216_447, s216_449, s216_450, s216_451, s216_455, s216_457, s216_461, s216_463, s216_466, s216_467, s216_468, s216_470, s216_473, s216_474, s216_475, s216_476, s216_478, s216_481, s216_482, s216_485, s216_486, s216_487, s216_490, s216_491, s216_492, ldi_0, ldi_s, ldl_0, ldl_s, ldd_0, ldd_s, lda_0, lda_s, st1_0, st1_1, st2_0, st2_1, sti_0, sti_1, stj_0, stj_1, st1_2, sti_2, st2_2, stj_2, st1_3, sti_3, st2_3, stj_3, st1_4, sti_4, st2_4, stj_4, st1_5, sti_5, st2_5, stj_5, st1_6, sti_6, st2_6, stj_6, st1_7, sti_7, st2_7, stj_7, st1_8, sti_8, st2_8, stj_8, st1_9, sti_9, st2_9, stj_9, kil_n, kil_i, kil_r, kil_l, kil_d, gl_0, gl_s, cat_i, cat_r, true_and, nI_1, nI_2, scr_ald hb3 (show 3 * i + 1 < L by omega) hL, scr_ald hb3 (show 3 * i + 2 < L by omega) hL]
      rw [br_1 trivial, br_1 hk0]
      exact ct _ _ _ _ _ _ _ fin (by omega) (by omega)
    simp only [List.mem_cons, List.not_mem_nil, or_false, Prod.mk.injEq] at hE
    rcases hE with ⟨rfl, rfl⟩ | ⟨rfl, rfl⟩
    · refine c216_434 (x_way_1 hK.hx (hc h x z c r c2 r2 hK) (fun o h' z' hq => hq.1)) (by omega) (by omega) ?_
      rintro _ h1 z1 ⟨rfl, hq⟩
      exact thrown h1 z1 1 false s6 hq rfl (by decide)
    · refine c216_434 (x_way_2 hK.hx (hc h x z c r c2 r2 hK) (fun o h' z' hq => hq.1)) (by omega) (by omega) ?_
      rintro _ h1 z1 ⟨rfl, hq⟩
      exact thrown h1 z1 2 false s6 hq rfl (by decide)
theorem cs_tear (hS : lwS h z b L xs x) (hi : 3 * i + 2 < L) (hL : L ≤ 1536) (hk : k + 1 ≤ mc) (hn : n + 6 ≤ ms) (hJ : ∀ N G sn SG, GOK N G → GOK sn SG → jO (fun v : Int32 => Value.int v) (fun _ : Int32 => True) 49 51 [.int (xs (3 * i + 1)), .int (xs (3 * i + 2))] [(2, 1), (3, 2)] N G sn SG) (ct : lwC b L xs x i k n mc ms) : aW (Sp 60) 216 mc ms lawP 495 [some (.ref b), some (.ref x), some (.ref (x + 38)), some (.ref (x + 88)), some (.ref (x + 89)), some (.int (nI (3 * i))), s6, s7, s8] [] h z k n := by
  obtain ⟨c, r, c2, r2, t, t2, N, G, sn, SG, th, hK, hM, ⟨O, hO⟩, ⟨D, hD⟩, hb, hbx, hz⟩ := hS
  simp only [s216_495, s216_496, s216_497, s216_499, s216_500, s216_501, s216_502, s216_503, s216_505, s216_506, s216_507, s216_508, s216_512, s216_514, s216_515, s216_516, s216_518, s216_519, s216_520, s216_521, s216_522, s216_524, s216_525, s216_526, s216_530, s216_532, s216_536, s216_538, s216_541, s216_542, s216_543, s216_545, s216_548, s216_549, s216_550, s216_551, s216_553, s216_554, s216_555, s216_558, s216_559, s216_560, ldi_0, ldi_s, ldl_0, ldl_s, ldd_0, ldd_s, lda_0, lda_s, st1_0, st1_1, st2_0, st2_1, sti_0, sti_1, stj_0, stj_1, st1_2, sti_2, st2_2, stj_2, st1_3, sti_3, st2_3, stj_3, st1_4, sti_4, st2_4, stj_4, st1_5, sti_5, st2_5, stj_5, st1_6, sti_6, st2_6, stj_6, st1_7, sti_7, st2_7, stj_7, st1_8, sti_8, st2_8, stj_8, st1_9, sti_9, st2_9, stj_9, kil_n, kil_i, kil_r, kil_l, kil_d, gl_0, gl_s, cat_i, cat_r, true_and, nI_1, nI_2, scr_ald hb (show 3 * i + 1 < L by omega) hL, scr_ald hb (show 3 * i + 2 < L by omega) hL]
  rcases hJ N G sn SG hK.hG hK.hG2 with ⟨v, N', G', sn', SG', hQ, hc, hm⟩ | ⟨E, kk, hE, hc, hm⟩
  · refine c216_509 (w_tear hK.hx (hc h x z c r c2 r2 hK) (fun o h' z' hq => ⟨hq.1, (hq.2.2.2 _ (by omega)).trans hO⟩)) (by omega) (by omega) ?_
    rintro _ _ z1 ⟨rfl, h1, ⟨-, rfl, ⟨c', r', c2', r2', hK1⟩, hF1⟩, rfl⟩
    show aW (Sp 60) 216 mc ms lawP 512 _ _ _ _ _ _
    have hK2 : K (hup h1 (x + 88) (la 1 (updL O 0 (v.toInt64)))) x c' r' c2' r2' N' G' sn' SG' := hK1.fr fun q _ _ => hup_ne (by omega)
    have hM2 : MD (hup h1 (x + 88) (la 1 (updL O 0 (v.toInt64)))) (x + 38) t t2 N sn G SG th := hM.fr fun q _ _ => by rw [hup_ne (by omega), hF1 q (by omega)]
    have hb2 : (hup h1 (x + 88) (la 1 (updL O 0 (v.toInt64)))) b = some (ra 5 L fun j => .int (xs j)) := by rw [hup_ne (by omega), hF1 b (by omega)]; exact hb
    have hA2 : (hup h1 (x + 88) (la 1 (updL O 0 (v.toInt64)))) (x + 88) = some (la 1 (updL O 0 (v.toInt64))) := hup_same
    have hD2 : (hup h1 (x + 88) (la 1 (updL O 0 (v.toInt64)))) (x + 89) = some (ra 3 1 D) := by rw [hup_ne (by omega), hF1 _ (by omega)]; exact hD
    generalize hup h1 (x + 88) (la 1 (updL O 0 (v.toInt64))) = H1 at hK2 hM2 hb2 hA2 hD2 ⊢
    simp only [s216_495, s216_496, s216_497, s216_499, s216_500, s216_501, s216_502, s216_503, s216_505, s216_506, s216_507, s216_508, s216_512, s216_514, s216_515, s216_516, s216_518, s216_519, s216_520, s216_521, s216_522, s216_524, s216_525, s216_526, s216_530, s216_532, s216_536, s216_538, s216_541, s216_542, s216_543, s216_545, s216_548, s216_549, s216_550, s216_551, s216_553, s216_554, s216_555, s216_558, s216_559, s216_560, ldi_0, ldi_s, ldl_0, ldl_s, ldd_0, ldd_s, lda_0, lda_s, st1_0, st1_1, st2_0, st2_1, sti_0, sti_1, stj_0, stj_1, st1_2, sti_2, st2_2, stj_2, st1_3, sti_3, st2_3, stj_3, st1_4, sti_4, st2_4, stj_4, st1_5, sti_5, st2_5, stj_5, st1_6, sti_6, st2_6, stj_6, st1_7, sti_7, st2_7, stj_7, st1_8, sti_8, st2_8, stj_8, st1_9, sti_9, st2_9, stj_9, kil_n, kil_i, kil_r, kil_l, kil_d, gl_0, gl_s, cat_i, cat_r, true_and, nI_1, nI_2, scr_ald hb2 (show 3 * i + 1 < L by omega) hL, scr_ald hb2 (show 3 * i + 2 < L by omega) hL]
    refine c216_527 hM2.1 (hm H1 (x + 38) t t2 th z1 hM2) (by omega) (by omega) ?_
    rintro _ H2 z2 ⟨rfl, rfl, ⟨t', t2', hM3⟩, hF3⟩
    show aW (Sp 60) 216 mc ms lawP 530 _ _ _ _ _ _
    have hK3 : K H2 x c' r' c2' r2' N' G' sn' SG' := hK2.fr fun q _ _ => hF3 q (by omega)
    have hb3 : H2 b = some (ra 5 L fun j => .int (xs j)) := by rw [hF3 b (by omega)]; exact hb2
    have hA3 : H2 (x + 88) = some (la 1 (updL O 0 (v.toInt64))) := by rw [hF3 _ (by omega)]; exact hA2
    have hD3 : H2 (x + 89) = some (ra 3 1 D) := by rw [hF3 _ (by omega)]; exact hD2
    have fin : lwS H2 z2 b L xs x := ⟨c', r', c2', r2', t', t2', N', G', sn', SG', 0, hK3, hM3, ⟨_, hA3⟩, ⟨_, hD3⟩, hb3, hbx, hz⟩
    simp only [s216_495, s216_496, s216_497, s216_499, s216_500, s216_501, s216_502, s216_503, s216_505, s216_506, s216_507, s216_508, s216_512, s216_514, s216_515, s216_516, s216_518, s216_519, s216_520, s216_521, s216_522, s216_524, s216_525, s216_526, s216_530, s216_532, s216_536, s216_538, s216_541, s216_542, s216_543, s216_545, s216_548, s216_549, s216_550, s216_551, s216_553, s216_554, s216_555, s216_558, s216_559, s216_560, ldi_0, ldi_s, ldl_0, ldl_s, ldd_0, ldd_s, lda_0, lda_s, st1_0, st1_1, st2_0, st2_1, sti_0, sti_1, stj_0, stj_1, st1_2, sti_2, st2_2, stj_2, st1_3, sti_3, st2_3, stj_3, st1_4, sti_4, st2_4, stj_4, st1_5, sti_5, st2_5, stj_5, st1_6, sti_6, st2_6, stj_6, st1_7, sti_7, st2_7, stj_7, st1_8, sti_8, st2_8, stj_8, st1_9, sti_9, st2_9, stj_9, kil_n, kil_i, kil_r, kil_l, kil_d, gl_0, gl_s, cat_i, cat_r, true_and, nI_1, nI_2, scr_ald hb3 (show 3 * i + 1 < L by omega) hL, scr_ald hb3 (show 3 * i + 2 < L by omega) hL]
    refine c216_533r hM3.1 (sp_thr hM3) ?_
    simp only [s216_495, s216_496, s216_497, s216_499, s216_500, s216_501, s216_502, s216_503, s216_505, s216_506, s216_507, s216_508, s216_512, s216_514, s216_515, s216_516, s216_518, s216_519, s216_520, s216_521, s216_522, s216_524, s216_525, s216_526, s216_530, s216_532, s216_536, s216_538, s216_541, s216_542, s216_543, s216_545, s216_548, s216_549, s216_550, s216_551, s216_553, s216_554, s216_555, s216_558, s216_559, s216_560, ldi_0, ldi_s, ldl_0, ldl_s, ldd_0, ldd_s, lda_0, lda_s, st1_0, st1_1, st2_0, st2_1, sti_0, sti_1, stj_0, stj_1, st1_2, sti_2, st2_2, stj_2, st1_3, sti_3, st2_3, stj_3, st1_4, sti_4, st2_4, stj_4, st1_5, sti_5, st2_5, stj_5, st1_6, sti_6, st2_6, stj_6, st1_7, sti_7, st2_7, stj_7, st1_8, sti_8, st2_8, stj_8, st1_9, sti_9, st2_9, stj_9, kil_n, kil_i, kil_r, kil_l, kil_d, gl_0, gl_s, cat_i, cat_r, true_and, nI_1, nI_2, scr_ald hb3 (show 3 * i + 1 < L by omega) hL, scr_ald hb3 (show 3 * i + 2 < L by omega) hL]
    rw [br_1 trivial, br_0 (fun w => w trivial), nI_lit0, ald_la hA3 (by decide)]
    simp only [s216_495, s216_496, s216_497, s216_499, s216_500, s216_501, s216_502, s216_503, s216_505, s216_506, s216_507, s216_508, s216_512, s216_514, s216_515, s216_516, s216_518, s216_519, s216_520, s216_521, s216_522, s216_524, s216_525, s216_526, s216_530, s216_532, s216_536, s216_538, s216_541, s216_542, s216_543, s216_545, s216_548, s216_549, s216_550, s216_551, s216_553, s216_554, s216_555, s216_558, s216_559, s216_560, ldi_0, ldi_s, ldl_0, ldl_s, ldd_0, ldd_s, lda_0, lda_s, st1_0, st1_1, st2_0, st2_1, sti_0, sti_1, stj_0, stj_1, st1_2, sti_2, st2_2, stj_2, st1_3, sti_3, st2_3, stj_3, st1_4, sti_4, st2_4, stj_4, st1_5, sti_5, st2_5, stj_5, st1_6, sti_6, st2_6, stj_6, st1_7, sti_7, st2_7, stj_7, st1_8, sti_8, st2_8, stj_8, st1_9, sti_9, st2_9, stj_9, kil_n, kil_i, kil_r, kil_l, kil_d, gl_0, gl_s, cat_i, cat_r, true_and, nI_1, nI_2, scr_ald hb3 (show 3 * i + 1 < L by omega) hL, scr_ald hb3 (show 3 * i + 2 < L by omega) hL, lg_cmp_eq]
    rw [br_1 (show updL O 0 v.toInt64 0 = v.toInt64 from if_pos rfl)]
    exact ct _ _ _ _ _ _ _ fin (by omega) (by omega)
  · have thrown : ∀ h1 z1 kk' (v : Int32) s, cX h x N G sn SG z E (.inr E) h1 z1 → kk = kk' → ¬ kk' = 0 → aW (Sp 60) 216 mc ms lawP 512 [some (.ref b), some (.ref x), some (.ref (x + 38)), some (.ref (x + 88)), some (.ref (x + 89)), some (.int (nI (3 * i))), s, s7, s8] [.int kk'] h1 z1 (k + 1) (n + 6) := by
      rintro h1 z1 kk' v s ⟨-, hz1, ⟨c', r', c2', r2', hK1⟩, hF1⟩ rfl hk0
      have hM2 : MD h1 (x + 38) t t2 N sn G SG th := hM.fr fun q _ _ => hF1 q (by omega)
      have hb2 : h1 b = some (ra 5 L fun j => .int (xs j)) := by rw [hF1 b (by omega)]; exact hb
      have hO2 : h1 (x + 88) = some (la 1 O) := by rw [hF1 _ (by omega)]; exact hO
      have hD2 : h1 (x + 89) = some (ra 3 1 D) := by rw [hF1 _ (by omega)]; exact hD
      simp only [s216_495, s216_496, s216_497, s216_499, s216_500, s216_501, s216_502, s216_503, s216_505, s216_506, s216_507, s216_508, s216_512, s216_514, s216_515, s216_516, s216_518, s216_519, s216_520, s216_521, s216_522, s216_524, s216_525, s216_526, s216_530, s216_532, s216_536, s216_538, s216_541, s216_542, s216_543, s216_545, s216_548, s216_549, s216_550, s216_551, s216_553, s216_554, s216_555, s216_558, s216_559, s216_560, ldi_0, ldi_s, ldl_0, ldl_s, ldd_0, ldd_s, lda_0, lda_s, st1_0, st1_1, st2_0, st2_1, sti_0, sti_1, stj_0, stj_1, st1_2, sti_2, st2_2, stj_2, st1_3, sti_3, st2_3, stj_3, st1_4, sti_4, st2_4, stj_4, st1_5, sti_5, st2_5, stj_5, st1_6, sti_6, st2_6, stj_6, st1_7, sti_7, st2_7, stj_7, st1_8, sti_8, st2_8, stj_8, st1_9, sti_9, st2_9, stj_9, kil_n, kil_i, kil_r, kil_l, kil_d, gl_0, gl_s, cat_i, cat_r, true_and, nI_1, nI_2, scr_ald hb2 (show 3 * i + 1 < L by omega) hL, scr_ald hb2 (show 3 * i + 2 < L by omega) hL]
      obtain ⟨w, hw⟩ := hm h1 (x + 38) t t2 th z1 hM2
      refine c216_527 hM2.1 hw (by omega) (by omega) ?_
      rintro _ H2 z2 ⟨rfl, rfl, ⟨t', t2', hM3⟩, hF3⟩
      show aW (Sp 60) 216 mc ms lawP 530 _ _ _ _ _ _
      have hK3 : K H2 x c' r' c2' r2' N G sn SG := hK1.fr fun q _ _ => hF3 q (by omega)
      have fin : lwS H2 z2 b L xs x := ⟨c', r', c2', r2', t', t2', N, G, sn, SG, kk, hK3, hM3, ⟨O, by rw [hF3 _ (by omega)]; exact hO2⟩, ⟨D, by rw [hF3 _ (by omega)]; exact hD2⟩, by rw [hF3 b (by omega)]; exact hb2, hbx, by omega⟩
      have hb3 : H2 b = some (ra 5 L fun j => .int (xs j)) := by rw [hF3 b (by omega)]; exact hb2
      simp only [s216_495, s216_496, s216_497, s216_499, s216_500, s216_501, s216_502, s216_503, s216_505, s216_506, s216_507, s216_508, s216_512, s216_514, s216_515, s216_516, s216_518, s216_519, s216_520, s216_521, s216_522, s216_524, s216_525, s216_526, s216_530, s216_532, s216_536, s216_538, s216_541, s216_542, s216_543, s216_545, s216_548, s216_549, s216_550, s216_551, s216_553, s216_554, s216_555, s216_558, s216_559, s216_560, ldi_0, ldi_s, ldl_0, ldl_s, ldd_0, ldd_s, lda_0, lda_s, st1_0, st1_1, st2_0, st2_1, sti_0, sti_1, stj_0, stj_1, st1_2, sti_2, st2_2, stj_2, st1_3, sti_3, st2_3, stj_3, st1_4, sti_4, st2_4, stj_4, st1_5, sti_5, st2_5, stj_5, st1_6, sti_6, st2_6, stj_6, st1_7, sti_7, st2_7, stj_7, st1_8, sti_8, st2_8, stj_8, st1_9, sti_9, st2_9, stj_9, kil_n, kil_i, kil_r, kil_l, kil_d, gl_0, gl_s, cat_i, cat_r, true_and, nI_1, nI_2, scr_ald hb3 (show 3 * i + 1 < L by omega) hL, scr_ald hb3 (show 3 * i + 2 < L by omega) hL]
      refine c216_533r hM3.1 (sp_thr hM3) ?_
      simp only [s216_495, s216_496, s216_497, s216_499, s216_500, s216_501, s216_502, s216_503, s216_505, s216_506, s216_507, s216_508, s216_512, s216_514, s216_515, s216_516, s216_518, s216_519, s216_520, s216_521, s216_522, s216_524, s216_525, s216_526, s216_530, s216_532, s216_536, s216_538, s216_541, s216_542, s216_543, s216_545, s216_548, s216_549, s216_550, s216_551, s216_553, s216_554, s216_555, s216_558, s216_559, s216_560, ldi_0, ldi_s, ldl_0, ldl_s, ldd_0, ldd_s, lda_0, lda_s, st1_0, st1_1, st2_0, st2_1, sti_0, sti_1, stj_0, stj_1, st1_2, sti_2, st2_2, stj_2, st1_3, sti_3, st2_3, stj_3, st1_4, sti_4, st2_4, stj_4, st1_5, sti_5, st2_5, stj_5, st1_6, sti_6, st2_6, stj_6, st1_7, sti_7, st2_7, stj_7, st1_8, sti_8, st2_8, stj_8, st1_9, sti_9, st2_9, stj_9, kil_n, kil_i, kil_r, kil_l, kil_d, gl_0, gl_s, cat_i, cat_r, true_and, nI_1, nI_2, scr_ald hb3 (show 3 * i + 1 < L by omega) hL, scr_ald hb3 (show 3 * i + 2 < L by omega) hL]
      rw [br_1 trivial, br_1 hk0]
      exact ct _ _ _ _ _ _ _ fin (by omega) (by omega)
    simp only [List.mem_cons, List.not_mem_nil, or_false, Prod.mk.injEq] at hE
    rcases hE with ⟨rfl, rfl⟩ | ⟨rfl, rfl⟩
    · refine c216_509 (x_tear_1 hK.hx (hc h x z c r c2 r2 hK) (fun o h' z' hq => hq.1)) (by omega) (by omega) ?_
      rintro _ h1 z1 ⟨rfl, hq⟩
      exact thrown h1 z1 1 0 s6 hq rfl (by decide)
    · refine c216_509 (x_tear_2 hK.hx (hc h x z c r c2 r2 hK) (fun o h' z' hq => hq.1)) (by omega) (by omega) ?_
      rintro _ h1 z1 ⟨rfl, hq⟩
      exact thrown h1 z1 2 0 s6 hq rfl (by decide)
theorem cs_draw (hS : lwS h z b L xs x) (hi : 3 * i + 2 < L) (hL : L ≤ 1536) (hk : k + 1 ≤ mc) (hn : n + 6 ≤ ms) (hJ : ∀ N G sn SG, GOK N G → GOK sn SG → jO (fun v : Int32 => Value.int v) (fun _ : Int32 => True) 53 55 [.int (xs (3 * i + 1)), .int (xs (3 * i + 2))] [(2, 1), (0, 2)] N G sn SG) (ct : lwC b L xs x i k n mc ms) : aW (Sp 60) 216 mc ms lawP 563 [some (.ref b), some (.ref x), some (.ref (x + 38)), some (.ref (x + 88)), some (.ref (x + 89)), some (.int (nI (3 * i))), s6, s7, s8] [] h z k n := by
  obtain ⟨c, r, c2, r2, t, t2, N, G, sn, SG, th, hK, hM, ⟨O, hO⟩, ⟨D, hD⟩, hb, hbx, hz⟩ := hS
  simp only [s216_563, s216_564, s216_565, s216_567, s216_568, s216_569, s216_570, s216_571, s216_573, s216_574, s216_575, s216_576, s216_580, s216_582, s216_583, s216_584, s216_586, s216_587, s216_588, s216_589, s216_590, s216_592, s216_593, s216_594, s216_598, s216_600, s216_604, s216_606, s216_609, s216_610, s216_611, s216_613, s216_616, s216_617, s216_618, s216_619, s216_621, s216_622, s216_623, s216_626, s216_627, s216_628, ldi_0, ldi_s, ldl_0, ldl_s, ldd_0, ldd_s, lda_0, lda_s, st1_0, st1_1, st2_0, st2_1, sti_0, sti_1, stj_0, stj_1, st1_2, sti_2, st2_2, stj_2, st1_3, sti_3, st2_3, stj_3, st1_4, sti_4, st2_4, stj_4, st1_5, sti_5, st2_5, stj_5, st1_6, sti_6, st2_6, stj_6, st1_7, sti_7, st2_7, stj_7, st1_8, sti_8, st2_8, stj_8, st1_9, sti_9, st2_9, stj_9, kil_n, kil_i, kil_r, kil_l, kil_d, gl_0, gl_s, cat_i, cat_r, true_and, nI_1, nI_2, scr_ald hb (show 3 * i + 1 < L by omega) hL, scr_ald hb (show 3 * i + 2 < L by omega) hL]
  rcases hJ N G sn SG hK.hG hK.hG2 with ⟨v, N', G', sn', SG', hQ, hc, hm⟩ | ⟨E, kk, hE, hc, hm⟩
  · refine c216_577 (w_draw hK.hx (hc h x z c r c2 r2 hK) (fun o h' z' hq => ⟨hq.1, (hq.2.2.2 _ (by omega)).trans hO⟩)) (by omega) (by omega) ?_
    rintro _ _ z1 ⟨rfl, h1, ⟨-, rfl, ⟨c', r', c2', r2', hK1⟩, hF1⟩, rfl⟩
    show aW (Sp 60) 216 mc ms lawP 580 _ _ _ _ _ _
    have hK2 : K (hup h1 (x + 88) (la 1 (updL O 0 (v.toInt64)))) x c' r' c2' r2' N' G' sn' SG' := hK1.fr fun q _ _ => hup_ne (by omega)
    have hM2 : MD (hup h1 (x + 88) (la 1 (updL O 0 (v.toInt64)))) (x + 38) t t2 N sn G SG th := hM.fr fun q _ _ => by rw [hup_ne (by omega), hF1 q (by omega)]
    have hb2 : (hup h1 (x + 88) (la 1 (updL O 0 (v.toInt64)))) b = some (ra 5 L fun j => .int (xs j)) := by rw [hup_ne (by omega), hF1 b (by omega)]; exact hb
    have hA2 : (hup h1 (x + 88) (la 1 (updL O 0 (v.toInt64)))) (x + 88) = some (la 1 (updL O 0 (v.toInt64))) := hup_same
    have hD2 : (hup h1 (x + 88) (la 1 (updL O 0 (v.toInt64)))) (x + 89) = some (ra 3 1 D) := by rw [hup_ne (by omega), hF1 _ (by omega)]; exact hD
    generalize hup h1 (x + 88) (la 1 (updL O 0 (v.toInt64))) = H1 at hK2 hM2 hb2 hA2 hD2 ⊢
    simp only [s216_563, s216_564, s216_565, s216_567, s216_568, s216_569, s216_570, s216_571, s216_573, s216_574, s216_575, s216_576, s216_580, s216_582, s216_583, s216_584, s216_586, s216_587, s216_588, s216_589, s216_590, s216_592, s216_593, s216_594, s216_598, s216_600, s216_604, s216_606, s216_609, s216_610, s216_611, s216_613, s216_616, s216_617, s216_618, s216_619, s216_621, s216_622, s216_623, s216_626, s216_627, s216_628, ldi_0, ldi_s, ldl_0, ldl_s, ldd_0, ldd_s, lda_0, lda_s, st1_0, st1_1, st2_0, st2_1, sti_0, sti_1, stj_0, stj_1, st1_2, sti_2, st2_2, stj_2, st1_3, sti_3, st2_3, stj_3, st1_4, sti_4, st2_4, stj_4, st1_5, sti_5, st2_5, stj_5, st1_6, sti_6, st2_6, stj_6, st1_7, sti_7, st2_7, stj_7, st1_8, sti_8, st2_8, stj_8, st1_9, sti_9, st2_9, stj_9, kil_n, kil_i, kil_r, kil_l, kil_d, gl_0, gl_s, cat_i, cat_r, true_and, nI_1, nI_2, scr_ald hb2 (show 3 * i + 1 < L by omega) hL, scr_ald hb2 (show 3 * i + 2 < L by omega) hL]
    refine c216_595 hM2.1 (hm H1 (x + 38) t t2 th z1 hM2) (by omega) (by omega) ?_
    rintro _ H2 z2 ⟨rfl, rfl, ⟨t', t2', hM3⟩, hF3⟩
    show aW (Sp 60) 216 mc ms lawP 598 _ _ _ _ _ _
    have hK3 : K H2 x c' r' c2' r2' N' G' sn' SG' := hK2.fr fun q _ _ => hF3 q (by omega)
    have hb3 : H2 b = some (ra 5 L fun j => .int (xs j)) := by rw [hF3 b (by omega)]; exact hb2
    have hA3 : H2 (x + 88) = some (la 1 (updL O 0 (v.toInt64))) := by rw [hF3 _ (by omega)]; exact hA2
    have hD3 : H2 (x + 89) = some (ra 3 1 D) := by rw [hF3 _ (by omega)]; exact hD2
    have fin : lwS H2 z2 b L xs x := ⟨c', r', c2', r2', t', t2', N', G', sn', SG', 0, hK3, hM3, ⟨_, hA3⟩, ⟨_, hD3⟩, hb3, hbx, hz⟩
    simp only [s216_563, s216_564, s216_565, s216_567, s216_568, s216_569, s216_570, s216_571, s216_573, s216_574, s216_575, s216_576, s216_580, s216_582, s216_583, s216_584, s216_586, s216_587, s216_588, s216_589, s216_590, s216_592, s216_593, s216_594, s216_598, s216_600, s216_604, s216_606, s216_609, s216_610, s216_611, s216_613, s216_616, s216_617, s216_618, s216_619, s216_621, s216_622, s216_623, s216_626, s216_627, s216_628, ldi_0, ldi_s, ldl_0, ldl_s, ldd_0, ldd_s, lda_0, lda_s, st1_0, st1_1, st2_0, st2_1, sti_0, sti_1, stj_0, stj_1, st1_2, sti_2, st2_2, stj_2, st1_3, sti_3, st2_3, stj_3, st1_4, sti_4, st2_4, stj_4, st1_5, sti_5, st2_5, stj_5, st1_6, sti_6, st2_6, stj_6, st1_7, sti_7, st2_7, stj_7, st1_8, sti_8, st2_8, stj_8, st1_9, sti_9, st2_9, stj_9, kil_n, kil_i, kil_r, kil_l, kil_d, gl_0, gl_s, cat_i, cat_r, true_and, nI_1, nI_2, scr_ald hb3 (show 3 * i + 1 < L by omega) hL, scr_ald hb3 (show 3 * i + 2 < L by omega) hL]
    refine c216_601r hM3.1 (sp_thr hM3) ?_
    simp only [s216_563, s216_564, s216_565, s216_567, s216_568, s216_569, s216_570, s216_571, s216_573, s216_574, s216_575, s216_576, s216_580, s216_582, s216_583, s216_584, s216_586, s216_587, s216_588, s216_589, s216_590, s216_592, s216_593, s216_594, s216_598, s216_600, s216_604, s216_606, s216_609, s216_610, s216_611, s216_613, s216_616, s216_617, s216_618, s216_619, s216_621, s216_622, s216_623, s216_626, s216_627, s216_628, ldi_0, ldi_s, ldl_0, ldl_s, ldd_0, ldd_s, lda_0, lda_s, st1_0, st1_1, st2_0, st2_1, sti_0, sti_1, stj_0, stj_1, st1_2, sti_2, st2_2, stj_2, st1_3, sti_3, st2_3, stj_3, st1_4, sti_4, st2_4, stj_4, st1_5, sti_5, st2_5, stj_5, st1_6, sti_6, st2_6, stj_6, st1_7, sti_7, st2_7, stj_7, st1_8, sti_8, st2_8, stj_8, st1_9, sti_9, st2_9, stj_9, kil_n, kil_i, kil_r, kil_l, kil_d, gl_0, gl_s, cat_i, cat_r, true_and, nI_1, nI_2, scr_ald hb3 (show 3 * i + 1 < L by omega) hL, scr_ald hb3 (show 3 * i + 2 < L by omega) hL]
    rw [br_1 trivial, br_0 (fun w => w trivial), nI_lit0, ald_la hA3 (by decide)]
    simp only [s216_563, s216_564, s216_565, s216_567, s216_568, s216_569, s216_570, s216_571, s216_573, s216_574, s216_575, s216_576, s216_580, s216_582, s216_583, s216_584, s216_586, s216_587, s216_588, s216_589, s216_590, s216_592, s216_593, s216_594, s216_598, s216_600, s216_604, s216_606, s216_609, s216_610, s216_611, s216_613, s216_616, s216_617, s216_618, s216_619, s216_621, s216_622, s216_623, s216_626, s216_627, s216_628, ldi_0, ldi_s, ldl_0, ldl_s, ldd_0, ldd_s, lda_0, lda_s, st1_0, st1_1, st2_0, st2_1, sti_0, sti_1, stj_0, stj_1, st1_2, sti_2, st2_2, stj_2, st1_3, sti_3, st2_3, stj_3, st1_4, sti_4, st2_4, stj_4, st1_5, sti_5, st2_5, stj_5, st1_6, sti_6, st2_6, stj_6, st1_7, sti_7, st2_7, stj_7, st1_8, sti_8, st2_8, stj_8, st1_9, sti_9, st2_9, stj_9, kil_n, kil_i, kil_r, kil_l, kil_d, gl_0, gl_s, cat_i, cat_r, true_and, nI_1, nI_2, scr_ald hb3 (show 3 * i + 1 < L by omega) hL, scr_ald hb3 (show 3 * i + 2 < L by omega) hL, lg_cmp_eq]
    rw [br_1 (show updL O 0 v.toInt64 0 = v.toInt64 from if_pos rfl)]
    exact ct _ _ _ _ _ _ _ fin (by omega) (by omega)
  · have thrown : ∀ h1 z1 kk' (v : Int32) s, cX h x N G sn SG z E (.inr E) h1 z1 → kk = kk' → ¬ kk' = 0 → aW (Sp 60) 216 mc ms lawP 580 [some (.ref b), some (.ref x), some (.ref (x + 38)), some (.ref (x + 88)), some (.ref (x + 89)), some (.int (nI (3 * i))), s, s7, s8] [.int kk'] h1 z1 (k + 1) (n + 6) := by
      rintro h1 z1 kk' v s ⟨-, hz1, ⟨c', r', c2', r2', hK1⟩, hF1⟩ rfl hk0
      have hM2 : MD h1 (x + 38) t t2 N sn G SG th := hM.fr fun q _ _ => hF1 q (by omega)
      have hb2 : h1 b = some (ra 5 L fun j => .int (xs j)) := by rw [hF1 b (by omega)]; exact hb
      have hO2 : h1 (x + 88) = some (la 1 O) := by rw [hF1 _ (by omega)]; exact hO
      have hD2 : h1 (x + 89) = some (ra 3 1 D) := by rw [hF1 _ (by omega)]; exact hD
      simp only [s216_563, s216_564, s216_565, s216_567, s216_568, s216_569, s216_570, s216_571, s216_573, s216_574, s216_575, s216_576, s216_580, s216_582, s216_583, s216_584, s216_586, s216_587, s216_588, s216_589, s216_590, s216_592, s216_593, s216_594, s216_598, s216_600, s216_604, s216_606, s216_609, s216_610, s216_611, s216_613, s216_616, s216_617, s216_618, s216_619, s216_621, s216_622, s216_623, s216_626, s216_627, s216_628, ldi_0, ldi_s, ldl_0, ldl_s, ldd_0, ldd_s, lda_0, lda_s, st1_0, st1_1, st2_0, st2_1, sti_0, sti_1, stj_0, stj_1, st1_2, sti_2, st2_2, stj_2, st1_3, sti_3, st2_3, stj_3, st1_4, sti_4, st2_4, stj_4, st1_5, sti_5, st2_5, stj_5, st1_6, sti_6, st2_6, stj_6, st1_7, sti_7, st2_7, stj_7, st1_8, sti_8, st2_8, stj_8, st1_9, sti_9, st2_9, stj_9, kil_n, kil_i, kil_r, kil_l, kil_d, gl_0, gl_s, cat_i, cat_r, true_and, nI_1, nI_2, scr_ald hb2 (show 3 * i + 1 < L by omega) hL, scr_ald hb2 (show 3 * i + 2 < L by omega) hL]
      obtain ⟨w, hw⟩ := hm h1 (x + 38) t t2 th z1 hM2
      refine c216_595 hM2.1 hw (by omega) (by omega) ?_
      rintro _ H2 z2 ⟨rfl, rfl, ⟨t', t2', hM3⟩, hF3⟩
      show aW (Sp 60) 216 mc ms lawP 598 _ _ _ _ _ _
      have hK3 : K H2 x c' r' c2' r2' N G sn SG := hK1.fr fun q _ _ => hF3 q (by omega)
      have fin : lwS H2 z2 b L xs x := ⟨c', r', c2', r2', t', t2', N, G, sn, SG, kk, hK3, hM3, ⟨O, by rw [hF3 _ (by omega)]; exact hO2⟩, ⟨D, by rw [hF3 _ (by omega)]; exact hD2⟩, by rw [hF3 b (by omega)]; exact hb2, hbx, by omega⟩
      have hb3 : H2 b = some (ra 5 L fun j => .int (xs j)) := by rw [hF3 b (by omega)]; exact hb2
      simp only [s216_563, s216_564, s216_565, s216_567, s216_568, s216_569, s216_570, s216_571, s216_573, s216_574, s216_575, s216_576, s216_580, s216_582, s216_583, s216_584, s216_586, s216_587, s216_588, s216_589, s216_590, s216_592, s216_593, s216_594, s216_598, s216_600, s216_604, s216_606, s216_609, s216_610, s216_611, s216_613, s216_616, s216_617, s216_618, s216_619, s216_621, s216_622, s216_623, s216_626, s216_627, s216_628, ldi_0, ldi_s, ldl_0, ldl_s, ldd_0, ldd_s, lda_0, lda_s, st1_0, st1_1, st2_0, st2_1, sti_0, sti_1, stj_0, stj_1, st1_2, sti_2, st2_2, stj_2, st1_3, sti_3, st2_3, stj_3, st1_4, sti_4, st2_4, stj_4, st1_5, sti_5, st2_5, stj_5, st1_6, sti_6, st2_6, stj_6, st1_7, sti_7, st2_7, stj_7, st1_8, sti_8, st2_8, stj_8, st1_9, sti_9, st2_9, stj_9, kil_n, kil_i, kil_r, kil_l, kil_d, gl_0, gl_s, cat_i, cat_r, true_and, nI_1, nI_2, scr_ald hb3 (show 3 * i + 1 < L by omega) hL, scr_ald hb3 (show 3 * i + 2 < L by omega) hL]
      refine c216_601r hM3.1 (sp_thr hM3) ?_
      simp only [s216_563, s216_564, s216_565, s216_567, s216_568, s216_569, s216_570, s216_571, s216_573, s216_574, s216_575, s216_576, s216_580, s216_582, s216_583, s216_584, s216_586, s216_587, s216_588, s216_589, s216_590, s216_592, s216_593, s216_594, s216_598, s216_600, s216_604, s216_606, s216_609, s216_610, s216_611, s216_613, s216_616, s216_617, s216_618, s216_619, s216_621, s216_622, s216_623, s216_626, s216_627, s216_628, ldi_0, ldi_s, ldl_0, ldl_s, ldd_0, ldd_s, lda_0, lda_s, st1_0, st1_1, st2_0, st2_1, sti_0, sti_1, stj_0, stj_1, st1_2, sti_2, st2_2, stj_2, st1_3, sti_3, st2_3, stj_3, st1_4, sti_4, st2_4, stj_4, st1_5, sti_5, st2_5, stj_5, st1_6, sti_6, st2_6, stj_6, st1_7, sti_7, st2_7, stj_7, st1_8, sti_8, st2_8, stj_8, st1_9, sti_9, st2_9, stj_9, kil_n, kil_i, kil_r, kil_l, kil_d, gl_0, gl_s, cat_i, cat_r, true_and, nI_1, nI_2, scr_ald hb3 (show 3 * i + 1 < L by omega) hL, scr_ald hb3 (show 3 * i + 2 < L by omega) hL]
      rw [br_1 trivial, br_1 hk0]
      exact ct _ _ _ _ _ _ _ fin (by omega) (by omega)
    simp only [List.mem_cons, List.not_mem_nil, or_false, Prod.mk.injEq] at hE
    rcases hE with ⟨rfl, rfl⟩ | ⟨rfl, rfl⟩
    · refine c216_577 (x_draw_1 hK.hx (hc h x z c r c2 r2 hK) (fun o h' z' hq => hq.1)) (by omega) (by omega) ?_
      rintro _ h1 z1 ⟨rfl, hq⟩
      exact thrown h1 z1 1 0 s6 hq rfl (by decide)
    · refine c216_577 (x_draw_2 hK.hx (hc h x z c r c2 r2 hK) (fun o h' z' hq => hq.1)) (by omega) (by omega) ?_
      rintro _ h1 z1 ⟨rfl, hq⟩
      exact thrown h1 z1 2 0 s6 hq rfl (by decide)
theorem cs_swap (hS : lwS h z b L xs x) (hi : 3 * i + 2 < L) (hL : L ≤ 1536) (hk : k + 1 ≤ mc) (hn : n + 6 ≤ ms) (hJ : ∀ N G sn SG, GOK N G → GOK sn SG → jO (fun v : Bool => Value.int (bI v)) (fun _ : Bool => True) 58 61 [.int (xs (3 * i + 1)), .int (xs (3 * i + 2))] [(2, 1)] N G sn SG) (ct : lwC b L xs x i k n mc ms) : aW (Sp 60) 216 mc ms lawP 631 [some (.ref b), some (.ref x), some (.ref (x + 38)), some (.ref (x + 88)), some (.ref (x + 89)), some (.int (nI (3 * i))), s6, s7, s8] [] h z k n := by
  obtain ⟨c, r, c2, r2, t, t2, N, G, sn, SG, th, hK, hM, ⟨O, hO⟩, ⟨D, hD⟩, hb, hbx, hz⟩ := hS
  simp only [s216_631, s216_632, s216_633, s216_635, s216_636, s216_637, s216_638, s216_639, s216_641, s216_642, s216_643, s216_644, s216_648, s216_650, s216_651, s216_652, s216_654, s216_655, s216_656, s216_657, s216_658, s216_660, s216_661, s216_662, s216_666, s216_668, s216_672, s216_674, s216_677, s216_678, s216_679, s216_681, s216_684, s216_685, s216_686, s216_687, s216_689, s216_692, s216_693, s216_696, s216_697, s216_698, s216_701, s216_702, s216_703, ldi_0, ldi_s, ldl_0, ldl_s, ldd_0, ldd_s, lda_0, lda_s, st1_0, st1_1, st2_0, st2_1, sti_0, sti_1, stj_0, stj_1, st1_2, sti_2, st2_2, stj_2, st1_3, sti_3, st2_3, stj_3, st1_4, sti_4, st2_4, stj_4, st1_5, sti_5, st2_5, stj_5, st1_6, sti_6, st2_6, stj_6, st1_7, sti_7, st2_7, stj_7, st1_8, sti_8, st2_8, stj_8, st1_9, sti_9, st2_9, stj_9, kil_n, kil_i, kil_r, kil_l, kil_d, gl_0, gl_s, cat_i, cat_r, true_and, nI_1, nI_2, scr_ald hb (show 3 * i + 1 < L by omega) hL, scr_ald hb (show 3 * i + 2 < L by omega) hL]
  rcases hJ N G sn SG hK.hG hK.hG2 with ⟨v, N', G', sn', SG', hQ, hc, hm⟩ | ⟨E, kk, hE, hc, hm⟩
  · refine c216_645 (w_swap hK.hx (hc h x z c r c2 r2 hK) (fun o h' z' hq => ⟨hq.1, (hq.2.2.2 _ (by omega)).trans hO⟩)) (by omega) (by omega) ?_
    rintro _ _ z1 ⟨rfl, h1, ⟨-, rfl, ⟨c', r', c2', r2', hK1⟩, hF1⟩, rfl⟩
    show aW (Sp 60) 216 mc ms lawP 648 _ _ _ _ _ _
    have hK2 : K (hup h1 (x + 88) (la 1 (updL O 0 ((if v then 1 else 0))))) x c' r' c2' r2' N' G' sn' SG' := hK1.fr fun q _ _ => hup_ne (by omega)
    have hM2 : MD (hup h1 (x + 88) (la 1 (updL O 0 ((if v then 1 else 0))))) (x + 38) t t2 N sn G SG th := hM.fr fun q _ _ => by rw [hup_ne (by omega), hF1 q (by omega)]
    have hb2 : (hup h1 (x + 88) (la 1 (updL O 0 ((if v then 1 else 0))))) b = some (ra 5 L fun j => .int (xs j)) := by rw [hup_ne (by omega), hF1 b (by omega)]; exact hb
    have hA2 : (hup h1 (x + 88) (la 1 (updL O 0 ((if v then 1 else 0))))) (x + 88) = some (la 1 (updL O 0 ((if v then 1 else 0)))) := hup_same
    have hD2 : (hup h1 (x + 88) (la 1 (updL O 0 ((if v then 1 else 0))))) (x + 89) = some (ra 3 1 D) := by rw [hup_ne (by omega), hF1 _ (by omega)]; exact hD
    generalize hup h1 (x + 88) (la 1 (updL O 0 ((if v then 1 else 0)))) = H1 at hK2 hM2 hb2 hA2 hD2 ⊢
    simp only [s216_631, s216_632, s216_633, s216_635, s216_636, s216_637, s216_638, s216_639, s216_641, s216_642, s216_643, s216_644, s216_648, s216_650, s216_651, s216_652, s216_654, s216_655, s216_656, s216_657, s216_658, s216_660, s216_661, s216_662, s216_666, s216_668, s216_672, s216_674, s216_677, s216_678, s216_679, s216_681, s216_684, s216_685, s216_686, s216_687, s216_689, s216_692, s216_693, s216_696, s216_697, s216_698, s216_701, s216_702, s216_703, ldi_0, ldi_s, ldl_0, ldl_s, ldd_0, ldd_s, lda_0, lda_s, st1_0, st1_1, st2_0, st2_1, sti_0, sti_1, stj_0, stj_1, st1_2, sti_2, st2_2, stj_2, st1_3, sti_3, st2_3, stj_3, st1_4, sti_4, st2_4, stj_4, st1_5, sti_5, st2_5, stj_5, st1_6, sti_6, st2_6, stj_6, st1_7, sti_7, st2_7, stj_7, st1_8, sti_8, st2_8, stj_8, st1_9, sti_9, st2_9, stj_9, kil_n, kil_i, kil_r, kil_l, kil_d, gl_0, gl_s, cat_i, cat_r, true_and, nI_1, nI_2, scr_ald hb2 (show 3 * i + 1 < L by omega) hL, scr_ald hb2 (show 3 * i + 2 < L by omega) hL]
    refine c216_663 hM2.1 (hm H1 (x + 38) t t2 th z1 hM2) (by omega) (by omega) ?_
    rintro _ H2 z2 ⟨rfl, rfl, ⟨t', t2', hM3⟩, hF3⟩
    show aW (Sp 60) 216 mc ms lawP 666 _ _ _ _ _ _
    have hK3 : K H2 x c' r' c2' r2' N' G' sn' SG' := hK2.fr fun q _ _ => hF3 q (by omega)
    have hb3 : H2 b = some (ra 5 L fun j => .int (xs j)) := by rw [hF3 b (by omega)]; exact hb2
    have hA3 : H2 (x + 88) = some (la 1 (updL O 0 ((if v then 1 else 0)))) := by rw [hF3 _ (by omega)]; exact hA2
    have hD3 : H2 (x + 89) = some (ra 3 1 D) := by rw [hF3 _ (by omega)]; exact hD2
    have fin : lwS H2 z2 b L xs x := ⟨c', r', c2', r2', t', t2', N', G', sn', SG', 0, hK3, hM3, ⟨_, hA3⟩, ⟨_, hD3⟩, hb3, hbx, hz⟩
    simp only [s216_631, s216_632, s216_633, s216_635, s216_636, s216_637, s216_638, s216_639, s216_641, s216_642, s216_643, s216_644, s216_648, s216_650, s216_651, s216_652, s216_654, s216_655, s216_656, s216_657, s216_658, s216_660, s216_661, s216_662, s216_666, s216_668, s216_672, s216_674, s216_677, s216_678, s216_679, s216_681, s216_684, s216_685, s216_686, s216_687, s216_689, s216_692, s216_693, s216_696, s216_697, s216_698, s216_701, s216_702, s216_703, ldi_0, ldi_s, ldl_0, ldl_s, ldd_0, ldd_s, lda_0, lda_s, st1_0, st1_1, st2_0, st2_1, sti_0, sti_1, stj_0, stj_1, st1_2, sti_2, st2_2, stj_2, st1_3, sti_3, st2_3, stj_3, st1_4, sti_4, st2_4, stj_4, st1_5, sti_5, st2_5, stj_5, st1_6, sti_6, st2_6, stj_6, st1_7, sti_7, st2_7, stj_7, st1_8, sti_8, st2_8, stj_8, st1_9, sti_9, st2_9, stj_9, kil_n, kil_i, kil_r, kil_l, kil_d, gl_0, gl_s, cat_i, cat_r, true_and, nI_1, nI_2, scr_ald hb3 (show 3 * i + 1 < L by omega) hL, scr_ald hb3 (show 3 * i + 2 < L by omega) hL]
    refine c216_669r hM3.1 (sp_thr hM3) ?_
    simp only [s216_631, s216_632, s216_633, s216_635, s216_636, s216_637, s216_638, s216_639, s216_641, s216_642, s216_643, s216_644, s216_648, s216_650, s216_651, s216_652, s216_654, s216_655, s216_656, s216_657, s216_658, s216_660, s216_661, s216_662, s216_666, s216_668, s216_672, s216_674, s216_677, s216_678, s216_679, s216_681, s216_684, s216_685, s216_686, s216_687, s216_689, s216_692, s216_693, s216_696, s216_697, s216_698, s216_701, s216_702, s216_703, ldi_0, ldi_s, ldl_0, ldl_s, ldd_0, ldd_s, lda_0, lda_s, st1_0, st1_1, st2_0, st2_1, sti_0, sti_1, stj_0, stj_1, st1_2, sti_2, st2_2, stj_2, st1_3, sti_3, st2_3, stj_3, st1_4, sti_4, st2_4, stj_4, st1_5, sti_5, st2_5, stj_5, st1_6, sti_6, st2_6, stj_6, st1_7, sti_7, st2_7, stj_7, st1_8, sti_8, st2_8, stj_8, st1_9, sti_9, st2_9, stj_9, kil_n, kil_i, kil_r, kil_l, kil_d, gl_0, gl_s, cat_i, cat_r, true_and, nI_1, nI_2, scr_ald hb3 (show 3 * i + 1 < L by omega) hL, scr_ald hb3 (show 3 * i + 2 < L by omega) hL]
    rw [br_1 trivial, br_0 (fun w => w trivial), nI_lit0, ald_la hA3 (by decide)]
    simp only [s216_631, s216_632, s216_633, s216_635, s216_636, s216_637, s216_638, s216_639, s216_641, s216_642, s216_643, s216_644, s216_648, s216_650, s216_651, s216_652, s216_654, s216_655, s216_656, s216_657, s216_658, s216_660, s216_661, s216_662, s216_666, s216_668, s216_672, s216_674, s216_677, s216_678, s216_679, s216_681, s216_684, s216_685, s216_686, s216_687, s216_689, s216_692, s216_693, s216_696, s216_697, s216_698, s216_701, s216_702, s216_703, ldi_0, ldi_s, ldl_0, ldl_s, ldd_0, ldd_s, lda_0, lda_s, st1_0, st1_1, st2_0, st2_1, sti_0, sti_1, stj_0, stj_1, st1_2, sti_2, st2_2, stj_2, st1_3, sti_3, st2_3, stj_3, st1_4, sti_4, st2_4, stj_4, st1_5, sti_5, st2_5, stj_5, st1_6, sti_6, st2_6, stj_6, st1_7, sti_7, st2_7, stj_7, st1_8, sti_8, st2_8, stj_8, st1_9, sti_9, st2_9, stj_9, kil_n, kil_i, kil_r, kil_l, kil_d, gl_0, gl_s, cat_i, cat_r, true_and, nI_1, nI_2, scr_ald hb3 (show 3 * i + 1 < L by omega) hL, scr_ald hb3 (show 3 * i + 2 < L by omega) hL, lg_cmp_eq]
    rw [show updL O 0 (if v = true then 1 else 0) 0 = (if v = true then 1 else 0) from if_pos rfl]
    cases v
    · rw [br_1 (by decide), br_1 (by decide)]
      exact ct _ _ _ _ _ _ _ fin (by omega) (by omega)
    · rw [br_0 (by decide), br_1 (by decide)]
      exact ct _ _ _ _ _ _ _ fin (by omega) (by omega)
  · have thrown : ∀ h1 z1 kk' (v : Bool) s, cX h x N G sn SG z E (.inr E) h1 z1 → kk = kk' → ¬ kk' = 0 → aW (Sp 60) 216 mc ms lawP 648 [some (.ref b), some (.ref x), some (.ref (x + 38)), some (.ref (x + 88)), some (.ref (x + 89)), some (.int (nI (3 * i))), s, s7, s8] [.int kk'] h1 z1 (k + 1) (n + 6) := by
      rintro h1 z1 kk' v s ⟨-, hz1, ⟨c', r', c2', r2', hK1⟩, hF1⟩ rfl hk0
      have hM2 : MD h1 (x + 38) t t2 N sn G SG th := hM.fr fun q _ _ => hF1 q (by omega)
      have hb2 : h1 b = some (ra 5 L fun j => .int (xs j)) := by rw [hF1 b (by omega)]; exact hb
      have hO2 : h1 (x + 88) = some (la 1 O) := by rw [hF1 _ (by omega)]; exact hO
      have hD2 : h1 (x + 89) = some (ra 3 1 D) := by rw [hF1 _ (by omega)]; exact hD
      simp only [s216_631, s216_632, s216_633, s216_635, s216_636, s216_637, s216_638, s216_639, s216_641, s216_642, s216_643, s216_644, s216_648, s216_650, s216_651, s216_652, s216_654, s216_655, s216_656, s216_657, s216_658, s216_660, s216_661, s216_662, s216_666, s216_668, s216_672, s216_674, s216_677, s216_678, s216_679, s216_681, s216_684, s216_685, s216_686, s216_687, s216_689, s216_692, s216_693, s216_696, s216_697, s216_698, s216_701, s216_702, s216_703, ldi_0, ldi_s, ldl_0, ldl_s, ldd_0, ldd_s, lda_0, lda_s, st1_0, st1_1, st2_0, st2_1, sti_0, sti_1, stj_0, stj_1, st1_2, sti_2, st2_2, stj_2, st1_3, sti_3, st2_3, stj_3, st1_4, sti_4, st2_4, stj_4, st1_5, sti_5, st2_5, stj_5, st1_6, sti_6, st2_6, stj_6, st1_7, sti_7, st2_7, stj_7, st1_8, sti_8, st2_8, stj_8, st1_9, sti_9, st2_9, stj_9, kil_n, kil_i, kil_r, kil_l, kil_d, gl_0, gl_s, cat_i, cat_r, true_and, nI_1, nI_2, scr_ald hb2 (show 3 * i + 1 < L by omega) hL, scr_ald hb2 (show 3 * i + 2 < L by omega) hL]
      obtain ⟨w, hw⟩ := hm h1 (x + 38) t t2 th z1 hM2
      refine c216_663 hM2.1 hw (by omega) (by omega) ?_
      rintro _ H2 z2 ⟨rfl, rfl, ⟨t', t2', hM3⟩, hF3⟩
      show aW (Sp 60) 216 mc ms lawP 666 _ _ _ _ _ _
      have hK3 : K H2 x c' r' c2' r2' N G sn SG := hK1.fr fun q _ _ => hF3 q (by omega)
      have fin : lwS H2 z2 b L xs x := ⟨c', r', c2', r2', t', t2', N, G, sn, SG, kk, hK3, hM3, ⟨O, by rw [hF3 _ (by omega)]; exact hO2⟩, ⟨D, by rw [hF3 _ (by omega)]; exact hD2⟩, by rw [hF3 b (by omega)]; exact hb2, hbx, by omega⟩
      have hb3 : H2 b = some (ra 5 L fun j => .int (xs j)) := by rw [hF3 b (by omega)]; exact hb2
      simp only [s216_631, s216_632, s216_633, s216_635, s216_636, s216_637, s216_638, s216_639, s216_641, s216_642, s216_643, s216_644, s216_648, s216_650, s216_651, s216_652, s216_654, s216_655, s216_656, s216_657, s216_658, s216_660, s216_661, s216_662, s216_666, s216_668, s216_672, s216_674, s216_677, s216_678, s216_679, s216_681, s216_684, s216_685, s216_686, s216_687, s216_689, s216_692, s216_693, s216_696, s216_697, s216_698, s216_701, s216_702, s216_703, ldi_0, ldi_s, ldl_0, ldl_s, ldd_0, ldd_s, lda_0, lda_s, st1_0, st1_1, st2_0, st2_1, sti_0, sti_1, stj_0, stj_1, st1_2, sti_2, st2_2, stj_2, st1_3, sti_3, st2_3, stj_3, st1_4, sti_4, st2_4, stj_4, st1_5, sti_5, st2_5, stj_5, st1_6, sti_6, st2_6, stj_6, st1_7, sti_7, st2_7, stj_7, st1_8, sti_8, st2_8, stj_8, st1_9, sti_9, st2_9, stj_9, kil_n, kil_i, kil_r, kil_l, kil_d, gl_0, gl_s, cat_i, cat_r, true_and, nI_1, nI_2, scr_ald hb3 (show 3 * i + 1 < L by omega) hL, scr_ald hb3 (show 3 * i + 2 < L by omega) hL]
      refine c216_669r hM3.1 (sp_thr hM3) ?_
      simp only [s216_631, s216_632, s216_633, s216_635, s216_636, s216_637, s216_638, s216_639, s216_641, s216_642, s216_643, s216_644, s216_648, s216_650, s216_651, s216_652, s216_654, s216_655, s216_656, s216_657, s216_658, s216_660, s216_661, s216_662, s216_666, s216_668, s216_672, s216_674, s216_677, s216_678, s216_679, s216_681, s216_684, s216_685, s216_686, s216_687, s216_689, s216_692, s216_693, s216_696, s216_697, s216_698, s216_701, s216_702, s216_703, ldi_0, ldi_s, ldl_0, ldl_s, ldd_0, ldd_s, lda_0, lda_s, st1_0, st1_1, st2_0, st2_1, sti_0, sti_1, stj_0, stj_1, st1_2, sti_2, st2_2, stj_2, st1_3, sti_3, st2_3, stj_3, st1_4, sti_4, st2_4, stj_4, st1_5, sti_5, st2_5, stj_5, st1_6, sti_6, st2_6, stj_6, st1_7, sti_7, st2_7, stj_7, st1_8, sti_8, st2_8, stj_8, st1_9, sti_9, st2_9, stj_9, kil_n, kil_i, kil_r, kil_l, kil_d, gl_0, gl_s, cat_i, cat_r, true_and, nI_1, nI_2, scr_ald hb3 (show 3 * i + 1 < L by omega) hL, scr_ald hb3 (show 3 * i + 2 < L by omega) hL]
      rw [br_1 trivial, br_1 hk0]
      exact ct _ _ _ _ _ _ _ fin (by omega) (by omega)
    simp only [List.mem_cons, List.not_mem_nil, or_false, Prod.mk.injEq] at hE
    obtain ⟨rfl, rfl⟩ := hE
    refine c216_645 (x_swap_1 hK.hx (hc h x z c r c2 r2 hK) (fun o h' z' hq => hq.1)) (by omega) (by omega) ?_
    rintro _ h1 z1 ⟨rfl, hq⟩
    exact thrown h1 z1 1 false s6 hq rfl (by decide)
theorem cs_others (hS : lwS h z b L xs x) (hi : 3 * i + 2 < L) (hL : L ≤ 1536) (hk : k + 1 ≤ mc) (hn : n + 6 ≤ ms) (hJ : ∀ N G sn SG, GOK N G → GOK sn SG → jN (fun v : Int32 => Value.int v) 62 64 [] N G sn SG) (ct : lwC b L xs x i k n mc ms) : aW (Sp 60) 216 mc ms lawP 706 [some (.ref b), some (.ref x), some (.ref (x + 38)), some (.ref (x + 88)), some (.ref (x + 89)), some (.int (nI (3 * i))), s6, s7, s8] [] h z k n := by
  obtain ⟨c, r, c2, r2, t, t2, N, G, sn, SG, th, hK, hM, ⟨O, hO⟩, ⟨D, hD⟩, hb, hbx, hz⟩ := hS
  obtain ⟨v, N', G', sn', SG', hc, hm⟩ := hJ N G sn SG hK.hG hK.hG2
  simp only [s216_706, s216_710, s216_714, s216_717, s216_718, ldi_0, ldi_s, ldl_0, ldl_s, ldd_0, ldd_s, lda_0, lda_s, st1_0, st1_1, st2_0, st2_1, sti_0, sti_1, stj_0, stj_1, st1_2, sti_2, st2_2, stj_2, st1_3, sti_3, st2_3, stj_3, st1_4, sti_4, st2_4, stj_4, st1_5, sti_5, st2_5, stj_5, st1_6, sti_6, st2_6, stj_6, st1_7, sti_7, st2_7, stj_7, st1_8, sti_8, st2_8, stj_8, st1_9, sti_9, st2_9, stj_9, kil_n, kil_i, kil_r, kil_l, kil_d, gl_0, gl_s, cat_i, cat_r, true_and, nI_1, nI_2]
  refine c216_707 hK.hx (hc h x z c r c2 r2 hK) (by omega) (by omega) ?_
  rintro _ h1 z1 ⟨rfl, rfl, ⟨c', r', c2', r2', hK1⟩, hF1⟩
  show aW (Sp 60) 216 mc ms lawP 710 _ _ _ _ _ _
  have hM2 : MD h1 (x + 38) t t2 N sn G SG th := hM.fr fun q _ _ => hF1 q (by omega)
  have hb2 : h1 b = some (ra 5 L fun j => .int (xs j)) := by rw [hF1 b (by omega)]; exact hb
  simp only [s216_706, s216_710, s216_714, s216_717, s216_718, ldi_0, ldi_s, ldl_0, ldl_s, ldd_0, ldd_s, lda_0, lda_s, st1_0, st1_1, st2_0, st2_1, sti_0, sti_1, stj_0, stj_1, st1_2, sti_2, st2_2, stj_2, st1_3, sti_3, st2_3, stj_3, st1_4, sti_4, st2_4, stj_4, st1_5, sti_5, st2_5, stj_5, st1_6, sti_6, st2_6, stj_6, st1_7, sti_7, st2_7, stj_7, st1_8, sti_8, st2_8, stj_8, st1_9, sti_9, st2_9, stj_9, kil_n, kil_i, kil_r, kil_l, kil_d, gl_0, gl_s, cat_i, cat_r, true_and, nI_1, nI_2]
  obtain ⟨th', hw⟩ := hm h1 (x + 38) t t2 th z1 hM2
  refine c216_711 hM2.1 hw (by omega) (by omega) ?_
  rintro _ H2 z2 ⟨rfl, rfl, ⟨t', t2', hM3⟩, hF3⟩
  show aW (Sp 60) 216 mc ms lawP 714 _ _ _ _ _ _
  have hK3 : K H2 x c' r' c2' r2' N' G' sn' SG' := hK1.fr fun q _ _ => hF3 q (by omega)
  have fin : lwS H2 z2 b L xs x := ⟨c', r', c2', r2', t', t2', N', G', sn', SG', th', hK3, hM3, ⟨O, by rw [hF3 _ (by omega), hF1 _ (by omega)]; exact hO⟩, ⟨D, by rw [hF3 _ (by omega), hF1 _ (by omega)]; exact hD⟩, by rw [hF3 b (by omega)]; exact hb2, hbx, hz⟩
  simp only [s216_706, s216_710, s216_714, s216_717, s216_718, ldi_0, ldi_s, ldl_0, ldl_s, ldd_0, ldd_s, lda_0, lda_s, st1_0, st1_1, st2_0, st2_1, sti_0, sti_1, stj_0, stj_1, st1_2, sti_2, st2_2, stj_2, st1_3, sti_3, st2_3, stj_3, st1_4, sti_4, st2_4, stj_4, st1_5, sti_5, st2_5, stj_5, st1_6, sti_6, st2_6, stj_6, st1_7, sti_7, st2_7, stj_7, st1_8, sti_8, st2_8, stj_8, st1_9, sti_9, st2_9, stj_9, kil_n, kil_i, kil_r, kil_l, kil_d, gl_0, gl_s, cat_i, cat_r, true_and, lg_cmp_eq]
  rw [br_1 trivial]
  exact ct _ _ _ _ _ _ _ fin (by omega) (by omega)
theorem cs_keep (hS : lwS h z b L xs x) (hi : 3 * i + 2 < L) (hL : L ≤ 1536) (hk : k + 1 ≤ mc) (hn : n + 6 ≤ ms) (hJ : ∀ N G sn SG, GOK N G → GOK sn SG → jN (fun v : Int32 => Value.int v) 65 67 [] N G sn SG) (ct : lwC b L xs x i k n mc ms) : aW (Sp 60) 216 mc ms lawP 719 [some (.ref b), some (.ref x), some (.ref (x + 38)), some (.ref (x + 88)), some (.ref (x + 89)), some (.int (nI (3 * i))), s6, s7, s8] [] h z k n := by
  obtain ⟨c, r, c2, r2, t, t2, N, G, sn, SG, th, hK, hM, ⟨O, hO⟩, ⟨D, hD⟩, hb, hbx, hz⟩ := hS
  obtain ⟨v, N', G', sn', SG', hc, hm⟩ := hJ N G sn SG hK.hG hK.hG2
  simp only [s216_719, s216_723, s216_727, s216_730, s216_731, ldi_0, ldi_s, ldl_0, ldl_s, ldd_0, ldd_s, lda_0, lda_s, st1_0, st1_1, st2_0, st2_1, sti_0, sti_1, stj_0, stj_1, st1_2, sti_2, st2_2, stj_2, st1_3, sti_3, st2_3, stj_3, st1_4, sti_4, st2_4, stj_4, st1_5, sti_5, st2_5, stj_5, st1_6, sti_6, st2_6, stj_6, st1_7, sti_7, st2_7, stj_7, st1_8, sti_8, st2_8, stj_8, st1_9, sti_9, st2_9, stj_9, kil_n, kil_i, kil_r, kil_l, kil_d, gl_0, gl_s, cat_i, cat_r, true_and, nI_1, nI_2]
  refine c216_720 hK.hx (hc h x z c r c2 r2 hK) (by omega) (by omega) ?_
  rintro _ h1 z1 ⟨rfl, rfl, ⟨c', r', c2', r2', hK1⟩, hF1⟩
  show aW (Sp 60) 216 mc ms lawP 723 _ _ _ _ _ _
  have hM2 : MD h1 (x + 38) t t2 N sn G SG th := hM.fr fun q _ _ => hF1 q (by omega)
  have hb2 : h1 b = some (ra 5 L fun j => .int (xs j)) := by rw [hF1 b (by omega)]; exact hb
  simp only [s216_719, s216_723, s216_727, s216_730, s216_731, ldi_0, ldi_s, ldl_0, ldl_s, ldd_0, ldd_s, lda_0, lda_s, st1_0, st1_1, st2_0, st2_1, sti_0, sti_1, stj_0, stj_1, st1_2, sti_2, st2_2, stj_2, st1_3, sti_3, st2_3, stj_3, st1_4, sti_4, st2_4, stj_4, st1_5, sti_5, st2_5, stj_5, st1_6, sti_6, st2_6, stj_6, st1_7, sti_7, st2_7, stj_7, st1_8, sti_8, st2_8, stj_8, st1_9, sti_9, st2_9, stj_9, kil_n, kil_i, kil_r, kil_l, kil_d, gl_0, gl_s, cat_i, cat_r, true_and, nI_1, nI_2]
  obtain ⟨th', hw⟩ := hm h1 (x + 38) t t2 th z1 hM2
  refine c216_724 hM2.1 hw (by omega) (by omega) ?_
  rintro _ H2 z2 ⟨rfl, rfl, ⟨t', t2', hM3⟩, hF3⟩
  show aW (Sp 60) 216 mc ms lawP 727 _ _ _ _ _ _
  have hK3 : K H2 x c' r' c2' r2' N' G' sn' SG' := hK1.fr fun q _ _ => hF3 q (by omega)
  have fin : lwS H2 z2 b L xs x := ⟨c', r', c2', r2', t', t2', N', G', sn', SG', th', hK3, hM3, ⟨O, by rw [hF3 _ (by omega), hF1 _ (by omega)]; exact hO⟩, ⟨D, by rw [hF3 _ (by omega), hF1 _ (by omega)]; exact hD⟩, by rw [hF3 b (by omega)]; exact hb2, hbx, hz⟩
  simp only [s216_719, s216_723, s216_727, s216_730, s216_731, ldi_0, ldi_s, ldl_0, ldl_s, ldd_0, ldd_s, lda_0, lda_s, st1_0, st1_1, st2_0, st2_1, sti_0, sti_1, stj_0, stj_1, st1_2, sti_2, st2_2, stj_2, st1_3, sti_3, st2_3, stj_3, st1_4, sti_4, st2_4, stj_4, st1_5, sti_5, st2_5, stj_5, st1_6, sti_6, st2_6, stj_6, st1_7, sti_7, st2_7, stj_7, st1_8, sti_8, st2_8, stj_8, st1_9, sti_9, st2_9, stj_9, kil_n, kil_i, kil_r, kil_l, kil_d, gl_0, gl_s, cat_i, cat_r, true_and, lg_cmp_eq]
  rw [br_1 trivial]
  exact ct _ _ _ _ _ _ _ fin (by omega) (by omega)
theorem cs_turn (hS : lwS h z b L xs x) (hi : 3 * i + 2 < L) (hL : L ≤ 1536) (hk : k + 1 ≤ mc) (hn : n + 6 ≤ ms) (hJ : ∀ N G sn SG, GOK N G → GOK sn SG → jN (fun v : Bool => Value.int (bI v)) 68 70 [] N G sn SG) (ct : lwC b L xs x i k n mc ms) : aW (Sp 60) 216 mc ms lawP 732 [some (.ref b), some (.ref x), some (.ref (x + 38)), some (.ref (x + 88)), some (.ref (x + 89)), some (.int (nI (3 * i))), s6, s7, s8] [] h z k n := by
  obtain ⟨c, r, c2, r2, t, t2, N, G, sn, SG, th, hK, hM, ⟨O, hO⟩, ⟨D, hD⟩, hb, hbx, hz⟩ := hS
  obtain ⟨v, N', G', sn', SG', hc, hm⟩ := hJ N G sn SG hK.hG hK.hG2
  simp only [s216_732, s216_736, s216_740, s216_743, s216_744, ldi_0, ldi_s, ldl_0, ldl_s, ldd_0, ldd_s, lda_0, lda_s, st1_0, st1_1, st2_0, st2_1, sti_0, sti_1, stj_0, stj_1, st1_2, sti_2, st2_2, stj_2, st1_3, sti_3, st2_3, stj_3, st1_4, sti_4, st2_4, stj_4, st1_5, sti_5, st2_5, stj_5, st1_6, sti_6, st2_6, stj_6, st1_7, sti_7, st2_7, stj_7, st1_8, sti_8, st2_8, stj_8, st1_9, sti_9, st2_9, stj_9, kil_n, kil_i, kil_r, kil_l, kil_d, gl_0, gl_s, cat_i, cat_r, true_and, nI_1, nI_2]
  refine c216_733 hK.hx (hc h x z c r c2 r2 hK) (by omega) (by omega) ?_
  rintro _ h1 z1 ⟨rfl, rfl, ⟨c', r', c2', r2', hK1⟩, hF1⟩
  show aW (Sp 60) 216 mc ms lawP 736 _ _ _ _ _ _
  have hM2 : MD h1 (x + 38) t t2 N sn G SG th := hM.fr fun q _ _ => hF1 q (by omega)
  have hb2 : h1 b = some (ra 5 L fun j => .int (xs j)) := by rw [hF1 b (by omega)]; exact hb
  simp only [s216_732, s216_736, s216_740, s216_743, s216_744, ldi_0, ldi_s, ldl_0, ldl_s, ldd_0, ldd_s, lda_0, lda_s, st1_0, st1_1, st2_0, st2_1, sti_0, sti_1, stj_0, stj_1, st1_2, sti_2, st2_2, stj_2, st1_3, sti_3, st2_3, stj_3, st1_4, sti_4, st2_4, stj_4, st1_5, sti_5, st2_5, stj_5, st1_6, sti_6, st2_6, stj_6, st1_7, sti_7, st2_7, stj_7, st1_8, sti_8, st2_8, stj_8, st1_9, sti_9, st2_9, stj_9, kil_n, kil_i, kil_r, kil_l, kil_d, gl_0, gl_s, cat_i, cat_r, true_and, nI_1, nI_2]
  obtain ⟨th', hw⟩ := hm h1 (x + 38) t t2 th z1 hM2
  refine c216_737 hM2.1 hw (by omega) (by omega) ?_
  rintro _ H2 z2 ⟨rfl, rfl, ⟨t', t2', hM3⟩, hF3⟩
  show aW (Sp 60) 216 mc ms lawP 740 _ _ _ _ _ _
  have hK3 : K H2 x c' r' c2' r2' N' G' sn' SG' := hK1.fr fun q _ _ => hF3 q (by omega)
  have fin : lwS H2 z2 b L xs x := ⟨c', r', c2', r2', t', t2', N', G', sn', SG', th', hK3, hM3, ⟨O, by rw [hF3 _ (by omega), hF1 _ (by omega)]; exact hO⟩, ⟨D, by rw [hF3 _ (by omega), hF1 _ (by omega)]; exact hD⟩, by rw [hF3 b (by omega)]; exact hb2, hbx, hz⟩
  simp only [s216_732, s216_736, s216_740, s216_743, s216_744, ldi_0, ldi_s, ldl_0, ldl_s, ldd_0, ldd_s, lda_0, lda_s, st1_0, st1_1, st2_0, st2_1, sti_0, sti_1, stj_0, stj_1, st1_2, sti_2, st2_2, stj_2, st1_3, sti_3, st2_3, stj_3, st1_4, sti_4, st2_4, stj_4, st1_5, sti_5, st2_5, stj_5, st1_6, sti_6, st2_6, stj_6, st1_7, sti_7, st2_7, stj_7, st1_8, sti_8, st2_8, stj_8, st1_9, sti_9, st2_9, stj_9, kil_n, kil_i, kil_r, kil_l, kil_d, gl_0, gl_s, cat_i, cat_r, true_and, lg_cmp_eq]
  rw [br_1 trivial]
  exact ct _ _ _ _ _ _ _ fin (by omega) (by omega)
theorem cs_beside (hS : lwS h z b L xs x) (hi : 3 * i + 2 < L) (hL : L ≤ 1536) (hk : k + 1 ≤ mc) (hn : n + 6 ≤ ms) (hJ : ∀ N G sn SG, GOK N G → GOK sn SG → jO (fun v : Int32 => Value.int v) (fun _ : Int32 => True) 72 74 [] [(1, 1)] N G sn SG) (ct : lwC b L xs x i k n mc ms) : aW (Sp 60) 216 mc ms lawP 745 [some (.ref b), some (.ref x), some (.ref (x + 38)), some (.ref (x + 88)), some (.ref (x + 89)), some (.int (nI (3 * i))), s6, s7, s8] [] h z k n := by
  obtain ⟨c, r, c2, r2, t, t2, N, G, sn, SG, th, hK, hM, ⟨O, hO⟩, ⟨D, hD⟩, hb, hbx, hz⟩ := hS
  simp only [s216_745, s216_746, s216_750, s216_752, s216_756, s216_758, s216_762, s216_764, s216_767, s216_768, s216_769, s216_771, s216_774, s216_775, s216_776, s216_777, s216_779, s216_780, s216_781, s216_784, s216_785, s216_786, ldi_0, ldi_s, ldl_0, ldl_s, ldd_0, ldd_s, lda_0, lda_s, st1_0, st1_1, st2_0, st2_1, sti_0, sti_1, stj_0, stj_1, st1_2, sti_2, st2_2, stj_2, st1_3, sti_3, st2_3, stj_3, st1_4, sti_4, st2_4, stj_4, st1_5, sti_5, st2_5, stj_5, st1_6, sti_6, st2_6, stj_6, st1_7, sti_7, st2_7, stj_7, st1_8, sti_8, st2_8, stj_8, st1_9, sti_9, st2_9, stj_9, kil_n, kil_i, kil_r, kil_l, kil_d, gl_0, gl_s, cat_i, cat_r, true_and, nI_1, nI_2]
  rcases hJ N G sn SG hK.hG hK.hG2 with ⟨v, N', G', sn', SG', hQ, hc, hm⟩ | ⟨E, kk, hE, hc, hm⟩
  · refine c216_747 (w_beside hK.hx (hc h x z c r c2 r2 hK) (fun o h' z' hq => ⟨hq.1, (hq.2.2.2 _ (by omega)).trans hO⟩)) (by omega) (by omega) ?_
    rintro _ _ z1 ⟨rfl, h1, ⟨-, rfl, ⟨c', r', c2', r2', hK1⟩, hF1⟩, rfl⟩
    show aW (Sp 60) 216 mc ms lawP 750 _ _ _ _ _ _
    have hK2 : K (hup h1 (x + 88) (la 1 (updL O 0 (v.toInt64)))) x c' r' c2' r2' N' G' sn' SG' := hK1.fr fun q _ _ => hup_ne (by omega)
    have hM2 : MD (hup h1 (x + 88) (la 1 (updL O 0 (v.toInt64)))) (x + 38) t t2 N sn G SG th := hM.fr fun q _ _ => by rw [hup_ne (by omega), hF1 q (by omega)]
    have hb2 : (hup h1 (x + 88) (la 1 (updL O 0 (v.toInt64)))) b = some (ra 5 L fun j => .int (xs j)) := by rw [hup_ne (by omega), hF1 b (by omega)]; exact hb
    have hA2 : (hup h1 (x + 88) (la 1 (updL O 0 (v.toInt64)))) (x + 88) = some (la 1 (updL O 0 (v.toInt64))) := hup_same
    have hD2 : (hup h1 (x + 88) (la 1 (updL O 0 (v.toInt64)))) (x + 89) = some (ra 3 1 D) := by rw [hup_ne (by omega), hF1 _ (by omega)]; exact hD
    generalize hup h1 (x + 88) (la 1 (updL O 0 (v.toInt64))) = H1 at hK2 hM2 hb2 hA2 hD2 ⊢
    simp only [s216_745, s216_746, s216_750, s216_752, s216_756, s216_758, s216_762, s216_764, s216_767, s216_768, s216_769, s216_771, s216_774, s216_775, s216_776, s216_777, s216_779, s216_780, s216_781, s216_784, s216_785, s216_786, ldi_0, ldi_s, ldl_0, ldl_s, ldd_0, ldd_s, lda_0, lda_s, st1_0, st1_1, st2_0, st2_1, sti_0, sti_1, stj_0, stj_1, st1_2, sti_2, st2_2, stj_2, st1_3, sti_3, st2_3, stj_3, st1_4, sti_4, st2_4, stj_4, st1_5, sti_5, st2_5, stj_5, st1_6, sti_6, st2_6, stj_6, st1_7, sti_7, st2_7, stj_7, st1_8, sti_8, st2_8, stj_8, st1_9, sti_9, st2_9, stj_9, kil_n, kil_i, kil_r, kil_l, kil_d, gl_0, gl_s, cat_i, cat_r, true_and, nI_1, nI_2]
    refine c216_753 hM2.1 (hm H1 (x + 38) t t2 th z1 hM2) (by omega) (by omega) ?_
    rintro _ H2 z2 ⟨rfl, rfl, ⟨t', t2', hM3⟩, hF3⟩
    show aW (Sp 60) 216 mc ms lawP 756 _ _ _ _ _ _
    have hK3 : K H2 x c' r' c2' r2' N' G' sn' SG' := hK2.fr fun q _ _ => hF3 q (by omega)
    have hb3 : H2 b = some (ra 5 L fun j => .int (xs j)) := by rw [hF3 b (by omega)]; exact hb2
    have hA3 : H2 (x + 88) = some (la 1 (updL O 0 (v.toInt64))) := by rw [hF3 _ (by omega)]; exact hA2
    have hD3 : H2 (x + 89) = some (ra 3 1 D) := by rw [hF3 _ (by omega)]; exact hD2
    have fin : lwS H2 z2 b L xs x := ⟨c', r', c2', r2', t', t2', N', G', sn', SG', 0, hK3, hM3, ⟨_, hA3⟩, ⟨_, hD3⟩, hb3, hbx, hz⟩
    simp only [s216_745, s216_746, s216_750, s216_752, s216_756, s216_758, s216_762, s216_764, s216_767, s216_768, s216_769, s216_771, s216_774, s216_775, s216_776, s216_777, s216_779, s216_780, s216_781, s216_784, s216_785, s216_786, ldi_0, ldi_s, ldl_0, ldl_s, ldd_0, ldd_s, lda_0, lda_s, st1_0, st1_1, st2_0, st2_1, sti_0, sti_1, stj_0, stj_1, st1_2, sti_2, st2_2, stj_2, st1_3, sti_3, st2_3, stj_3, st1_4, sti_4, st2_4, stj_4, st1_5, sti_5, st2_5, stj_5, st1_6, sti_6, st2_6, stj_6, st1_7, sti_7, st2_7, stj_7, st1_8, sti_8, st2_8, stj_8, st1_9, sti_9, st2_9, stj_9, kil_n, kil_i, kil_r, kil_l, kil_d, gl_0, gl_s, cat_i, cat_r, true_and, nI_1, nI_2]
    refine c216_759r hM3.1 (sp_thr hM3) ?_
    simp only [s216_745, s216_746, s216_750, s216_752, s216_756, s216_758, s216_762, s216_764, s216_767, s216_768, s216_769, s216_771, s216_774, s216_775, s216_776, s216_777, s216_779, s216_780, s216_781, s216_784, s216_785, s216_786, ldi_0, ldi_s, ldl_0, ldl_s, ldd_0, ldd_s, lda_0, lda_s, st1_0, st1_1, st2_0, st2_1, sti_0, sti_1, stj_0, stj_1, st1_2, sti_2, st2_2, stj_2, st1_3, sti_3, st2_3, stj_3, st1_4, sti_4, st2_4, stj_4, st1_5, sti_5, st2_5, stj_5, st1_6, sti_6, st2_6, stj_6, st1_7, sti_7, st2_7, stj_7, st1_8, sti_8, st2_8, stj_8, st1_9, sti_9, st2_9, stj_9, kil_n, kil_i, kil_r, kil_l, kil_d, gl_0, gl_s, cat_i, cat_r, true_and, nI_1, nI_2]
    rw [br_1 trivial, br_0 (fun w => w trivial), nI_lit0, ald_la hA3 (by decide)]
    simp only [s216_745, s216_746, s216_750, s216_752, s216_756, s216_758, s216_762, s216_764, s216_767, s216_768, s216_769, s216_771, s216_774, s216_775, s216_776, s216_777, s216_779, s216_780, s216_781, s216_784, s216_785, s216_786, ldi_0, ldi_s, ldl_0, ldl_s, ldd_0, ldd_s, lda_0, lda_s, st1_0, st1_1, st2_0, st2_1, sti_0, sti_1, stj_0, stj_1, st1_2, sti_2, st2_2, stj_2, st1_3, sti_3, st2_3, stj_3, st1_4, sti_4, st2_4, stj_4, st1_5, sti_5, st2_5, stj_5, st1_6, sti_6, st2_6, stj_6, st1_7, sti_7, st2_7, stj_7, st1_8, sti_8, st2_8, stj_8, st1_9, sti_9, st2_9, stj_9, kil_n, kil_i, kil_r, kil_l, kil_d, gl_0, gl_s, cat_i, cat_r, true_and, nI_1, nI_2, lg_cmp_eq]
    rw [br_1 (show updL O 0 v.toInt64 0 = v.toInt64 from if_pos rfl)]
    exact ct _ _ _ _ _ _ _ fin (by omega) (by omega)
  · have thrown : ∀ h1 z1 kk' (v : Int32) s, cX h x N G sn SG z E (.inr E) h1 z1 → kk = kk' → ¬ kk' = 0 → aW (Sp 60) 216 mc ms lawP 750 [some (.ref b), some (.ref x), some (.ref (x + 38)), some (.ref (x + 88)), some (.ref (x + 89)), some (.int (nI (3 * i))), s, s7, s8] [.int kk'] h1 z1 (k + 1) (n + 6) := by
      rintro h1 z1 kk' v s ⟨-, hz1, ⟨c', r', c2', r2', hK1⟩, hF1⟩ rfl hk0
      have hM2 : MD h1 (x + 38) t t2 N sn G SG th := hM.fr fun q _ _ => hF1 q (by omega)
      have hb2 : h1 b = some (ra 5 L fun j => .int (xs j)) := by rw [hF1 b (by omega)]; exact hb
      have hO2 : h1 (x + 88) = some (la 1 O) := by rw [hF1 _ (by omega)]; exact hO
      have hD2 : h1 (x + 89) = some (ra 3 1 D) := by rw [hF1 _ (by omega)]; exact hD
      simp only [s216_745, s216_746, s216_750, s216_752, s216_756, s216_758, s216_762, s216_764, s216_767, s216_768, s216_769, s216_771, s216_774, s216_775, s216_776, s216_777, s216_779, s216_780, s216_781, s216_784, s216_785, s216_786, ldi_0, ldi_s, ldl_0, ldl_s, ldd_0, ldd_s, lda_0, lda_s, st1_0, st1_1, st2_0, st2_1, sti_0, sti_1, stj_0, stj_1, st1_2, sti_2, st2_2, stj_2, st1_3, sti_3, st2_3, stj_3, st1_4, sti_4, st2_4, stj_4, st1_5, sti_5, st2_5, stj_5, st1_6, sti_6, st2_6, stj_6, st1_7, sti_7, st2_7, stj_7, st1_8, sti_8, st2_8, stj_8, st1_9, sti_9, st2_9, stj_9, kil_n, kil_i, kil_r, kil_l, kil_d, gl_0, gl_s, cat_i, cat_r, true_and, nI_1, nI_2]
      obtain ⟨w, hw⟩ := hm h1 (x + 38) t t2 th z1 hM2
      refine c216_753 hM2.1 hw (by omega) (by omega) ?_
      rintro _ H2 z2 ⟨rfl, rfl, ⟨t', t2', hM3⟩, hF3⟩
      show aW (Sp 60) 216 mc ms lawP 756 _ _ _ _ _ _
      have hK3 : K H2 x c' r' c2' r2' N G sn SG := hK1.fr fun q _ _ => hF3 q (by omega)
      have fin : lwS H2 z2 b L xs x := ⟨c', r', c2', r2', t', t2', N, G, sn, SG, kk, hK3, hM3, ⟨O, by rw [hF3 _ (by omega)]; exact hO2⟩, ⟨D, by rw [hF3 _ (by omega)]; exact hD2⟩, by rw [hF3 b (by omega)]; exact hb2, hbx, by omega⟩
      have hb3 : H2 b = some (ra 5 L fun j => .int (xs j)) := by rw [hF3 b (by omega)]; exact hb2
      simp only [s216_745, s216_746, s216_750, s216_752, s216_756, s216_758, s216_762, s216_764, s216_767, s216_768, s216_769, s216_771, s216_774, s216_775, s216_776, s216_777, s216_779, s216_780, s216_781, s216_784, s216_785, s216_786, ldi_0, ldi_s, ldl_0, ldl_s, ldd_0, ldd_s, lda_0, lda_s, st1_0, st1_1, st2_0, st2_1, sti_0, sti_1, stj_0, stj_1, st1_2, sti_2, st2_2, stj_2, st1_3, sti_3, st2_3, stj_3, st1_4, sti_4, st2_4, stj_4, st1_5, sti_5, st2_5, stj_5, st1_6, sti_6, st2_6, stj_6, st1_7, sti_7, st2_7, stj_7, st1_8, sti_8, st2_8, stj_8, st1_9, sti_9, st2_9, stj_9, kil_n, kil_i, kil_r, kil_l, kil_d, gl_0, gl_s, cat_i, cat_r, true_and, nI_1, nI_2]
      refine c216_759r hM3.1 (sp_thr hM3) ?_
      simp only [s216_745, s216_746, s216_750, s216_752, s216_756, s216_758, s216_762, s216_764, s216_767, s216_768, s216_769, s216_771, s216_774, s216_775, s216_776, s216_777, s216_779, s216_780, s216_781, s216_784, s216_785, s216_786, ldi_0, ldi_s, ldl_0, ldl_s, ldd_0, ldd_s, lda_0, lda_s, st1_0, st1_1, st2_0, st2_1, sti_0, sti_1, stj_0, stj_1, st1_2, sti_2, st2_2, stj_2, st1_3, sti_3, st2_3, stj_3, st1_4, sti_4, st2_4, stj_4, st1_5, sti_5, st2_5, stj_5, st1_6, sti_6, st2_6, stj_6, st1_7, sti_7, st2_7, stj_7, st1_8, sti_8, st2_8, stj_8, st1_9, sti_9, st2_9, stj_9, kil_n, kil_i, kil_r, kil_l, kil_d, gl_0, gl_s, cat_i, cat_r, true_and, nI_1, nI_2]
      rw [br_1 trivial, br_1 hk0]
      exact ct _ _ _ _ _ _ _ fin (by omega) (by omega)
    simp only [List.mem_cons, List.not_mem_nil, or_false, Prod.mk.injEq] at hE
    obtain ⟨rfl, rfl⟩ := hE
    refine c216_747 (x_beside_1 hK.hx (hc h x z c r c2 r2 hK) (fun o h' z' hq => hq.1)) (by omega) (by omega) ?_
    rintro _ h1 z1 ⟨rfl, hq⟩
    exact thrown h1 z1 1 0 s6 hq rfl (by decide)
theorem cs_places (hS : lwS h z b L xs x) (hi : 3 * i + 2 < L) (hL : L ≤ 1536) (hk : k + 1 ≤ mc) (hn : n + 6 ≤ ms) (hJ : ∀ N G sn SG, GOK N G → GOK sn SG → jN (fun v : Int32 => Value.int v) 75 76 [] N G sn SG) (ct : lwC b L xs x i k n mc ms) : aW (Sp 60) 216 mc ms lawP 789 [some (.ref b), some (.ref x), some (.ref (x + 38)), some (.ref (x + 88)), some (.ref (x + 89)), some (.int (nI (3 * i))), s6, s7, s8] [] h z k n := by
  obtain ⟨c, r, c2, r2, t, t2, N, G, sn, SG, th, hK, hM, ⟨O, hO⟩, ⟨D, hD⟩, hb, hbx, hz⟩ := hS
  obtain ⟨v, N', G', sn', SG', hc, hm⟩ := hJ N G sn SG hK.hG hK.hG2
  simp only [s216_789, s216_793, s216_797, s216_800, s216_801, ldi_0, ldi_s, ldl_0, ldl_s, ldd_0, ldd_s, lda_0, lda_s, st1_0, st1_1, st2_0, st2_1, sti_0, sti_1, stj_0, stj_1, st1_2, sti_2, st2_2, stj_2, st1_3, sti_3, st2_3, stj_3, st1_4, sti_4, st2_4, stj_4, st1_5, sti_5, st2_5, stj_5, st1_6, sti_6, st2_6, stj_6, st1_7, sti_7, st2_7, stj_7, st1_8, sti_8, st2_8, stj_8, st1_9, sti_9, st2_9, stj_9, kil_n, kil_i, kil_r, kil_l, kil_d, gl_0, gl_s, cat_i, cat_r, true_and, nI_1, nI_2]
  refine c216_790 hK.hx (hc h x z c r c2 r2 hK) (by omega) (by omega) ?_
  rintro _ h1 z1 ⟨rfl, rfl, ⟨c', r', c2', r2', hK1⟩, hF1⟩
  show aW (Sp 60) 216 mc ms lawP 793 _ _ _ _ _ _
  have hM2 : MD h1 (x + 38) t t2 N sn G SG th := hM.fr fun q _ _ => hF1 q (by omega)
  have hb2 : h1 b = some (ra 5 L fun j => .int (xs j)) := by rw [hF1 b (by omega)]; exact hb
  simp only [s216_789, s216_793, s216_797, s216_800, s216_801, ldi_0, ldi_s, ldl_0, ldl_s, ldd_0, ldd_s, lda_0, lda_s, st1_0, st1_1, st2_0, st2_1, sti_0, sti_1, stj_0, stj_1, st1_2, sti_2, st2_2, stj_2, st1_3, sti_3, st2_3, stj_3, st1_4, sti_4, st2_4, stj_4, st1_5, sti_5, st2_5, stj_5, st1_6, sti_6, st2_6, stj_6, st1_7, sti_7, st2_7, stj_7, st1_8, sti_8, st2_8, stj_8, st1_9, sti_9, st2_9, stj_9, kil_n, kil_i, kil_r, kil_l, kil_d, gl_0, gl_s, cat_i, cat_r, true_and, nI_1, nI_2]
  obtain ⟨th', hw⟩ := hm h1 (x + 38) t t2 th z1 hM2
  refine c216_794 hM2.1 hw (by omega) (by omega) ?_
  rintro _ H2 z2 ⟨rfl, rfl, ⟨t', t2', hM3⟩, hF3⟩
  show aW (Sp 60) 216 mc ms lawP 797 _ _ _ _ _ _
  have hK3 : K H2 x c' r' c2' r2' N' G' sn' SG' := hK1.fr fun q _ _ => hF3 q (by omega)
  have fin : lwS H2 z2 b L xs x := ⟨c', r', c2', r2', t', t2', N', G', sn', SG', th', hK3, hM3, ⟨O, by rw [hF3 _ (by omega), hF1 _ (by omega)]; exact hO⟩, ⟨D, by rw [hF3 _ (by omega), hF1 _ (by omega)]; exact hD⟩, by rw [hF3 b (by omega)]; exact hb2, hbx, hz⟩
  simp only [s216_789, s216_793, s216_797, s216_800, s216_801, ldi_0, ldi_s, ldl_0, ldl_s, ldd_0, ldd_s, lda_0, lda_s, st1_0, st1_1, st2_0, st2_1, sti_0, sti_1, stj_0, stj_1, st1_2, sti_2, st2_2, stj_2, st1_3, sti_3, st2_3, stj_3, st1_4, sti_4, st2_4, stj_4, st1_5, sti_5, st2_5, stj_5, st1_6, sti_6, st2_6, stj_6, st1_7, sti_7, st2_7, stj_7, st1_8, sti_8, st2_8, stj_8, st1_9, sti_9, st2_9, stj_9, kil_n, kil_i, kil_r, kil_l, kil_d, gl_0, gl_s, cat_i, cat_r, true_and, lg_cmp_eq]
  rw [br_1 trivial]
  exact ct _ _ _ _ _ _ _ fin (by omega) (by omega)
theorem cs_ways (hS : lwS h z b L xs x) (hi : 3 * i + 2 < L) (hL : L ≤ 1536) (hk : k + 1 ≤ mc) (hn : n + 6 ≤ ms) (hJ : ∀ N G sn SG, GOK N G → GOK sn SG → jN (fun v : Int32 => Value.int v) 77 29 [] N G sn SG) (ct : lwC b L xs x i k n mc ms) : aW (Sp 60) 216 mc ms lawP 802 [some (.ref b), some (.ref x), some (.ref (x + 38)), some (.ref (x + 88)), some (.ref (x + 89)), some (.int (nI (3 * i))), s6, s7, s8] [] h z k n := by
  obtain ⟨c, r, c2, r2, t, t2, N, G, sn, SG, th, hK, hM, ⟨O, hO⟩, ⟨D, hD⟩, hb, hbx, hz⟩ := hS
  obtain ⟨v, N', G', sn', SG', hc, hm⟩ := hJ N G sn SG hK.hG hK.hG2
  simp only [s216_802, s216_806, s216_810, s216_813, s216_814, ldi_0, ldi_s, ldl_0, ldl_s, ldd_0, ldd_s, lda_0, lda_s, st1_0, st1_1, st2_0, st2_1, sti_0, sti_1, stj_0, stj_1, st1_2, sti_2, st2_2, stj_2, st1_3, sti_3, st2_3, stj_3, st1_4, sti_4, st2_4, stj_4, st1_5, sti_5, st2_5, stj_5, st1_6, sti_6, st2_6, stj_6, st1_7, sti_7, st2_7, stj_7, st1_8, sti_8, st2_8, stj_8, st1_9, sti_9, st2_9, stj_9, kil_n, kil_i, kil_r, kil_l, kil_d, gl_0, gl_s, cat_i, cat_r, true_and, nI_1, nI_2]
  refine c216_803 hK.hx (hc h x z c r c2 r2 hK) (by omega) (by omega) ?_
  rintro _ h1 z1 ⟨rfl, rfl, ⟨c', r', c2', r2', hK1⟩, hF1⟩
  show aW (Sp 60) 216 mc ms lawP 806 _ _ _ _ _ _
  have hM2 : MD h1 (x + 38) t t2 N sn G SG th := hM.fr fun q _ _ => hF1 q (by omega)
  have hb2 : h1 b = some (ra 5 L fun j => .int (xs j)) := by rw [hF1 b (by omega)]; exact hb
  simp only [s216_802, s216_806, s216_810, s216_813, s216_814, ldi_0, ldi_s, ldl_0, ldl_s, ldd_0, ldd_s, lda_0, lda_s, st1_0, st1_1, st2_0, st2_1, sti_0, sti_1, stj_0, stj_1, st1_2, sti_2, st2_2, stj_2, st1_3, sti_3, st2_3, stj_3, st1_4, sti_4, st2_4, stj_4, st1_5, sti_5, st2_5, stj_5, st1_6, sti_6, st2_6, stj_6, st1_7, sti_7, st2_7, stj_7, st1_8, sti_8, st2_8, stj_8, st1_9, sti_9, st2_9, stj_9, kil_n, kil_i, kil_r, kil_l, kil_d, gl_0, gl_s, cat_i, cat_r, true_and, nI_1, nI_2]
  obtain ⟨th', hw⟩ := hm h1 (x + 38) t t2 th z1 hM2
  refine c216_807 hM2.1 hw (by omega) (by omega) ?_
  rintro _ H2 z2 ⟨rfl, rfl, ⟨t', t2', hM3⟩, hF3⟩
  show aW (Sp 60) 216 mc ms lawP 810 _ _ _ _ _ _
  have hK3 : K H2 x c' r' c2' r2' N' G' sn' SG' := hK1.fr fun q _ _ => hF3 q (by omega)
  have fin : lwS H2 z2 b L xs x := ⟨c', r', c2', r2', t', t2', N', G', sn', SG', th', hK3, hM3, ⟨O, by rw [hF3 _ (by omega), hF1 _ (by omega)]; exact hO⟩, ⟨D, by rw [hF3 _ (by omega), hF1 _ (by omega)]; exact hD⟩, by rw [hF3 b (by omega)]; exact hb2, hbx, hz⟩
  simp only [s216_802, s216_806, s216_810, s216_813, s216_814, ldi_0, ldi_s, ldl_0, ldl_s, ldd_0, ldd_s, lda_0, lda_s, st1_0, st1_1, st2_0, st2_1, sti_0, sti_1, stj_0, stj_1, st1_2, sti_2, st2_2, stj_2, st1_3, sti_3, st2_3, stj_3, st1_4, sti_4, st2_4, stj_4, st1_5, sti_5, st2_5, stj_5, st1_6, sti_6, st2_6, stj_6, st1_7, sti_7, st2_7, stj_7, st1_8, sti_8, st2_8, stj_8, st1_9, sti_9, st2_9, stj_9, kil_n, kil_i, kil_r, kil_l, kil_d, gl_0, gl_s, cat_i, cat_r, true_and, lg_cmp_eq]
  rw [br_1 trivial]
  exact ct _ _ _ _ _ _ _ fin (by omega) (by omega)
end Cases
