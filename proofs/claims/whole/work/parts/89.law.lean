/-! the law, out of the forty cases -/
theorem lw_end {L i : Nat} (hL : L ≤ 1536) (hi : i ≤ 513) : (nI L - 3 < nI (3 * i)) ↔ ¬ 3 * i + 2 < L := by
  rw [show (3 : Int32) = nI 3 from rfl, Int32.lt_iff_toInt_lt, pk_sub_toInt (by omega) (by decide), nI_toInt (by omega)]
  omega
def hscr (b L : Nat) (xs : Nat → Int32) : AH := fun q => if q = b then some (ra 5 L fun j => .int (xs j)) else none
theorem law_abs {b L z : Nat} {xs : Nat → Int32} (hL : L ≤ 1536) (hb : b < z) : aW (Sp 60) 216 603072 7207018 lawP 0 (aEntry 216 [.ref b]) [] (hscr b L xs) z 0 0 := by
  rw [show aEntry 216 [.ref b] = [some (.ref b), none, none, none, none, none, none, none, none] from rfl]
  have loop : ∀ f i, i + f = 513 → ∀ (h' : AH) (z' k' n' : Nat) (s6 s7 s8 : Option Value), lwS h' z' b L xs z → k' ≤ 90 + i → n' ≤ 996 + 6 * i → aW (Sp 60) 216 603072 7207018 lawP 28 [some (.ref b), some (.ref z), some (.ref (z + 38)), some (.ref (z + 88)), some (.ref (z + 89)), some (.int (nI (3 * i))), s6, s7, s8] [] h' z' k' n' := by
    intro f
    induction f with
    | zero =>
      intro i hi h' z' k' n' s6 s7 s8 hS hk hn
      have hS2 := hS
      obtain ⟨c, r, c2, r2, t, t2, N, G, sn, SG, th, hK, hM, hO, hD, hb2, hbx, hz⟩ := hS2
      rw [s216_28]
      simp only [s216_30, s216_31, s216_32, s216_33, s216_34, s216_37, s216_38, s216_40, s216_41, s216_43, s216_1887, s216_1888, ldi_0, ldi_s, ldl_0, ldl_s, ldd_0, ldd_s, lda_0, lda_s, st1_0, st1_1, st2_0, st2_1, sti_0, sti_1, stj_0, stj_1, st1_2, sti_2, st2_2, stj_2, st1_3, sti_3, st2_3, stj_3, st1_4, sti_4, st2_4, stj_4, st1_5, sti_5, st2_5, stj_5, st1_6, sti_6, st2_6, stj_6, st1_7, sti_7, st2_7, stj_7, st1_8, sti_8, st2_8, stj_8, st1_9, sti_9, st2_9, stj_9, kil_n, kil_i, kil_r, kil_l, kil_d, gl_0, gl_s, cat_i, cat_r, true_and, aln_ra hb2]
      rw [br_1 ((lw_end hL (by omega)).mpr (by omega))]
      exact ⟨by decide, by omega, by omega, rfl⟩
    | succ f ih =>
      intro i hi h' z' k' n' s6 s7 s8 hS hk hn
      have hS2 := hS
      obtain ⟨c, r, c2, r2, t, t2, N, G, sn, SG, th, hK, hM, hO, hD, hb2, hbx, hz⟩ := hS2
      by_cases hin : 3 * i + 2 < L
      · have ct : lwC b L xs z i k' n' 603072 7207018 := by
          intro h2 z2 k2 n2 t6 t7 t8 hS3 hk2 hn2
          simp only [s216_1881, s216_1884, ldi_0, ldi_s, ldl_0, ldl_s, ldd_0, ldd_s, lda_0, lda_s, st1_0, st1_1, st2_0, st2_1, sti_0, sti_1, stj_0, stj_1, st1_2, sti_2, st2_2, stj_2, st1_3, sti_3, st2_3, stj_3, st1_4, sti_4, st2_4, stj_4, st1_5, sti_5, st2_5, stj_5, st1_6, sti_6, st2_6, stj_6, st1_7, sti_7, st2_7, stj_7, st1_8, sti_8, st2_8, stj_8, st1_9, sti_9, st2_9, stj_9, kil_n, kil_i, kil_r, kil_l, kil_d, gl_0, gl_s, cat_i, cat_r, true_and]
          rw [show nI (3 * i) + 3 = nI (3 * (i + 1)) from nI_add (3 * i) 3]
          exact ih (i + 1) (by omega) h2 z2 k2 n2 t6 t7 t8 hS3 (by omega) (by omega)
        rw [s216_28]
        simp only [s216_30, s216_31, s216_32, s216_33, s216_34, s216_37, s216_38, s216_40, s216_41, s216_43, ldi_0, ldi_s, ldl_0, ldl_s, ldd_0, ldd_s, lda_0, lda_s, st1_0, st1_1, st2_0, st2_1, sti_0, sti_1, stj_0, stj_1, st1_2, sti_2, st2_2, stj_2, st1_3, sti_3, st2_3, stj_3, st1_4, sti_4, st2_4, stj_4, st1_5, sti_5, st2_5, stj_5, st1_6, sti_6, st2_6, stj_6, st1_7, sti_7, st2_7, stj_7, st1_8, sti_8, st2_8, stj_8, st1_9, sti_9, st2_9, stj_9, kil_n, kil_i, kil_r, kil_l, kil_d, gl_0, gl_s, cat_i, cat_r, true_and, aln_ra hb2, scr_ald hb2 (show 3 * i < L by omega) hL]
        rw [br_0 (fun w => (lw_end hL (by omega)).mp w hin)]
        obtain ⟨w, hw, ew⟩ := pk_andE (xs (3 * i)) (m := 63) 6 (by decide)
        rw [ew]
        rcases (show w = 0 ∨ w = 1 ∨ w = 2 ∨ w = 3 ∨ w = 4 ∨ w = 5 ∨ w = 6 ∨ w = 7 ∨ w = 8 ∨ w = 9 ∨ w = 10 ∨ w = 11 ∨ w = 12 ∨ w = 13 ∨ w = 14 ∨ w = 15 ∨ w = 16 ∨ w = 17 ∨ w = 18 ∨ w = 19 ∨ w = 20 ∨ w = 21 ∨ w = 22 ∨ w = 23 ∨ w = 24 ∨ w = 25 ∨ w = 26 ∨ w = 27 ∨ w = 28 ∨ w = 29 ∨ w = 30 ∨ w = 31 ∨ w = 32 ∨ w = 33 ∨ w = 34 ∨ w = 35 ∨ w = 36 ∨ w = 37 ∨ w = 38 ∨ w = 39 ∨ 40 ≤ w by omega) with rfl | rfl | rfl | rfl | rfl | rfl | rfl | rfl | rfl | rfl | rfl | rfl | rfl | rfl | rfl | rfl | rfl | rfl | rfl | rfl | rfl | rfl | rfl | rfl | rfl | rfl | rfl | rfl | rfl | rfl | rfl | rfl | rfl | rfl | rfl | rfl | rfl | rfl | rfl | rfl | h40
        · rw [s216_w0]
          exact cs_begin hS hin hL (by omega) (by omega) (fun _ _ _ _ hG hS => jo_begin hG hS) ct
        · rw [s216_w1]
          exact cs_place hS hin hL (by omega) (by omega) (fun _ _ _ _ hG hS => jo_place hG hS) ct
        · rw [s216_w2]
          exact cs_star hS hin hL (by omega) (by omega) (fun _ _ _ _ hG hS => jo_star hG hS) ct
        · rw [s216_w3]
          exact cs_leave hS hin hL (by omega) (by omega) (fun _ _ _ _ hG hS => jo_leave hG hS) ct
        · rw [s216_w4]
          exact cs_way hS hin hL (by omega) (by omega) (fun _ _ _ _ hG hS => jo_way hG hS) ct
        · rw [s216_w5]
          exact cs_tear hS hin hL (by omega) (by omega) (fun _ _ _ _ hG hS => jo_tear hG hS) ct
        · rw [s216_w6]
          exact cs_draw hS hin hL (by omega) (by omega) (fun _ _ _ _ hG hS => jo_draw hG hS) ct
        · rw [s216_w7]
          exact cs_swap hS hin hL (by omega) (by omega) (fun _ _ _ _ hG hS => jo_swap hG hS) ct
        · rw [s216_w8]
          exact cs_others hS hin hL (by omega) (by omega) (fun _ _ _ _ hG hS => jo_others hG hS) ct
        · rw [s216_w9]
          exact cs_keep hS hin hL (by omega) (by omega) (fun _ _ _ _ hG hS => jo_keep hG hS) ct
        · rw [s216_w10]
          exact cs_turn hS hin hL (by omega) (by omega) (fun _ _ _ _ hG hS => jo_turn hG hS) ct
        · rw [s216_w11]
          exact cs_beside hS hin hL (by omega) (by omega) (fun _ _ _ _ hG hS => jo_beside hG hS) ct
        · rw [s216_w12]
          exact cs_places hS hin hL (by omega) (by omega) (fun _ _ _ _ hG hS => jo_places hG hS) ct
        · rw [s216_w13]
          exact cs_ways hS hin hL (by omega) (by omega) (fun _ _ _ _ hG hS => jo_ways hG hS) ct
        · rw [s216_w14]
          exact cs_isWay hS hin hL (by omega) (by omega) (fun _ _ _ _ hG hS => jo_isWay hG hS) ct
        · rw [s216_w15]
          exact cs_degree hS hin hL (by omega) (by omega) (fun _ _ _ _ hG hS => jo_degree hG hS) ct
        · rw [s216_w16]
          exact cs_next hS hin hL (by omega) (by omega) (fun _ _ _ _ hG hS => jo_next hG hS) ct
        · rw [s216_w17]
          exact cs_previous hS hin hL (by omega) (by omega) (fun _ _ _ _ hG hS => jo_previous hG hS) ct
        · rw [s216_w18]
          exact cs_mean hS hin hL (by omega) (by omega) (fun _ _ _ _ hG hS => jo_mean hG hS) ct
        · rw [s216_w19]
          exact cs_pieces hS hin hL (by omega) (by omega) (fun _ _ _ _ hG hS => jo_pieces hG hS) ct
        · rw [s216_w20]
          exact cs_piece hS hin hL (by omega) (by omega) (fun _ _ _ _ hG hS => jo_piece hG hS) ct
        · rw [s216_w21]
          exact cs_apart hS hin hL (by omega) (by omega) (fun _ _ _ _ hG hS => jo_apart hG hS) ct
        · rw [s216_w22]
          exact cs_together hS hin hL (by omega) (by omega) (fun _ _ _ _ hG hS => jo_together hG hS) ct
        · rw [s216_w23]
          exact cs_partings hS hin hL (by omega) (by omega) (fun _ _ _ _ hG hS => jo_partings hG hS) ct
        · rw [s216_w24]
          exact cs_isTwo hS hin hL (by omega) (by omega) (fun _ _ _ _ hG hS => jo_isTwo hG hS) ct
        · rw [s216_w25]
          exact cs_fewest hS hin hL (by omega) (by omega) (fun _ _ _ _ hG hS => jo_fewest hG hS) ct
        · rw [s216_w26]
          exact cs_colour hS hin hL (by omega) (by omega) (fun _ _ _ _ hG hS => jo_colour hG hS) ct
        · rw [s216_w27]
          exact cs_colourings hS hin hL (by omega) (by omega) (fun _ _ _ _ hG hS => jo_colourings hG hS) ct
        · rw [s216_w28]
          exact cs_coefficient hS hin hL (by omega) (by omega) (fun _ _ _ _ hG hS => jo_coefficient hG hS) ct
        · rw [s216_w29]
          exact cs_value hS hin hL (by omega) (by omega) (fun _ _ _ _ hG hS => jo_value hG hS) ct
        · rw [s216_w30]
          exact cs_round hS hin hL (by omega) (by omega) (fun _ _ _ _ hG hS => jo_round hG hS) ct
        · rw [s216_w31]
          exact cs_bits hS hin hL (by omega) (by omega) (fun _ _ _ _ hG hS => jo_bits hG hS) ct
        · rw [s216_w32]
          exact cs_sign hS hin hL (by omega) (by omega) (fun _ _ _ _ hG hS => jo_sign hG hS) ct
        · rw [s216_w33]
          exact cs_digit hS hin hL (by omega) (by omega) (fun _ _ _ _ hG hS => jo_digit hG hS) ct
        · rw [s216_w34]
          exact cs_rest hS hin hL (by omega) (by omega) (fun _ _ _ _ hG hS => jo_rest hG hS) ct
        · rw [s216_w35]
          exact cs_compare hS hin hL (by omega) (by omega) (fun _ _ _ _ hG hS => jo_compare hG hS) ct
        · rw [s216_w36]
          exact cs_directions hS hin hL (by omega) (by omega) (fun _ _ _ _ hG hS => jo_directions hG hS) ct
        · rw [s216_w37]
          exact cs_tried hS hin hL (by omega) (by omega) (fun _ _ _ _ hG hS => jo_tried hG hS) ct
        · rw [s216_w38]
          exact cs_isTrue hS hin hL (by omega) (by omega) (fun _ _ _ _ hG hS => jo_isTrue hG hS) ct
        · rw [s216_w39]
          exact cs_checksum hS hin hL (by omega) (by omega) (fun _ _ _ _ hG hS => jo_checksum hG hS) ct
        · rw [s216_df h40 hw]
          exact ct _ _ _ _ _ _ _ hS (by omega) (by omega)
      · rw [s216_28]
        simp only [s216_30, s216_31, s216_32, s216_33, s216_34, s216_37, s216_38, s216_40, s216_41, s216_43, s216_1887, s216_1888, ldi_0, ldi_s, ldl_0, ldl_s, ldd_0, ldd_s, lda_0, lda_s, st1_0, st1_1, st2_0, st2_1, sti_0, sti_1, stj_0, stj_1, st1_2, sti_2, st2_2, stj_2, st1_3, sti_3, st2_3, stj_3, st1_4, sti_4, st2_4, stj_4, st1_5, sti_5, st2_5, stj_5, st1_6, sti_6, st2_6, stj_6, st1_7, sti_7, st2_7, stj_7, st1_8, sti_8, st2_8, stj_8, st1_9, sti_9, st2_9, stj_9, kil_n, kil_i, kil_r, kil_l, kil_d, gl_0, gl_s, cat_i, cat_r, true_and, aln_ra hb2]
        rw [br_1 ((lw_end hL (by omega)).mpr hin)]
        exact ⟨by decide, by omega, by omega, rfl⟩
  refine s216_0 (by omega) (by rw [aN5]; omega) ?_
  rw [aN5]
  simp only [s216_3, s216_7, s216_11, s216_15, s216_16, s216_19, s216_20, s216_23, s216_25, s216_26, ldi_0, ldi_s, ldl_0, ldl_s, ldd_0, ldd_s, lda_0, lda_s, st1_0, st1_1, st2_0, st2_1, sti_0, sti_1, stj_0, stj_1, st1_2, sti_2, st2_2, stj_2, st1_3, sti_3, st2_3, stj_3, st1_4, sti_4, st2_4, stj_4, st1_5, sti_5, st2_5, stj_5, st1_6, sti_6, st2_6, stj_6, st1_7, sti_7, st2_7, stj_7, st1_8, sti_8, st2_8, stj_8, st1_9, sti_9, st2_9, stj_9, kil_n, kil_i, kil_r, kil_l, kil_d, gl_0, gl_s, cat_i, cat_r, true_and]
  refine c216_4 (sp_iColourmap hup_same) (by omega) (by omega) ?_
  rintro _ h1 _ ⟨rfl, rfl, hK, hF⟩
  have hb1 : h1 b = some (ra 5 L fun j => .int (xs j)) := by
    rw [hF b (by omega), hup_ne (by omega)]
    exact if_pos rfl
  show aW (Sp 60) 216 _ _ _ 7 _ _ _ _ _ _
  simp only [s216_3, s216_7, s216_11, s216_15, s216_16, s216_19, s216_20, s216_23, s216_25, s216_26, ldi_0, ldi_s, ldl_0, ldl_s, ldd_0, ldd_s, lda_0, lda_s, st1_0, st1_1, st2_0, st2_1, sti_0, sti_1, stj_0, stj_1, st1_2, sti_2, st2_2, stj_2, st1_3, sti_3, st2_3, stj_3, st1_4, sti_4, st2_4, stj_4, st1_5, sti_5, st2_5, stj_5, st1_6, sti_6, st2_6, stj_6, st1_7, sti_7, st2_7, stj_7, st1_8, sti_8, st2_8, stj_8, st1_9, sti_9, st2_9, stj_9, kil_n, kil_i, kil_r, kil_l, kil_d, gl_0, gl_s, cat_i, cat_r, true_and]
  refine s216_8 (by omega) (by rw [aN6]; omega) ?_
  rw [aN6]
  simp only [s216_3, s216_7, s216_11, s216_15, s216_16, s216_19, s216_20, s216_23, s216_25, s216_26, ldi_0, ldi_s, ldl_0, ldl_s, ldd_0, ldd_s, lda_0, lda_s, st1_0, st1_1, st2_0, st2_1, sti_0, sti_1, stj_0, stj_1, st1_2, sti_2, st2_2, stj_2, st1_3, sti_3, st2_3, stj_3, st1_4, sti_4, st2_4, stj_4, st1_5, sti_5, st2_5, stj_5, st1_6, sti_6, st2_6, stj_6, st1_7, sti_7, st2_7, stj_7, st1_8, sti_8, st2_8, stj_8, st1_9, sti_9, st2_9, stj_9, kil_n, kil_i, kil_r, kil_l, kil_d, gl_0, gl_s, cat_i, cat_r, true_and]
  refine c216_12 (sp_iModel hup_same) (by omega) (by omega) ?_
  rintro _ h2 _ ⟨rfl, rfl, hM, hF2⟩
  have hK2 : K h2 z (z + 1) (z + 2) (z + 3) (z + 4) 0 gE 0 gE := hK.fr fun q _ _ => by rw [hF2 q (by omega), hup_ne (by omega)]
  have hb2 : h2 b = some (ra 5 L fun j => .int (xs j)) := by
    rw [hF2 b (by omega), hup_ne (by omega)]
    exact hb1
  have hM2 := hM.md
  show aW (Sp 60) 216 _ _ _ 15 _ _ _ _ _ _
  simp only [s216_3, s216_7, s216_11, s216_15, s216_16, s216_19, s216_20, s216_23, s216_25, s216_26, ldi_0, ldi_s, ldl_0, ldl_s, ldd_0, ldd_s, lda_0, lda_s, st1_0, st1_1, st2_0, st2_1, sti_0, sti_1, stj_0, stj_1, st1_2, sti_2, st2_2, stj_2, st1_3, sti_3, st2_3, stj_3, st1_4, sti_4, st2_4, stj_4, st1_5, sti_5, st2_5, stj_5, st1_6, sti_6, st2_6, stj_6, st1_7, sti_7, st2_7, stj_7, st1_8, sti_8, st2_8, stj_8, st1_9, sti_9, st2_9, stj_9, kil_n, kil_i, kil_r, kil_l, kil_d, gl_0, gl_s, cat_i, cat_r, true_and]
  refine s216_17 (by decide) (by decide) (by omega) (by rw [cl1]; omega) ?_
  rw [cl1, dfL]
  simp only [s216_3, s216_7, s216_11, s216_15, s216_16, s216_19, s216_20, s216_23, s216_25, s216_26, ldi_0, ldi_s, ldl_0, ldl_s, ldd_0, ldd_s, lda_0, lda_s, st1_0, st1_1, st2_0, st2_1, sti_0, sti_1, stj_0, stj_1, st1_2, sti_2, st2_2, stj_2, st1_3, sti_3, st2_3, stj_3, st1_4, sti_4, st2_4, stj_4, st1_5, sti_5, st2_5, stj_5, st1_6, sti_6, st2_6, stj_6, st1_7, sti_7, st2_7, stj_7, st1_8, sti_8, st2_8, stj_8, st1_9, sti_9, st2_9, stj_9, kil_n, kil_i, kil_r, kil_l, kil_d, gl_0, gl_s, cat_i, cat_r, true_and]
  refine s216_21 (by decide) (by decide) (by omega) (by rw [cl1]; omega) ?_
  rw [cl1]
  simp only [s216_3, s216_7, s216_11, s216_15, s216_16, s216_19, s216_20, s216_23, s216_25, s216_26, ldi_0, ldi_s, ldl_0, ldl_s, ldd_0, ldd_s, lda_0, lda_s, st1_0, st1_1, st2_0, st2_1, sti_0, sti_1, stj_0, stj_1, st1_2, sti_2, st2_2, stj_2, st1_3, sti_3, st2_3, stj_3, st1_4, sti_4, st2_4, stj_4, st1_5, sti_5, st2_5, stj_5, st1_6, sti_6, st2_6, stj_6, st1_7, sti_7, st2_7, stj_7, st1_8, sti_8, st2_8, stj_8, st1_9, sti_9, st2_9, stj_9, kil_n, kil_i, kil_r, kil_l, kil_d, gl_0, gl_s, cat_i, cat_r, true_and]
  refine loop 513 0 rfl _ _ _ _ _ _ _ ?_ (by omega) (by omega)
  refine ⟨z + 1, z + 2, z + 3, z + 4, z + 38 + 1, z + 38 + 11, 0, gE, 0, gE, 0, hK2.fr fun q _ _ => by rw [hup_ne (by omega), hup_ne (by omega)], hM2.fr fun q _ _ => by rw [hup_ne (by omega), hup_ne (by omega)], ⟨fun _ => 0, ?_⟩, ⟨fun _ => defaultValue (AT 3), ?_⟩, ?_, hb, by omega⟩
  · rw [hup_ne (by omega)]
    exact hup_same
  · exact hup_same
  · rw [hup_ne (by omega), hup_ne (by omega)]
    exact hb2
