/-! what both sides answer: the map -/
theorem cq_RR {h H : AH} {x c r c2 r2 N sn z : Nat} {G SG : Nat → Nat → Bool} {v : Value} (hK : K H x c r c2 r2 N G sn SG) (hF : Fr x (x + 38) h H) : ∀ o h' z', RR (some v) H z o h' z' → cQ h x N G sn SG z v o h' z' := by
  rintro _ _ _ ⟨rfl, rfl, rfl⟩
  exact ⟨rfl, rfl, ⟨c, r, c2, r2, hK⟩, hF⟩
theorem cx_RX {h H : AH} {x c r c2 r2 N sn z E : Nat} {G SG : Nat → Nat → Bool} (hK : K H x c r c2 r2 N G sn SG) (hF : Fr x (x + 38) h H) : ∀ o h' z', RX E H z o h' z' → cX h x N G sn SG z E o h' z' := by
  rintro _ _ z' ⟨rfl, rfl, hz⟩
  exact ⟨rfl, hz, ⟨c, r, c2, r2, hK⟩, hF⟩
theorem co_RR {h H : AH} {x c r c2 r2 N sn z cm : Nat} {G SG : Nat → Nat → Bool} {v : Value} {as : List Value} (hK : K H x c r c2 r2 N G sn SG) (hF : Fr x (x + 38) h H) (e : Sp 20 cm as h z 0 0 (RR (some v) H z)) : Sp 21 cm as h z 0 0 (cQ h x N G sn SG z v) := Sp_le (by decide) (Sp_conseq (cq_RR hK hF) e)
theorem co_RX {h H : AH} {x c r c2 r2 N sn z cm E : Nat} {G SG : Nat → Nat → Bool} {as : List Value} (hK : K H x c r c2 r2 N G sn SG) (hF : Fr x (x + 38) h H) (e : Sp 20 cm as h z 1 6 (RX E H z)) : Sp 21 cm as h z 1 6 (cX h x N G sn SG z E) := Sp_le (by decide) (Sp_conseq (cx_RX hK hF) e)
theorem md_RR {d mm N' n ns m t t2 z : Nat} {as : List Value} {h : AH} {G SG G' : Nat → Nat → Bool} {th th' : Int32} {v : Value} (hM : MD h m t t2 n ns G SG th) (e : Sp d mm as (NF h m t t2 ns G th n) z 0 0 (RR (some v) (NF h m t t2 ns G' th' N') z)) (hd : d ≤ 23 := by decide) : Sp 23 mm as h z 0 0 (mQ h m N' G' ns SG th' z v) := by
  rw [hM.nf] at e
  exact Sp_le hd (Sp_conseq (RR_mQ hM) e)
theorem md_MR {d mm n ns m t t2 z : Nat} {as : List Value} {h : AH} {G SG : Nat → Nat → Bool} {th th' : Int32} {v : Value} (hM : MD h m t t2 n ns G SG th) (e : Sp d mm as (NF h m t t2 ns G th n) z 0 0 (MR h m t t2 ns G SG th' n z (some v))) (hd : d ≤ 23 := by decide) : Sp 23 mm as h z 0 0 (mQ h m n G ns SG th' z v) := by
  rw [hM.nf] at e
  exact Sp_le hd (Sp_conseq (MR_mQ hM) e)
theorem i_rng {p : Int32} {M : Int32} {n : Nat} (hM : M.toInt = n) (h : ¬ (p < 0 ∨ ¬ p ≤ M)) : ∃ k, k ≤ n ∧ p = nI k := nI_of2 hM (fun w => h (Or.inl w)) (Decidable.not_not.mp fun w => h (Or.inr w))
section Jo
variable {p0 p1 : Int32} {N sn : Nat} {G SG : Nat → Nat → Bool}
theorem pl_or {p q : Int32} (h : ¬ (pl N p = false ∨ pl N q = false)) : pl N p = true ∧ pl N q = true := by
  cases h1 : pl N p <;> cases h2 : pl N q <;> simp_all
theorem jo_begin (hG : GOK N G) (hS : GOK sn SG) : jO (fun v : Int32 => Value.int v) (fun _ : Int32 => True) 8 13 [.int p0] [(0, 1)] N G sn SG := by
  by_cases hp : p0 < 0 ∨ ¬ p0 ≤ 9
  · exact Or.inr ⟨0, 1, by decide, fun h x z c r c2 r2 hK => co_RX hK Fr.refl (sp_cbegin_no hp), fun h m t t2 th z hM => ⟨0, md_RR hM (sp_mbegin_no hp)⟩⟩
  · obtain ⟨k, hk, rfl⟩ := i_rng (n := 9) rfl hp
    exact Or.inl ⟨nI N, k, gE, sn, SG, trivial, fun h x z c r c2 r2 hK => co_RR (hK.map (gE_ok hk)).1 (hK.map (gE_ok hk)).2 (sp_cbegin hK hk), fun h m t t2 th z hM => md_RR hM (sp_mbegin hM.2.2.1 hG hk)⟩
theorem jo_place (hG : GOK N G) (hS : GOK sn SG) : jO (fun v : Int32 => Value.int v) (fun _ : Int32 => True) 19 23 [] [(1, 1)] N G sn SG := by
  by_cases h8 : N < 9
  · exact Or.inl ⟨nI (N + 1), N + 1, G, sn, SG, trivial, fun h x z c r c2 r2 hK => co_RR (hK.map (hG.up h8)).1 (hK.map (hG.up h8)).2 (sp_cplace hK h8), fun h m t t2 th z hM => md_RR hM (sp_mplace h8)⟩
  · have h9 : N = 9 := by have := hG.1; omega
    exact Or.inr ⟨1, 1, by decide, fun h x z c r c2 r2 hK => co_RX hK Fr.refl (sp_cplace_no hK h9), fun h m t t2 th z hM => ⟨0, md_RR hM (sp_mplace_no h9)⟩⟩
theorem jo_star (hG : GOK N G) (hS : GOK sn SG) : jO (fun v : Int32 => Value.int v) (fun _ : Int32 => True) 25 28 [] [(1, 1)] N G sn SG := by
  by_cases h8 : N < 9
  · have gS := gStar_ok hG h8
    refine Or.inl ⟨nI (wys (gStar N G) (N + 1)), N + 1, gStar N G, sn, SG, trivial, fun h x z c r c2 r2 hK => ?_, fun h m t t2 th z hM => md_RR hM (sp_mstar hM.2.2.1 hG h8)⟩
    have e := sp_cstar (z := z) hK h8
    rw [ends_wys gS] at e
    exact co_RR (hK.map gS).1 (hK.map gS).2 e
  · have h9 : N = 9 := by have := hG.1; omega
    exact Or.inr ⟨1, 1, by decide, fun h x z c r c2 r2 hK => co_RX hK Fr.refl (sp_cstar_no hK h9), fun h m t t2 th z hM => ⟨0, md_RR hM (sp_mstar_no h9)⟩⟩
theorem jo_leave (hG : GOK N G) (hS : GOK sn SG) : jO (fun v : Int32 => Value.int v) (fun _ : Int32 => True) 32 38 [.int p0] [(2, 1)] N G sn SG := by
  cases hp : pl N p0
  · exact Or.inr ⟨2, 1, by decide, fun h x z c r c2 r2 hK => co_RX hK Fr.refl (sp_cleave_no hK hp), fun h m t t2 th z hM => ⟨0, md_RR hM (sp_mleave_no hG.1 hp)⟩⟩
  · obtain ⟨p, hpn, rfl⟩ := pl_ex hG.1 hp
    have gS := gDel_ok hG hpn
    refine Or.inl ⟨nI (cnt (G p) N), N - 1, gDel p G, sn, SG, trivial, fun h x z c r c2 r2 hK => ?_, fun h m t t2 th z hM => md_RR hM (sp_mleave hM.2.2.1 hG hpn)⟩
    have e := sp_cleave (z := z) hK hpn
    rw [cnt9 hG] at e
    exact co_RR (hK.map gS).1 (hK.map gS).2 e
theorem jo_way (hG : GOK N G) (hS : GOK sn SG) : jO (fun v : Bool => Value.int (bI v)) (fun _ : Bool => True) 43 47 [.int p0, .int p1] [(2, 1), (0, 2)] N G sn SG := by
  by_cases hp : pl N p0 = false ∨ pl N p1 = false
  · exact Or.inr ⟨2, 1, by decide, fun h x z c r c2 r2 hK => co_RX hK Fr.refl (sp_cway_no hK hp), fun h m t t2 th z hM => ⟨false, md_RR hM (sp_mway_no hG.1 hp)⟩⟩
  · obtain ⟨h1, h2⟩ := pl_or hp
    by_cases he : p0 = p1
    · subst he
      exact Or.inr ⟨0, 2, by decide, fun h x z c r c2 r2 hK => co_RX hK Fr.refl (sp_cway_eq hK h1), fun h m t t2 th z hM => ⟨false, md_RR hM (sp_mway_eq hG.1 h1)⟩⟩
    · obtain ⟨p, hpn, rfl⟩ := pl_ex hG.1 h1
      obtain ⟨q, hqn, rfl⟩ := pl_ex hG.1 h2
      have hpq : p ≠ q := fun e => he (by rw [e])
      have gS := gJoin_ok hG hpn hqn
      exact Or.inl ⟨!G p q, N, gJoin p q G, sn, SG, trivial, fun h x z c r c2 r2 hK => co_RR (hK.map gS).1 (hK.map gS).2 (sp_cway hK hpn hqn hpq), fun h m t t2 th z hM => md_RR hM (sp_mway hM.2.2.1 hG hpn hqn hpq)⟩
theorem jo_tear (hG : GOK N G) (hS : GOK sn SG) : jO (fun v : Int32 => Value.int v) (fun _ : Int32 => True) 49 51 [.int p0, .int p1] [(2, 1), (3, 2)] N G sn SG := by
  by_cases hp : pl N p0 = false ∨ pl N p1 = false
  · exact Or.inr ⟨2, 1, by decide, fun h x z c r c2 r2 hK => co_RX hK Fr.refl (sp_ctear_no hK hp), fun h m t t2 th z hM => ⟨0, md_RR hM (sp_mtear_no hG.1 hp)⟩⟩
  · obtain ⟨h1, h2⟩ := pl_or hp
    obtain ⟨p, hpn, rfl⟩ := pl_ex hG.1 h1
    obtain ⟨q, hqn, rfl⟩ := pl_ex hG.1 h2
    cases hg : G p q
    · exact Or.inr ⟨3, 2, by decide, fun h x z c r c2 r2 hK => co_RX hK Fr.refl (sp_ctear_none hK hpn hqn hg), fun h m t t2 th z hM => ⟨0, md_RR hM (sp_mtear_none hM.2.2.1 hG hpn hqn hg)⟩⟩
    · have gS : GOK N (gCut p q G) := gCut_ok hG
      refine Or.inl ⟨nI (wys (gCut p q G) N), N, gCut p q G, sn, SG, trivial, fun h x z c r c2 r2 hK => ?_, fun h m t t2 th z hM => md_RR hM (sp_mtear hM.2.2.1 hG hpn hqn hg)⟩
      have e := sp_ctear (z := z) hK hpn hqn hg
      rw [ends_wys gS] at e
      exact co_RR (hK.map gS).1 (hK.map gS).2 e
theorem jo_draw (hG : GOK N G) (hS : GOK sn SG) : jO (fun v : Int32 => Value.int v) (fun _ : Int32 => True) 53 55 [.int p0, .int p1] [(2, 1), (0, 2)] N G sn SG := by
  by_cases hp : pl N p0 = false ∨ pl N p1 = false
  · exact Or.inr ⟨2, 1, by decide, fun h x z c r c2 r2 hK => co_RX hK Fr.refl (sp_cdraw_no hK hp), fun h m t t2 th z hM => ⟨0, md_RR hM (sp_mdraw_no hG.1 hp)⟩⟩
  · obtain ⟨h1, h2⟩ := pl_or hp
    by_cases he : p0 = p1
    · subst he
      exact Or.inr ⟨0, 2, by decide, fun h x z c r c2 r2 hK => co_RX hK Fr.refl (sp_cdraw_eq hK h1), fun h m t t2 th z hM => ⟨0, md_RR hM (sp_mdraw_eq hG.1 h1)⟩⟩
    · obtain ⟨p, hpn, rfl⟩ := pl_ex hG.1 h1
      obtain ⟨q, hqn, rfl⟩ := pl_ex hG.1 h2
      have hpq : p ≠ q := fun e => he (by rw [e])
      have gS : GOK (N - 1) (gDel q (gMrg p q N G)) := gDel_ok (gMrg_ok (a := p) (b := q) (k := N) hG hpn) hqn
      refine Or.inl ⟨nI (wys (gDel q (gMrg p q N G)) (N - 1)), N - 1, gDel q (gMrg p q N G), sn, SG, trivial, fun h x z c r c2 r2 hK => ?_, fun h m t t2 th z hM => md_RR hM (sp_mdraw hM.2.2.1 hG hpn hqn hpq)⟩
      have e := sp_cdraw (z := z) hK hpn hqn hpq
      rw [ends_wys gS] at e
      exact co_RR (hK.map gS).1 (hK.map gS).2 e
theorem jo_swap (hG : GOK N G) (hS : GOK sn SG) : jO (fun v : Bool => Value.int (bI v)) (fun _ : Bool => True) 58 61 [.int p0, .int p1] [(2, 1)] N G sn SG := by
  by_cases hp : pl N p0 = false ∨ pl N p1 = false
  · exact Or.inr ⟨2, 1, by decide, fun h x z c r c2 r2 hK => co_RX hK Fr.refl (sp_cswap_no hK hp), fun h m t t2 th z hM => ⟨false, md_RR hM (sp_mswap_no hG.1 hp)⟩⟩
  · obtain ⟨h1, h2⟩ := pl_or hp
    obtain ⟨p, hpn, rfl⟩ := pl_ex hG.1 h1
    obtain ⟨q, hqn, rfl⟩ := pl_ex hG.1 h2
    have gS := gSwap_ok hG hpn hqn
    exact Or.inl ⟨gDif p q G, N, gSwap p q G, sn, SG, trivial, fun h x z c r c2 r2 hK => co_RR (hK.map gS).1 (hK.map gS).2 (sp_cswap hK hpn hqn), fun h m t t2 th z hM => md_RR hM (sp_mswap hM.2.2.1 hG hpn hqn)⟩
theorem jo_others (hG : GOK N G) (hS : GOK sn SG) : jN (fun v : Int32 => Value.int v) 62 64 [] N G sn SG := by
  have gS := gInv_ok hG
  refine ⟨nI (wys (gInv N G) N), N, gInv N G, sn, SG, fun h x z c r c2 r2 hK => ?_, fun h m t t2 th z hM => ⟨th, md_RR hM (sp_mothers hM.2.2.1 hG)⟩⟩
  have e := sp_cothers (z := z) hK
  rw [ends_wys gS] at e
  exact co_RR (hK.map gS).1 (hK.map gS).2 e
theorem jo_keep (hG : GOK N G) (hS : GOK sn SG) : jN (fun v : Int32 => Value.int v) 65 67 [] N G sn SG := by
  refine ⟨nI sn, N, G, N, G, fun h x z c r c2 r2 hK => co_RR (hK.spare hG).1 (hK.spare hG).2 (sp_ckeep hK), fun h m t t2 th z hM => ⟨th, ?_⟩⟩
  have e := sp_mkeep (z := z) (th := th) hM.2.2.1 hG hS
  rw [hM.nf] at e
  refine Sp_le (by decide) (Sp_conseq ?_ e)
  rintro _ _ _ ⟨rfl, rfl, rfl⟩
  have tt := hM.2.2.1.1
  unfold TT at tt
  refine ⟨rfl, rfl, ⟨t, t2, MD_of (hM.2.2.1.sp G) (hM.2.2.2.fr fun q _ _ => tbS_ne (by omega))⟩, fun q hq => ?_⟩
  rw [NF_ne (by omega) (by omega), tbS_ne (by omega)]
theorem tdf_t {o : Bool} {a b : Nat} : tdf G SG o a b = true ↔ o = true ∨ ∃ j, j < b ∧ G a j ≠ SG a j := by
  induction b with
  | zero => simp [tdf]
  | succ b ih =>
    unfold tdf
    rw [Bool.or_eq_true, ih, decide_eq_true_eq]
    constructor
    · rintro ((h | ⟨j, h1, h2⟩) | h)
      · exact Or.inl h
      · exact Or.inr ⟨j, by omega, h2⟩
      · exact Or.inr ⟨b, by omega, h⟩
    · rintro (h | ⟨j, h1, h2⟩)
      · exact Or.inl (Or.inl h)
      · by_cases hj : j = b
        · subst hj
          exact Or.inr h2
        · exact Or.inl (Or.inr ⟨j, by omega, h2⟩)
theorem tdA_t {o : Bool} {a : Nat} : tdA G SG o a = true ↔ o = true ∨ ∃ i, i < a ∧ ∃ j, j < 9 ∧ G i j ≠ SG i j := by
  induction a with
  | zero => simp [tdA]
  | succ a ih =>
    unfold tdA
    rw [tdf_t, ih]
    constructor
    · rintro ((h | ⟨i, h1, h2⟩) | h)
      · exact Or.inl h
      · exact Or.inr ⟨i, by omega, h2⟩
      · exact Or.inr ⟨a, by omega, h⟩
    · rintro (h | ⟨i, h1, h2⟩)
      · exact Or.inl (Or.inl h)
      · by_cases hj : i = a
        · subst hj
          exact Or.inr h2
        · exact Or.inl (Or.inr ⟨i, by omega, h2⟩)
theorem turn_eq (hG : GOK N G) (hS : GOK sn SG) : tdA G SG (decide (N ≠ sn)) 9 = !gEq sn SG N G := by
  cases h : gEq sn SG N G
  · rw [Bool.not_false, tdA_t]
    apply Decidable.byContradiction
    intro hn
    rw [decide_eq_true_eq] at hn
    have e1 : N = sn := Decidable.byContradiction fun w => hn (Or.inl w)
    have e2 : G = SG := by
      funext i j
      by_cases hi : i < 9
      · by_cases hj : j < 9
        · exact Decidable.byContradiction fun w => hn (Or.inr ⟨i, hi, j, hj, w⟩)
        · rw [hG.z9 _ _ (Or.inr (by omega)), hS.z9 _ _ (Or.inr (by omega))]
      · rw [hG.z9 _ _ (Or.inl (by omega)), hS.z9 _ _ (Or.inl (by omega))]
    rw [e1, e2] at h
    unfold gEq at h
    simp at h
  · obtain ⟨e1, e2⟩ := gEq_t hS hG h
    rw [Bool.not_true, ← Bool.not_eq_true, tdA_t]
    subst e1
    subst e2
    simp
theorem jo_turn (hG : GOK N G) (hS : GOK sn SG) : jN (fun v : Bool => Value.int (bI v)) 68 70 [] N G sn SG := by
  refine ⟨!gEq sn SG N G, sn, SG, N, G, fun h x z c r c2 r2 hK => co_RR hK.swap.1 hK.swap.2 (sp_cturn hK), fun h m t t2 th z hM => ⟨th, ?_⟩⟩
  have e := sp_mturn (z := z) (th := th) hM.2.2.1 hG hS
  rw [hM.nf, turn_eq hG hS] at e
  refine Sp_le (by decide) (Sp_conseq ?_ e)
  rintro _ _ _ ⟨rfl, rfl, rfl⟩
  have tt := hM.2.2.1.1
  unfold TT at tt
  refine ⟨rfl, rfl, ⟨t2, t, MD_of (NF_turn (n := N) (ns := sn) (th := th) (G := G) hM.2.2.1).2 (hM.2.2.2.fr fun q _ _ => tbS_ne (by omega))⟩, fun q hq => ?_⟩
  rw [NF_ne (by omega) (by omega), tbS_ne (by omega)]
theorem jo_beside (hG : GOK N G) (hS : GOK sn SG) : jO (fun v : Int32 => Value.int v) (fun _ : Int32 => True) 72 74 [] [(1, 1)] N G sn SG := by
  by_cases h9 : N + sn ≤ 9
  · have gS := gBes_ok hG hS h9
    exact Or.inl ⟨nI (N + sn), N + sn, gBes N sn G SG, sn, SG, trivial, fun h x z c r c2 r2 hK => co_RR (hK.map gS).1 (hK.map gS).2 (sp_cbeside hK h9), fun h m t t2 th z hM => md_RR hM (sp_mbeside hM.2.2.1 hG hS h9)⟩
  · exact Or.inr ⟨1, 1, by decide, fun h x z c r c2 r2 hK => co_RX hK Fr.refl (sp_cbeside_no hK (by omega)), fun h m t t2 th z hM => ⟨0, md_RR hM (sp_mbeside_no hG.1 hS.1 (by omega))⟩⟩
theorem jo_places (hG : GOK N G) (hS : GOK sn SG) : jN (fun v : Int32 => Value.int v) 75 76 [] N G sn SG := ⟨nI N, N, G, sn, SG, fun h x z c r c2 r2 hK => co_RR hK Fr.refl (sp_cplaces hK), fun h m t t2 th z hM => ⟨th, md_RR hM sp_mplaces⟩⟩
theorem jo_ways (hG : GOK N G) (hS : GOK sn SG) : jN (fun v : Int32 => Value.int v) 77 29 [] N G sn SG := by
  refine ⟨nI (wys G N), N, G, sn, SG, fun h x z c r c2 r2 hK => ?_, fun h m t t2 th z hM => ⟨th, md_RR hM (sp_mways hM.2.2.1 hG.1)⟩⟩
  have e := sp_cways (z := z) hK
  rw [ends_wys hG] at e
  exact co_RR hK Fr.refl e
theorem jo_isWay (hG : GOK N G) (hS : GOK sn SG) : jO (fun v : Bool => Value.int (bI v)) (fun _ : Bool => True) 79 80 [.int p0, .int p1] [(2, 1)] N G sn SG := by
  by_cases hp : pl N p0 = false ∨ pl N p1 = false
  · exact Or.inr ⟨2, 1, by decide, fun h x z c r c2 r2 hK => co_RX hK Fr.refl (sp_cisWay_no hK hp), fun h m t t2 th z hM => ⟨false, md_RR hM (sp_misWay_no hG.1 hp)⟩⟩
  · obtain ⟨h1, h2⟩ := pl_or hp
    obtain ⟨p, hpn, rfl⟩ := pl_ex hG.1 h1
    obtain ⟨q, hqn, rfl⟩ := pl_ex hG.1 h2
    exact Or.inl ⟨G p q, N, G, sn, SG, trivial, fun h x z c r c2 r2 hK => co_RR hK Fr.refl (sp_cisWay hK hpn hqn), fun h m t t2 th z hM => md_RR hM (sp_misWay hM.2.2.1 hG hpn hqn)⟩
theorem jo_degree (hG : GOK N G) (hS : GOK sn SG) : jO (fun v : Int32 => Value.int v) (fun _ : Int32 => True) 82 83 [.int p0] [(2, 1)] N G sn SG := by
  cases hp : pl N p0
  · exact Or.inr ⟨2, 1, by decide, fun h x z c r c2 r2 hK => co_RX hK Fr.refl (sp_cdegree_no hK hp), fun h m t t2 th z hM => ⟨0, md_RR hM (sp_mdegree_no hG.1 hp)⟩⟩
  · obtain ⟨p, hpn, rfl⟩ := pl_ex hG.1 hp
    refine Or.inl ⟨nI (cnt (G p) N), N, G, sn, SG, trivial, fun h x z c r c2 r2 hK => ?_, fun h m t t2 th z hM => md_RR hM (sp_mdegree hM.2.2.1 hG.1 hpn)⟩
    have e := sp_cdegree (z := z) hK hpn
    rw [cnt9 hG] at e
    exact co_RR hK Fr.refl e
theorem jo_next (hG : GOK N G) (hS : GOK sn SG) : jO (fun v : Int32 => Value.int v) (fun _ : Int32 => True) 85 87 [.int p0, .int p1] [(2, 1)] N G sn SG := by
  by_cases hp : pl N p0 = false ∨ ¬ 0 ≤ p1
  · exact Or.inr ⟨2, 1, by decide, fun h x z c r c2 r2 hK => co_RX hK Fr.refl (sp_cnext_no hK hp), fun h m t t2 th z hM => ⟨0, md_RR hM (sp_mnext_no hG.1 hp)⟩⟩
  · have h1 : pl N p0 = true := by
      cases h2 : pl N p0
      · exact absurd (Or.inl h2) hp
      · rfl
    have h2 : 0 ≤ p1 := Decidable.not_not.mp fun w => hp (Or.inr w)
    obtain ⟨p, hpn, rfl⟩ := pl_ex hG.1 h1
    obtain ⟨f, hf, rfl⟩ := nI_of (Int32.not_lt.mpr h2)
    exact Or.inl ⟨_, N, G, sn, SG, trivial, fun h x z c r c2 r2 hK => co_RR hK Fr.refl (sp_cnext hK hpn hf), fun h m t t2 th z hM => md_RR hM (sp_mnext hM.2.2.1 hG.1 hpn hf)⟩
theorem prev_ix {f : Int32} (hN : 0 < N) (hN9 : N ≤ 9) (hf : (-1 : Int32) ≤ f) : ∃ k, k ≤ N ∧ (if f ≤ nI N - 1 then f else nI N - 1) = nI k + (-1) ∧ ∀ q, q < N → (f < nI q ↔ k ≤ q) := by
  obtain ⟨M, rfl⟩ : ∃ M, N = M + 1 := ⟨N - 1, by omega⟩
  rw [nI_pred]
  by_cases h0 : f < 0
  · have e : f = -1 := by
      rw [Int32.le_iff_toInt_le] at hf
      rw [Int32.lt_iff_toInt_lt] at h0
      apply Int32.toInt_inj.mp
      rw [show (-1 : Int32).toInt = -1 from rfl] at hf ⊢
      rw [show (0 : Int32).toInt = 0 from rfl] at h0
      omega
    subst e
    refine ⟨0, by omega, ?_, fun q hq => ⟨fun _ => Nat.zero_le _, fun _ => ?_⟩⟩
    · rw [if_pos]
      · rfl
      · rw [Int32.le_iff_toInt_le, nI_toInt (by omega), show (-1 : Int32).toInt = -1 from rfl]
        omega
    · rw [Int32.lt_iff_toInt_lt, nI_toInt (by omega), show (-1 : Int32).toInt = -1 from rfl]
      omega
  · obtain ⟨j, hj, rfl⟩ := nI_of h0
    refine ⟨min j M + 1, by omega, ?_, fun q hq => ?_⟩
    · rw [nI_pm]
      by_cases h1 : j ≤ M
      · rw [if_pos ((nI_leI hj (by omega)).mpr h1), Nat.min_eq_left h1]
      · rw [if_neg (fun w => h1 ((nI_leI hj (by omega)).mp w)), Nat.min_eq_right (by omega)]
    · rw [nI_ltI hj (by omega)]
      omega
theorem jo_previous (hG : GOK N G) (hS : GOK sn SG) : jO (fun v : Int32 => Value.int v) (fun _ : Int32 => True) 89 90 [.int p0, .int p1] [(2, 1)] N G sn SG := by
  by_cases hp : pl N p0 = false ∨ ¬ (-1 : Int32) ≤ p1
  · exact Or.inr ⟨2, 1, by decide, fun h x z c r c2 r2 hK => co_RX hK Fr.refl (sp_cprev_no hK hp), fun h m t t2 th z hM => ⟨0, md_RR hM (sp_mprev_no hG.1 hp)⟩⟩
  · have h1 : pl N p0 = true := by
      cases h2 : pl N p0
      · exact absurd (Or.inl h2) hp
      · rfl
    have h2 : (-1 : Int32) ≤ p1 := Decidable.not_not.mp fun w => hp (Or.inr w)
    obtain ⟨p, hpn, rfl⟩ := pl_ex hG.1 h1
    obtain ⟨k, k1, k2, k3⟩ := prev_ix (show 0 < N by omega) hG.1 h2
    exact Or.inl ⟨_, N, G, sn, SG, trivial, fun h x z c r c2 r2 hK => co_RR hK Fr.refl (sp_cprev hK hpn h2 k2 k1), fun h m t t2 th z hM => md_RR hM (sp_mprev hM.2.2.1 hG.1 hpn h2 k1 k3)⟩
theorem FP_dc : ∀ n, n < 10 → n ≠ 0 → ∀ w, w < 41 → Op.cmpValue (FP.dcmp (FP.ddiv (FP.i2d (nI 2 * nI w)) (FP.i2d (nI n))) (FP.ddiv (FP.i2d (nI 2 * nI w)) (FP.i2d (nI n)))) .l = 0 := by decide +kernel
theorem jo_mean (hG : GOK N G) (hS : GOK sn SG) : jO (fun v : UInt64 => Value.double v) (fun v : UInt64 => Op.cmpValue (FP.dcmp v v) .l = 0) 92 93 [] [(1, 1)] N G sn SG := by
  have hn := hG.1
  by_cases h0 : N = 0
  · exact Or.inr ⟨1, 1, by decide, fun h x z c r c2 r2 hK => co_RX hK Fr.refl (sp_cmean_no hK h0), fun h m t t2 th z hM => ⟨FP.dconst0, md_RR hM (sp_mmean_no h0)⟩⟩
  · refine Or.inl ⟨_, N, G, sn, SG, FP_dc N (by omega) h0 (wys G N) (wys_lt hG), fun h x z c r c2 r2 hK => ?_, fun h m t t2 th z hM => md_RR hM (sp_mmean hM.2.2.1 hG h0)⟩
    have e := sp_cmean (z := z) hK h0
    rw [ends_wys hG] at e
    exact co_RR hK Fr.refl e
end Jo
