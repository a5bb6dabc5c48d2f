/-! isTrue: both sides test the same -/
section IsT
variable {n : Nat} {G : Nat → Nat → Bool}
theorem alF_congr {f g : Nat → Bool} (k : Nat) (h : ∀ i, i < k → f i = g i) : alF f k = alF g k := by
  induction k with
  | zero => rfl
  | succ k ih =>
    show (alF f k && f k) = (alF g k && g k)
    rw [ih fun i hi => h i (by omega), h k (by omega)]
theorem at_e {G : Nat → Nat → Bool} {n : Nat} (hG : GOK n G) (k : Int64) : atF n G k = atM n G k := by
  unfold atF atM
  rw [mlt_cof hG]
theorem neg_to {x : Int64} (h : x.toInt.natAbs ≤ 2 ^ 62) : (-x).toInt = -x.toInt := by
  have e : x = Int64.ofInt x.toInt := by
    apply Int64.toInt_inj.mp
    rw [oI_to (by omega) (by omega)]
  conv => lhs; rw [e]
  rw [← oI_neg, oI_to (by omega) (by omega)]
theorem lc_e {x : Int64} : (lcF x 0 = 0 ↔ x.toInt = 0) ∧ (lcF x 0 = 1 ↔ 0 < x.toInt) ∧ (lcF x 0 = -1 ↔ x.toInt < 0) := by
  have h1 : (0 : Int64) ≤ x ↔ 0 ≤ x.toInt := by rw [Int64.le_iff_toInt_le]; rfl
  have h2 : x = 0 ↔ x.toInt = 0 := by rw [← Int64.toInt_inj]; rfl
  unfold lcF
  by_cases a : (0 : Int64) ≤ x
  · have a' := h1.mp a
    rw [if_pos a]
    by_cases b : x = 0
    · have b' := h2.mp b
      rw [if_pos b]
      refine ⟨⟨fun _ => b', fun _ => rfl⟩, ⟨fun w => absurd w (by decide), fun w => by omega⟩, ⟨fun w => absurd w (by decide), fun w => by omega⟩⟩
    · have b' : ¬ x.toInt = 0 := fun w => b (h2.mpr w)
      rw [if_neg b]
      refine ⟨⟨fun w => absurd w (by decide), fun w => absurd w b'⟩, ⟨fun _ => by omega, fun _ => rfl⟩, ⟨fun w => absurd w (by decide), fun w => by omega⟩⟩
  · have a' : ¬ 0 ≤ x.toInt := fun w => a (h1.mpr w)
    rw [if_neg a]
    refine ⟨⟨fun w => absurd w (by decide), fun w => by omega⟩, ⟨fun w => absurd w (by decide), fun w => by omega⟩, ⟨fun _ => by omega, fun _ => rfl⟩⟩
theorem chI_e {F : Nat → Int64} {pc i : Nat} (h : (F i).toInt.natAbs ≤ 2 ^ 62) : chI F n pc i = amI F n pc i := by
  obtain ⟨e0, e1, e2⟩ := lc_e (x := F i)
  have e3 := neg_to h
  have p1 : ∀ y : Int64, 0 < y ↔ 0 < y.toInt := fun y => by rw [Int64.lt_iff_toInt_lt]; rfl
  have p2 : ∀ y : Int64, y = 0 ↔ y.toInt = 0 := fun y => by rw [← Int64.toInt_inj]; rfl
  unfold chI amI
  by_cases hp : pc ≤ i
  · rw [if_pos hp, if_neg (show ¬ i < pc by omega), decide_eq_decide]
    by_cases hm : (n - i) % 2 = 0
    · rw [if_pos hm, if_pos hm, e1, p1]
    · rw [if_neg hm, if_neg hm, e2, p1, e3]
      omega
  · rw [if_neg hp, if_pos (show i < pc by omega), decide_eq_decide, e0]
    by_cases hm : (n - i) % 2 = 0
    · rw [if_pos hm, p2]
    · rw [if_neg hm, p2, e3]
      omega
theorem chF_e (hG : GOK n G) {w pc : Nat} : chF (cofM G n) n w pc = amF (cofM G n) n w pc := by
  unfold chF amF
  rw [alF_congr (n + 1) fun i _ => chI_e (by rw [cof_to hG.1]; exact cI_le hG.1 i)]
theorem cnF_e (hG : GOK n G) : alF (cnF n G) 4 = alF (cnM n G) 4 := alF_congr 4 fun i hi => by
  unfold cnF cnM
  rw [at_e hG, pnt_pnm hG (by omega)]
theorem mrg_cut {a b : Nat} : gDel b (gMrg a b n G) = gDel b (gMrg a b n (gCut a b G)) := by
  funext p q
  have h1 : ∀ r, sk b r ≠ b := by
    intro r
    unfold sk
    split <;> omega
  unfold gDel
  have hp := h1 p
  have hq := h1 q
  generalize sk b p = x at hp ⊢
  generalize sk b q = y at hq ⊢
  unfold gMrg gCut
  have c1 : (decide (x = a ∧ y = b) || decide (x = b ∧ y = a)) = false := by
    rw [decide_eq_false (fun w => hq w.2), decide_eq_false (fun w => hp w.1)]
    rfl
  have c2 : (decide (x = a ∧ y ≠ a ∧ y < n) && G b y) = (decide (x = a ∧ y ≠ a ∧ y < n) && (G b y && !(decide (b = a ∧ y = b) || decide (b = b ∧ y = a)))) := by
    by_cases h : x = a ∧ y ≠ a ∧ y < n
    · rw [decide_eq_false (show ¬ (b = a ∧ y = b) from fun w => hq w.2), decide_eq_false (show ¬ (b = b ∧ y = a) from fun w => h.2.1 w.2)]
      simp
    · rw [decide_eq_false h, Bool.false_and, Bool.false_and]
  have c3 : (decide (y = a ∧ x ≠ a ∧ x < n) && G b x) = (decide (y = a ∧ x ≠ a ∧ x < n) && (G b x && !(decide (b = a ∧ x = b) || decide (b = b ∧ x = a)))) := by
    by_cases h : y = a ∧ x ≠ a ∧ x < n
    · rw [decide_eq_false (show ¬ (b = a ∧ x = b) from fun w => hp w.2), decide_eq_false (show ¬ (b = b ∧ x = a) from fun w => h.2.1 w.2)]
      simp
    · rw [decide_eq_false h, Bool.false_and, Bool.false_and]
  rw [← c2, ← c3, c1, Bool.not_false, Bool.and_true]
theorem wy_e (hG : GOK n G) {a b k : Nat} (ha : a < n) (hb : b < n) : wyT n G a b k = wtM n G a b k := by
  unfold wyT wtM
  rw [← mrg_cut, at_e hG, at_e (gCut_ok hG), at_e (gDel_ok (gMrg_ok hG ha) hb)]
theorem fwB_e (hG : GOK n G) {a : Nat} (ha : a < n) {e e' : Bool} (he : e = e') (i : Nat) : fwB n G a e i = fmB n G a e' i := by
  induction i with
  | zero => exact he
  | succ i ih =>
    show (if G a (n - (i + 1)) then alF (wyT n G a (n - (i + 1))) 10 else fwB n G a e i) = (if G a (n - (i + 1)) then alF (wtM n G a (n - (i + 1))) 10 else fmB n G a e' i)
    rw [ih, alF_congr 10 fun k _ => wy_e hG ha (show n - (i + 1) < n by omega)]
theorem fwA_e (hG : GOK n G) (j : Nat) (hj : j ≤ n) : fwA n G j = fmA n G j := by
  induction j with
  | zero => rfl
  | succ j ih =>
    show fwB n G (n - (j + 1)) (fwA n G j) j = fmB n G (n - (j + 1)) (fmA n G j) j
    exact fwB_e hG (by omega) (ih (by omega)) j
theorem fh_e (hG : GOK n G) (hc : alF (cnM n G) 4 = true) : fhF n G = fhM n G := by
  have h2 : cnM n G 2 = true := by
    have e : alF (cnM n G) 4 = (((((true && cnM n G 0) && cnM n G 1) && cnM n G 2) && cnM n G 3)) := rfl
    rw [e] at hc
    simp only [Bool.and_eq_true] at hc
    exact hc.1.2
  unfold cnM at h2
  rw [decide_eq_true_eq] at h2
  have ha : 0 < atF n G 2 ↔ ¬ pnm n G 2 ≤ 0 := by
    rw [at_e hG, show (2 : Int64) = (nI 2).toInt64 from rfl, h2, Int64.lt_iff_toInt_lt, Int32.toInt_toInt64, Int32.le_iff_toInt_le, show (0 : Int64).toInt = 0 from rfl, show (0 : Int32).toInt = 0 from rfl]
    omega
  have ho : ohr G n n = !decide ((norF n G n).1 &&& (norF n G n).2 = 0) := by
    rw [Bool.eq_iff_iff, two_ohr hG, Bool.not_eq_true', decide_eq_false_iff_not, two_nor hG]
  unfold fhF fhM
  rw [ptn_ptm hG, apart_eq hG, together_eq hG, ho, show decide (0 < atF n G 2) = decide (¬ pnm n G 2 ≤ 0) from decide_eq_decide.mpr ha]
  generalize decide (¬ pnm n G 2 ≤ 0) = x
  generalize decide ((norF n G n).1 &&& (norF n G n).2 = 0) = y
  rw [show decide (x = y) = !decide (x = !y) by cases x <;> cases y <;> rfl]
theorem it_e (hG : GOK n G) {d d' : Nat} (hd : wys G n ≤ 10 → d = d') : itC n G d = itM n G (pcs n G n) d' := by
  have hdh : dhF n G d = dhM n G d' := by
    unfold dhF dhM
    rw [ends_wys hG, at_e hG]
    by_cases h : wys G n ≤ 10
    · rw [hd h]
    · rw [decide_eq_true (show 10 < wys G n by omega), Bool.true_or, Bool.true_or]
  unfold itC itM
  rw [mlt_cof hG, chF_e hG, ends_wys hG, cnF_e hG, hdh, fwA_e hG n (Nat.le_refl _)]
  cases hc : alF (cnM n G) 4
  · rw [Bool.false_and, Bool.false_and]
  · rw [fh_e hG hc]
end IsT
section JoI
variable {N sn : Nat} {G SG : Nat → Nat → Bool}
theorem jo_isTrue (hG : GOK N G) (hS : GOK sn SG) : jN (fun v : Bool => Value.int (bI v)) 197 206 [] N G sn SG := by
  refine ⟨itM N G (pcs N G N) (dl tr0 (mdL G N) (fun _ _ => false)), N, G, sn, SG, fun h x z c r c2 r2 hK => ?_, fun h m t t2 th z hM => ⟨th, ?_⟩⟩
  · have e := sp_cisTrue (z := z) hK (fun A B => trd_e hG A B)
    rw [it_e hG (d' := dl tr0 (mdL G N) (fun _ _ => false)) (fun h10 => (trd_e hG (fun _ => 0) (fun _ => 0)).symm.trans (trd_md hG _ _ h10))] at e
    refine Sp_le (by decide) (Sp_conseq ?_ e)
    rintro _ _ _ ⟨rfl, rfl, k, f⟩
    exact ⟨rfl, rfl, ⟨c, r, c2, r2, k⟩, f⟩
  · exact md_MR hM (sp_misTrue hM.2.2.1 hM.2.2.2 hG (fun R => pcs_pc hG R) (fun X hX => drF_e hG hX))
end JoI
