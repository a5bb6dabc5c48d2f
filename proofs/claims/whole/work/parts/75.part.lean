/-! partings: the class's sets and the reference's row; colourings by like colours -/
theorem mayk_iff {G : Nat → Nat → Bool} {p k : Nat} {S : Nat → Nat} (q : Nat) : mayk G p S k q = true ↔ ∀ i, i < q → ¬ (S i = k ∧ G p i = true) := by
  induction q with
  | zero => exact ⟨fun _ i hi => absurd hi (Nat.not_lt_zero i), fun _ => rfl⟩
  | succ q ih =>
    unfold mayk
    rw [Bool.and_eq_true, ih]
    constructor
    · rintro ⟨h1, h2⟩ i hi
      by_cases e : i = q
      · subst e
        rintro ⟨h3, h4⟩
        simp [h3, h4] at h2
      · exact h1 i (by omega)
    · intro h1
      refine ⟨fun i hi => h1 i (by omega), ?_⟩
      have := h1 q (by omega)
      by_cases h3 : S q = k
      · have h4 : G p q = false := by
          cases h5 : G p q
          · rfl
          · exact absurd ⟨h3, h5⟩ this
        simp [h4]
      · simp [h3]
/-- sets as masks, and as a row -/
def rlS (p u : Nat) (P S : Nat → Nat) : Prop := (∀ s, s < u → ∀ q, (P s).testBit q = (decide (q < p) && decide (S q = s))) ∧ ∀ q, q < p → S q < u
section Part2
variable {n p u : Nat} {G : Nat → Nat → Bool} {P S : Nat → Nat}
theorem rlS_may (hG : GOK n G) (hr : rlS p u P S) {s : Nat} (hs : s < u) : (P s &&& rowsN G p = 0) ↔ mayk G p S s p = true := by
  rw [mayk_iff]
  constructor
  · intro h i hi ⟨h1, h2⟩
    have h3 := congrArg (fun y => Nat.testBit y i) h
    rw [Nat.testBit_and, hr.1 s hs, rows_bit hG, Nat.zero_testBit, h1, h2] at h3
    simp [hi] at h3
  · intro h
    apply Nat.eq_of_testBit_eq
    intro i
    rw [Nat.testBit_and, hr.1 s hs, rows_bit hG, Nat.zero_testBit]
    by_cases hi : i < p
    · have := h i hi
      by_cases h1 : S i = s
      · cases h2 : G p i
        · simp
        · exact absurd ⟨h1, h2⟩ this
      · simp [h1]
    · simp [hi]
theorem rlS_old (hr : rlS p u P S) {s : Nat} (hs : s < u) : rlS (p + 1) u (updN P s (P s ||| 2 ^ p)) (updN S p s) := by
  refine ⟨fun t ht q => ?_, fun q hq => ?_⟩
  · unfold updN
    by_cases h1 : t = s
    · rw [if_pos h1, Nat.testBit_or, hr.1 s hs, Nat.testBit_two_pow, h1]
      by_cases h2 : q = p
      · subst h2
        simp
      · have h3 : ¬ p = q := fun e => h2 e.symm
        by_cases h4 : q < p
        · simp [h2, h3, h4, Nat.lt_succ_of_lt h4]
        · have : ¬ q < p + 1 := by omega
          simp [h2, h3, h4, this]
    · rw [if_neg h1, hr.1 t ht]
      by_cases h2 : q = p
      · subst h2
        have : ¬ s = t := fun e => h1 e.symm
        simp [this]
      · by_cases h4 : q < p
        · simp [h2, h4, Nat.lt_succ_of_lt h4]
        · have : ¬ q < p + 1 := by omega
          simp [h4, this]
  · unfold updN
    split
    · exact hs
    · exact hr.2 q (by omega)
theorem rlS_new (hr : rlS p u P S) : rlS (p + 1) (u + 1) (updN P u (2 ^ p)) (updN S p u) := by
  refine ⟨fun t ht q => ?_, fun q hq => ?_⟩
  · unfold updN
    by_cases h1 : t = u
    · rw [if_pos h1, Nat.testBit_two_pow, h1]
      by_cases h2 : q = p
      · subst h2
        simp
      · have h3 : ¬ p = q := fun e => h2 e.symm
        by_cases h4 : q < p
        · have := hr.2 q h4
          have h5 : ¬ S q = u := by omega
          simp [h2, h3, h5]
        · have : ¬ q < p + 1 := by omega
          simp [h3, this]
    · rw [if_neg h1, hr.1 t (by omega)]
      by_cases h2 : q = p
      · subst h2
        have : ¬ u = t := fun e => h1 e.symm
        simp [this]
      · by_cases h4 : q < p
        · simp [h2, h4, Nat.lt_succ_of_lt h4]
        · have : ¬ q < p + 1 := by omega
          simp [h4, this]
  · unfold updN
    split
    · exact Nat.lt_succ_self u
    · have := hr.2 q (by omega)
      omega
theorem prt_prm (hG : GOK n G) (j : Nat) : ∀ (p u : Nat) (P S : Nat → Nat), rlS p u P S → prt G j p u P = prm G j p u S := by
  induction j with
  | zero => intro p u P S _; rfl
  | succ j ih =>
    intro p u P S hr
    funext m
    show sumV (fun s m => if P s &&& rowsN G p = 0 then prt G j (p + 1) u (updN P s (P s ||| 2 ^ p)) m else 0) u m + prt G j (p + 1) (u + 1) (updN P u (2 ^ p)) m = sumV (fun k m => if mayk G p S k p = true then prm G j (p + 1) (if k = u then u + 1 else u) (updN S p k) m else 0) u m + (if mayk G p S u p = true then prm G j (p + 1) (if u = u then u + 1 else u) (updN S p u) m else 0)
    rw [mayk_new p hr.2, if_pos rfl, if_pos rfl, ih _ _ _ _ (rlS_new hr)]
    congr 1
    refine sumV_congr _ _ fun s hs => ?_
    rw [if_neg (show ¬ s = u by omega)]
    by_cases hm : mayk G p S s p = true
    · rw [if_pos hm, if_pos ((rlS_may hG hr hs).mpr hm), ih _ _ _ _ (rlS_old hr hs)]
    · rw [if_neg hm, if_neg (fun w => hm ((rlS_may hG hr hs).mp w))]
theorem rlS_0 : rlS 0 0 (fun _ => 0) (fun _ => 0) := ⟨fun s hs => absurd hs (Nat.not_lt_zero s), fun q hq => absurd hq (Nat.not_lt_zero q)⟩
theorem ptn_ptm (hG : GOK n G) : ptn n G = ptm G n := prt_prm hG n 0 0 _ _ rlS_0
theorem tr_inv {a b c : Nat} : tr a b (tr a b c) = c := by
  unfold tr
  by_cases h1 : c = a
  · subst h1
    by_cases h2 : b = c
    · simp [h2]
    · simp [h2]
  · by_cases h2 : c = b
    · subst h2
      simp [h1]
    · simp [h1, h2]
theorem tr_injc {a b c d : Nat} (h : tr a b c = tr a b d) : c = d := by rw [← tr_inv (a := a) (b := b) (c := c), h, tr_inv]
theorem tr_fix {a b c : Nat} (h1 : c ≠ a) (h2 : c ≠ b) : tr a b c = c := by
  unfold tr
  rw [if_neg h1, if_neg h2]
theorem sumI_cut {f : Nat → Int32} {a : Nat} (k : Nat) (ha : a < k) : sumI f k = sumI (fun c => if c = a then 0 else f c) k + f a := by
  induction k with
  | zero => omega
  | succ k ih =>
    show sumI f k + f k = sumI (fun c => if c = a then 0 else f c) k + (if k = a then 0 else f k) + f a
    by_cases h : k = a
    · subst h
      rw [if_pos rfl, Int32.add_zero]
      congr 1
      exact sumI_congr k fun c hc => by rw [if_neg (by omega)]
    · rw [if_neg h, ih (by omega), Int32.add_assoc, Int32.add_comm (f a), ← Int32.add_assoc]
theorem sumI_tr {f : Nat → Int32} {a b k : Nat} (ha : a < k) (hb : b < k) : sumI (fun c => f (tr a b c)) k = sumI f k := by
  by_cases hab : a = b
  · subst hab
    refine sumI_congr k fun c _ => ?_
    by_cases h : c = a
    · rw [h]
      unfold tr
      simp
    · rw [tr_fix h h]
  · rw [sumI_cut (f := f) k ha, sumI_cut (f := fun c => if c = a then 0 else f c) k hb, sumI_cut (f := fun c => f (tr a b c)) k ha, sumI_cut (f := fun c => if c = a then 0 else f (tr a b c)) k hb]
    rw [if_neg (Ne.symm hab), if_neg (Ne.symm hab)]
    rw [show tr a b a = b by unfold tr; simp, show tr a b b = a by unfold tr; simp]
    rw [Int32.add_assoc, Int32.add_comm (f a), ← Int32.add_assoc]
    congr 2
    refine sumI_congr k fun c _ => ?_
    by_cases h1 : c = b
    · rw [if_pos h1, if_pos h1]
    · rw [if_neg h1, if_neg h1]
      by_cases h2 : c = a
      · rw [if_pos h2, if_pos h2]
      · rw [if_neg h2, if_neg h2, tr_fix h2 h1]
theorem pam_tr {k a b : Nat} (ha : a < k) (hb : b < k) (j : Nat) : ∀ (p : Nat) (S : Nat → Nat), pam G k j p (fun i => tr a b (S i)) = pam G k j p S := by
  induction j with
  | zero => intro p S; rfl
  | succ j ih =>
    intro p S
    show sumI (fun c => if mayk G p (fun i => tr a b (S i)) c p = true then pam G k j (p + 1) (updN (fun i => tr a b (S i)) p c) else 0) k = sumI (fun c => if mayk G p S c p = true then pam G k j (p + 1) (updN S p c) else 0) k
    rw [← sumI_tr (f := fun c => if mayk G p (fun i => tr a b (S i)) c p = true then pam G k j (p + 1) (updN (fun i => tr a b (S i)) p c) else 0) ha hb]
    refine sumI_congr k fun c _ => ?_
    have e1 : mayk G p (fun i => tr a b (S i)) (tr a b c) p = mayk G p S c p := by
      rw [Bool.eq_iff_iff, mayk_iff, mayk_iff]
      constructor
      · intro h i hi ⟨h1, h2⟩
        exact h i hi ⟨by rw [h1], h2⟩
      · intro h i hi ⟨h1, h2⟩
        exact h i hi ⟨tr_injc h1, h2⟩
    have e2 : updN (fun i => tr a b (S i)) p (tr a b c) = fun i => tr a b (updN S p c i) := by
      funext i
      unfold updN
      split <;> rfl
    show (if mayk G p (fun i => tr a b (S i)) (tr a b c) p = true then pam G k j (p + 1) (updN (fun i => tr a b (S i)) p (tr a b c)) else 0) = _
    rw [e1, e2, ih]
/-- the sum from u on of equal numbers -/
theorem sumI_split {f : Nat → Int32} {u : Nat} {x : Int32} (m : Nat) (h : ∀ c, u ≤ c → c < u + m → f c = x) : sumI f (u + m) = sumI f u + nI m * x := by
  induction m with
  | zero =>
    rw [Nat.add_zero, nI_0, Int32.zero_mul, Int32.add_zero]
  | succ m ih =>
    show sumI f (u + m) + f (u + m) = _
    rw [ih fun c h1 h2 => h c h1 (by omega), h (u + m) (by omega) (by omega), ← nI_1, Int32.add_mul, Int32.one_mul, Int32.add_assoc]
theorem pnt_pam (hG : GOK n G) {k : Nat} (hk : k ≤ 4) (j : Nat) : ∀ (p u : Nat) (P S : Nat → Nat), rlS p u P S → u ≤ k → pnt G (nI k) j p u P = pam G k j p S := by
  induction j with
  | zero => intro p u P S _ _; rfl
  | succ j ih =>
    intro p u P S hr hu
    show sumI (fun c => if P c &&& rowsN G p = 0 then pnt G (nI k) j (p + 1) u (updN P c (P c ||| 2 ^ p)) else 0) u + (if nI u < nI k ∧ u < 4 then (nI k - nI u) * pnt G (nI k) j (p + 1) (u + 1) (updN P u (2 ^ p)) else 0) = sumI (fun c => if mayk G p S c p = true then pam G k j (p + 1) (updN S p c) else 0) k
    have e1 : sumI (fun c => if P c &&& rowsN G p = 0 then pnt G (nI k) j (p + 1) u (updN P c (P c ||| 2 ^ p)) else 0) u = sumI (fun c => if mayk G p S c p = true then pam G k j (p + 1) (updN S p c) else 0) u := by
      refine sumI_congr u fun s hs => ?_
      by_cases hm : mayk G p S s p = true
      · rw [if_pos hm, if_pos ((rlS_may hG hr hs).mpr hm), ih _ _ _ _ (rlS_old hr hs) hu]
      · rw [if_neg hm, if_neg (fun w => hm ((rlS_may hG hr hs).mp w))]
    rw [e1]
    by_cases hlt : u < k
    · rw [if_pos ⟨nI_lt hlt (by omega), by omega⟩, pk_sub (by omega), ih _ _ _ _ (rlS_new hr) (by omega)]
      have e2 := sumI_split (f := fun c => if mayk G p S c p = true then pam G k j (p + 1) (updN S p c) else 0) (u := u) (x := pam G k j (p + 1) (updN S p u)) (k - u) fun c h1 h2 => by
        have hm : mayk G p S c p = true := by
          rw [mayk_iff]
          intro i hi ⟨h3, _⟩
          have := hr.2 i hi
          omega
        rw [if_pos hm, ← pam_tr (a := u) (b := c) hlt (by omega) j (p + 1) (updN S p u)]
        refine pam_congr j (p + 1) _ _ fun i hi => ?_
        unfold updN
        by_cases h3 : i = p
        · rw [if_pos h3, if_pos h3]
          unfold tr
          rw [if_pos rfl]
        · have := hr.2 i (by omega)
          rw [if_neg h3, if_neg h3, tr_fix (by omega) (by omega)]
      rw [show u + (k - u) = k by omega] at e2
      exact e2.symm
    · have e3 : u = k := by omega
      rw [if_neg (fun w => hlt ((nI_ltI (by omega) (by omega)).mp w.1)), Int32.add_zero, e3]
theorem pnt_pnm (hG : GOK n G) {k : Nat} (hk : k ≤ 4) : pnt G (nI k) n 0 0 (fun _ => 0) = pnm n G k := pnt_pam hG hk n 0 0 _ _ rlS_0 (Nat.zero_le k)
end Part2
