/-! the signs alternate: a way taken out, its ends drawn together -/
def Alt (n : Nat) (c : Nat → Int) : Prop := ∀ i, (n < i → c i = 0) ∧ (i ≤ n → ((n - i) % 2 = 0 → 0 ≤ c i) ∧ ((n - i) % 2 = 1 → c i ≤ 0))
theorem mayk_congr2 {g g' : Nat → Bool} {S : Nat → Nat} {k : Nat} (q : Nat) (h : ∀ i, i < q → g i = g' i) : mayk (fun _ => g) 0 S k q = mayk (fun _ => g') 0 S k q := by
  induction q with
  | zero => rfl
  | succ q ih =>
    unfold mayk
    rw [ih fun i hi => h i (by omega), h q (by omega)]
theorem cnt_plus {f : Nat → Bool} {b : Nat} (u : Nat) : cnt (fun k => f k || decide (b = k)) u = cnt f u + (if b < u ∧ f b = false then 1 else 0) := by
  induction u with
  | zero =>
    rw [if_neg (by omega)]
    rfl
  | succ u ih =>
    by_cases e : b = u
    · subst e
      rw [cnt_t (by simp), ih, if_neg (by omega)]
      cases h : f b
      · rw [cnt_f h, if_pos ⟨by omega, rfl⟩]
      · rw [cnt_t h, if_neg (by simp)]
    · have e1 : (if b < u + 1 ∧ f b = false then 1 else 0) = (if b < u ∧ f b = false then 1 else 0) := by
        by_cases h : b < u ∧ f b = false
        · rw [if_pos h, if_pos ⟨by omega, h.2⟩]
        · rw [if_neg h, if_neg (fun w => h ⟨by omega, w.2⟩)]
      rw [e1]
      cases h : f u
      · rw [cnt_f (by simp [h, e]), cnt_f h, ih]
      · rw [cnt_t (by simp [h]), cnt_t h, ih]
        omega
section Alt
variable {n m : Nat} {G : Nat → Nat → Bool}
/-- the last place's neighbours below m -/
def gLo (G : Nat → Nat → Bool) (n m : Nat) : Nat → Bool := fun q => decide (q < m) && G n q
/-- place m has ways to them too -/
def gNx (G : Nat → Nat → Bool) (n m : Nat) : Nat → Nat → Bool := fun a b => G a b || (decide (a = m) && gLo G n m b)
theorem mayk_lo (hm : m < n) (hg : G n m = true) {S : Nat → Nat} {k : Nat} (q : Nat) (hq : m < q) : mayk (fun _ => gLo G n (m + 1)) 0 S k q = (mayk (fun _ => gLo G n m) 0 S k q && !decide (S m = k)) := by
  rw [Bool.eq_iff_iff, Bool.and_eq_true, mayk_iff, mayk_iff]
  unfold gLo
  constructor
  · intro h
    refine ⟨fun i hi ⟨h1, h2⟩ => h i hi ⟨h1, ?_⟩, ?_⟩
    · rw [Bool.and_eq_true, decide_eq_true_eq] at h2 ⊢
      exact ⟨by omega, h2.2⟩
    · cases h3 : decide (S m = k)
      · rfl
      · exact absurd ⟨decide_eq_true_eq.mp h3, by rw [hg, decide_eq_true (Nat.lt_succ_self m)]; rfl⟩ (h m hq)
  · rintro ⟨h1, h2⟩ i hi ⟨h3, h4⟩
    rw [Bool.and_eq_true, decide_eq_true_eq] at h4
    by_cases e : i = m
    · rw [e] at h3
      rw [h3] at h2
      simp at h2
    · exact h1 i hi ⟨h3, by rw [Bool.and_eq_true, decide_eq_true_eq]; exact ⟨by omega, h4.2⟩⟩
theorem hit_s (hm : m < n) (hg : G n m = true) {S : Nat → Nat} {u : Nat} (hS : S m < u) : (hit (gLo G n (m + 1)) n S u : Int) = hit (gLo G n m) n S u + (if mayk (fun _ => gLo G n m) 0 S (S m) n = true then 1 else 0) := by
  unfold hit
  rw [cnt_congr (g := fun k => !mayk (fun _ => gLo G n m) 0 S k n || decide (S m = k)) fun k _ => by rw [mayk_lo hm hg n hm]; simp, cnt_plus]
  cases h : mayk (fun _ => gLo G n m) 0 S (S m) n
  · rw [if_neg (by simp), if_neg (by decide)]
    rfl
  · rw [if_pos ⟨hS, rfl⟩, if_pos rfl]
    rfl
def cnd (G : Nat → Nat → Bool) (n m p : Nat) (S : Nat → Nat) : Bool := !decide (m < p) || mayk (fun _ => gLo G n m) 0 S (S m) p
theorem cnd_s {p k : Nat} {S : Nat → Nat} : (mayk G p S k p = true ∧ cnd G n m (p + 1) (updN S p k) = true) ↔ (cnd G n m p S = true ∧ mayk (gNx G n m) p S k p = true) := by
  have lo : ∀ i, gLo G n m i = true → i < m := by
    intro i h
    unfold gLo at h
    rw [Bool.and_eq_true, decide_eq_true_eq] at h
    exact h.1
  have un : ∀ i, i < p → updN S p k i = S i := by
    intro i hi
    unfold updN
    rw [if_neg (by omega)]
  have up : updN S p k p = k := if_pos rfl
  unfold cnd
  rcases Nat.lt_trichotomy p m with h | h | h
  · rw [decide_eq_false (show ¬ m < p + 1 by omega), decide_eq_false (show ¬ m < p by omega), mayk_iff, mayk_iff]
    simp only [Bool.not_false, Bool.true_or, and_true, true_and]
    unfold gNx
    rw [decide_eq_false (show ¬ p = m by omega)]
    simp only [Bool.false_and, Bool.or_false]
  · subst h
    rw [decide_eq_true (Nat.lt_succ_self p), decide_eq_false (Nat.lt_irrefl p), mayk_iff, mayk_iff, up]
    simp only [Bool.not_true, Bool.false_or, Bool.not_false, Bool.true_or, true_and]
    rw [mayk_iff]
    unfold gNx
    rw [decide_eq_true rfl]
    simp only [Bool.true_and, Bool.or_eq_true]
    constructor
    · rintro ⟨h1, h2⟩ i hi ⟨h3, h4 | h4⟩
      · exact h1 i hi ⟨h3, h4⟩
      · exact h2 i (by omega) ⟨by rw [un i hi]; exact h3, h4⟩
    · intro h1
      refine ⟨fun i hi ⟨h3, h4⟩ => h1 i hi ⟨h3, Or.inl h4⟩, fun i hi ⟨h3, h4⟩ => ?_⟩
      have hlt := lo i h4
      exact h1 i hlt ⟨by rw [un i hlt] at h3; exact h3, Or.inr h4⟩
  · rw [decide_eq_true (show m < p + 1 by omega), decide_eq_true h, un m h, mayk_iff, mayk_iff]
    simp only [Bool.not_true, Bool.false_or]
    rw [mayk_iff, mayk_iff]
    unfold gNx
    rw [decide_eq_false (show ¬ p = m by omega)]
    simp only [Bool.false_and, Bool.or_false]
    constructor
    · rintro ⟨h1, h2⟩
      refine ⟨fun i hi ⟨h3, h4⟩ => h2 i (by omega) ⟨by rw [un i hi]; exact h3, h4⟩, h1⟩
    · rintro ⟨h1, h2⟩
      refine ⟨h2, fun i hi ⟨h3, h4⟩ => ?_⟩
      have hlt := lo i h4
      exact h1 i (by omega) ⟨by rw [un i (by omega)] at h3; exact h3, h4⟩
theorem ZF_cnd {F : Nat → (Nat → Nat) → Int} (hm : m < n) (j : Nat) : ∀ (p u : Nat) (S : Nat → Nat), p + j = n → ZF G (fun u S => if mayk (fun _ => gLo G n m) 0 S (S m) n = true then F u S else 0) j p u S = if cnd G n m p S = true then ZF (gNx G n m) F j p u S else 0 := by
  induction j with
  | zero =>
    intro p u S hp
    have e : p = n := by omega
    subst e
    show (if mayk (fun _ => gLo G p m) 0 S (S m) p = true then F u S else 0) = if cnd G p m p S = true then F u S else 0
    unfold cnd
    rw [decide_eq_true hm]
    rfl
  | succ j ih =>
    intro p u S hp
    show sumZ (fun k => if mayk G p S k p = true then ZF G (fun u S => if mayk (fun _ => gLo G n m) 0 S (S m) n = true then F u S else 0) j (p + 1) (if k = u then u + 1 else u) (updN S p k) else 0) (u + 1) = if cnd G n m p S = true then sumZ (fun k => if mayk (gNx G n m) p S k p = true then ZF (gNx G n m) F j (p + 1) (if k = u then u + 1 else u) (updN S p k) else 0) (u + 1) else 0
    have e : ∀ k, (if mayk G p S k p = true then ZF G (fun u S => if mayk (fun _ => gLo G n m) 0 S (S m) n = true then F u S else 0) j (p + 1) (if k = u then u + 1 else u) (updN S p k) else 0) = if cnd G n m p S = true then (if mayk (gNx G n m) p S k p = true then ZF (gNx G n m) F j (p + 1) (if k = u then u + 1 else u) (updN S p k) else 0) else 0 := by
      intro k
      rw [ih (p + 1) _ _ (by omega)]
      have c := cnd_s (G := G) (n := n) (m := m) (p := p) (k := k) (S := S)
      by_cases h1 : mayk G p S k p = true ∧ cnd G n m (p + 1) (updN S p k) = true
      · obtain ⟨h2, h3⟩ := c.mp h1
        rw [if_pos h1.1, if_pos h1.2, if_pos h2, if_pos h3]
      · have h2 : ¬ (cnd G n m p S = true ∧ mayk (gNx G n m) p S k p = true) := fun w => h1 (c.mpr w)
        have l : (if mayk G p S k p = true then (if cnd G n m (p + 1) (updN S p k) = true then ZF (gNx G n m) F j (p + 1) (if k = u then u + 1 else u) (updN S p k) else 0) else 0) = 0 := by
          by_cases h3 : mayk G p S k p = true
          · rw [if_pos h3, if_neg (fun w => h1 ⟨h3, w⟩)]
          · rw [if_neg h3]
        rw [l]
        by_cases h3 : cnd G n m p S = true
        · rw [if_pos h3, if_neg (fun w => h2 ⟨h3, w⟩)]
        · rw [if_neg h3]
    rw [sumZ_congr _ fun k _ => e k]
    by_cases h : cnd G n m p S = true
    · rw [if_pos h]
      exact sumZ_congr _ fun k _ => by rw [if_pos h]
    · rw [if_neg h, sumZ_congr (g := fun _ => 0) _ fun k _ => by rw [if_neg h], sumZ_0]
/-- the polynomial with the last place's ways to places below m alone -/
def eLo (n : Nat) (G : Nat → Nat → Bool) (m i : Nat) : Int := ZF G (fun u S => (if 0 < i then ffI u (i - 1) else 0) - (hit (gLo G n m) n S u : Int) * ffI u i) n 0 0 (fun _ => 0)
theorem hit_congr {g g' : Nat → Bool} {S : Nat → Nat} {u : Nat} (h : ∀ i, i < n → g i = g' i) : hit g n S u = hit g' n S u := by
  unfold hit
  exact cnt_congr fun k _ => by rw [mayk_congr2 n h]
theorem eLo_n (i : Nat) : cI (n + 1) G i = eLo n G n i := by
  rw [cI_last]
  refine ZF_congr n 0 0 _ (fun i hi => absurd hi (Nat.not_lt_zero i)) fun u S _ => ?_
  rw [hit_congr (g := G n) (g' := gLo G n n) fun i hi => by unfold gLo; rw [decide_eq_true hi]; rfl]
theorem eLo_0 (i : Nat) : eLo n G 0 i = if 0 < i then cI n G (i - 1) else 0 := by
  have h0 : ∀ (S : Nat → Nat) (u : Nat), hit (gLo G n 0) n S u = 0 := by
    intro S u
    unfold hit
    rw [cnt_congr (g := fun _ => false) fun k _ => ?_, cnt_0]
    have : mayk (fun _ => gLo G n 0) 0 S k n = true := by
      rw [mayk_iff]
      intro i _ ⟨_, h⟩
      unfold gLo at h
      simp at h
    rw [this]
    rfl
  unfold eLo
  by_cases hi : 0 < i
  · rw [if_pos hi, cI_ZF]
    refine ZF_congr n 0 0 _ (fun i hi => absurd hi (Nat.not_lt_zero i)) fun u S _ => ?_
    rw [h0, if_pos hi]
    omega
  · rw [if_neg hi]
    rw [ZF_congr (F' := fun _ _ => ((0 : Int) - 0)) n 0 0 _ (fun i hi => absurd hi (Nat.not_lt_zero i)) fun u S _ => by rw [h0, if_neg hi]; omega]
    have := ZF_sub (G := G) (F := fun _ _ => 0) (F' := fun _ _ => 0) n 0 0 (fun _ => 0)
    rw [this]
    omega
theorem eLo_f (hg : G n m = false) (i : Nat) : eLo n G (m + 1) i = eLo n G m i := by
  refine ZF_congr n 0 0 _ (fun i hi => absurd hi (Nat.not_lt_zero i)) fun u S _ => ?_
  rw [hit_congr (g := gLo G n (m + 1)) (g' := gLo G n m) fun i hi => ?_]
  unfold gLo
  by_cases e : i = m
  · rw [e, hg, Bool.and_false, Bool.and_false]
  · rw [show decide (i < m + 1) = decide (i < m) by rw [decide_eq_decide]; omega]
theorem eLo_t (hm : m < n) (hg : G n m = true) (i : Nat) : eLo n G (m + 1) i = eLo n G m i - cI n (gNx G n m) i := by
  have h1 := ZF_cnd (G := G) (F := fun u _ => ffI u i) hm n 0 0 (fun _ => 0) (by omega)
  rw [show cnd G n m 0 (fun _ => 0) = true from rfl, if_pos rfl] at h1
  rw [cI_ZF, ← h1]
  unfold eLo
  rw [← ZF_sub]
  refine ZF_congr n 0 0 _ (fun i hi => absurd hi (Nat.not_lt_zero i)) fun u S hS => ?_
  rw [hit_s hm hg (hS m (by omega))]
  generalize (if 0 < i then ffI u (i - 1) else 0) = sh
  by_cases hmm : mayk (fun _ => gLo G n m) 0 S (S m) n = true
  · rw [if_pos hmm, if_pos hmm, Int.add_mul, Int.one_mul]
    omega
  · rw [if_neg hmm, if_neg hmm, Int.add_zero]
    omega
end Alt
theorem alt_cI (n : Nat) : ∀ G : Nat → Nat → Bool, Alt n (cI n G) := by
  induction n with
  | zero =>
    intro G i
    rw [cI_ZF]
    show (0 < i → (if i = 0 then (1 : Int) else 0) = 0) ∧ (i ≤ 0 → ((0 - i) % 2 = 0 → 0 ≤ (if i = 0 then (1 : Int) else 0)) ∧ ((0 - i) % 2 = 1 → (if i = 0 then (1 : Int) else 0) ≤ 0))
    refine ⟨fun h => if_neg (by omega), fun h => ⟨fun _ => ?_, fun w => by omega⟩⟩
    split <;> omega
  | succ n ih =>
    intro G
    have key : ∀ m, m ≤ n → Alt (n + 1) (eLo n G m) := by
      intro m
      induction m with
      | zero =>
        intro _ i
        rw [eLo_0]
        by_cases hi : 0 < i
        · rw [if_pos hi]
          obtain ⟨h1, h2⟩ := ih G (i - 1)
          refine ⟨fun h => h1 (by omega), fun h => ⟨fun w => (h2 (by omega)).1 ?_, fun w => (h2 (by omega)).2 ?_⟩⟩
          · rw [← w]
            congr 1
            omega
          · rw [← w]
            congr 1
            omega
        · rw [if_neg hi]
          exact ⟨fun _ => rfl, fun _ => ⟨fun _ => Int.le_refl _, fun _ => Int.le_refl _⟩⟩
      | succ m ihm =>
        intro hm i
        have ihm := ihm (by omega) i
        cases hg : G n m
        · rw [eLo_f hg]
          exact ihm
        · rw [eLo_t (by omega) hg]
          obtain ⟨h1, h2⟩ := ih (gNx G n m) i
          obtain ⟨h3, h4⟩ := ihm
          refine ⟨fun h => by rw [h3 h, h1 (by omega)]; rfl, fun h => ?_⟩
          by_cases hin : i ≤ n
          · obtain ⟨h5, h6⟩ := h2 hin
            obtain ⟨h7, h8⟩ := h4 h
            refine ⟨fun w => ?_, fun w => ?_⟩
            · have := h7 w
              have := h6 (by omega)
              omega
            · have := h8 w
              have := h5 (by omega)
              omega
          · rw [h1 (by omega), Int.sub_zero]
            exact h4 h
    intro i
    rw [eLo_n]
    exact key n (Nat.le_refl _) i
