/-! the ways' directions: both sides count the same -/
section Dir
variable {n : Nat} {G : Nat → Nat → Bool}
def ad (R : Nat → Nat → Bool) (a b : Nat) : Nat → Nat → Bool := fun x y => R x y || decide (x = a ∧ y = b)
theorem ad_comm (R : Nat → Nat → Bool) (a b c d : Nat) : ad (ad R a b) c d = ad (ad R c d) a b := by
  funext x y
  show (R x y || decide (x = a ∧ y = b) || decide (x = c ∧ y = d)) = (R x y || decide (x = c ∧ y = d) || decide (x = a ∧ y = b))
  rw [Bool.or_assoc, Bool.or_assoc, Bool.or_comm (decide (x = a ∧ y = b))]
def dl (g : (Nat → Nat → Bool) → Nat) : List (Nat × Nat) → (Nat → Nat → Bool) → Nat
  | [], R => g R
  | p :: l, R => dl g l (ad R p.1 p.2) + dl g l (ad R p.2 p.1)
theorem dl_perm {g : (Nat → Nat → Bool) → Nat} {l l' : List (Nat × Nat)} (h : l.Perm l') : ∀ R, dl g l R = dl g l' R := by
  induction h with
  | nil => exact fun R => rfl
  | cons p _ ih =>
    intro R
    show dl g _ _ + dl g _ _ = dl g _ _ + dl g _ _
    rw [ih, ih]
  | swap p q l =>
    intro R
    show dl g l (ad (ad R q.1 q.2) p.1 p.2) + dl g l (ad (ad R q.1 q.2) p.2 p.1) + (dl g l (ad (ad R q.2 q.1) p.1 p.2) + dl g l (ad (ad R q.2 q.1) p.2 p.1)) = dl g l (ad (ad R p.1 p.2) q.1 q.2) + dl g l (ad (ad R p.1 p.2) q.2 q.1) + (dl g l (ad (ad R p.2 p.1) q.1 q.2) + dl g l (ad (ad R p.2 p.1) q.2 q.1))
    rw [ad_comm R q.1 q.2 p.1 p.2, ad_comm R q.1 q.2 p.2 p.1, ad_comm R q.2 q.1 p.1 p.2, ad_comm R q.2 q.1 p.2 p.1]
    omega
  | trans _ _ ih1 ih2 => exact fun R => (ih1 R).trans (ih2 R)
/-- the ways, as the class tells them -/
def rwL (G : Nat → Nat → Bool) (a : Nat) : Nat → List (Nat × Nat)
  | 0 => []
  | i + 1 => rwL G a i ++ (if G a (a + 1 + i) = true then [(a, a + 1 + i)] else [])
def clsL (G : Nat → Nat → Bool) (n : Nat) : Nat → List (Nat × Nat)
  | 0 => []
  | k + 1 => clsL G n k ++ rwL G k (n - (k + 1))
/-- the ways, as the reference tells them -/
def coL (G : Nat → Nat → Bool) (n : Nat) : Nat → List (Nat × Nat)
  | 0 => []
  | k + 1 => coL G n k ++ (if G n k = true then [(k, n)] else [])
def mdL (G : Nat → Nat → Bool) : Nat → List (Nat × Nat)
  | 0 => []
  | k + 1 => mdL G k ++ coL G k k
theorem perm4 {a b c d : List (Nat × Nat)} : ((a ++ b) ++ (c ++ d)).Perm ((a ++ c) ++ (b ++ d)) := by
  rw [List.append_assoc, List.append_assoc]
  refine List.Perm.append_left a ?_
  rw [← List.append_assoc, ← List.append_assoc]
  exact List.Perm.append_right d List.perm_append_comm
theorem cls_s (hs : ∀ a b, G a b = G b a) (n : Nat) : ∀ k, k ≤ n → (clsL G (n + 1) k).Perm (clsL G n k ++ coL G n k) := by
  intro k
  induction k with
  | zero => exact fun _ => List.Perm.refl _
  | succ k ih =>
    intro hk
    have e : rwL G k (n + 1 - (k + 1)) = rwL G k (n - (k + 1)) ++ (if G n k = true then [(k, n)] else []) := by
      rw [show n + 1 - (k + 1) = n - (k + 1) + 1 by omega]
      show rwL G k (n - (k + 1)) ++ (if G k (k + 1 + (n - (k + 1))) = true then [(k, k + 1 + (n - (k + 1)))] else []) = _
      rw [show k + 1 + (n - (k + 1)) = n by omega, hs k n]
    show (clsL G (n + 1) k ++ rwL G k (n + 1 - (k + 1))).Perm ((clsL G n k ++ rwL G k (n - (k + 1))) ++ (coL G n k ++ (if G n k = true then [(k, n)] else [])))
    rw [e]
    exact (List.Perm.append_right _ (ih (by omega))).trans perm4
theorem cls_md (hs : ∀ a b, G a b = G b a) (n : Nat) : (clsL G n n).Perm (mdL G n) := by
  induction n with
  | zero => exact List.Perm.refl _
  | succ n ih =>
    show (clsL G (n + 1) n ++ rwL G n (n + 1 - (n + 1))).Perm (mdL G n ++ coL G n n)
    rw [Nat.sub_self, show rwL G n 0 = [] from rfl, List.append_nil]
    exact (cls_s hs n n (Nat.le_refl _)).trans (List.Perm.append_right _ ih)
theorem coL_len (n k : Nat) : (coL G n k).length = cnt (G n) k := by
  induction k with
  | zero => rfl
  | succ k ih =>
    show (coL G n k ++ _).length = cnt (G n) k + _
    rw [List.length_append, ih]
    split <;> rfl
theorem mdL_len (k : Nat) : (mdL G k).length = wys G k := by
  induction k with
  | zero => rfl
  | succ k ih =>
    show (mdL G k ++ coL G k k).length = wys G k + cnt (G k) k
    rw [List.length_append, ih, coL_len]
/-- a state's rows hold a list -/
def rep (s : Nat × (Nat → Nat) × (Nat → Nat)) (l : List (Nat × Nat)) : Prop := s.1 = l.length ∧ ∀ i (h : i < l.length), l[i] = (s.2.1 i, s.2.2 i)
theorem rep_add {s : Nat × (Nat → Nat) × (Nat → Nat)} {l : List (Nat × Nat)} (h : rep s l) (a b : Nat) : rep (s.1 + 1, updN s.2.1 s.1 a, updN s.2.2 s.1 b) (l ++ [(a, b)]) := by
  obtain ⟨h1, h2⟩ := h
  refine ⟨by rw [List.length_append, ← h1]; rfl, fun i hi => ?_⟩
  rw [List.length_append, ← h1] at hi
  have hi : i < s.1 + 1 := hi
  by_cases e : i = s.1
  · subst e
    show (l ++ [(a, b)])[s.1] = (updN s.2.1 s.1 a s.1, updN s.2.2 s.1 b s.1)
    rw [updN_same, updN_same, List.getElem_append_right (by omega)]
    simp [h1]
  · show (l ++ [(a, b)])[i] = (updN s.2.1 s.1 a i, updN s.2.2 s.1 b i)
    rw [updN_ne e, updN_ne e, List.getElem_append_left (by omega)]
    exact h2 i (by omega)
theorem take_add {l : List (Nat × Nat)} {x : Nat × Nat} : (l ++ [x]).take 10 = if l.length < 10 then l.take 10 ++ [x] else l.take 10 := by
  split
  · rename_i h
    rw [List.take_of_length_le (by rw [List.length_append]; exact h), List.take_of_length_le (by omega)]
  · rename_i h
    rw [List.take_append_of_le_length (by omega)]
theorem wyS_rep {a b : Nat} {s : Nat × (Nat → Nat) × (Nat → Nat)} {l : List (Nat × Nat)} (h : rep s (l.take 10)) : rep (wyS G a b s) ((l ++ (if G a b = true then [(a, b)] else [])).take 10) := by
  have h1 := h.1
  rw [List.length_take] at h1
  unfold wyS
  by_cases hg : G a b = true
  · rw [if_pos hg, take_add]
    by_cases hl : l.length < 10
    · rw [if_pos hl, if_pos ⟨hg, by omega⟩]
      exact rep_add h a b
    · rw [if_neg hl, if_neg (fun w => by omega)]
      exact h
  · rw [if_neg hg, List.append_nil, if_neg (fun w => hg w.1)]
    exact h
theorem wyB_rep {a : Nat} {s : Nat × (Nat → Nat) × (Nat → Nat)} {l : List (Nat × Nat)} (h : rep s (l.take 10)) (i : Nat) : rep (wyB G a s i) ((l ++ rwL G a i).take 10) := by
  induction i with
  | zero =>
    rw [show rwL G a 0 = [] from rfl, List.append_nil]
    exact h
  | succ i ih =>
    have := wyS_rep (G := G) (a := a) (b := a + 1 + i) ih
    rw [List.append_assoc] at this
    exact this
theorem wyA_rep {s : Nat × (Nat → Nat) × (Nat → Nat)} (h : rep s []) (k : Nat) : rep (wyA G n s k) ((clsL G n k).take 10) := by
  induction k with
  | zero => exact h
  | succ k ih => exact wyB_rep ih _
/-- nothing leads in a ring: no set each of whose places leads into it -/
def trap (R : Nat → Nat → Bool) : Prop := ∃ T : Nat → Bool, (∃ p, T p = true) ∧ ∀ p, T p = true → ∃ q, T q = true ∧ R p q = true
noncomputable def tr0 (R : Nat → Nat → Bool) : Nat := @ite _ (trap R) (Classical.propDecidable _) 0 1
theorem tr0_e {b : Bool} {R : Nat → Nat → Bool} (h : b = true ↔ ¬ trap R) : (if b = true then 1 else 0) = tr0 R := by
  unfold tr0
  by_cases ht : trap R
  · rw [if_pos ht, if_neg (fun w => h.mp w ht)]
  · rw [if_neg ht, if_pos (h.mpr ht)]
theorem rgI_in {L : Nat → Nat} {x : Nat} {T : Nat → Bool} (hT : ∀ p, T p = true → ∃ q, T q = true ∧ (L p).testBit q = true) (h : ∀ p, T p = true → x.testBit p = true) (hx : x < 512) (k : Nat) : ∀ p, T p = true → (rgI L k x).testBit p = true := by
  induction k with
  | zero => exact h
  | succ k ih =>
    intro p hp
    unfold rgI
    have hl := Nat.lt_of_le_of_lt (rgI_le (L := L) (x := x) k) hx
    split
    · rename_i hz
      rw [tb_not hl, ih p hp, Bool.true_and, decide_eq_true_eq]
      intro e
      subst e
      obtain ⟨q, h1, h2⟩ := hT p hp
      exact and_0.mp hz q ⟨h2, ih q h1⟩
    · exact ih p hp
theorem rgI_bit {L : Nat → Nat} {x : Nat} (hx : x < 512) (k : Nat) : ∀ p, (rgI L k x).testBit p = true → x.testBit p = true := by
  induction k with
  | zero => exact fun p h => h
  | succ k ih =>
    intro p hp
    unfold rgI at hp
    have hl := Nat.lt_of_le_of_lt (rgI_le (L := L) (x := x) k) hx
    split at hp
    · rw [tb_not hl, Bool.and_eq_true] at hp
      exact ih p hp.1
    · exact ih p hp
theorem rgI_out {L : Nat → Nat} {x p : Nat} (hx : x < 512) (hz : L p &&& x = 0) (k : Nat) (hk : p < k) : (rgI L k x).testBit p = false := by
  induction k with
  | zero => omega
  | succ k ih =>
    have hl := Nat.lt_of_le_of_lt (rgI_le (L := L) (x := x) k) hx
    unfold rgI
    by_cases e : p = k
    · subst e
      have h0 : L p &&& rgI L p x = 0 := and_0.mpr fun q w => and_0.mp hz q ⟨w.1, rgI_bit hx p q w.2⟩
      rw [if_pos h0, tb_not hl]
      simp
    · split
      · rw [tb_not hl, ih (by omega)]
        rfl
      · exact ih (by omega)
theorem rgO_lt {L : Nat → Nat} (k : Nat) : rgO L k < 512 := Nat.lt_of_le_of_lt (rgO_le k) (by decide)
theorem tb511 : ∀ p, p < 9 → (511 : Nat).testBit p = true := by decide
theorem rgO_s {L : Nat → Nat} {k m : Nat} (hm : m = 9) : rgO L (k + 1) = rgI L m (rgO L k) := by
  subst hm
  rfl
theorem rgO_in {L : Nat → Nat} {T : Nat → Bool} {m : Nat} (hm : m = 9) (h9 : ∀ p, T p = true → p < 9) (hT : ∀ p, T p = true → ∃ q, T q = true ∧ (L p).testBit q = true) (k : Nat) : ∀ p, T p = true → (rgO L k).testBit p = true := by
  induction k with
  | zero => exact fun p hp => tb511 p (h9 p hp)
  | succ k ih =>
    rw [rgO_s hm]
    exact rgI_in hT ih (rgO_lt k) m
theorem rgO_key {L : Nat → Nat} {m : Nat} (hm : m = 9) (k : Nat) : (∀ p, (rgO L k).testBit p = true → L p &&& rgO L k ≠ 0) ∨ cnt (fun q => (rgO L k).testBit q) m + k ≤ m := by
  induction k with
  | zero =>
    right
    have := cnt_le (fun q => (rgO L 0).testBit q) m
    omega
  | succ k ih =>
    by_cases hc : ∀ p, (rgO L k).testBit p = true → L p &&& rgO L k ≠ 0
    · left
      have es : rgI L m (rgO L k) = rgO L k := by
        apply Nat.eq_of_testBit_eq
        intro q
        rw [Bool.eq_iff_iff]
        refine ⟨rgI_bit (rgO_lt k) m q, rgI_in (T := fun q => (rgO L k).testBit q) (fun p hp => ?_) (fun p hp => hp) (rgO_lt k) m q⟩
        apply Classical.byContradiction
        intro w
        exact hc p hp (and_0.mpr fun q hq => w ⟨q, hq.2, hq.1⟩)
      rw [rgO_s hm, es]
      exact hc
    · right
      have ih := ih.resolve_left hc
      obtain ⟨p, hp⟩ := Classical.not_forall.mp hc
      obtain ⟨hp1, hp2⟩ := Classical.not_imp.mp hp
      have hp9 : p < m := by
        rw [hm]
        exact bit_n (n := 9) (rgO_lt k) hp1
      have := cnt_lt (f := fun q => (rgO L (k + 1)).testBit q) (g := fun q => (rgO L k).testBit q) (b := p) m (fun q h => by
        have h : (rgO L (k + 1)).testBit q = true := h
        rw [rgO_s hm] at h
        exact rgI_bit (rgO_lt k) m q h) hp9 (by
        show (rgO L (k + 1)).testBit p = false
        rw [rgO_s hm]
        exact rgI_out (rgO_lt k) (Decidable.not_not.mp hp2) m hp9) hp1
      omega
theorem rng_m {L : Nat → Nat} {m : Nat} (hm : m = 9) (hL : ∀ p q, (L p).testBit q = true → p < 9) : rgO L m = 0 ↔ ¬ trap (fun p q => (L p).testBit q) := by
  constructor
  · rintro h0 ⟨T, ⟨p, hp⟩, hT⟩
    have := rgO_in hm (fun p hp => by
      obtain ⟨q, h1, h2⟩ := hT p hp
      exact hL p q h2) hT m p hp
    rw [h0, Nat.zero_testBit] at this
    cases this
  · intro hn
    rcases rgO_key (L := L) hm m with h | h
    · apply Nat.eq_of_testBit_eq
      intro p
      rw [Nat.zero_testBit]
      cases hp : (rgO L m).testBit p
      · rfl
      · exfalso
        refine hn ⟨fun q => (rgO L m).testBit q, ⟨p, hp⟩, fun q hq => ?_⟩
        apply Classical.byContradiction
        intro w
        exact h q hq (and_0.mpr fun r hr => w ⟨r, hr.2, hr.1⟩)
    · have hz := cnt_z (f := fun q => (rgO L m).testBit q) (n := m) (by omega)
      apply Nat.eq_of_testBit_eq
      intro p
      rw [Nat.zero_testBit]
      cases hb : (rgO L m).testBit p
      · rfl
      · have hp : p < m := by
          rw [hm]
          exact bit_n (n := 9) (rgO_lt m) hb
        have := hz p hp
        rw [hb] at this
        exact this
theorem rng_iff {L : Nat → Nat} (hL : ∀ p q, (L p).testBit q = true → p < 9) : rng L = true ↔ ¬ trap (fun p q => (L p).testBit q) := by
  have h := rng_m (m := 9) rfl hL
  unfold rng
  rw [decide_eq_true_eq]
  exact h
theorem ngq_iff {X : Nat → Nat → Bool} {g p : Nat} (q : Nat) : ngq X g p q = true ↔ ∀ i, i < q → g.testBit i = true ∨ X p i = false := by
  induction q with
  | zero => exact ⟨fun _ i hi => absurd hi (Nat.not_lt_zero i), fun _ => rfl⟩
  | succ q ih =>
    show (ngq X g p q && (g.testBit q || !X p q)) = true ↔ _
    rw [Bool.and_eq_true, ih, Bool.or_eq_true, Bool.not_eq_true']
    constructor
    · rintro ⟨h1, h2⟩ i hi
      rcases Nat.lt_succ_iff_lt_or_eq.mp hi with h | h
      · exact h1 i h
      · rw [h]
        exact h2
    · exact fun h => ⟨fun i hi => h i (by omega), h q (by omega)⟩
theorem ngp_up {X : Nat → Nat → Bool} {g q : Nat} (h : g.testBit q = true) (k : Nat) : (ngp X n g k).testBit q = true := by
  induction k with
  | zero => exact h
  | succ k ih =>
    unfold ngp
    split
    · rw [Nat.testBit_or, ih]
      rfl
    · exact ih
theorem ngp_in {X : Nat → Nat → Bool} {g p : Nat} (hq : ∀ i, i < n → g.testBit i = true ∨ X p i = false) (k : Nat) (hk : p < k) : (ngp X n g k).testBit p = true := by
  induction k with
  | zero => omega
  | succ k ih =>
    by_cases e : p = k
    · subst e
      unfold ngp
      rw [if_pos ((ngq_iff n).mpr fun i hi => (hq i hi).elim (fun w => Or.inl (ngp_up w p)) Or.inr), Nat.testBit_or, Bool.or_eq_true]
      exact Or.inr (tb_two.mpr rfl)
    · have h := ih (by omega)
      unfold ngp
      split
      · rw [Nat.testBit_or, h]
        rfl
      · exact h
theorem ngp_off {X : Nat → Nat → Bool} {g : Nat} {T : Nat → Bool} (hT : ∀ p, T p = true → ∃ q, q < n ∧ T q = true ∧ X p q = true) (h : ∀ p, T p = true → g.testBit p = false) (k : Nat) : ∀ p, T p = true → (ngp X n g k).testBit p = false := by
  induction k with
  | zero => exact h
  | succ k ih =>
    intro p hp
    unfold ngp
    split
    · rename_i hz
      rw [Nat.testBit_or, ih p hp, Bool.false_or, Nat.testBit_two_pow, decide_eq_false_iff_not]
      intro e
      subst e
      obtain ⟨q, h1, h2, h3⟩ := hT _ hp
      rcases (ngq_iff n).mp hz q h1 with w | w
      · rw [ih q h2] at w
        cases w
      · rw [h3] at w
        cases w
    · exact ih p hp
theorem nrF_iff {X R : Nat → Nat → Bool} (hn : n ≤ 9) (hR : ∀ p q, R p q = true → p < n ∧ q < n) (hX : ∀ p q, p < n → q < n → X p q = R p q) : nrF X n = true ↔ ¬ trap R := by
  unfold nrF
  rw [decide_eq_true_eq]
  constructor
  · rintro h0 ⟨T, ⟨p, hp⟩, hT⟩
    have hT2 : ∀ p, T p = true → ∃ q, q < n ∧ T q = true ∧ X p q = true := fun p hp => by
      obtain ⟨q, h1, h2⟩ := hT p hp
      exact ⟨q, (hR _ _ h2).2, h1, by rw [hX p q (hR _ _ h2).1 (hR _ _ h2).2]; exact h2⟩
    have key : ∀ k, ∀ p, T p = true → (ngr X n k).testBit p = false := by
      intro k
      induction k with
      | zero => exact fun p _ => Nat.zero_testBit p
      | succ k ih => exact ngp_off hT2 ih n
    have h1 := key n p hp
    obtain ⟨q, -, h2⟩ := hT p hp
    rw [h0, Nat.testBit_two_pow_sub_one, decide_eq_false_iff_not] at h1
    exact h1 (hR _ _ h2).1
  · intro hnt
    have key : ∀ k, (∀ p, p < n → (ngr X n k).testBit p = false → ∃ q, q < n ∧ (ngr X n k).testBit q = false ∧ X p q = true) ∨ k ≤ cnt (fun q => (ngr X n k).testBit q) n := by
      intro k
      induction k with
      | zero => exact Or.inr (Nat.zero_le _)
      | succ k ih =>
        have e : ngr X n (k + 1) = ngp X n (ngr X n k) n := rfl
        by_cases hc : ∀ p, p < n → (ngr X n k).testBit p = false → ∃ q, q < n ∧ (ngr X n k).testBit q = false ∧ X p q = true
        · left
          have es : ∀ p, p < n → (ngr X n (k + 1)).testBit p = (ngr X n k).testBit p := by
            intro p hp
            cases hb : (ngr X n k).testBit p
            · exact ngp_off (X := X) (n := n) (T := fun p => decide (p < n) && !(ngr X n k).testBit p) (fun p hp => by
                rw [Bool.and_eq_true, decide_eq_true_eq, Bool.not_eq_true'] at hp
                obtain ⟨q, h1, h2, h3⟩ := hc p hp.1 hp.2
                exact ⟨q, h1, by rw [Bool.and_eq_true, decide_eq_true_eq, Bool.not_eq_true']; exact ⟨h1, h2⟩, h3⟩) (fun p hp => by
                rw [Bool.and_eq_true, decide_eq_true_eq, Bool.not_eq_true'] at hp
                exact hp.2) n p (by rw [Bool.and_eq_true, decide_eq_true_eq, Bool.not_eq_true']; exact ⟨hp, hb⟩)
            · exact ngp_up hb n
          intro p hp h0
          rw [es p hp] at h0
          obtain ⟨q, h1, h2, h3⟩ := hc p hp h0
          exact ⟨q, h1, by rw [es q h1]; exact h2, h3⟩
        · right
          have ih := ih.resolve_left hc
          have : ∃ p, p < n ∧ (ngr X n k).testBit p = false ∧ ∀ i, i < n → (ngr X n k).testBit i = true ∨ X p i = false := by
            apply Classical.byContradiction
            intro w
            apply hc
            intro p hp h0
            apply Classical.byContradiction
            intro w2
            refine w ⟨p, hp, h0, fun i hi => ?_⟩
            cases h5 : (ngr X n k).testBit i
            · cases h6 : X p i
              · exact Or.inr rfl
              · exact absurd ⟨i, hi, h5, h6⟩ w2
            · exact Or.inl rfl
          obtain ⟨p, hp, h0, hq⟩ := this
          have := cnt_lt (f := fun q => (ngr X n k).testBit q) (g := fun q => (ngr X n (k + 1)).testBit q) (b := p) n (fun q h => ngp_up h n) hp h0 (ngp_in hq n hp)
          omega
    have hfull : ∀ p, p < n → (ngr X n n).testBit p = true := by
      rcases key n with h | h
      · intro p hp
        cases hb : (ngr X n n).testBit p
        · exfalso
          refine hnt ⟨fun p => decide (p < n) && !(ngr X n n).testBit p, ⟨p, by rw [Bool.and_eq_true, decide_eq_true_eq, Bool.not_eq_true']; exact ⟨hp, hb⟩⟩, fun p hp => ?_⟩
          rw [Bool.and_eq_true, decide_eq_true_eq, Bool.not_eq_true'] at hp
          obtain ⟨q, h1, h2, h3⟩ := h p hp.1 hp.2
          exact ⟨q, by rw [Bool.and_eq_true, decide_eq_true_eq, Bool.not_eq_true']; exact ⟨h1, h2⟩, by rw [← hX p q hp.1 h1]; exact h3⟩
        · rfl
      · exact cnt_full h
    have hlt : ∀ r, ngr X n r < 2 ^ n := by
      have hp2 : ∀ g k, g < 2 ^ n → k ≤ n → ngp X n g k < 2 ^ n := by
        intro g k
        induction k with
        | zero => exact fun h _ => h
        | succ k ih =>
          intro h hk
          unfold ngp
          split
          · exact Nat.or_lt_two_pow (ih h (by omega)) (Nat.pow_lt_pow_right (by decide) (by omega))
          · exact ih h (by omega)
      intro r
      induction r with
      | zero => exact Nat.pow_pos (by decide)
      | succ r ih => exact hp2 _ n ih (Nat.le_refl _)
    apply Nat.eq_of_testBit_eq
    intro p
    rw [Nat.testBit_two_pow_sub_one]
    by_cases hp : p < n
    · rw [hfull p hp, decide_eq_true hp]
    · rw [decide_eq_false hp, Nat.testBit_lt_two_pow (Nat.lt_of_lt_of_le (hlt n) (Nat.pow_le_pow_right (by decide) (by omega)))]
end Dir
