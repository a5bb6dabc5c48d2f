/-! two colours and odd rings -/
section Two
variable {n : Nat} {G : Nat → Nat → Bool}
def cl2 (G : Nat → Nat → Bool) (s : Nat × Nat) : Prop := ∀ a b, G a b = true → (s.1.testBit a = true → s.2.testBit b = true) ∧ (s.2.testBit a = true → s.1.testBit b = true)
def mn2 (T0 T1 : Nat → Prop) (s : Nat × Nat) : Prop := ∀ q, (s.1.testBit q = true → T0 q) ∧ (s.2.testBit q = true → T1 q)
def TC (G : Nat → Nat → Bool) (T0 T1 : Nat → Prop) : Prop := ∀ a b, G a b = true → (T0 a → T1 b) ∧ (T1 a → T0 b)
theorem TC_of {s : Nat × Nat} (h : cl2 G s) : TC G (fun q => s.1.testBit q = true) (fun q => s.2.testBit q = true) := h
/-- one round -/
def eS (n : Nat) (G : Nat → Nat → Bool) (s : Nat × Nat) : Nat × Nat := (s.1 ||| nbN n G (s.2 ||| nbN n G s.1), s.2 ||| nbN n G s.1)
theorem eo_it (k : Nat) : ∀ s, eo n G (k + 1) s = eS n G (eo n G k s) := by
  induction k with
  | zero => exact fun s => rfl
  | succ k ih => exact fun s => ih (eS n G s)
theorem eS2 (hG : GOK n G) {s : Nat × Nat} {q : Nat} : (eS n G s).2.testBit q = true ↔ s.2.testBit q = true ∨ ∃ a, s.1.testBit a = true ∧ G a q = true := by
  show (s.2 ||| nbN n G s.1).testBit q = true ↔ _
  rw [Nat.testBit_or, Bool.or_eq_true, nbN_bit hG]
  constructor
  · rintro (h | ⟨a, h1, h2, h3⟩)
    · exact Or.inl h
    · exact Or.inr ⟨a, h2, h3⟩
  · rintro (h | ⟨a, h2, h3⟩)
    · exact Or.inl h
    · exact Or.inr ⟨a, (hG.2 _ _ h3).1, h2, h3⟩
theorem eS1 (hG : GOK n G) {s : Nat × Nat} {q : Nat} : (eS n G s).1.testBit q = true ↔ s.1.testBit q = true ∨ ∃ a, (eS n G s).2.testBit a = true ∧ G a q = true := by
  show (s.1 ||| nbN n G (s.2 ||| nbN n G s.1)).testBit q = true ↔ _
  rw [Nat.testBit_or, Bool.or_eq_true, nbN_bit hG]
  constructor
  · rintro (h | ⟨a, h1, h2, h3⟩)
    · exact Or.inl h
    · exact Or.inr ⟨a, h2, h3⟩
  · rintro (h | ⟨a, h2, h3⟩)
    · exact Or.inl h
    · exact Or.inr ⟨a, (hG.2 _ _ h3).1, h2, h3⟩
theorem eS_mn (hG : GOK n G) {T0 T1 : Nat → Prop} (hT : TC G T0 T1) {s : Nat × Nat} (h : mn2 T0 T1 s) : mn2 T0 T1 (eS n G s) := by
  have h2 : ∀ q, (eS n G s).2.testBit q = true → T1 q := by
    intro q hq
    rcases (eS2 hG).mp hq with h1 | ⟨a, h1, h2⟩
    · exact (h q).2 h1
    · exact (hT a q h2).1 ((h a).1 h1)
  refine fun q => ⟨fun hq => ?_, h2 q⟩
  rcases (eS1 hG).mp hq with h1 | ⟨a, h1, h3⟩
  · exact (h q).1 h1
  · exact (hT a q h3).2 (h2 a h1)
theorem eo_mn (hG : GOK n G) {T0 T1 : Nat → Prop} (hT : TC G T0 T1) {s : Nat × Nat} (h : mn2 T0 T1 s) (k : Nat) : mn2 T0 T1 (eo n G k s) := by
  induction k with
  | zero => exact h
  | succ k ih => rw [eo_it]; exact eS_mn hG hT ih
theorem eo_up (hG : GOK n G) {s : Nat × Nat} (k : Nat) : ∀ q, (s.1.testBit q = true → (eo n G k s).1.testBit q = true) ∧ (s.2.testBit q = true → (eo n G k s).2.testBit q = true) := by
  induction k with
  | zero => exact fun q => ⟨id, id⟩
  | succ k ih =>
    intro q
    rw [eo_it]
    exact ⟨fun h => (eS1 hG).mpr (Or.inl ((ih q).1 h)), fun h => (eS2 hG).mpr (Or.inl ((ih q).2 h))⟩
theorem cl2_mn {s s' : Nat × Nat} (hc : cl2 G s) (hu : ∀ q, (s.1.testBit q = true → s'.1.testBit q = true) ∧ (s.2.testBit q = true → s'.2.testBit q = true)) (hm : mn2 (fun q => s.1.testBit q = true) (fun q => s.2.testBit q = true) s') : cl2 G s' := fun a b hg => ⟨fun h => (hu b).2 ((hc a b hg).1 ((hm a).1 h)), fun h => (hu b).1 ((hc a b hg).2 ((hm a).2 h))⟩
theorem cnt_full {f : Nat → Bool} {n : Nat} (h : n ≤ cnt f n) : ∀ q, q < n → f q = true := by
  induction n with
  | zero => exact fun q hq => absurd hq (Nat.not_lt_zero q)
  | succ n ih =>
    have h1 := cnt_le f n
    cases h2 : f n
    · rw [cnt_f h2] at h
      omega
    · rw [cnt_t h2] at h
      intro q hq
      rcases Nat.lt_succ_iff_lt_or_eq.mp hq with h3 | h3
      · exact ih (by omega) q h3
      · rw [h3]
        exact h2
theorem cnt_z {f : Nat → Bool} {n : Nat} (h : cnt f n = 0) : ∀ q, q < n → f q = false := by
  induction n with
  | zero => exact fun q hq => absurd hq (Nat.not_lt_zero q)
  | succ n ih =>
    cases h2 : f n
    · rw [cnt_f h2] at h
      intro q hq
      rcases Nat.lt_succ_iff_lt_or_eq.mp hq with h3 | h3
      · exact ih h q h3
      · rw [h3]
        exact h2
    · rw [cnt_t h2] at h
      omega
theorem eo_cl (hG : GOK n G) {s : Nat × Nat} : cl2 G (eo n G n s) := by
  have key : ∀ k, cl2 G (eo n G k s) ∨ k ≤ cnt (fun q => (eo n G k s).2.testBit q) n := by
    intro k
    induction k with
    | zero => exact Or.inr (Nat.zero_le _)
    | succ k ih =>
      by_cases hc : cl2 G (eo n G k s)
      · left
        rw [eo_it]
        exact cl2_mn hc (fun q => ⟨fun h => (eS1 hG).mpr (Or.inl h), fun h => (eS2 hG).mpr (Or.inl h)⟩) (eS_mn hG (TC_of hc) fun q => ⟨id, id⟩)
      · have ih := ih.resolve_left hc
        by_cases hk : k + 1 ≤ cnt (fun q => (eo n G (k + 1) s).2.testBit q) n
        · exact Or.inr hk
        · left
          have heq : ∀ q, (eo n G (k + 1) s).2.testBit q = true → (eo n G k s).2.testBit q = true := by
            intro q hq
            cases h3 : (eo n G k s).2.testBit q
            · exfalso
              have hqn : q < n := by
                rw [eo_it] at hq
                rcases (eS2 hG).mp hq with h1 | ⟨a, h1, h2⟩
                · rw [h3] at h1
                  cases h1
                · exact (hG.2 _ _ h2).2.1
              have := cnt_lt (f := fun q => (eo n G k s).2.testBit q) (g := fun q => (eo n G (k + 1) s).2.testBit q) (b := q) n (fun q h => by rw [eo_it]; exact (eS2 hG).mpr (Or.inl h)) hqn h3 hq
              omega
            · rfl
          have hE : ∀ a b, (eo n G k s).1.testBit a = true → G a b = true → (eo n G (k + 1) s).2.testBit b = true := fun a b h1 h2 => by rw [eo_it]; exact (eS2 hG).mpr (Or.inr ⟨a, h1, h2⟩)
          have hO : ∀ a b, (eo n G (k + 1) s).2.testBit a = true → G a b = true → (eo n G (k + 1) s).1.testBit b = true := by
            intro a b h1 h2
            rw [eo_it] at h1 ⊢
            exact (eS1 hG).mpr (Or.inr ⟨a, h1, h2⟩)
          have hE1 : ∀ a, (eo n G (k + 1) s).1.testBit a = true → (eo n G k s).1.testBit a = true := by
            intro a ha
            have ha0 := ha
            rw [eo_it] at ha
            rcases (eS1 hG).mp ha with h1 | ⟨c, h1, h2⟩
            · exact h1
            · rw [← eo_it] at h1
              have h4 := heq c h1
              cases k with
              | zero =>
                exfalso
                have h5 : cnt (fun q => (eo n G (0 + 1) s).2.testBit q) n = 0 := by omega
                have := cnt_z h5 c (hG.2 _ _ h2).1
                rw [this] at h1
                cases h1
              | succ k =>
                rw [eo_it] at h4 ⊢
                exact (eS1 hG).mpr (Or.inr ⟨c, h4, h2⟩)
          exact fun a b hg => ⟨fun h => hE a b (hE1 a h) hg, fun h => hO a b h hg⟩
  rcases key n with h | h
  · exact h
  · have hall := cnt_full h
    intro a b hg
    refine ⟨fun _ => hall b (hG.2 _ _ hg).2.1, fun h1 => ?_⟩
    obtain ⟨k, rfl⟩ : ∃ k, n = k + 1 := ⟨n - 1, by have := (hG.2 _ _ hg).1; omega⟩
    rw [eo_it] at h1 ⊢
    exact (eS1 hG).mpr (Or.inr ⟨a, h1, hg⟩)
theorem tb_two {p q : Nat} : (2 ^ p).testBit q = true ↔ p = q := by rw [Nat.testBit_two_pow, decide_eq_true_eq]
theorem nor_cl (hG : GOK n G) (p : Nat) : cl2 G (norF n G p) ∧ ∀ q, q < p → (norF n G p).1.testBit q = true ∨ (norF n G p).2.testBit q = true := by
  induction p with
  | zero => exact ⟨fun a b _ => ⟨fun h => (by rw [show (norF n G 0).1 = 0 from rfl, Nat.zero_testBit] at h; cases h), fun h => (by rw [show (norF n G 0).2 = 0 from rfl, Nat.zero_testBit] at h; cases h)⟩, fun q hq => absurd hq (Nat.not_lt_zero q)⟩
  | succ p ih =>
    unfold norF
    by_cases hp : ((norF n G p).1 ||| (norF n G p).2).testBit p = true
    · rw [if_pos hp]
      refine ⟨ih.1, fun q hq => ?_⟩
      rcases Nat.lt_succ_iff_lt_or_eq.mp hq with h | h
      · exact ih.2 q h
      · rw [h]
        rw [Nat.testBit_or, Bool.or_eq_true] at hp
        exact hp
    · rw [if_neg hp]
      refine ⟨eo_cl hG, fun q hq => ?_⟩
      have hu := eo_up hG (s := ((norF n G p).1 ||| 2 ^ p, (norF n G p).2)) n q
      rcases Nat.lt_succ_iff_lt_or_eq.mp hq with h | h
      · rcases ih.2 q h with h1 | h1
        · exact Or.inl (hu.1 (by rw [Nat.testBit_or, h1]; rfl))
        · exact Or.inr (hu.2 h1)
      · exact Or.inl (hu.1 (by rw [Nat.testBit_or, Bool.or_eq_true]; exact Or.inr (tb_two.mpr h.symm)))
/-- the reference's rounds -/
theorem setif {c : Bool} {x b q : Nat} : (if c = true then x ||| 2 ^ b else x).testBit q = true ↔ x.testBit q = true ∨ (c = true ∧ b = q) := by
  cases c
  · simp
  · rw [if_pos rfl, Nat.testBit_or, Bool.or_eq_true, tb_two]
    simp
theorem orS_2 {a b : Nat} {s : Nat × Nat} {q : Nat} : (orS G a b s).2.testBit q = true ↔ s.2.testBit q = true ∨ (G a b = true ∧ s.1.testBit a = true ∧ b = q) := by
  show (if (G a b && s.1.testBit a) = true then s.2 ||| 2 ^ b else s.2).testBit q = true ↔ _
  rw [setif, Bool.and_eq_true, and_assoc]
theorem orS_1 {a b : Nat} {s : Nat × Nat} {q : Nat} : (orS G a b s).1.testBit q = true ↔ s.1.testBit q = true ∨ (G a b = true ∧ (orS G a b s).2.testBit a = true ∧ b = q) := by
  show (if (G a b && (orS G a b s).2.testBit a) = true then s.1 ||| 2 ^ b else s.1).testBit q = true ↔ _
  rw [setif, Bool.and_eq_true, and_assoc]
def up2 (s s' : Nat × Nat) : Prop := ∀ q, (s.1.testBit q = true → s'.1.testBit q = true) ∧ (s.2.testBit q = true → s'.2.testBit q = true)
theorem up2_tr {s t u : Nat × Nat} (h : up2 s t) (k : up2 t u) : up2 s u := fun q => ⟨fun w => (k q).1 ((h q).1 w), fun w => (k q).2 ((h q).2 w)⟩
theorem orS_up {a b : Nat} {s : Nat × Nat} : up2 s (orS G a b s) := fun _ => ⟨fun h => orS_1.mpr (Or.inl h), fun h => orS_2.mpr (Or.inl h)⟩
theorem orS_mn {T0 T1 : Nat → Prop} (hT : TC G T0 T1) {a b : Nat} {s : Nat × Nat} (h : mn2 T0 T1 s) : mn2 T0 T1 (orS G a b s) := by
  have h2 : ∀ q, (orS G a b s).2.testBit q = true → T1 q := by
    intro q hq
    rcases orS_2.mp hq with h1 | ⟨h1, h2, h3⟩
    · exact (h q).2 h1
    · rw [← h3]
      exact (hT a b h1).1 ((h a).1 h2)
  refine fun q => ⟨fun hq => ?_, h2 q⟩
  rcases orS_1.mp hq with h1 | ⟨h1, h3, h4⟩
  · exact (h q).1 h1
  · rw [← h4]
    exact (hT a b h1).2 (h2 a h3)
theorem orB_up {a : Nat} {s : Nat × Nat} (b : Nat) : up2 s (orB G a s b) := by
  induction b with
  | zero => exact fun q => ⟨id, id⟩
  | succ b ih => exact up2_tr ih orS_up
theorem orB_mn {T0 T1 : Nat → Prop} (hT : TC G T0 T1) {a : Nat} {s : Nat × Nat} (h : mn2 T0 T1 s) (b : Nat) : mn2 T0 T1 (orB G a s b) := by
  induction b with
  | zero => exact h
  | succ b ih => exact orS_mn hT ih
theorem orB_has {a b : Nat} {s : Nat × Nat} (hg : G a b = true) (j : Nat) (hj : b < j) : (s.1.testBit a = true → (orB G a s j).2.testBit b = true) ∧ (s.2.testBit a = true → (orB G a s j).1.testBit b = true) := by
  induction j with
  | zero => omega
  | succ j ih =>
    by_cases e : b = j
    · subst e
      have hu := orB_up (G := G) (a := a) (s := s) b a
      have h2 : s.1.testBit a = true → (orS G a b (orB G a s b)).2.testBit b = true := fun h => orS_2.mpr (Or.inr ⟨hg, hu.1 h, rfl⟩)
      exact ⟨h2, fun h => orS_1.mpr (Or.inr ⟨hg, (orS_up a).2 (hu.2 h), rfl⟩)⟩
    · have ih := ih (by omega)
      exact ⟨fun h => (orS_up b).2 (ih.1 h), fun h => (orS_up b).1 (ih.2 h)⟩
theorem orA_up {s : Nat × Nat} (a : Nat) : up2 s (orA G n s a) := by
  induction a with
  | zero => exact fun q => ⟨id, id⟩
  | succ a ih => exact up2_tr ih (orB_up n)
theorem orA_mn {T0 T1 : Nat → Prop} (hT : TC G T0 T1) {s : Nat × Nat} (h : mn2 T0 T1 s) (a : Nat) : mn2 T0 T1 (orA G n s a) := by
  induction a with
  | zero => exact h
  | succ a ih => exact orB_mn hT ih n
theorem orA_has (hG : GOK n G) {a b : Nat} {s : Nat × Nat} (hg : G a b = true) (j : Nat) (hj : a < j) : (s.1.testBit a = true → (orA G n s j).2.testBit b = true) ∧ (s.2.testBit a = true → (orA G n s j).1.testBit b = true) := by
  induction j with
  | zero => omega
  | succ j ih =>
    by_cases e : a = j
    · subst e
      have hu := orA_up (n := n) (G := G) (s := s) a a
      have hb := orB_has (G := G) (s := orA G n s a) hg n (hG.2 _ _ hg).2.1
      exact ⟨fun h => hb.1 (hu.1 h), fun h => hb.2 (hu.2 h)⟩
    · have ih := ih (by omega)
      exact ⟨fun h => (orB_up n b).2 (ih.1 h), fun h => (orB_up n b).1 (ih.2 h)⟩
theorem orR_up {s : Nat × Nat} (r : Nat) : up2 s (orR G n s r) := by
  induction r with
  | zero => exact fun q => ⟨id, id⟩
  | succ r ih => exact up2_tr ih (orA_up n)
theorem orR_mn {T0 T1 : Nat → Prop} (hT : TC G T0 T1) {s : Nat × Nat} (h : mn2 T0 T1 s) (r : Nat) : mn2 T0 T1 (orR G n s r) := by
  induction r with
  | zero => exact h
  | succ r ih => exact orA_mn hT ih n
theorem cnt_le2 {f g : Nat → Bool} (k : Nat) (h : ∀ q, f q = true → g q = true) : cnt f k ≤ cnt g k := by
  induction k with
  | zero => exact Nat.le_refl _
  | succ k ih =>
    cases h3 : f k
    · rw [cnt_f h3]
      exact Nat.le_trans ih (Nat.le_add_right _ _)
    · rw [cnt_t h3, cnt_t (h k h3)]
      omega
theorem orR_cl (hG : GOK n G) {p : Nat} (hp : p < n) : cl2 G (orR G n (2 ^ p, 0) (2 * n)) := by
  have key : ∀ k, cl2 G (orR G n (2 ^ p, 0) k) ∨ k + 1 ≤ cnt (fun q => (orR G n (2 ^ p, 0) k).1.testBit q) n + cnt (fun q => (orR G n (2 ^ p, 0) k).2.testBit q) n := by
    intro k
    induction k with
    | zero =>
      right
      have := cnt_lt (f := fun _ => false) (g := fun q => (orR G n (2 ^ p, 0) 0).1.testBit q) (b := p) n (fun q h => by cases h) hp rfl (tb_two.mpr rfl)
      rw [cnt_0] at this
      omega
    | succ k ih =>
      have hu := orA_up (n := n) (G := G) (s := orR G n (2 ^ p, 0) k) n
      by_cases hc : cl2 G (orR G n (2 ^ p, 0) k)
      · left
        exact cl2_mn hc hu (orA_mn (TC_of hc) (fun q => ⟨id, id⟩) n)
      · right
        have ih := ih.resolve_left hc
        have : ∃ a b, G a b = true ∧ (((orR G n (2 ^ p, 0) k).1.testBit a = true ∧ (orR G n (2 ^ p, 0) k).2.testBit b = false) ∨ ((orR G n (2 ^ p, 0) k).2.testBit a = true ∧ (orR G n (2 ^ p, 0) k).1.testBit b = false)) := by
          apply Classical.byContradiction
          intro hn
          apply hc
          intro a b hg
          constructor
          · intro h1
            cases h3 : (orR G n (2 ^ p, 0) k).2.testBit b
            · exact absurd ⟨a, b, hg, Or.inl ⟨h1, h3⟩⟩ hn
            · rfl
          · intro h1
            cases h3 : (orR G n (2 ^ p, 0) k).1.testBit b
            · exact absurd ⟨a, b, hg, Or.inr ⟨h1, h3⟩⟩ hn
            · rfl
        obtain ⟨a, b, hg, h⟩ := this
        have hb := (hG.2 _ _ hg).2.1
        have hh := orA_has hG (s := orR G n (2 ^ p, 0) k) hg n (hG.2 _ _ hg).1
        have c1 := cnt_le2 (f := fun q => (orR G n (2 ^ p, 0) k).1.testBit q) (g := fun q => (orR G n (2 ^ p, 0) (k + 1)).1.testBit q) n fun q h => (hu q).1 h
        have c2 := cnt_le2 (f := fun q => (orR G n (2 ^ p, 0) k).2.testBit q) (g := fun q => (orR G n (2 ^ p, 0) (k + 1)).2.testBit q) n fun q h => (hu q).2 h
        rcases h with ⟨h1, h2⟩ | ⟨h1, h2⟩
        · have := cnt_lt (f := fun q => (orR G n (2 ^ p, 0) k).2.testBit q) (g := fun q => (orR G n (2 ^ p, 0) (k + 1)).2.testBit q) (b := b) n (fun q h => (hu q).2 h) hb h2 (hh.1 h1)
          omega
        · have := cnt_lt (f := fun q => (orR G n (2 ^ p, 0) k).1.testBit q) (g := fun q => (orR G n (2 ^ p, 0) (k + 1)).1.testBit q) (b := b) n (fun q h => (hu q).1 h) hb h2 (hh.2 h1)
          omega
  rcases key (2 * n) with h | h
  · exact h
  · have := cnt_le (fun q => (orR G n (2 ^ p, 0) (2 * n)).1.testBit q) n
    have := cnt_le (fun q => (orR G n (2 ^ p, 0) (2 * n)).2.testBit q) n
    omega
/-- an even, an odd walk from p to q -/
def Ev (n : Nat) (G : Nat → Nat → Bool) (p q : Nat) : Prop := (orR G n (2 ^ p, 0) (2 * n)).1.testBit q = true
def Od (n : Nat) (G : Nat → Nat → Bool) (p q : Nat) : Prop := (orR G n (2 ^ p, 0) (2 * n)).2.testBit q = true
theorem Ev_self (p : Nat) : Ev n G p p := (orR_up (2 * n) p).1 (tb_two.mpr rfl)
theorem EO_mn {T0 T1 : Nat → Prop} {p : Nat} (hT : TC G T0 T1) (h0 : T0 p) (q : Nat) : (Ev n G p q → T0 q) ∧ (Od n G p q → T1 q) := by
  refine orR_mn hT (s := (2 ^ p, 0)) (fun r => ⟨fun h => ?_, fun h => ?_⟩) (2 * n) q
  · rw [← tb_two.mp h]
    exact h0
  · rw [show ((2 ^ p, 0) : Nat × Nat).2 = 0 from rfl, Nat.zero_testBit] at h
    cases h
theorem EO_TC (hG : GOK n G) {p : Nat} (hp : p < n) : TC G (Ev n G p) (Od n G p) := orR_cl hG hp
theorem TC_sw {T0 T1 : Nat → Prop} (h : TC G T0 T1) : TC G T1 T0 := fun a b hg => ⟨(h a b hg).2, (h a b hg).1⟩
theorem EO_back (hG : GOK n G) {a b p : Nat} (hg : G a b = true) : (Ev n G a p → Od n G b p) ∧ (Od n G a p → Ev n G b p) := by
  obtain ⟨h1, h2, h3, h4⟩ := hG.2 _ _ hg
  have t := EO_TC hG h2
  exact EO_mn (TC_sw t) ((t b a h4).1 (Ev_self b)) p
theorem EO_sym (hG : GOK n G) {p q : Nat} : (Ev n G p q → Ev n G q p) ∧ (Od n G p q → Od n G q p) := EO_mn (T0 := fun x => Ev n G x p) (T1 := fun x => Od n G x p) (fun _ _ hg => EO_back hG hg) (Ev_self p) q
theorem ohr_iff (k : Nat) : ohr G n k = true ↔ ∃ p, p < k ∧ Od n G p p := by
  induction k with
  | zero => exact ⟨fun h => (by cases h), fun ⟨p, hp, _⟩ => absurd hp (Nat.not_lt_zero p)⟩
  | succ k ih =>
    show (ohr G n k || (orR G n (2 ^ k, 0) (2 * n)).2.testBit k) = true ↔ _
    rw [Bool.or_eq_true, ih]
    constructor
    · rintro (⟨p, h1, h2⟩ | h)
      · exact ⟨p, by omega, h2⟩
      · exact ⟨k, by omega, h⟩
    · rintro ⟨p, h1, h2⟩
      rcases Nat.lt_succ_iff_lt_or_eq.mp h1 with h3 | h3
      · exact Or.inl ⟨p, h3, h2⟩
      · rw [h3] at h2
        exact Or.inr h2
theorem EO_no (hG : GOK n G) (ho : ¬ ∃ p, p < n ∧ Od n G p p) {p q : Nat} (hp : p < n) : ¬ (Ev n G p q ∧ Od n G p q) := by
  rintro ⟨h1, h2⟩
  exact ho ⟨p, hp, (EO_mn (TC_sw (EO_TC hG hp)) h2 p).1 ((EO_sym hG).1 h1)⟩
theorem nor_dis (hG : GOK n G) (ho : ¬ ∃ p, p < n ∧ Od n G p p) (p : Nat) (hp : p ≤ n) : ∀ q, ¬ ((norF n G p).1.testBit q = true ∧ (norF n G p).2.testBit q = true) := by
  induction p with
  | zero =>
    rintro q ⟨h, -⟩
    rw [show (norF n G 0).1 = 0 from rfl, Nat.zero_testBit] at h
    cases h
  | succ p ih =>
    have ih := ih (by omega)
    have hc := (nor_cl hG p).1
    have e : norF n G (p + 1) = if ((norF n G p).1 ||| (norF n G p).2).testBit p then norF n G p else eo n G n ((norF n G p).1 ||| 2 ^ p, (norF n G p).2) := rfl
    rw [e]
    by_cases hpb : ((norF n G p).1 ||| (norF n G p).2).testBit p = true
    · rw [if_pos hpb]
      exact ih
    · rw [if_neg hpb]
      have hno : ¬ ((norF n G p).1.testBit p = true ∨ (norF n G p).2.testBit p = true) := fun w => hpb (by rw [Nat.testBit_or, Bool.or_eq_true]; exact w)
      have t := EO_TC hG (show p < n by omega)
      have hm : mn2 (fun q => (norF n G p).1.testBit q = true ∨ Ev n G p q) (fun q => (norF n G p).2.testBit q = true ∨ Od n G p q) (eo n G n ((norF n G p).1 ||| 2 ^ p, (norF n G p).2)) := by
        refine eo_mn hG ?_ (fun q => ⟨fun h => ?_, fun h => Or.inl h⟩) n
        · exact fun a b hg => ⟨fun h => h.elim (fun w => Or.inl ((hc a b hg).1 w)) (fun w => Or.inr ((t a b hg).1 w)), fun h => h.elim (fun w => Or.inl ((hc a b hg).2 w)) (fun w => Or.inr ((t a b hg).2 w))⟩
        · rw [Nat.testBit_or, Bool.or_eq_true] at h
          rcases h with h | h
          · exact Or.inl h
          · rw [← tb_two.mp h]
            exact Or.inr (Ev_self p)
      rintro q ⟨h1, h2⟩
      rcases (hm q).1 h1 with a1 | a1 <;> rcases (hm q).2 h2 with a2 | a2
      · exact ih q ⟨a1, a2⟩
      · exact hno (Or.inr ((EO_mn (n := n) (TC_of hc) a1 p).2 ((EO_sym hG).2 a2)))
      · exact hno (Or.inr ((EO_mn (n := n) (TC_sw (TC_of hc)) a2 p).1 ((EO_sym hG).1 a1)))
      · exact EO_no hG ho (show p < n by omega) ⟨a1, a2⟩
def col2 (G : Nat → Nat → Bool) : Prop := ∃ f : Nat → Bool, ∀ a b, G a b = true → f a ≠ f b
theorem and_0 {x y : Nat} : x &&& y = 0 ↔ ∀ q, ¬ (x.testBit q = true ∧ y.testBit q = true) := by
  constructor
  · rintro h q ⟨h1, h2⟩
    have : (x &&& y).testBit q = true := by rw [Nat.testBit_and, h1, h2]; rfl
    rw [h, Nat.zero_testBit] at this
    cases this
  · intro h
    apply Nat.eq_of_testBit_eq
    intro q
    rw [Nat.testBit_and, Nat.zero_testBit]
    cases h1 : x.testBit q <;> cases h2 : y.testBit q
    · rfl
    · rfl
    · rfl
    · exact absurd ⟨h1, h2⟩ (h q)
theorem two_1 (hG : GOK n G) (h : (norF n G n).1 &&& (norF n G n).2 = 0) : col2 G := by
  have hd := and_0.mp h
  obtain ⟨hc, hv⟩ := nor_cl hG n
  refine ⟨fun q => (norF n G n).1.testBit q, fun a b hg e => ?_⟩
  have e : (norF n G n).1.testBit a = (norF n G n).1.testBit b := e
  rcases hv a (hG.2 _ _ hg).1 with h1 | h1
  · rw [h1] at e
    exact hd b ⟨e.symm, (hc a b hg).1 h1⟩
  · have h2 := (hc a b hg).2 h1
    rw [h2] at e
    exact hd a ⟨e, h1⟩
theorem b3 : ∀ {x y z : Bool}, x ≠ z → x ≠ y → y = z := by decide
theorem two_2 (h : col2 G) : ¬ ∃ p, p < n ∧ Od n G p p := by
  obtain ⟨f, hf⟩ := h
  rintro ⟨p, -, h2⟩
  have := (EO_mn (n := n) (G := G) (p := p) (T0 := fun x => f x = f p) (T1 := fun x => f x ≠ f p) (fun a b hg => ⟨fun h => fun e => hf a b hg (h.trans e.symm), fun h => b3 h (hf a b hg)⟩) rfl p).2 h2
  exact this rfl
theorem two_3 (hG : GOK n G) (h : ¬ ∃ p, p < n ∧ Od n G p p) : (norF n G n).1 &&& (norF n G n).2 = 0 := and_0.mpr (nor_dis hG h n (Nat.le_refl _))
theorem two_nor (hG : GOK n G) : (norF n G n).1 &&& (norF n G n).2 = 0 ↔ col2 G := ⟨two_1 hG, fun h => two_3 hG (two_2 h)⟩
theorem two_ohr (hG : GOK n G) : ohr G n n = true ↔ ¬ col2 G := by
  rw [ohr_iff]
  exact ⟨fun h w => two_2 w h, fun h => Classical.byContradiction fun w => h (two_1 hG (two_3 hG w))⟩
/-- painting with two colours -/
def fits (G : Nat → Nat → Bool) (p j : Nat) (S f : Nat → Nat) : Prop := (∀ i, i < p → f i = S i) ∧ (∀ i, p ≤ i → i < p + j → f i < 2) ∧ ∀ a b, b < a → p ≤ a → a < p + j → G a b = true → f a ≠ f b
theorem pam2 (j : Nat) : ∀ (p : Nat) (S : Nat → Nat), ∃ c, c ≤ 2 ^ j ∧ pam G 2 j p S = nI c ∧ (c ≠ 0 ↔ ∃ f, fits G p j S f) := by
  induction j with
  | zero => exact fun p S => ⟨1, Nat.le_refl _, rfl, fun _ => ⟨S, fun i _ => rfl, fun i h1 h2 => by omega, fun a b h1 h2 h3 => by omega⟩, fun _ => by decide⟩
  | succ j ih =>
    intro p S
    obtain ⟨c0, a1, a2, a3⟩ := ih (p + 1) (updN S p 0)
    obtain ⟨c1, b1, b2, b3⟩ := ih (p + 1) (updN S p 1)
    have sub : ∀ c f, c < 2 → mayk G p S c p = true → fits G (p + 1) j (updN S p c) f → fits G p (j + 1) S f := by
      rintro c f hc hm ⟨f1, f2, f3⟩
      have hfp : f p = c := by
        rw [f1 p (by omega)]
        exact if_pos rfl
      have hfi : ∀ i, i < p → f i = S i := fun i hi => by
        rw [f1 i (by omega)]
        exact if_neg (by omega)
      refine ⟨hfi, fun i h1 h2 => ?_, fun a b h1 h2 h3 hg => ?_⟩
      · by_cases e : i = p
        · rw [e, hfp]
          exact hc
        · exact f2 i (by omega) (by omega)
      · by_cases e : a = p
        · subst e
          intro w
          exact (mayk_iff a).mp hm b h1 ⟨by rw [← hfi b h1, ← w, hfp], hg⟩
        · exact f3 a b h1 (by omega) (by omega) hg
    have sup : ∀ f, fits G p (j + 1) S f → ∃ c, c < 2 ∧ mayk G p S c p = true ∧ fits G (p + 1) j (updN S p c) f := by
      rintro f ⟨f1, f2, f3⟩
      refine ⟨f p, f2 p (Nat.le_refl _) (by omega), (mayk_iff p).mpr fun i hi w => ?_, fun i hi => ?_, fun i h1 h2 => f2 i (by omega) (by omega), fun a b h1 h2 h3 hg => f3 a b h1 (by omega) (by omega) hg⟩
      · exact f3 p i hi (Nat.le_refl _) (by omega) w.2 (by rw [f1 i hi, w.1])
      · unfold updN
        by_cases e : i = p
        · rw [if_pos e, e]
        · rw [if_neg e]
          exact f1 i (by omega)
    refine ⟨(if mayk G p S 0 p = true then c0 else 0) + (if mayk G p S 1 p = true then c1 else 0), ?_, ?_, ?_⟩
    · rw [Nat.pow_succ]
      split <;> split <;> omega
    · show (0 : Int32) + (if mayk G p S 0 p = true then pam G 2 j (p + 1) (updN S p 0) else 0) + (if mayk G p S 1 p = true then pam G 2 j (p + 1) (updN S p 1) else 0) = _
      rw [a2, b2, Int32.zero_add, ← nI_add]
      congr 1
      · split <;> rfl
      · split <;> rfl
    · constructor
      · intro h
        by_cases m0 : mayk G p S 0 p = true ∧ c0 ≠ 0
        · obtain ⟨f, hf⟩ := a3.mp m0.2
          exact ⟨f, sub 0 f (by decide) m0.1 hf⟩
        · by_cases m1 : mayk G p S 1 p = true ∧ c1 ≠ 0
          · obtain ⟨f, hf⟩ := b3.mp m1.2
            exact ⟨f, sub 1 f (by decide) m1.1 hf⟩
          · exfalso
            apply h
            have e0 : (if mayk G p S 0 p = true then c0 else 0) = 0 := by
              split
              · rename_i w
                exact Decidable.byContradiction fun q => m0 ⟨w, q⟩
              · rfl
            have e1 : (if mayk G p S 1 p = true then c1 else 0) = 0 := by
              split
              · rename_i w
                exact Decidable.byContradiction fun q => m1 ⟨w, q⟩
              · rfl
            rw [e0, e1]
      · rintro ⟨f, hf⟩
        obtain ⟨c, hc, hm, hf⟩ := sup f hf
        rcases (by omega : c = 0 ∨ c = 1) with rfl | rfl
        · have := a3.mpr ⟨f, hf⟩
          rw [if_pos hm]
          omega
        · have := b3.mpr ⟨f, hf⟩
          rw [if_pos hm]
          omega
theorem two_pnm (hG : GOK n G) : ¬ pnm n G 2 ≤ 0 ↔ col2 G := by
  obtain ⟨c, h1, h2, h3⟩ := pam2 (G := G) n 0 (fun _ => 0)
  have hc : c ≤ 512 := Nat.le_trans h1 (Nat.pow_le_pow_right (by decide) hG.1)
  have e : pnm n G 2 = nI c := h2
  have e2 : ¬ pnm n G 2 ≤ 0 ↔ c ≠ 0 := by
    rw [e, Int32.le_iff_toInt_le, nI_toInt (by omega), show (0 : Int32).toInt = 0 from rfl]
    omega
  rw [e2, h3]
  constructor
  · rintro ⟨f, -, f2, f3⟩
    refine ⟨fun i => decide (f i = 0), fun a b hg w => ?_⟩
    obtain ⟨g1, g2, g3, g4⟩ := hG.2 _ _ hg
    have u1 := f2 a (Nat.zero_le _) (by omega)
    have u2 := f2 b (Nat.zero_le _) (by omega)
    have w := decide_eq_decide.mp w
    have hne : f a ≠ f b := by
      rcases Nat.lt_or_gt_of_ne g3 with h | h
      · exact fun q => f3 b a h (Nat.zero_le _) (by omega) g4 q.symm
      · exact f3 a b h (Nat.zero_le _) (by omega) hg
    omega
  · rintro ⟨f, hf⟩
    refine ⟨fun i => if f i = true then 1 else 0, fun i hi => absurd hi (Nat.not_lt_zero i), fun i _ _ => ?_, fun a b _ _ _ hg => ?_⟩
    · show (if f i = true then 1 else 0) < 2
      split <;> decide
    · have := hf a b hg
      revert this
      show f a ≠ f b → (if f a = true then 1 else 0) ≠ (if f b = true then 1 else 0)
      cases f a <;> cases f b <;> decide
end Two
section JoT
variable {N sn : Nat} {G SG : Nat → Nat → Bool}
theorem jo_isTwo (hG : GOK N G) (hS : GOK sn SG) : jN (fun v : Bool => Value.int (bI v)) 122 124 [] N G sn SG := by
  refine ⟨decide (¬ pnm N G 2 ≤ 0), N, G, sn, SG, fun h x z c r c2 r2 hK => ?_, fun h m t t2 th z hM => ⟨th, ?_⟩⟩
  · have e := sp_cisTwo (z := z) hK
    rw [show decide ((norF N G N).1 &&& (norF N G N).2 = 0) = decide (¬ pnm N G 2 ≤ 0) from decide_eq_decide.mpr ((two_nor hG).trans (two_pnm hG).symm)] at e
    exact co_RR hK Fr.refl e
  · obtain ⟨S, e⟩ := hM.2.2.2.2.2.1
    exact md_MR hM (Sp_conseq (QtR_MR hM.2.2.1 hM.2.2.2) (sp_misTwo hM.2.2.1 hG.1 e))
end JoT
