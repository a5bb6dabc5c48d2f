/-! sets apart and together; pieces -/
section Sets3
variable {n : Nat} {G : Nat → Nat → Bool}
theorem nbN_bit (hG : GOK n G) {S q : Nat} : (nbN n G S).testBit q = true ↔ ∃ p, p < n ∧ S.testBit p = true ∧ G p q = true := nbF_bit hG n
theorem gdq_iff {w g : Bool} {S p : Nat} (q : Nat) : gdq G w S p g q = true ↔ g = true ∧ ∀ i, i < q → S.testBit i = true → G p i = w := by
  induction q with
  | zero =>
    show g = true ↔ _
    exact ⟨fun h => ⟨h, fun i hi => absurd hi (Nat.not_lt_zero i)⟩, fun h => h.1⟩
  | succ q ih =>
    unfold gdq
    rw [Bool.and_eq_true, ih, Bool.or_eq_true, Bool.not_eq_true', decide_eq_true_eq]
    constructor
    · rintro ⟨⟨h1, h2⟩, h3⟩
      refine ⟨h1, fun i hi hb => ?_⟩
      by_cases e : i = q
      · subst e
        rcases h3 with h3 | h3
        · rw [hb] at h3
          cases h3
        · exact h3
      · exact h2 i (by omega) hb
    · rintro ⟨h1, h2⟩
      refine ⟨⟨h1, fun i hi => h2 i (by omega)⟩, ?_⟩
      cases hb : S.testBit q
      · exact Or.inl rfl
      · exact Or.inr (h2 q (by omega) hb)
theorem gds_iff {w : Bool} {S : Nat} (p : Nat) : gds G w S p = true ↔ ∀ a, a < p → S.testBit a = true → ∀ b, b < a → S.testBit b = true → G a b = w := by
  induction p with
  | zero => exact ⟨fun _ a ha => absurd ha (Nat.not_lt_zero a), fun _ => rfl⟩
  | succ p ih =>
    unfold gds
    by_cases hb : S.testBit p = true
    · rw [if_pos hb, gdq_iff, ih]
      constructor
      · rintro ⟨h1, h2⟩ a ha hab b hb2 hbb
        by_cases e : a = p
        · subst e
          exact h2 b hb2 hbb
        · exact h1 a (by omega) hab b hb2 hbb
      · intro h1
        exact ⟨fun a ha => h1 a (by omega), fun i hi hbi => h1 p (by omega) hb i hi hbi⟩
    · rw [if_neg hb, ih]
      constructor
      · intro h1 a ha hab
        by_cases e : a = p
        · subst e
          exact absurd hab hb
        · exact h1 a (by omega) hab
      · exact fun h1 a ha => h1 a (by omega)
theorem bit_n {S q : Nat} (hS : S < 2 ^ n) (h : S.testBit q = true) : q < n := by
  apply Decidable.byContradiction
  intro hq
  rw [Nat.testBit_lt_two_pow (Nat.lt_of_lt_of_le hS (Nat.pow_le_pow_right (by decide) (by omega)))] at h
  cases h
theorem ap_gds (hG : GOK n G) {S : Nat} (hS : S < 2 ^ n) : apF n G S = gds G false S n := by
  rw [Bool.eq_iff_iff, gds_iff]
  unfold apF
  rw [decide_eq_true_eq]
  constructor
  · intro h a ha hab b hb hbb
    cases hg : G a b
    · rfl
    · have h3 := congrArg (fun y => Nat.testBit y b) h
      rw [Nat.testBit_and, Nat.zero_testBit, hbb, Bool.and_true] at h3
      have := (nbN_bit hG (S := S) (q := b)).mpr ⟨a, ha, hab, hg⟩
      rw [this] at h3
      cases h3
  · intro h
    apply Nat.eq_of_testBit_eq
    intro i
    rw [Nat.testBit_and, Nat.zero_testBit]
    cases h1 : (nbN n G S).testBit i
    · rfl
    · cases h2 : S.testBit i
      · rfl
      · obtain ⟨p, hp, hpb, hg⟩ := (nbN_bit hG).mp h1
        have hi := bit_n hS h2
        rcases Nat.lt_trichotomy p i with h3 | h3 | h3
        · have := h i hi h2 p h3 hpb
          rw [hG.sym] at this
          rw [hg] at this
          cases this
        · rw [h3, hG.irr] at hg
          cases hg
        · have := h p hp hpb i h3 h2
          rw [hg] at this
          cases this
theorem ones_n {S : Nat} (hn : n ≤ 9) (hS : S < 2 ^ n) : ones S = cnt (fun q => S.testBit q) n := by
  have := cnt_up (g := fun q => S.testBit q) (n := n) (fun q hq => by
    cases h : S.testBit q
    · rfl
    · have := bit_n hS h
      omega) (9 - n)
  rw [show n + (9 - n) = 9 by omega] at this
  exact this
theorem mx_eq {f : Nat → Bool} {w : Bool} (hn : n ≤ 9) (k : Nat) (hk : k ≤ 2 ^ n) (h : ∀ S, S < k → f S = gds G w S n) : mxF f k = mxS n G w k := by
  induction k with
  | zero => rfl
  | succ k ih =>
    unfold mxF mxS
    rw [ih (by omega) fun S hS => h S (by omega), h k (by omega), ones_n hn (show k < 2 ^ n by omega)]
    by_cases h1 : gds G w k n = true
    · by_cases h2 : mxS n G w k < cnt (fun q => k.testBit q) n
      · rw [if_pos ⟨h2, h1⟩, if_pos ⟨h1, h2⟩]
      · rw [if_neg (fun x => h2 x.1), if_neg (fun x => h2 x.2)]
    · rw [if_neg (fun x => h1 x.2), if_neg (fun x => h1 x.1)]
theorem tog_gds (hG : GOK n G) {S : Nat} (hS : S < 2 ^ n) : togF n G S = gds G true S n := by
  have hn := hG.1
  rw [Bool.eq_iff_iff, gds_iff]
  unfold togF
  rw [List.all_eq_true]
  have bits : ∀ a q, q < 9 → (S &&& (rowsN G a ^^^ (2 ^ 32 - 1))).testBit q = (S.testBit q && !G a q) := by
    intro a q hq
    rw [Nat.testBit_and, Nat.testBit_xor, rows_bit hG, Nat.testBit_two_pow_sub_one, decide_eq_true (show q < 32 by omega), Bool.xor_true]
  constructor
  · intro h a ha hab b hb hbb
    have h1 := h a (List.mem_range.mpr ha)
    unfold tg at h1
    rw [hab] at h1
    simp only [Bool.not_true, Bool.false_or, decide_eq_true_eq] at h1
    have h2 := congrArg (fun y => Nat.testBit y b) h1
    rw [bits a b (by omega), hbb, Nat.testBit_two_pow, decide_eq_false (show ¬ a = b by omega)] at h2
    simpa using h2
  · intro h a ha
    rw [List.mem_range] at ha
    unfold tg
    cases hab : S.testBit a
    · rfl
    · simp only [Bool.not_true, Bool.false_or, decide_eq_true_eq]
      apply Nat.eq_of_testBit_eq
      intro q
      rw [Nat.testBit_two_pow]
      by_cases hq : q < 9
      · rw [bits a q hq]
        by_cases e : a = q
        · subst e
          rw [hab, hG.irr]
          simp
        · rw [decide_eq_false e]
          cases hbq : S.testBit q
          · rfl
          · have hqn := bit_n hS hbq
            rcases Nat.lt_or_ge q a with h3 | h3
            · rw [h a ha hab q h3 hbq]
              rfl
            · have := h q hqn hbq a (by omega) hab
              rw [hG.sym] at this
              rw [this]
              rfl
      · have h4 : S.testBit q = false := by
          cases h5 : S.testBit q
          · rfl
          · have := bit_n hS h5
            omega
        rw [Nat.testBit_and, h4, Bool.false_and, decide_eq_false (show ¬ a = q by omega)]
theorem apart_eq (hG : GOK n G) : mxF (apF n G) (2 ^ n) = mxS n G false (2 ^ n) := mx_eq hG.1 _ (Nat.le_refl _) fun _ hS => ap_gds hG hS
theorem together_eq (hG : GOK n G) : mxF (togF n G) (2 ^ n) = mxS n G true (2 ^ n) := mx_eq hG.1 _ (Nat.le_refl _) fun _ hS => tog_gds hG hS
/-- a set that no way leads out of -/
def cls (G : Nat → Nat → Bool) (s : Nat) : Prop := ∀ a b, s.testBit a = true → G a b = true → s.testBit b = true
theorem cnt_lt {f g : Nat → Bool} {b : Nat} (k : Nat) (h : ∀ q, f q = true → g q = true) (hb : b < k) (h1 : f b = false) (h2 : g b = true) : cnt f k + 1 ≤ cnt g k := by
  have le : ∀ k, cnt f k ≤ cnt g k := by
    intro k
    induction k with
    | zero => exact Nat.le_refl _
    | succ k ih =>
      cases h3 : f k
      · rw [cnt_f h3]
        exact Nat.le_trans ih (Nat.le_add_right _ _)
      · rw [cnt_t h3, cnt_t (h k h3)]
        omega
  induction k with
  | zero => omega
  | succ k ih =>
    by_cases e : b = k
    · subst e
      rw [cnt_f h1, cnt_t h2]
      have := le b
      omega
    · have := ih (by omega)
      cases h3 : f k
      · rw [cnt_f h3]
        exact Nat.le_trans this (Nat.le_add_right _ _)
      · rw [cnt_t h3, cnt_t (h k h3)]
        omega
theorem rch_s {p k q : Nat} (hG : GOK n G) : (rch n G p (k + 1)).testBit q = true ↔ (rch n G p k).testBit q = true ∨ ∃ a, (rch n G p k).testBit a = true ∧ G a q = true := by
  show (rch n G p k ||| nbN n G (rch n G p k)).testBit q = true ↔ _
  rw [Nat.testBit_or, Bool.or_eq_true, nbN_bit hG]
  constructor
  · rintro (h | ⟨a, h1, h2, h3⟩)
    · exact Or.inl h
    · exact Or.inr ⟨a, h2, h3⟩
  · rintro (h | ⟨a, h2, h3⟩)
    · exact Or.inl h
    · exact Or.inr ⟨a, (hG.2 _ _ h3).1, h2, h3⟩
theorem rch_cls_s {p k : Nat} (hG : GOK n G) (h : cls G (rch n G p k)) : rch n G p (k + 1) = rch n G p k := by
  apply Nat.eq_of_testBit_eq
  intro q
  rw [Bool.eq_iff_iff, rch_s hG]
  constructor
  · rintro (h1 | ⟨a, h1, h2⟩)
    · exact h1
    · exact h a q h1 h2
  · exact Or.inl
theorem rch_cls {p : Nat} (hG : GOK n G) (hp : p < n) : cls G (rch n G p n) := by
  have key : ∀ k, cls G (rch n G p k) ∨ k + 1 ≤ cnt (fun q => (rch n G p k).testBit q) n := by
    intro k
    induction k with
    | zero =>
      right
      have := cnt_lt (f := fun _ => false) (g := fun q => (rch n G p 0).testBit q) (b := p) n (fun q h => by cases h) hp rfl (by show (2 ^ p).testBit p = true; rw [Nat.testBit_two_pow]; simp)
      rw [cnt_0] at this
      exact this
    | succ k ih =>
      by_cases hc : cls G (rch n G p k)
      · left
        rw [rch_cls_s hG hc]
        exact hc
      · right
        have ih := ih.resolve_left hc
        have : ∃ a b, (rch n G p k).testBit a = true ∧ G a b = true ∧ (rch n G p k).testBit b = false := by
          apply Classical.byContradiction
          intro hn
          apply hc
          intro a b h1 h2
          cases h3 : (rch n G p k).testBit b
          · exact absurd ⟨a, b, h1, h2, h3⟩ hn
          · rfl
        obtain ⟨a, b, h1, h2, h3⟩ := this
        have h4 := cnt_lt (f := fun q => (rch n G p k).testBit q) (g := fun q => (rch n G p (k + 1)).testBit q) (b := b) n (fun q h => (rch_s hG).mpr (Or.inl h)) (hG.2 _ _ h2).2.1 h3 ((rch_s hG).mpr (Or.inr ⟨a, h1, h2⟩))
        omega
  rcases key n with h | h
  · exact h
  · have := cnt_le (fun q => (rch n G p n).testBit q) n
    omega
theorem rch_up {p j k q : Nat} (hG : GOK n G) (hjk : j ≤ k) (h : (rch n G p j).testBit q = true) : (rch n G p k).testBit q = true := by
  induction hjk with
  | refl => exact h
  | step _ ih => exact (rch_s hG).mpr (Or.inl ih)
theorem rch_self {p k : Nat} (hG : GOK n G) : (rch n G p k).testBit p = true := rch_up hG (Nat.zero_le k) (by show (2 ^ p).testBit p = true; rw [Nat.testBit_two_pow]; simp)
/-- the least closed set around p -/
theorem rch_min {p : Nat} (hG : GOK n G) {T : Nat → Prop} (h0 : T p) (hT : ∀ a b, T a → G a b = true → T b) (k : Nat) : ∀ q, (rch n G p k).testBit q = true → T q := by
  induction k with
  | zero =>
    intro q hq
    have : (2 ^ p).testBit q = true := hq
    rw [Nat.testBit_two_pow, decide_eq_true_eq] at this
    rw [← this]
    exact h0
  | succ k ih =>
    intro q hq
    rcases (rch_s hG).mp hq with h | ⟨a, h1, h2⟩
    · exact ih q h
    · exact hT a q (ih a h1) h2
theorem rch_sym {p q : Nat} (hG : GOK n G) (hp : p < n) (h : (rch n G p n).testBit q = true) : (rch n G q n).testBit p = true := by
  refine rch_min hG (T := fun r => (rch n G r n).testBit p = true) (rch_self hG) ?_ n q h
  intro a b ha hab
  have hb := (hG.2 _ _ hab).2.1
  have h1 : (rch n G b n).testBit a = true := rch_cls hG hb b a (rch_self hG) (by rw [hG.sym]; exact hab)
  exact rch_min hG (T := fun r => (rch n G b n).testBit r = true) h1 (fun x y hx hxy => rch_cls hG hb x y hx hxy) n p ha
theorem rch_n {p q : Nat} (hG : GOK n G) (hp : p < n) (h : (rch n G p n).testBit q = true) : q < n := rch_min hG (T := fun r => r < n) hp (fun _ _ _ hab => (hG.2 _ _ hab).2.1) n q h
theorem lqF_le {p : Nat} {L : Nat → Nat} (k : Nat) : (∀ x, lqF G p L k x ≤ L x) ∧ (∀ q, q < k → G p q = true → lqF G p L k p ≤ L q) := by
  induction k with
  | zero => exact ⟨fun _ => Nat.le_refl _, fun q hq => absurd hq (Nat.not_lt_zero q)⟩
  | succ k ih =>
    have step : (∀ x, lqF G p L (k + 1) x ≤ lqF G p L k x) ∧ (G p k = true → lqF G p L (k + 1) p ≤ lqF G p L k k) := by
      rw [show lqF G p L (k + 1) = if G p k = true ∧ lqF G p L k k < lqF G p L k p then updN (lqF G p L k) p (lqF G p L k k) else lqF G p L k from rfl]
      by_cases h : G p k = true ∧ lqF G p L k k < lqF G p L k p
      · rw [if_pos h]
        refine ⟨fun x => ?_, fun _ => ?_⟩
        · unfold updN
          split
          · rename_i hx
            rw [hx]
            omega
          · exact Nat.le_refl _
        · unfold updN
          rw [if_pos rfl]
          exact Nat.le_refl _
      · rw [if_neg h]
        exact ⟨fun x => Nat.le_refl _, fun hg => Nat.le_of_not_lt fun w => h ⟨hg, w⟩⟩
    refine ⟨fun x => Nat.le_trans (step.1 x) (ih.1 x), fun q hq hg => ?_⟩
    by_cases e : q = k
    · subst e
      exact Nat.le_trans (step.2 hg) (ih.1 q)
    · exact Nat.le_trans (step.1 p) (ih.2 q (by omega) hg)
theorem lpF_le {L : Nat → Nat} (k : Nat) : (∀ x, lpF G n L k x ≤ L x) ∧ (∀ p, p < k → ∀ q, q < n → G p q = true → lpF G n L k p ≤ L q) := by
  induction k with
  | zero => exact ⟨fun _ => Nat.le_refl _, fun p hp => absurd hp (Nat.not_lt_zero p)⟩
  | succ k ih =>
    have s := lqF_le (G := G) (p := k) (L := lpF G n L k) n
    refine ⟨fun x => Nat.le_trans (s.1 x) (ih.1 x), fun p hp q hq hg => ?_⟩
    by_cases e : p = k
    · subst e
      exact Nat.le_trans (s.2 q hq hg) (ih.1 q)
    · exact Nat.le_trans (s.1 p) (ih.2 p (by omega) q hq hg)
theorem lrF_low (hG : GOK n G) {R : Nat → Nat} (r : Nat) : ∀ p q, p < n → q < n → (rch n G q r).testBit p = true → lrF G n (stg R idN n) r p ≤ q := by
  induction r with
  | zero =>
    intro p q hp hq h
    have h1 : (2 ^ q).testBit p = true := h
    rw [Nat.testBit_two_pow, decide_eq_true_eq] at h1
    show stg R idN n p ≤ q
    rw [show stg R idN n p = idN p from if_pos hp]
    show p ≤ q
    omega
  | succ r ih =>
    intro p q hp hq h
    have s := lpF_le (G := G) (n := n) (L := lrF G n (stg R idN n) r) n
    rcases (rch_s hG).mp h with h1 | ⟨a, h1, h2⟩
    · exact Nat.le_trans (s.1 p) (ih p q hp hq h1)
    · have ha := (hG.2 _ _ h2).1
      exact Nat.le_trans (s.2 p hp a ha (by rw [hG.sym]; exact h2)) (ih a q ha hq h1)
/-- each label is a place of the piece -/
def lbl (n : Nat) (G : Nat → Nat → Bool) (L : Nat → Nat) : Prop := ∀ p, p < n → L p < n ∧ (rch n G (L p) n).testBit p = true
theorem lqF_lbl (hG : GOK n G) {p : Nat} (hp : p < n) {L : Nat → Nat} (h : lbl n G L) (k : Nat) (hk : k ≤ n) : lbl n G (lqF G p L k) := by
  induction k with
  | zero => exact h
  | succ k ih =>
    have ih := ih (by omega)
    unfold lqF
    split
    · rename_i hc
      intro x hx
      unfold updN
      by_cases e : x = p
      · rw [if_pos e, e]
        have h1 := ih k (by omega)
        refine ⟨h1.1, rch_cls hG h1.1 k p h1.2 (by rw [hG.sym]; exact hc.1)⟩
      · rw [if_neg e]
        exact ih x hx
    · exact ih
theorem lpF_lbl (hG : GOK n G) {L : Nat → Nat} (h : lbl n G L) (k : Nat) (hk : k ≤ n) : lbl n G (lpF G n L k) := by
  induction k with
  | zero => exact h
  | succ k ih => exact lqF_lbl hG (by omega) (ih (by omega)) n (Nat.le_refl _)
theorem lrF_lbl (hG : GOK n G) {R : Nat → Nat} (r : Nat) : lbl n G (lrF G n (stg R idN n) r) := by
  induction r with
  | zero =>
    intro p hp
    show stg R idN n p < n ∧ _
    rw [show lrF G n (stg R idN n) 0 p = p from if_pos hp, show stg R idN n p = p from if_pos hp]
    exact ⟨hp, rch_self hG⟩
  | succ r ih => exact lpF_lbl hG ih n (Nat.le_refl _)
theorem lst_spec {S p : Nat} (k : Nat) (hk : k ≤ p) : (lst S p k = p ∧ ∀ q, p - k ≤ q → q < p → S.testBit q = false) ∨ (S.testBit (lst S p k) = true ∧ lst S p k < p ∧ ∀ q, p - k ≤ q → q < lst S p k → S.testBit q = false) := by
  induction k with
  | zero => exact Or.inl ⟨rfl, fun q h1 h2 => by omega⟩
  | succ k ih =>
    unfold lst
    cases hb : S.testBit (p - (k + 1))
    · rw [if_neg (by decide)]
      rcases ih (by omega) with ⟨h1, h2⟩ | ⟨h1, h2, h3⟩
      · refine Or.inl ⟨h1, fun q h4 h5 => ?_⟩
        by_cases e : q = p - (k + 1)
        · rw [e]
          exact hb
        · exact h2 q (by omega) h5
      · refine Or.inr ⟨h1, h2, fun q h4 h5 => ?_⟩
        by_cases e : q = p - (k + 1)
        · rw [e]
          exact hb
        · exact h3 q (by omega) h5
    · rw [if_pos rfl]
      exact Or.inr ⟨hb, by omega, fun q h4 h5 => by omega⟩
/-- both sides find the least place of a piece -/
theorem lop_pr (hG : GOK n G) {R : Nat → Nat} {p : Nat} (hp : p < n) : lop n G p = prF n G R p := by
  obtain ⟨l1, l2⟩ := lrF_lbl hG (R := R) n p hp
  have low := fun q hq h => lrF_low hG (R := R) n p q hp hq h
  show lst (rch n G p n) p p = lrF G n (stg R idN n) n p
  have l3 := rch_sym hG l1 l2
  rcases lst_spec (S := rch n G p n) (p := p) p (Nat.le_refl _) with ⟨h1, h2⟩ | ⟨h1, h2, h3⟩
  · rw [h1]
    have h4 := low p hp (rch_self hG)
    rcases Nat.lt_or_ge (lrF G n (stg R idN n) n p) p with h5 | h5
    · rw [h2 _ (by omega) h5] at l3
      cases l3
    · omega
  · have h4 := low _ (by omega) (rch_sym hG hp h1)
    rcases Nat.lt_or_ge (lrF G n (stg R idN n) n p) (lst (rch n G p n) p p) with h5 | h5
    · rw [h3 _ (by omega) h5] at l3
      cases l3
    · omega
theorem pcs_pc (hG : GOK n G) (R : Nat → Nat) : pcF n (prF n G R) n = pcs n G n := by
  unfold pcF pcs
  refine cnt_congr fun q hq => ?_
  rw [lop_pr hG (R := R) hq]
end Sets3
section Jo3
variable {p0 p1 : Int32} {N sn : Nat} {G SG : Nat → Nat → Bool}
theorem jo_pieces (hG : GOK N G) (hS : GOK sn SG) : jN (fun v : Int32 => Value.int v) 94 98 [] N G sn SG := by
  refine ⟨nI (pcs N G N), N, G, sn, SG, fun h x z c r c2 r2 hK => co_RR hK Fr.refl (sp_cpieces hK), fun h m t t2 th z hM => ⟨th, ?_⟩⟩
  obtain ⟨R, hR⟩ := hM.2.2.2.1
  have e := sp_mpieces (z := z) (G := G) (th := th) (ns := sn) hM.2.2.1 hG.1 hR
  rw [pcs_pc hG R] at e
  refine md_MR hM (Sp_conseq ?_ e)
  rintro _ _ _ ⟨rfl, rfl, rfl⟩
  have k := hM.2.2.2.row (a := m + 21) (R := prF N G R) (Or.inl rfl)
  exact ⟨rfl, rfl, _, rfl, hM.2.2.1.sc (by omega), k.1, k.2⟩
theorem jo_piece (hG : GOK N G) (hS : GOK sn SG) : jO (fun v : Int32 => Value.int v) (fun _ : Int32 => True) 101 102 [.int p0] [(2, 1)] N G sn SG := by
  cases hp : pl N p0
  · exact Or.inr ⟨2, 1, by decide, fun h x z c r c2 r2 hK => co_RX hK Fr.refl (sp_cpiece_no hK hp), fun h m t t2 th z hM => ⟨0, md_RR hM (sp_mpiece_no hG.1 hp)⟩⟩
  · obtain ⟨p, hpn, rfl⟩ := pl_ex hG.1 hp
    refine Or.inl ⟨nI (lop N G p), N, G, sn, SG, trivial, fun h x z c r c2 r2 hK => co_RR hK Fr.refl (sp_cpiece hK hpn), fun h m t t2 th z hM => ?_⟩
    obtain ⟨R, hR⟩ := hM.2.2.2.1
    have e := sp_mpiece (z := z) (G := G) (th := th) (ns := sn) hM.2.2.1 hG.1 hR hpn
    rw [← lop_pr hG (R := R) hpn] at e
    refine md_MR hM (Sp_conseq ?_ e)
    rintro _ _ _ ⟨rfl, rfl, rfl⟩
    have k := hM.2.2.2.row (a := m + 21) (R := prF N G R) (Or.inl rfl)
    exact ⟨rfl, rfl, _, rfl, hM.2.2.1.sc (by omega), k.1, k.2⟩
theorem jo_apart (hG : GOK N G) (hS : GOK sn SG) : jN (fun v : Int32 => Value.int v) 103 106 [] N G sn SG := by
  refine ⟨nI (mxS N G false (2 ^ N)), N, G, sn, SG, fun h x z c r c2 r2 hK => ?_, fun h m t t2 th z hM => ⟨th, md_RR hM (sp_mapart hM.2.2.1 hG.1)⟩⟩
  have e := sp_capart (z := z) hK
  rw [apart_eq hG] at e
  exact co_RR hK Fr.refl e
theorem jo_together (hG : GOK N G) (hS : GOK sn SG) : jN (fun v : Int32 => Value.int v) 108 111 [] N G sn SG := by
  refine ⟨nI (mxS N G true (2 ^ N)), N, G, sn, SG, fun h x z c r c2 r2 hK => ?_, fun h m t t2 th z hM => ⟨th, md_RR hM (sp_mtogether hM.2.2.1 hG.1)⟩⟩
  have e := sp_ctogether (z := z) hK
  rw [together_eq hG] at e
  exact co_RR hK Fr.refl e
end Jo3
