/-! the ways' directions: the two counts -/
section Dir2
variable {n : Nat} {G : Nat → Nat → Bool}
theorem rwL_mem {a : Nat} (i : Nat) : ∀ p, p ∈ rwL G a i → G p.1 p.2 = true := by
  induction i with
  | zero => exact fun p hp => absurd hp List.not_mem_nil
  | succ i ih =>
    intro p hp
    rcases List.mem_append.mp hp with h | h
    · exact ih p h
    · split at h
      · rename_i hg
        rw [List.mem_singleton] at h
        rw [h]
        exact hg
      · exact absurd h List.not_mem_nil
theorem clsL_mem (k : Nat) : ∀ p, p ∈ clsL G n k → G p.1 p.2 = true := by
  induction k with
  | zero => exact fun p hp => absurd hp List.not_mem_nil
  | succ k ih =>
    intro p hp
    rcases List.mem_append.mp hp with h | h
    · exact ih p h
    · exact rwL_mem _ p h
theorem dir_dl {A B : Nat → Nat} (l : List (Nat × Nat)) : ∀ (w : Nat) (L : Nat → Nat), (∀ i (h : i < l.length), l[i] = (A (w + i), B (w + i))) → (∀ p, p ∈ l → p.1 < 9 ∧ p.2 < 9) → (∀ p q, (L p).testBit q = true → p < 9) → dir A B l.length w L = dl tr0 l (fun x y => (L x).testBit y) := by
  induction l with
  | nil =>
    intro w L _ _ hL
    exact tr0_e (rng_iff hL)
  | cons p l ih =>
    intro w L hl hb hL
    have h0 : p = (A w, B w) := hl 0 (Nat.succ_pos _)
    have hp := hb p List.mem_cons_self
    have hup : ∀ a b, (fun x y => (updN L a (L a ||| 2 ^ b) x).testBit y) = ad (fun x y => (L x).testBit y) a b := by
      intro a b
      funext x y
      exact or_tb
    have hL' : ∀ a b, a < 9 → ∀ p q, (updN L a (L a ||| 2 ^ b) p).testBit q = true → p < 9 := by
      intro a b ha p q h
      rw [or_tb, Bool.or_eq_true, decide_eq_true_eq] at h
      rcases h with h | h
      · exact hL p q h
      · rw [h.1]
        exact ha
    have hl' : ∀ i (h : i < l.length), l[i] = (A (w + 1 + i), B (w + 1 + i)) := by
      intro i hi
      have := hl (i + 1) (Nat.succ_lt_succ hi)
      rw [show w + 1 + i = w + (i + 1) by omega]
      exact this
    have hb' : ∀ p, p ∈ l → p.1 < 9 ∧ p.2 < 9 := fun q hq => hb q (List.mem_cons_of_mem _ hq)
    subst h0
    show dir A B l.length (w + 1) _ + dir A B l.length (w + 1) _ = dl tr0 l _ + dl tr0 l _
    rw [ih (w + 1) _ hl' hb' (hL' (A w) (B w) hp.1), ih (w + 1) _ hl' hb' (hL' (B w) (A w) hp.2), hup, hup]
theorem trd_e (hG : GOK n G) (A B : Nat → Nat) : trd n G A B = dl tr0 ((clsL G n n).take 10) (fun _ _ => false) := by
  have h := wyA_rep (n := n) (G := G) (s := (0, A, B)) ⟨rfl, fun i hi => absurd hi (Nat.not_lt_zero i)⟩ n
  have hn := hG.1
  unfold trd
  rw [h.1, dir_dl _ 0 _ (fun i hi => by rw [Nat.zero_add]; exact h.2 i hi) (fun p hp => by
    have := hG.2 _ _ (clsL_mem n p (List.mem_of_mem_take hp))
    omega) (fun p q hq => by rw [Nat.zero_testBit] at hq; cases hq)]
  congr 1
  funext x y
  exact Nat.zero_testBit y
/-- the reference's sum -/
def smN (f : Nat → Nat) : Nat → Nat
  | 0 => 0
  | w + 1 => smN f w + f w
theorem smN_congr {f g : Nat → Nat} (h : ∀ w, f w = g w) (k : Nat) : smN f k = smN g k := by rw [show f = g from funext h]
theorem smN_two (f : Nat → Nat) (k : Nat) : smN f (2 * k) = smN (fun w => f (2 * w)) k + smN (fun w => f (2 * w + 1)) k := by
  induction k with
  | zero => rfl
  | succ k ih =>
    show smN f (2 * k + 1 + 1) = _
    show smN f (2 * k) + f (2 * k) + f (2 * k + 1) = smN (fun w => f (2 * w)) k + f (2 * k) + (smN (fun w => f (2 * w + 1)) k + f (2 * k + 1))
    rw [ih]
    omega
def rel : List (Nat × Nat) → Nat → (Nat → Nat → Bool) → (Nat → Nat → Bool)
  | [], _, R => R
  | p :: l, w, R => rel l (w / 2) (if w % 2 = 1 then ad R p.2 p.1 else ad R p.1 p.2)
theorem smN_rel (g : (Nat → Nat → Bool) → Nat) (l : List (Nat × Nat)) : ∀ R, smN (fun w => g (rel l w R)) (2 ^ l.length) = dl g l R := by
  induction l with
  | nil => exact fun R => Nat.zero_add _
  | cons p l ih =>
    intro R
    rw [List.length_cons, Nat.pow_succ, Nat.mul_comm, smN_two]
    show _ = dl g l (ad R p.1 p.2) + dl g l (ad R p.2 p.1)
    rw [← ih, ← ih]
    congr 1
    · refine smN_congr (fun w => ?_) _
      show g (rel l (2 * w / 2) (if 2 * w % 2 = 1 then ad R p.2 p.1 else ad R p.1 p.2)) = _
      rw [if_neg (by omega), show 2 * w / 2 = w by omega]
    · refine smN_congr (fun w => ?_) _
      show g (rel l ((2 * w + 1) / 2) (if (2 * w + 1) % 2 = 1 then ad R p.2 p.1 else ad R p.1 p.2)) = _
      rw [if_pos (by omega), show (2 * w + 1) / 2 = w by omega]
theorem rel_app (l l' : List (Nat × Nat)) : ∀ w R, rel (l ++ l') w R = rel l' (w / 2 ^ l.length) (rel l w R) := by
  induction l with
  | nil =>
    intro w R
    rw [List.nil_append, List.length_nil, Nat.pow_zero, Nat.div_one]
    rfl
  | cons p l ih =>
    intro w R
    show rel (l ++ l') (w / 2) _ = rel l' (w / 2 ^ (l.length + 1)) (rel l (w / 2) _)
    rw [ih, Nat.pow_succ, Nat.mul_comm, ← Nat.div_div_eq_div_mul]
theorem bit_md {w i : Nat} : w / 2 ^ i % 2 = 1 ↔ w.testBit i = true := by
  rw [Nat.testBit_eq_decide_div_mod_eq, decide_eq_true_eq]
theorem ad_iff {R : Nat → Nat → Bool} {a b x y : Nat} : ad R a b x y = true ↔ R x y = true ∨ (x = a ∧ y = b) := by
  unfold ad
  rw [Bool.or_eq_true, decide_eq_true_eq]
theorem rel_co {m w : Nat} {R : Nat → Nat → Bool} {x y : Nat} (k : Nat) : rel (coL G m k) w R x y = true ↔ R x y = true ∨ (x = m ∧ y < k ∧ G m y = true ∧ w.testBit (cnt (G m) y) = true) ∨ (y = m ∧ x < k ∧ G m x = true ∧ w.testBit (cnt (G m) x) = false) := by
  induction k with
  | zero => exact ⟨fun h => Or.inl h, fun h => h.elim id fun w => w.elim (fun v => absurd v.2.1 (Nat.not_lt_zero _)) fun v => absurd v.2.1 (Nat.not_lt_zero _)⟩
  | succ k ih =>
    have e : coL G m (k + 1) = coL G m k ++ (if G m k = true then [(k, m)] else []) := rfl
    rw [e, rel_app, coL_len]
    by_cases hg : G m k = true
    · rw [if_pos hg]
      show (if w / 2 ^ cnt (G m) k % 2 = 1 then ad (rel (coL G m k) w R) m k else ad (rel (coL G m k) w R) k m) x y = true ↔ _
      cases hb : w.testBit (cnt (G m) k)
      · rw [if_neg (fun q => by rw [bit_md, hb] at q; cases q), ad_iff, ih]
        constructor
        · rintro ((h | ⟨h1, h2, h3, h4⟩ | ⟨h1, h2, h3, h4⟩) | ⟨h1, h2⟩)
          · exact Or.inl h
          · exact Or.inr (Or.inl ⟨h1, by omega, h3, h4⟩)
          · exact Or.inr (Or.inr ⟨h1, by omega, h3, h4⟩)
          · exact Or.inr (Or.inr ⟨h2, by omega, by rw [h1]; exact hg, by rw [h1]; exact hb⟩)
        · rintro (h | ⟨h1, h2, h3, h4⟩ | ⟨h1, h2, h3, h4⟩)
          · exact Or.inl (Or.inl h)
          · by_cases hy : y = k
            · rw [hy, hb] at h4
              cases h4
            · exact Or.inl (Or.inr (Or.inl ⟨h1, by omega, h3, h4⟩))
          · by_cases hx : x = k
            · exact Or.inr ⟨hx, h1⟩
            · exact Or.inl (Or.inr (Or.inr ⟨h1, by omega, h3, h4⟩))
      · rw [if_pos (bit_md.mpr hb), ad_iff, ih]
        constructor
        · rintro ((h | ⟨h1, h2, h3, h4⟩ | ⟨h1, h2, h3, h4⟩) | ⟨h1, h2⟩)
          · exact Or.inl h
          · exact Or.inr (Or.inl ⟨h1, by omega, h3, h4⟩)
          · exact Or.inr (Or.inr ⟨h1, by omega, h3, h4⟩)
          · exact Or.inr (Or.inl ⟨h1, by omega, by rw [h2]; exact hg, by rw [h2]; exact hb⟩)
        · rintro (h | ⟨h1, h2, h3, h4⟩ | ⟨h1, h2, h3, h4⟩)
          · exact Or.inl (Or.inl h)
          · by_cases hy : y = k
            · exact Or.inr ⟨h1, hy⟩
            · exact Or.inl (Or.inr (Or.inl ⟨h1, by omega, h3, h4⟩))
          · by_cases hx : x = k
            · rw [hx, hb] at h4
              cases h4
            · exact Or.inl (Or.inr (Or.inr ⟨h1, by omega, h3, h4⟩))
    · rw [if_neg hg]
      show rel (coL G m k) w R x y = true ↔ _
      rw [ih]
      constructor
      · rintro (h | ⟨h1, h2, h3, h4⟩ | ⟨h1, h2, h3, h4⟩)
        · exact Or.inl h
        · exact Or.inr (Or.inl ⟨h1, by omega, h3, h4⟩)
        · exact Or.inr (Or.inr ⟨h1, by omega, h3, h4⟩)
      · rintro (h | ⟨h1, h2, h3, h4⟩ | ⟨h1, h2, h3, h4⟩)
        · exact Or.inl h
        · by_cases hy : y = k
          · rw [hy] at h3
            exact absurd h3 hg
          · exact Or.inr (Or.inl ⟨h1, by omega, h3, h4⟩)
        · by_cases hx : x = k
          · rw [hx] at h3
            exact absurd h3 hg
          · exact Or.inr (Or.inr ⟨h1, by omega, h3, h4⟩)
def MP (G : Nat → Nat → Bool) (w k x y : Nat) : Prop := (y < x ∧ x < k ∧ G x y = true ∧ w.testBit (wys G x + cnt (G x) y) = true) ∨ (x < y ∧ y < k ∧ G y x = true ∧ w.testBit (wys G y + cnt (G y) x) = false)
theorem rel_md {w x y : Nat} (k : Nat) : rel (mdL G k) w (fun _ _ => false) x y = true ↔ MP G w k x y := by
  induction k with
  | zero => exact ⟨fun h => (by cases h), fun h => h.elim (fun v => absurd v.2.1 (Nat.not_lt_zero _)) fun v => absurd v.2.1 (Nat.not_lt_zero _)⟩
  | succ k ih =>
    have e : mdL G (k + 1) = mdL G k ++ coL G k k := rfl
    rw [e, rel_app, rel_co, ih, mdL_len, Nat.testBit_div_two_pow, Nat.testBit_div_two_pow]
    unfold MP
    constructor
    · rintro ((⟨h1, h2, h3, h4⟩ | ⟨h1, h2, h3, h4⟩) | ⟨h1, h2, h3, h4⟩ | ⟨h1, h2, h3, h4⟩)
      · exact Or.inl ⟨h1, by omega, h3, h4⟩
      · exact Or.inr ⟨h1, by omega, h3, h4⟩
      · subst h1
        exact Or.inl ⟨h2, by omega, h3, by rw [Nat.add_comm]; exact h4⟩
      · subst h1
        exact Or.inr ⟨h2, by omega, h3, by rw [Nat.add_comm]; exact h4⟩
    · rintro (⟨h1, h2, h3, h4⟩ | ⟨h1, h2, h3, h4⟩)
      · by_cases hx : x = k
        · subst hx
          exact Or.inr (Or.inl ⟨rfl, h1, h3, by rw [Nat.add_comm]; exact h4⟩)
        · exact Or.inl (Or.inl ⟨h1, by omega, h3, h4⟩)
      · by_cases hy : y = k
        · subst hy
          exact Or.inr (Or.inr ⟨rfl, h1, h3, by rw [Nat.add_comm]; exact h4⟩)
        · exact Or.inl (Or.inr ⟨h1, by omega, h3, h4⟩)
theorem ldB_at {w a : Nat} {X : Nat → Nat → Bool} {p q : Nat} (j : Nat) (hj : j ≤ a) : ldB G w a X j p q = if p = a ∧ q < j then ldT G w a q else if q = a ∧ p < j then (G a p && !ldT G w a p) else X p q := by
  induction j with
  | zero =>
    rw [if_neg (by omega), if_neg (by omega)]
    rfl
  | succ j ih =>
    show (if p = j ∧ q = a then (G a j && !ldT G w a j) else if p = a ∧ q = j then ldT G w a j else ldB G w a X j p q) = _
    rw [ih (by omega)]
    by_cases h1 : p = j ∧ q = a
    · rw [if_pos h1, if_neg (by omega), if_pos (by omega), h1.1]
    · rw [if_neg h1]
      by_cases h2 : p = a ∧ q = j
      · rw [if_pos h2, if_pos (by omega), h2.2]
      · rw [if_neg h2]
        by_cases h3 : p = a ∧ q < j
        · rw [if_pos h3, if_pos (by omega)]
        · rw [if_neg h3]
          by_cases h4 : q = a ∧ p < j
          · rw [if_pos h4, if_neg (by omega), if_pos (by omega)]
          · rw [if_neg h4, if_neg (by omega), if_neg (by omega)]
theorem ldA_at {w : Nat} {X : Nat → Nat → Bool} (hX : ∀ p, X p p = false) {p q : Nat} (k : Nat) : ldA G w X k p q = if p < k ∧ q < k then (if q < p then ldT G w p q else if p < q then (G q p && !ldT G w q p) else false) else X p q := by
  induction k with
  | zero => exact (if_neg (by omega)).symm
  | succ k ih =>
    show ldB G w k (ldA G w X k) k p q = _
    rw [ldB_at k (Nat.le_refl _), ih]
    by_cases h1 : p = k ∧ q < k
    · rw [if_pos h1, if_pos (by omega), if_pos (by omega), h1.1]
    · rw [if_neg h1]
      by_cases h2 : q = k ∧ p < k
      · rw [if_pos h2, if_pos (by omega), if_neg (by omega), if_pos (by omega), h2.1]
      · rw [if_neg h2]
        by_cases h3 : p < k ∧ q < k
        · rw [if_pos h3, if_pos (show p < k + 1 ∧ q < k + 1 by omega)]
        · rw [if_neg h3]
          by_cases h4 : p < k + 1 ∧ q < k + 1
          · have e : p = q := by omega
            subst e
            rw [if_pos h4, if_neg (Nat.lt_irrefl p), if_neg (Nat.lt_irrefl p)]
            exact hX p
          · rw [if_neg h4]
theorem nrF_w (hG : GOK n G) {w : Nat} {X : Nat → Nat → Bool} (hX : ∀ p, X p p = false) : (if nrF (ldA G w X n) n = true then 1 else 0) = tr0 (rel (mdL G n) w (fun _ _ => false)) := by
  refine tr0_e (nrF_iff hG.1 (fun p q h => ?_) fun p q hp hq => ?_)
  · rcases (rel_md n).mp h with h | h
    · exact ⟨h.2.1, by have := h.1; have := h.2.1; omega⟩
    · exact ⟨by have := h.1; have := h.2.1; omega, h.2.1⟩
  · rw [ldA_at hX, if_pos ⟨hp, hq⟩, Bool.eq_iff_iff, rel_md]
    unfold MP ldT
    by_cases h1 : q < p
    · rw [if_pos h1, Bool.and_eq_true]
      constructor
      · exact fun h => Or.inl ⟨h1, hp, h.1, h.2⟩
      · rintro (h | h)
        · exact ⟨h.2.2.1, h.2.2.2⟩
        · exact absurd h.1 (by omega)
    · rw [if_neg h1]
      by_cases h2 : p < q
      · rw [if_pos h2, Bool.and_eq_true]
        constructor
        · rintro ⟨a1, a2⟩
          rw [a1, Bool.true_and, Bool.not_eq_true'] at a2
          exact Or.inr ⟨h2, hq, a1, a2⟩
        · rintro (h | h)
          · exact absurd h.1 h1
          · refine ⟨h.2.2.1, ?_⟩
            rw [h.2.2.1, h.2.2.2]
            rfl
      · rw [if_neg h2]
        exact ⟨fun h => (by cases h), fun h => h.elim (fun v => absurd v.1 h1) fun v => absurd v.1 h2⟩
theorem drF_sm (hG : GOK n G) {X : Nat → Nat → Bool} (hX : ∀ p, X p p = false) (W : Nat) : (drF G n X W).1 = smN (fun w => tr0 (rel (mdL G n) w (fun _ _ => false))) W := by
  induction W with
  | zero => rfl
  | succ W ih =>
    show (drF G n X W).1 + (if nrF (ldA G W (drF G n X W).2 n) n = true then 1 else 0) = smN _ W + tr0 (rel (mdL G n) W (fun _ _ => false))
    rw [ih, nrF_w hG (drF_diag hX W)]
theorem drF_e (hG : GOK n G) {X : Nat → Nat → Bool} (hX : ∀ p, X p p = false) : (drF G n X (2 ^ wys G n)).1 = dl tr0 (mdL G n) (fun _ _ => false) := by
  rw [drF_sm hG hX, ← mdL_len, smN_rel]
theorem trd_md (hG : GOK n G) (A B : Nat → Nat) (h10 : wys G n ≤ 10) : trd n G A B = dl tr0 (mdL G n) (fun _ _ => false) := by
  have hp := cls_md (G := G) (fun a b => GOK.sym hG a b) n
  rw [trd_e hG, List.take_of_length_le (by rw [hp.length_eq, mdL_len]; exact h10)]
  exact dl_perm hp _
end Dir2
section JoD
variable {N sn : Nat} {G SG : Nat → Nat → Bool}
theorem jo_tried (hG : GOK N G) (hS : GOK sn SG) : jO (fun v : Int32 => Value.int v) (fun _ : Int32 => True) 189 194 [] [(5, 1)] N G sn SG := by
  have hw := ends_wys hG
  by_cases h10 : wys G N ≤ 10
  · refine Or.inl ⟨nI (dl tr0 (mdL G N) (fun _ _ => false)), N, G, sn, SG, trivial, fun h x z c r c2 r2 hK => ?_, fun h m t t2 th z hM => ?_⟩
    · obtain ⟨m, A, B, d1, d2, d3, d4⟩ := hK.hdirs
      have e := sp_ctried (z := z) hK d1 d2 d3 d4 (by rw [hw]; exact h10)
      rw [trd_md hG A B h10] at e
      exact co_RR hK.wy.1 (hK.wy.2.mono (by omega) (by omega)) e
    · obtain ⟨X, s7, d7⟩ := hM.2.2.2.2.2.2.2.2.2.1
      have e := sp_mtried (z := z) (th := th) (ns := sn) hM.2.2.1 hG.1 h10 s7
      rw [drF_e hG d7] at e
      refine md_MR hM (Sp_conseq ?_ e)
      rintro _ _ _ ⟨rfl, rfl, rfl⟩
      have k := hM.2.2.2.lead (drF_diag (G := G) (n := N) d7 (2 ^ wys G N))
      exact ⟨rfl, rfl, _, rfl, hM.2.2.1.tt (by omega), k.1, k.2.mono (by omega) (by omega)⟩
  · exact Or.inr ⟨5, 1, by decide, fun h x z c r c2 r2 hK => co_RX hK Fr.refl (sp_ctried_no hK (by rw [hw]; omega)), fun h m t t2 th z hM => ⟨0, md_RR hM (sp_mtried_no hM.2.2.1 hG (by omega))⟩⟩
end JoD
