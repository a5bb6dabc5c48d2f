/-! tables of booleans; the object of class ColourmapModel -/
def bo (f : Nat → Bool) : AC := ra 2 9 (fun b => .int (bI (f b)))
def Tb (h : AH) (t : Nat) (G : Nat → Nat → Bool) : Prop := h t = some (ra 4 9 fun j => .ref (t + 1 + j)) ∧ ∀ a, a < 9 → h (t + 1 + a) = some (bo (G a))
def gUpd (G : Nat → Nat → Bool) (a b : Nat) (v : Bool) : Nat → Nat → Bool := fun p q => if p = a ∧ q = b then v else G p q
def tbS (h : AH) (t : Nat) (G : Nat → Nat → Bool) : AH := fun q => if t < q ∧ q < t + 10 then some (bo (G (q - (t + 1)))) else h q
section Tab
variable {h : AH} {t a b : Nat} {G G' : Nat → Nat → Bool}
theorem tbS_row (ha : a < 9) : tbS h t G (t + 1 + a) = some (bo (G a)) := by
  unfold tbS
  rw [if_pos (by omega), show t + 1 + a - (t + 1) = a by omega]
theorem tbS_ne {q : Nat} (hq : q ≤ t ∨ t + 10 ≤ q) : tbS h t G q = h q := if_neg (by omega)
theorem tbS_Tb (h0 : h t = some (ra 4 9 fun j => .ref (t + 1 + j))) : Tb (tbS h t G) t G := ⟨(tbS_ne (by omega)).trans h0, fun a ha => tbS_row ha⟩
theorem tbS_id (hT : Tb h t G) : tbS h t G = h := by
  funext q
  unfold tbS
  split
  · rename_i hq
    have e := hT.2 (q - (t + 1)) (by omega)
    rw [show t + 1 + (q - (t + 1)) = q by omega] at e
    exact e.symm
  · rfl
theorem tbS_tbS : tbS (tbS h t G) t G' = tbS h t G' := by
  funext q
  unfold tbS
  split <;> rfl
theorem tbS_upd (hT : Tb h t G) (ha : a < 9) {v : Bool} : hup h (t + 1 + a) (ra 2 9 (updV' (fun b => .int (bI (G a b))) b (.int (bI v)))) = tbS h t (gUpd G a b v) := by
  funext q
  unfold hup tbS
  by_cases h1 : q = t + 1 + a
  · rw [if_pos h1, if_pos (by omega), show q - (t + 1) = a by omega]
    unfold bo gUpd updV'
    congr 2
    funext j
    by_cases h2 : j = b
    · rw [if_pos h2, if_pos ⟨rfl, h2⟩]
    · rw [if_neg h2, if_neg (fun w => h2 w.2)]
  · rw [if_neg h1]
    split
    · rename_i hq
      have e := hT.2 (q - (t + 1)) (by omega)
      rw [show t + 1 + (q - (t + 1)) = q by omega] at e
      rw [e]
      unfold bo gUpd
      congr 2
      funext j
      rw [if_neg (by omega)]
    · rfl
theorem ald_tb {f : Value → Prop} (hT : Tb h t G) (ha : a < 9) : ald h t 4 (nI a) f = f (.ref (t + 1 + a)) := ald_at (k0 := 4) hT.1 ha
theorem ald_tr {f : Value → Prop} (hT : Tb h t G) (ha : a < 9) (hb : b < 9) : ald h (t + 1 + a) 2 (nI b) f = f (.int (bI (G a b))) := ald_at (k0 := 2) (hT.2 a ha) hb
theorem ast_tr {f : AH → Prop} {v : Bool} (hT : Tb h t G) (ha : a < 9) (hb : b < 9) : ast h (t + 1 + a) 2 (nI b) (.int (bI v)) f = f (tbS h t (gUpd G a b v)) := by
  rw [ast_at (hT.2 a ha) hb, tbS_upd hT ha]
theorem narT : narrow .boolean (.int 1) = .int (bI true) := rfl
theorem narF : narrow .boolean (.int 0) = .int (bI false) := rfl
theorem Tb.fr {h' : AH} (hT : Tb h t G) (hf : ∀ q, t ≤ q → q < t + 10 → h' q = h q) : Tb h' t G := ⟨(hf _ (by omega) (by omega)).trans hT.1, fun a ha => (hf _ (by omega) (by omega)).trans (hT.2 a ha)⟩
end Tab
/-- a table half written over, row by row -/
def stD (i j : Nat) (A B : Nat → Nat → Bool) : Nat → Nat → Bool := fun a b => if a < i ∨ (a = i ∧ b < j) then A a b else B a b
section StD
variable {i j : Nat} {A B : Nat → Nat → Bool}
theorem stD_s : gUpd (stD i j A B) i j (A i j) = stD i (j + 1) A B := by
  funext a b
  unfold gUpd stD
  by_cases h1 : a = i ∧ b = j
  · rw [if_pos h1, if_pos (by omega), h1.1, h1.2]
  · rw [if_neg h1]
    by_cases h2 : a < i ∨ (a = i ∧ b < j)
    · rw [if_pos h2, if_pos (by omega)]
    · rw [if_neg h2, if_neg (by omega)]
theorem stD_v {v : Bool} (h : v = A i j) : gUpd (stD i j A B) i j v = stD i (j + 1) A B := by rw [h, stD_s]
theorem stD_row (h : ∀ b, j ≤ b → A i b = B i b) : stD i j A B = stD (i + 1) 0 A B := by
  funext a b
  unfold stD
  by_cases h1 : a < i ∨ (a = i ∧ b < j)
  · rw [if_pos h1, if_pos (by omega)]
  · rw [if_neg h1]
    by_cases h2 : a = i
    · rw [if_pos (by omega), h2, h b (by omega)]
    · rw [if_neg (by omega)]
theorem stD_st (h : ∀ b, b < j → A i b = B i b) : stD i 0 A B = stD i j A B := by
  funext a b
  unfold stD
  by_cases h1 : a < i ∨ (a = i ∧ b < 0)
  · rw [if_pos h1, if_pos (by omega)]
  · rw [if_neg h1]
    by_cases h2 : a = i ∧ b < j
    · rw [if_pos (by omega), h2.1, h b h2.2]
    · rw [if_neg (by omega)]
theorem stD_0 (h : ∀ a b, a < i → A a b = B a b) : stD i 0 A B = B := by
  funext a b
  unfold stD
  split
  · exact h a b (by omega)
  · rfl
theorem stD_end (h : ∀ a b, i ≤ a → A a b = B a b) : stD i 0 A B = A := by
  funext a b
  unfold stD
  split
  · rfl
  · exact (h a b (by omega)).symm
theorem stD_new {a b : Nat} (h : ¬ (a < i ∨ (a = i ∧ b < j))) : stD i j A B a b = B a b := if_neg h
end StD
def moO (m : Nat) (th : Int32) (n t ns t2 : Nat) : AC := ob 6 [.int th, .int (nI n), .ref t, .int (nI ns), .ref t2, .ref (m + 21), .ref (m + 22), .ref (m + 23), .ref (m + 24), .ref (m + 25), .ref (m + 26), .ref (m + 27), .ref (m + 28), .ref (m + 29), .ref (m + 30), .ref (m + 40)]
/-- the heap h with the model's object and its map's table set -/
def NF (h : AH) (m t t2 ns : Nat) (G : Nat → Nat → Bool) (th : Int32) (n : Nat) : AH := hup (tbS h t G) m (moO m th n t ns t2)
def TT (m t t2 : Nat) : Prop := (t = m + 1 ∧ t2 = m + 11) ∨ (t = m + 11 ∧ t2 = m + 1)
def MB (h : AH) (m t t2 : Nat) (SG : Nat → Nat → Bool) : Prop := TT m t t2 ∧ h t = some (ra 4 9 fun j => .ref (t + 1 + j)) ∧ Tb h t2 SG
section NF
variable {h : AH} {m t t2 ns n : Nat} {G SG G' : Nat → Nat → Bool} {th : Int32}
theorem NF_m : NF h m t t2 ns G th n m = some (moO m th n t ns t2) := hup_same
theorem NF_ne {q : Nat} (h1 : q ≠ m) (h2 : q ≤ t ∨ t + 10 ≤ q) : NF h m t t2 ns G th n q = h q := by
  unfold NF
  rw [hup_ne h1, tbS_ne h2]
theorem NF_Tb (hB : MB h m t t2 SG) : Tb (NF h m t t2 ns G th n) t G := by
  have e := hB.1
  unfold TT at e
  exact (tbS_Tb (G := G) hB.2.1).fr fun q a b => hup_ne (by omega)
theorem NF_T2 (hB : MB h m t t2 SG) : Tb (NF h m t t2 ns G th n) t2 SG := by
  have e := hB.1
  unfold TT at e
  exact hB.2.2.fr fun q a b => NF_ne (by omega) (by omega)
theorem NF_tab (hB : MB h m t t2 SG) : tbS (NF h m t t2 ns G th n) t G' = NF h m t t2 ns G' th n := by
  have e := hB.1
  unfold TT at e
  funext q
  unfold NF tbS hup
  dsimp only
  by_cases h1 : q = m
  · rw [if_neg (by omega), if_pos h1, if_pos h1]
  · rw [if_neg h1, if_neg h1]
    by_cases h2 : t < q ∧ q < t + 10
    · rw [if_pos h2, if_pos h2]
    · rw [if_neg h2, if_neg h2, if_neg h2]
theorem NF_sc {a : Nat} {X : AC} (h1 : a ≠ m) (h2 : a ≤ t ∨ t + 10 ≤ a) : hup (NF h m t t2 ns G th n) a X = NF (hup h a X) m t t2 ns G th n := by
  funext q
  unfold NF tbS hup
  dsimp only
  by_cases h3 : q = a
  · rw [if_pos h3, if_neg (show ¬ q = m by omega), if_neg (show ¬ (t < q ∧ q < t + 10) by omega), if_pos h3]
  · rw [if_neg h3]
    by_cases h4 : q = m
    · rw [if_pos h4, if_pos h4]
    · rw [if_neg h4, if_neg h4, if_neg h3]
theorem NF_th {k : Int32} {f : AH → Prop} : pf (NF h m t t2 ns G th n) m 6 0 (.int k) f = f (NF h m t t2 ns G k n) := by
  rw [pf_ob NF_m (Nat.le_of_ble_eq_true rfl) (show okv (aty 6 0) (.int k) from ⟨rfl, rfl⟩)]
  unfold NF
  rw [hup_hup]
  rfl
theorem NF_n {k : Nat} {f : AH → Prop} : pf (NF h m t t2 ns G th n) m 6 1 (.int (nI k)) f = f (NF h m t t2 ns G th k) := by
  rw [pf_ob NF_m (Nat.le_of_ble_eq_true rfl) (show okv (aty 6 1) (.int (nI k)) from ⟨rfl, rfl⟩)]
  unfold NF
  rw [hup_hup]
  rfl
theorem NF_ns {k : Nat} {f : AH → Prop} : pf (NF h m t t2 ns G th n) m 6 3 (.int (nI k)) f = f (NF h m t t2 k G th n) := by
  rw [pf_ob NF_m (Nat.le_of_ble_eq_true rfl) (show okv (aty 6 3) (.int (nI k)) from ⟨rfl, rfl⟩)]
  unfold NF
  rw [hup_hup]
  rfl
theorem NF_Fr (hB : MB h m t t2 SG) : Fr m (m + 50) h (NF h m t t2 ns G th n) := by
  have e := hB.1
  unfold TT at e
  exact fun q hq => NF_ne (by omega) (by omega)
theorem MB.fr {h' : AH} (hB : MB h m t t2 SG) (hf : ∀ q, m ≤ q → q < m + 21 → h' q = h q) : MB h' m t t2 SG := by
  have e := hB.1
  unfold TT at e
  exact ⟨hB.1, (hf _ (by omega) (by omega)).trans hB.2.1, hB.2.2.fr fun q a b => hf q (by omega) (by omega)⟩
end NF
theorem cnt_t {g : Nat → Bool} {n : Nat} (h : g n = true) : cnt g (n + 1) = cnt g n + 1 := by
  show cnt g n + _ = _
  rw [if_pos h]
theorem cnt_f {g : Nat → Bool} {n : Nat} (h : g n = false) : cnt g (n + 1) = cnt g n := by
  show cnt g n + _ = _
  rw [if_neg (by rw [h]; decide)]
  rfl
