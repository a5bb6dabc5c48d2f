/-! what both sides answer: the value at k -/
theorem pv_b {n : Nat} {G : Nat → Nat → Bool} (hn : n ≤ 9) (k : Int32) : -2 ^ 319 ≤ PV n G k.toInt ∧ PV n G k.toInt < 2 ^ 319 := by
  have h := PV_le (G := G) hn (k_abs k)
  omega
theorem hor_I {F : Nat → Int64} {f : Nat → Int} (hF : ∀ i, F i = Int64.ofInt (f i)) (k : Int) (j : Nat) : ∀ x : Int, hor F (Int64.ofInt k) j (Int64.ofInt x) = Int64.ofInt (x * k ^ j + evS f k j) := by
  induction j with
  | zero =>
    intro x
    rw [Int.pow_zero, Int.mul_one, show x + evS f k 0 = x from Int.add_zero _]
    rfl
  | succ j ih =>
    intro x
    show hor F (Int64.ofInt k) j (Int64.ofInt x * Int64.ofInt k + F j) = _
    rw [hF, ← oI_mul, ← oI_add, ih]
    congr 1
    show _ = x * k ^ (j + 1) + (evS f k j + f j * k ^ j)
    rw [Int.pow_succ]
    grind
theorem hor_PV {n : Nat} {G : Nat → Nat → Bool} (hn : n ≤ 9) (k : Int32) : hor (cofM G n) k.toInt64 (n + 1) 0 = Int64.ofInt (PV n G k.toInt) := by
  have e := hor_I (F := cofM G n) (fun i => cof_I hn i) k.toInt (n + 1) 0
  rw [Int.zero_mul, Int.zero_add] at e
  rw [k_i64]
  exact e
theorem dvF_big {P : Nat → Int64} (hz : ∀ q, 10 ≤ q → P q = 0) : ∀ q, 10 ≤ q → dvF P q = 0 := by
  intro q hq
  unfold dvF std
  rw [if_neg (by omega)]
  exact hz q hq
theorem dvI_big {P : Nat → Int64} (hz : ∀ q, 10 ≤ q → P q = 0) (d : Nat) : ∀ q, 10 ≤ q → dvI P d q = 0 := by
  induction d with
  | zero => exact hz
  | succ d ih => exact dvF_big ih
theorem vlL_I {V : Nat} {sg : Int32} : vlL V * sg.toInt64 = Int64.ofInt ((if V < 10 ^ 12 then (V : Int) else 1099511627776) * sg.toInt) := by
  rw [oI_mul, ← k_i64]
  congr 1
  unfold vlL
  split
  · exact (oI_nat V).symm
  · rfl
theorem vlL_to {V : Nat} {sg : Int32} (hs : sg = 1 ∨ sg = -1) : (vlL V * (if V = 0 then 0 else sg).toInt64).toInt = (if V < 10 ^ 12 then (V : Int) else 1099511627776) * sg.toInt := by
  by_cases h0 : V = 0
  · subst h0
    rw [if_pos rfl, if_pos (by decide)]
    rcases hs with rfl | rfl <;> rfl
  · rw [if_neg h0, vlL_I, oI_to]
    · rcases hs with rfl | rfl
      · rw [show (1 : Int32).toInt = 1 from rfl]; split <;> omega
      · rw [show (-1 : Int32).toInt = -1 from rfl]; split <;> omega
    · rcases hs with rfl | rfl
      · rw [show (1 : Int32).toInt = 1 from rfl]; split <;> omega
      · rw [show (-1 : Int32).toInt = -1 from rfl]; split <;> omega
theorem cmp_e {V W : Nat} {sg sg' : Int32} (hs : sg = 1 ∨ sg = -1) (hs' : sg' = 1 ∨ sg' = -1) : (if (if V = 0 then 0 else sg) = (if W = 0 then 0 else sg') then (if V = W then 0 else (if W ≤ V then 1 else -1) * (if V = 0 then 0 else sg)) else (if (if W = 0 then 0 else sg') ≤ (if V = 0 then 0 else sg) then 1 else -1)) = (if sg.toInt * (V : Int) = sg'.toInt * (W : Int) then (0 : Int32) else if sg'.toInt * (W : Int) ≤ sg.toInt * (V : Int) then 1 else -1) := by
  have t1 : (1 : Int32).toInt = 1 := rfl
  have t2 : (-1 : Int32).toInt = -1 := rfl
  have c1 : ¬ (1 : Int32) = -1 := by decide
  have c2 : ¬ (-1 : Int32) = 1 := by decide
  have c3 : ¬ (0 : Int32) = 1 := by decide
  have c4 : ¬ (0 : Int32) = -1 := by decide
  have c5 : ¬ (1 : Int32) = 0 := by decide
  have c6 : ¬ (-1 : Int32) = 0 := by decide
  have l1 : (-1 : Int32) ≤ 1 := by decide
  have l2 : ¬ (1 : Int32) ≤ -1 := by decide
  have l3 : (0 : Int32) ≤ 1 := by decide
  have l4 : ¬ (1 : Int32) ≤ 0 := by decide
  have l5 : (-1 : Int32) ≤ 0 := by decide
  have l6 : ¬ (0 : Int32) ≤ -1 := by decide
  have m1 : (-1 : Int32) * -1 = 1 := by decide
  have m2 : (1 : Int32) * -1 = -1 := by decide
  by_cases hV : V = 0 <;> by_cases hW : W = 0 <;> rcases hs with rfl | rfl <;> rcases hs' with rfl | rfl <;> simp only [hV, hW, t1, t2, if_true, if_false, c1, c2, c3, c4, c5, c6, l1, l2, l3, l4, l5, l6] <;> (repeat' split) <;> first | rfl | (exfalso; omega) | decide
section JoV
variable {p0 p1 : Int32} {N sn : Nat} {G SG : Nat → Nat → Bool}
theorem jo_round (hG : GOK N G) (hS : GOK sn SG) : jN (fun v : Int64 => Value.long v) 162 163 [.int p0] N G sn SG := by
  refine ⟨Int64.ofInt (PV N G p0.toInt), N, G, sn, SG, fun h x z c r c2 r2 hK => ?_, fun h m t t2 th z hM => ⟨th, ?_⟩⟩
  · have e := sp_cround (z := z) (k := p0) hK
    rw [wlow_R (evW_R hG p0)] at e
    exact co_RR (hK.ev (k := p0)).1 ((hK.ev (k := p0)).2.mono (by omega) (by omega)) e
  · have e := md_MR hM (Sp_conseq (ExP_MR hM.2.2.1 hM.2.2.2 hG.1) (sp_mround (z := z) (k := p0) hM.2.2.1 hM.2.2.2.2.1 hG.1))
    rw [hor_PV hG.1] at e
    exact e
theorem jo_value (hG : GOK N G) (hS : GOK sn SG) : jO (fun v : Int32 => Value.int v) (fun _ : Int32 => True) 147 156 [.int p0] [(4, 1)] N G sn SG := by
  obtain ⟨b1, b2⟩ := pv_b (G := G) hG.1 p0
  have hf := wfit_R (evW_R hG p0) b1 b2
  have hv := PV_rV (n := N) (G := G) p0
  have ht := vlL_to (V := rV N G p0) (rS_or (n := N) (k := p0))
  have hs := rS_or (n := N) (k := p0)
  have hd : (vlL (rV N G p0) * (if rV N G p0 = 0 then 0 else rS N p0).toInt64 < -2147483648 ∨ ¬ vlL (rV N G p0) * (if rV N G p0 = 0 then 0 else rS N p0).toInt64 ≤ 2147483647) ↔ ¬ (-2147483648 ≤ PV N G p0.toInt ∧ PV N G p0.toInt < 2147483648) := by
    rw [Int64.lt_iff_toInt_lt, Int64.le_iff_toInt_le, ht, hv, show (-2147483648 : Int64).toInt = -2147483648 from rfl, show (2147483647 : Int64).toInt = 2147483647 from rfl]
    rcases hs with e | e
    · rw [e, show (1 : Int32).toInt = 1 from rfl]
      split <;> omega
    · rw [e, show (-1 : Int32).toInt = -1 from rfl]
      split <;> omega
  by_cases hr : -2147483648 ≤ PV N G p0.toInt ∧ PV N G p0.toInt < 2147483648
  · refine Or.inl ⟨(Int64.ofInt (PV N G p0.toInt)).toInt32, N, G, sn, SG, trivial, fun h x z c r c2 r2 hK => ?_, fun h m t t2 th z hM => ?_⟩
    · have e := sp_cvalue (z := z) (k := p0) hK (hf.mpr hr)
      rw [wlow_R (evW_R hG p0)] at e
      exact co_RR (hK.ev (k := p0)).1 ((hK.ev (k := p0)).2.mono (by omega) (by omega)) e
    · have hL : vlL (rV N G p0) * (if rV N G p0 = 0 then 0 else rS N p0).toInt64 = Int64.ofInt (PV N G p0.toInt) := by
        apply Int64.toInt_inj.mp
        rw [ht, oI_to (by omega) (by omega), hv]
        have hsm : rV N G p0 < 10 ^ 12 := by unfold rV; omega
        rw [if_pos hsm, Int.mul_comm]
      have e := sp_mvalue (z := z) (th := th) (rk_ok (t := t) (t2 := t2) (ns := sn) (SG := SG) (m := m) hG p0) hM.2.2.1 hM.2.2.2 (rV_lt10 hG.1 p0)
      refine md_MR hM (Sp_conseq ?_ e)
      intro o h' z' ho
      rw [if_neg (fun w => hd.mp w hr), hL] at ho
      exact RkP_MR hM.2.2.1 hM.2.2.2 hG.1 o h' z' ho
  · refine Or.inr ⟨4, 1, by decide, fun h x z c r c2 r2 hK => ?_, fun h m t t2 th z hM => ⟨0, ?_⟩⟩
    · have e := sp_cvalue_no (z := z) (k := p0) hK (by
        cases hw : wfit (evW N G p0) 9
        · rfl
        · exact absurd (hf.mp hw) hr)
      exact co_RX (hK.ev (k := p0)).1 ((hK.ev (k := p0)).2.mono (by omega) (by omega)) e
    · have e := sp_mvalue (z := z) (th := th) (rk_ok (t := t) (t2 := t2) (ns := sn) (SG := SG) (m := m) hG p0) hM.2.2.1 hM.2.2.2 (rV_lt10 hG.1 p0)
      refine md_MR hM (Sp_conseq ?_ e)
      intro o h' z' ho
      rw [if_pos (hd.mpr hr)] at ho
      exact RkP_MR hM.2.2.1 hM.2.2.2 hG.1 o h' z' ho
theorem dSg_rV (hG : GOK N G) (k : Int32) : RW (dSg (evW N G k)) ((rV N G k : Nat) : Int) := dSg_R (evW_R hG k) (pv_b hG.1 k).1 (pv_b hG.1 k).2
theorem rV_320 (hG : GOK N G) (k : Int32) : rV N G k < 2 ^ 320 := Nat.lt_trans (rV_lt hG.1 k) (by decide)
theorem jo_bits (hG : GOK N G) (hS : GOK sn SG) : jN (fun v : Int32 => Value.int v) 165 169 [.int p0] N G sn SG := by
  refine ⟨nI (blN 333 (rV N G p0)), N, G, sn, SG, fun h x z c r c2 r2 hK => ?_, fun h m t t2 th z hM => ⟨th, ?_⟩⟩
  · have e := sp_cbits (z := z) (k := p0) hK
    rw [wbd_R (dSg_rV hG p0) (rV_320 hG p0)] at e
    have k1 := hK.ev (k := p0)
    have k2 := k1.1.wh1 (dSg_big (evW_big (n := N) (G := G) (k := p0)))
    exact co_RR k2.1 ((k1.2.mono (by omega) (by omega)).trans (k2.2.mono (by omega) (by omega))) e
  · exact md_MR hM (Sp_conseq (RkP_MR hM.2.2.1 hM.2.2.2 hG.1) (sp_mbits (rk_ok hG p0) hM.2.2.1 hM.2.2.2 (rV_lt10 hG.1 p0)))
theorem jo_sign (hG : GOK N G) (hS : GOK sn SG) : jN (fun v : Int32 => Value.int v) 170 172 [.int p0] N G sn SG := by
  have hv := PV_rV (n := N) (G := G) p0
  have hs := rS_or (n := N) (k := p0)
  obtain ⟨b1, b2⟩ := pv_b (G := G) hG.1 p0
  have he : (if wneg (evW N G p0) then -1 else if wbd (evW N G p0) 320 = 0 then 0 else 1) = if rV N G p0 = 0 then (0 : Int32) else rS N p0 := by
    rw [wneg_R (evW_R hG p0) b1 b2]
    by_cases hx : PV N G p0.toInt < 0
    · rw [decide_eq_true hx, if_pos rfl, if_neg (by unfold rV; omega)]
      rcases hs with e | e
      · rw [e, show (1 : Int32).toInt = 1 from rfl] at hv
        omega
      · exact e.symm
    · have hr : RW (evW N G p0) ((rV N G p0 : Nat) : Int) := by
        have h := evW_R hG p0
        rw [show PV N G p0.toInt = ((rV N G p0 : Nat) : Int) by unfold rV; omega] at h
        exact h
      rw [decide_eq_false hx, if_neg (by decide)]
      have h0 := wbd_0 hr (rV_320 hG p0)
      by_cases h : rV N G p0 = 0
      · rw [if_pos (h0.mpr h), if_pos h]
      · rw [if_neg (fun w => h (h0.mp w)), if_neg h]
        rcases hs with e | e
        · exact e.symm
        · rw [e, show (-1 : Int32).toInt = -1 from rfl] at hv
          omega
  refine ⟨if rV N G p0 = 0 then 0 else rS N p0, N, G, sn, SG, fun h x z c r c2 r2 hK => ?_, fun h m t t2 th z hM => ⟨th, ?_⟩⟩
  · have e := sp_csign (z := z) (k := p0) hK
    rw [he] at e
    exact co_RR (hK.ev (k := p0)).1 ((hK.ev (k := p0)).2.mono (by omega) (by omega)) e
  · exact md_MR hM (Sp_conseq (RkP_MR hM.2.2.1 hM.2.2.2 hG.1) (sp_msign (rk_ok hG p0) hM.2.2.1 hM.2.2.2))
theorem jo_digit (hG : GOK N G) (hS : GOK sn SG) : jO (fun v : Int32 => Value.int v) (fun _ : Int32 => True) 174 176 [.int p0, .int p1] [(2, 1)] N G sn SG := by
  by_cases hp : p1 < 0 ∨ ¬ p1 < 100
  · exact Or.inr ⟨2, 1, by decide, fun h x z c r c2 r2 hK => co_RX hK Fr.refl (sp_cdigit_no hp), fun h m t t2 th z hM => ⟨0, md_RR hM (sp_mdigit_no hp)⟩⟩
  · obtain ⟨d, hd0, rfl⟩ := nI_of (fun w => hp (Or.inl w))
    have hd : d < 100 := by
      have h := Decidable.not_not.mp fun w => hp (Or.inr w)
      rw [Int32.lt_iff_toInt_lt, nI_toInt hd0, show (100 : Int32).toInt = 100 from rfl] at h
      omega
    refine Or.inl ⟨nI (dgN (rV N G p0) d), N, G, sn, SG, trivial, fun h x z c r c2 r2 hK => ?_, fun h m t t2 th z hM => ?_⟩
    · have e := sp_cdigit (z := z) (k := p0) hK hd
      have h1 := dvI_R (dSg_rV hG p0) (rV_320 hG p0) d
      have h2 := dvo_R h1 (Nat.lt_of_le_of_lt (Nat.div_le_self _ _) (rV_320 hG p0)) 10 (Nat.le_refl _)
      rw [show 32 * (10 - 10) = 0 from rfl, Nat.pow_zero, Nat.div_one] at h2
      rw [h2, lN_i] at e
      have k1 := hK.ev (k := p0)
      have k2 := k1.1.wh1 (dvI_big (dSg_big (evW_big (n := N) (G := G) (k := p0))) (d + 1))
      exact co_RR k2.1 ((k1.2.mono (by omega) (by omega)).trans (k2.2.mono (by omega) (by omega))) e
    · exact md_MR hM (Sp_conseq (RkP_MR hM.2.2.1 hM.2.2.2 hG.1) (sp_mdigit (rk_ok hG p0) hM.2.2.1 hM.2.2.2 hd))
theorem jo_compare (hG : GOK N G) (hS : GOK sn SG) : jN (fun v : Int32 => Value.int v) 182 184 [.int p0, .int p1] N G sn SG := by
  obtain ⟨b1, b2⟩ := pv_b (G := G) hG.1 p0
  obtain ⟨c1, c2⟩ := pv_b (G := G) hG.1 p1
  refine ⟨if PV N G p0.toInt = PV N G p1.toInt then 0 else if PV N G p1.toInt ≤ PV N G p0.toInt then 1 else -1, N, G, sn, SG, fun h x z c r c2 r2 hK => ?_, fun h m t t2 th z hM => ⟨th, ?_⟩⟩
  · have e := sp_ccompare (z := z) (k := p0) (k' := p1) hK
    rw [wcm_R (evW_R hG p0) (evW_R hG p1) b1 b2 c1 (by assumption)] at e
    exact co_RR (hK.cmp (k := p0) (k' := p1)).1 ((hK.cmp (k := p0) (k' := p1)).2.mono (by omega) (by omega)) e
  · have e := sp_mcompare (z := z) (th := th) (rk_ok (m := m) (t := t) (t2 := t2) (ns := sn) (SG := SG) hG p0) (rk_ok hG p1) hG.1 hM.2.2.1 hM.2.2.2 (rV_lt10 hG.1 p0) (rV_lt10 hG.1 p1)
    rw [cmp_e rS_or rS_or, ← PV_rV, ← PV_rV] at e
    exact md_MR hM e
end JoV
