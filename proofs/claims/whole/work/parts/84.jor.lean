/-! what both sides answer: the rest of the value -/
theorem lN_to {b : Nat} (hb : b < 2 ^ 63) : (lN b).toInt = (b : Int) := by rw [lN_ti (by omega), if_pos hb]
theorem xor_sg (X : Int64) {b : Nat} (hb : b < 2 ^ 31) : 0 ≤ lg_cmp (X ^^^ lN b) 0 ↔ 0 ≤ X.toInt := by
  have h1 : ∀ Y : Int64, Y.toBitVec.msb = decide (Y.toInt < 0) := fun Y => BitVec.msb_eq_toInt
  have h2 := h1 (X ^^^ lN b)
  rw [Int64.toBitVec_xor, BitVec.msb_xor, h1 X, h1 (lN b), lN_to (by omega), decide_eq_false (show ¬ (b : Int) < 0 by omega), Bool.xor_false, decide_eq_decide] at h2
  rw [lg_cmp_ge, Int64.le_iff_toInt_le, show (0 : Int64).toInt = 0 from rfl]
  omega
theorem fmd_I (x : Int) {b : Nat} (h1 : -2 ^ 63 ≤ x) (h2 : x < 2 ^ 63) (hb1 : 1 ≤ b) (hb : b < 2 ^ 31) : fmd (Int64.ofInt x) (lN b) = Int64.ofInt (x % (b : Int)) := by
  have e1 : (Int64.ofInt x).toInt = x := oI_to h1 h2
  have e2 : (lN b).toInt = (b : Int) := lN_to (by omega)
  have hq : Int64.ofInt x / lN b = Int64.ofInt (Int.tdiv x b) := by
    apply Int64.toInt_inj.mp
    have hle : (Int.tdiv x b).natAbs ≤ x.natAbs := by
      rw [Int.natAbs_tdiv]
      exact Nat.div_le_self _ _
    rw [Int64.toInt_div_of_ne_right, e1, e2]
    · by_cases hm : x = -2 ^ 63 ∧ Int.tdiv x b = 2 ^ 63
      · exfalso
        have : Int.tdiv x b ≤ 0 := by
          rw [hm.1]
          have := Int.tdiv_nonneg (a := 2 ^ 63) (b := (b : Int)) (by decide) (by omega)
          rw [Int.neg_tdiv]
          omega
        omega
      · rw [oI_to]
        · omega
        · by_cases hx : Int.tdiv x b = 2 ^ 63
          · have : x = -2 ^ 63 := by omega
            exact absurd ⟨this, hx⟩ hm
          · omega
    · intro w
      have := congrArg Int64.toInt w
      rw [e2, show (-1 : Int64).toInt = -1 from rfl] at this
      omega
  have hr : Int64.ofInt x - Int64.ofInt x / lN b * lN b = Int64.ofInt (Int.tmod x b) := by
    rw [hq, ← oI_nat, ← oI_mul, ← oI_sub, Int.tmod_def, Int.mul_comm]
  unfold fmd
  rw [hr]
  by_cases hx : 0 ≤ x
  · rw [if_pos ((xor_sg _ hb).mpr (by rw [e1]; exact hx)), Int.tmod_eq_emod_of_nonneg hx]
  · rw [if_neg (fun w => hx (by have := (xor_sg _ hb).mp w; rw [e1] at this; exact this))]
    have t0 : Int.tmod x b ≤ 0 := by
      have := Int.tmod_nonneg (b : Int) (show 0 ≤ -x by omega)
      rw [Int.neg_tmod] at this
      omega
    have t1 : -(b : Int) < Int.tmod x b := Int.lt_tmod_of_pos _ (by omega)
    have t2 : x % (b : Int) = if Int.tmod x b = 0 then 0 else Int.tmod x b + b := by
      have hd := Int.tmod_add_mul_tdiv x b
      split
      · rename_i hz
        rw [hz] at hd
        rw [← hd, Int.zero_add, Int.mul_emod_right]
      · rename_i hz
        rw [show x = (Int.tmod x b + b) + b * (Int.tdiv x b - 1) by rw [Int.mul_sub]; omega, Int.add_mul_emod_self_left]
        have hh : (Int.tmod ((Int.tmod x b + b) + b * (Int.tdiv x b - 1)) b) = Int.tmod x b := by
          congr 1
          rw [Int.mul_sub]
          omega
        rw [hh]
        exact Int.emod_eq_of_lt (by omega) (by omega)
    have t3 : (Int64.ofInt (Int.tmod x b)).toInt = Int.tmod x b := oI_to (by omega) (by omega)
    rw [t2]
    by_cases hz : Int.tmod x b = 0
    · rw [if_pos hz, if_pos (by rw [lg_cmp_eq, hz]; rfl), hz]
    · rw [if_neg hz, if_neg (by
        rw [lg_cmp_eq]
        intro w
        rw [w] at t3
        exact hz t3.symm), oI_add, oI_nat]
theorem hrm_I {F : Nat → Int64} {f : Nat → Int} (hF : ∀ i, F i = Int64.ofInt (f i)) (hf : ∀ i, (f i).natAbs ≤ 2 ^ 62) (k : Int) {b : Nat} (hb1 : 1 ≤ b) (hb : b < 2 ^ 31) (j : Nat) : ∀ x : Int, 0 ≤ x → x < b → hrm F (Int64.ofInt (k % b)) (lN b) j (Int64.ofInt x) = Int64.ofInt ((x * k ^ j + evS f k j) % b) := by
  induction j with
  | zero =>
    intro x h1 h2
    rw [Int.pow_zero, Int.mul_one, show x + evS f k 0 = x from Int.add_zero _, Int.emod_eq_of_lt h1 h2]
    rfl
  | succ j ih =>
    intro x h1 h2
    have s1 := Int.emod_nonneg k (show (b : Int) ≠ 0 by omega)
    have s2 := Int.emod_lt_of_pos k (show 0 < (b : Int) by omega)
    have hp0 : 0 ≤ x * (k % b) := Int.mul_nonneg h1 s1
    have hp1 : x * (k % b) ≤ 2147483647 * 2147483647 := Int.mul_le_mul (by omega) (by omega) s1 (by decide)
    have hfj := hf j
    show hrm F (Int64.ofInt (k % b)) (lN b) j (fmd (Int64.ofInt x * Int64.ofInt (k % b) + F j) (lN b)) = _
    rw [hF, ← oI_mul, ← oI_add, fmd_I _ (by omega) (by omega) hb1 hb, ih _ (Int.emod_nonneg _ (by omega)) (Int.emod_lt_of_pos _ (by omega))]
    congr 1
    have d1 := Int.emod_add_mul_ediv (x * (k % b) + f j) b
    have d2 := Int.emod_add_mul_ediv k b
    show _ = (x * k ^ (j + 1) + (evS f k j + f j * k ^ j)) % b
    have e : x * k ^ (j + 1) + (evS f k j + f j * k ^ j) = ((x * (k % b) + f j) % b * k ^ j + evS f k j) + b * ((x * (k / b) + (x * (k % b) + f j) / b) * k ^ j) := by
      have e1 : x * k + f j = (x * (k % b) + f j) % b + b * (x * (k / b) + (x * (k % b) + f j) / b) := by
        rw [Int.mul_add]
        have : x * k = x * (k % b) + b * (x * (k / b)) := by
          conv => lhs; rw [← d2]
          rw [Int.mul_add, Int.mul_left_comm]
        omega
      have e2 : x * k ^ (j + 1) + (evS f k j + f j * k ^ j) = (x * k + f j) * k ^ j + evS f k j := by
        rw [Int.pow_succ]
        grind
      rw [e2, e1]
      grind
    rw [e, Int.add_mul_emod_self_left]
section JoR
variable {p0 p1 : Int32} {N sn : Nat} {G SG : Nat → Nat → Bool}
theorem rest_e {V b : Nat} {sg : Int32} (hs : sg = 1 ∨ sg = -1) (hb : 1 ≤ b) : (sg.toInt * (V : Int)) % (b : Int) = ((if sg = -1 ∧ V % b ≠ 0 then b - V % b else V % b : Nat) : Int) := by
  have hm := Nat.mod_lt V (show 0 < b by omega)
  rcases hs with rfl | rfl
  · rw [if_neg (fun w => absurd w.1 (by decide)), show (1 : Int32).toInt = 1 from rfl, Int.one_mul]
    exact (Int.natCast_emod _ _).symm
  · have hd : (V : Int) = ((V % b : Nat) : Int) + b * ((V / b : Nat) : Int) := by
      have := Nat.mod_add_div V b
      rw [← Int.natCast_mul, ← Int.natCast_add, this]
    rw [show (-1 : Int32).toInt = -1 from rfl]
    by_cases h0 : V % b = 0
    · rw [if_neg (fun w => w.2 h0), h0, hd, h0]
      rw [show (-1 : Int) * (((0 : Nat) : Int) + b * ((V / b : Nat) : Int)) = b * (-((V / b : Nat) : Int)) by grind]
      exact Int.mul_emod_right _ _
    · rw [if_pos ⟨rfl, h0⟩]
      have e : (-1 : Int) * (V : Int) = ((b - V % b : Nat) : Int) + b * (-((V / b : Nat) : Int) - 1) := by
        rw [Int.natCast_sub (by omega)]
        conv => lhs; rw [hd]
        grind
      rw [e, Int.add_mul_emod_self_left]
      exact Int.emod_eq_of_lt (by omega) (by omega)
theorem jo_rest (hG : GOK N G) (hS : GOK sn SG) : jO (fun v : Int32 => Value.int v) (fun _ : Int32 => True) 178 181 [.int p0, .int p1] [(4, 1)] N G sn SG := by
  by_cases hy : 1 ≤ p1
  · obtain ⟨b, hb, rfl⟩ := nI_of (x := p1) (fun w => by
      rw [Int32.lt_iff_toInt_lt, show (0 : Int32).toInt = 0 from rfl] at w
      rw [Int32.le_iff_toInt_le, show (1 : Int32).toInt = 1 from rfl] at hy
      omega)
    have hb1 : 1 ≤ b := by
      rw [Int32.le_iff_toInt_le, nI_toInt hb, show (1 : Int32).toInt = 1 from rfl] at hy
      omega
    have hk := k_abs p0
    have e0 := hrm_I (F := cofM G N) (fun i => cof_I hG.1 i) (fun i => cI_le hG.1 i) p0.toInt hb1 hb (N + 1) 0 (Int.le_refl _) (by omega)
    rw [Int.zero_mul, Int.zero_add, show evS (cI N G) p0.toInt (N + 1) = PV N G p0.toInt from rfl, PV_rV, rest_e rS_or hb1, oI_nat, ← fmd_I _ (by omega) (by omega) hb1 hb, ← k_i64] at e0
    refine Or.inl ⟨nI (if rS N p0 = -1 ∧ rV N G p0 % b ≠ 0 then b - rV N G p0 % b else rV N G p0 % b), N, G, sn, SG, trivial, fun h x z c r c2 r2 hK => ?_, fun h m t t2 th z hM => ?_⟩
    · have e := sp_crest (z := z) (k := p0) hK hy (by
        rw [nI_l hb]
        intro w
        have := congrArg Int64.toInt w
        rw [lN_to (by omega), show (0 : Int64).toInt = 0 from rfl] at this
        omega)
      rw [mlt_cof hG, nI_l hb, show (0 : Int64) = Int64.ofInt 0 from rfl, e0, lN_i] at e
      exact co_RR hK.rd.1 (hK.rd.2.mono (by omega) (by omega)) e
    · exact md_MR hM (Sp_conseq (RkP_MR hM.2.2.1 hM.2.2.2 hG.1) (sp_mrest (rk_ok hG p0) hM.2.2.1 hM.2.2.2 (rV_lt10 hG.1 p0) hb1 hb rS_or))
  · exact Or.inr ⟨4, 1, by decide, fun h x z c r c2 r2 hK => co_RX hK Fr.refl (sp_crest_no hy), fun h m t t2 th z hM => ⟨0, md_RR hM (sp_mrest_no hy)⟩⟩
end JoR
