/-! the coefficients: from the highest parting down, and by falling factorials -/
def mulx (a : Int64) (F : Nat → Int64) : Nat → Int64 := fun x => (if 0 < x then F (x - 1) else 0) - a * F x
theorem l_ring1 (a b p q r : Int64) : (p - b * q) - a * (q - b * r) = (p - a * q) - b * (q - a * r) := by grind
theorem l_ring2 (a b q r : Int64) : (0 : Int64) - a * (0 - b * r) = 0 - b * (0 - a * r) := by grind
theorem l_ring3 (a b q r : Int64) : (0 - b * q) - a * (q - b * r) = (0 - a * q) - b * (q - a * r) := by grind
theorem mulx_comm (a b : Int64) (F : Nat → Int64) : mulx a (mulx b F) = mulx b (mulx a F) := by
  funext x
  unfold mulx
  match x with
  | 0 =>
    simp only [Nat.lt_irrefl, if_false]
    exact l_ring2 a b 0 (F 0)
  | 1 =>
    simp only [show 0 < 1 by decide, if_true, Nat.sub_self, Nat.lt_irrefl, if_false]
    exact l_ring3 a b (F 0) (F 1)
  | x + 2 =>
    simp only [show 0 < x + 2 by omega, if_true, show x + 2 - 1 = x + 1 by omega, show 0 < x + 1 by omega, show x + 1 - 1 = x by omega]
    exact l_ring1 a b (F x) (F (x + 1)) (F (x + 2))
def plx (F H : Nat → Int64) : Nat → Int64 := fun x => F x + H x
def scx (c : Int64) (F : Nat → Int64) : Nat → Int64 := fun x => c * F x
theorem l_ring4 (a p q r s : Int64) : (p + q) - a * (r + s) = (p - a * r) + (q - a * s) := by grind
theorem l_ring5 (a c p r : Int64) : c * p - a * (c * r) = c * (p - a * r) := by grind
theorem mulx_pl (a : Int64) (F H : Nat → Int64) : mulx a (plx F H) = plx (mulx a F) (mulx a H) := by
  funext x
  unfold mulx plx
  by_cases h : 0 < x
  · simp only [h, if_true]
    exact l_ring4 _ _ _ _ _
  · simp only [h, if_false]
    have := l_ring4 a 0 0 (F x) (H x)
    rw [Int64.add_zero] at this
    exact this
theorem mulx_sc (a c : Int64) (F : Nat → Int64) : mulx a (scx c F) = scx c (mulx a F) := by
  funext x
  unfold mulx scx
  by_cases h : 0 < x
  · simp only [h, if_true]
    exact l_ring5 _ _ _ _
  · simp only [h, if_false]
    have := l_ring5 a c 0 (F x)
    rw [Int64.mul_zero] at this
    exact this
/-- times x (x - 1) .. (x - (a - 1)) -/
def px : Nat → (Nat → Int64) → (Nat → Int64)
  | 0, F => F
  | a + 1, F => px a (mulx (nL a) F)
def d0 : Nat → Int64 := fun x => if x = 0 then 1 else 0
theorem px_mulx (b : Int64) (a : Nat) : ∀ F, px a (mulx b F) = mulx b (px a F) := by
  induction a with
  | zero => exact fun F => rfl
  | succ a ih =>
    intro F
    show px a (mulx (nL a) (mulx b F)) = mulx b (px a (mulx (nL a) F))
    rw [mulx_comm, ih]
theorem px_pl (a : Nat) : ∀ F H, px a (plx F H) = plx (px a F) (px a H) := by
  induction a with
  | zero => exact fun F H => rfl
  | succ a ih =>
    intro F H
    show px a (mulx (nL a) (plx F H)) = _
    rw [mulx_pl, ih]
    rfl
theorem px_sc (c : Int64) (a : Nat) : ∀ F, px a (scx c F) = scx c (px a F) := by
  induction a with
  | zero => exact fun F => rfl
  | succ a ih =>
    intro F
    show px a (mulx (nL a) (scx c F)) = _
    rw [mulx_sc, ih]
    rfl
def ffx (j : Nat) : Nat → Int64 := px j d0
theorem ffx_s (j : Nat) : ffx (j + 1) = mulx (nL j) (ffx j) := px_mulx (nL j) j d0
theorem ffx_big (j : Nat) : ∀ q, j < q → ffx j q = 0 := by
  induction j with
  | zero =>
    intro q hq
    show (if q = 0 then 1 else 0) = (0 : Int64)
    rw [if_neg (by omega)]
  | succ j ih =>
    intro q hq
    rw [ffx_s]
    unfold mulx
    rw [if_pos (by omega), ih (q - 1) (by omega), ih q (by omega), Int64.mul_zero]
    rfl
def sfx (C : Nat → Int64) : Nat → (Nat → Int64)
  | 0 => fun _ => 0
  | j + 1 => plx (sfx C j) (scx (C j) (ffx j))
theorem sfx_big {C : Nat → Int64} (j : Nat) : ∀ q, j ≤ q → sfx C j q = 0 := by
  induction j with
  | zero => exact fun q _ => rfl
  | succ j ih =>
    intro q hq
    show sfx C j q + C j * ffx j q = 0
    rw [ih q (by omega), ffx_big j q (by omega), Int64.mul_zero]
    rfl
theorem mst_e {F : Nat → Int64} {a b : Int64} {t : Nat} (hF : ∀ q, t ≤ q → F q = 0) : mst F a b t = plx (scx b d0) (mulx a F) := by
  funext x
  unfold mst updL dsc plx scx d0 mulx
  by_cases h0 : x = 0
  · subst h0
    simp only [if_true, Nat.lt_irrefl, false_and, if_false, Int64.mul_one]
    grind
  · rw [if_neg h0]
    simp only [h0, if_false, show 0 < x by omega, true_and, if_true, Int64.mul_zero, Int64.zero_add]
    by_cases h1 : x ≤ t
    · rw [if_pos h1]
    · rw [if_neg h1, hF x (by omega), hF (x - 1) (by omega), Int64.mul_zero]
      rfl
theorem mlt_sfx {R : Nat → Nat} {top : Nat} (k : Nat) (hk : k ≤ top) : sfx (fun j => nL (R j)) (top + 1) = plx (sfx (fun j => nL (R j)) (top - k)) (px (top - k) (mlt R top k)) := by
  induction k with
  | zero =>
    show plx (sfx _ top) (scx (nL (R top)) (ffx top)) = plx (sfx _ top) (px top (updL (fun _ => 0) 0 (nL (R top))))
    have e : updL (fun _ => 0) 0 (nL (R top)) = scx (nL (R top)) d0 := by
      funext x
      unfold updL scx d0
      split
      · rw [Int64.mul_one]
      · rw [Int64.mul_zero]
    rw [e, px_sc]
    rfl
  | succ k ih =>
    rw [ih (by omega)]
    obtain ⟨a, ha⟩ : ∃ a, a = top - (k + 1) := ⟨_, rfl⟩
    have e : mlt R top (k + 1) = mst (mlt R top k) (nL (top - (k + 1))) (nL (R (top - (k + 1)))) (k + 1) := rfl
    rw [e, mst_e (fun q hq => mlt_big k (by omega)), ← ha, show top - k = a + 1 by omega]
    show plx (plx (sfx _ a) (scx (nL (R a)) (ffx a))) (px a (mulx (nL a) (mlt R top k))) = _
    rw [px_pl, px_sc]
    funext x
    unfold plx
    exact Int64.add_assoc _ _ _
theorem mlt_e {R : Nat → Nat} {top : Nat} : mlt R top top = sfx (fun j => nL (R j)) (top + 1) := by
  rw [mlt_sfx top (Nat.le_refl _), Nat.sub_self]
  funext x
  show mlt R top top x = 0 + mlt R top top x
  exact (Int64.zero_add _).symm
theorem exS_e {C : Nat → Int64} {size : Nat} (h9 : size ≤ 9) (j : Nat) (hj : j ≤ size + 1) : exS C size j = (sfx C j, ffx j) := by
  induction j with
  | zero => rfl
  | succ j ih =>
    have ih := ih (by omega)
    show (stg (exS C size j).1 (fun i => (exS C size j).1 i + C j * (exS C size j).2 i) (size + 1), fal j (exS C size j).2) = _
    rw [ih]
    refine Prod.ext ?_ ?_
    · funext x
      show stg (sfx C j) (fun i => sfx C j i + C j * ffx j i) (size + 1) x = sfx C j x + C j * ffx j x
      unfold stg
      split
      · rfl
      · rw [ffx_big j x (by omega), Int64.mul_zero, Int64.add_zero]
    · funext x
      show fal j (ffx j) x = ffx (j + 1) x
      rw [ffx_s]
      unfold fal std mulx
      by_cases hx : 0 ≤ x ∧ x < 11
      · rw [if_pos hx]
      · rw [if_neg hx, if_pos (by omega), ffx_big j x (by omega), ffx_big j (x - 1) (by omega), Int64.mul_zero]
        rfl
theorem sfx_congr {C C' : Nat → Int64} (j : Nat) (h : ∀ q, q < j → C q = C' q) : sfx C j = sfx C' j := by
  induction j with
  | zero => rfl
  | succ j ih =>
    show plx (sfx C j) (scx (C j) (ffx j)) = plx (sfx C' j) (scx (C' j) (ffx j))
    rw [ih fun q hq => h q (by omega), h j (by omega)]
theorem cofM_e {n : Nat} {G : Nat → Nat → Bool} (hn : n ≤ 9) : cofM G n = sfx (fun j => lN (ptm G n j)) (n + 1) := by
  unfold cofM
  rw [exS_e hn (n + 1) (Nat.le_refl _)]
  exact sfx_congr _ fun q _ => ctL_e q
/-- both sides have the same coefficients -/
theorem mlt_cof {n : Nat} {G : Nat → Nat → Bool} (hG : GOK n G) : mlt (ptn n G) n n = cofM G n := by
  rw [mlt_e, cofM_e hG.1, ptn_ptm hG]
  exact sfx_congr _ fun q _ => nI_l (ptm_lt hG.1 q)
section Jo2
variable {p0 p1 : Int32} {N sn : Nat} {G SG : Nat → Nat → Bool}
theorem jo_partings (hG : GOK N G) (hS : GOK sn SG) : jO (fun v : Int32 => Value.int v) (fun _ : Int32 => True) 113 119 [.int p0] [(0, 1)] N G sn SG := by
  by_cases hp : p0 < 0 ∨ ¬ p0 ≤ 9
  · exact Or.inr ⟨0, 1, by decide, fun h x z c r c2 r2 hK => co_RX hK Fr.refl (sp_cpartings_no hp), fun h m t t2 th z hM => ⟨0, md_RR hM (sp_mpartings_no hp)⟩⟩
  · obtain ⟨k, hk, rfl⟩ := i_rng (n := 9) rfl hp
    refine Or.inl ⟨nI (ptm G N k), N, G, sn, SG, trivial, fun h x z c r c2 r2 hK => ?_, fun h m t t2 th z hM => ?_⟩
    · have e := sp_cpartings (z := z) hK hk
      rw [ptn_ptm hG] at e
      exact co_RR hK.rd.1 (hK.rd.2.mono (by omega) (by omega)) e
    · obtain ⟨⟨S, a1⟩, ⟨C, a2, a3⟩, -⟩ := hM.2.2.2.2.1
      exact md_MR hM (Sp_conseq (CtR_MR hM.2.2.1 hM.2.2.2 hG.1) (sp_mpartings hM.2.2.1 hG.1 a1 a2 a3 hk))
theorem jo_fewest (hG : GOK N G) (hS : GOK sn SG) : jN (fun v : Int32 => Value.int v) 126 128 [] N G sn SG := by
  refine ⟨nI (fsp (ptm G N) N N), N, G, sn, SG, fun h x z c r c2 r2 hK => ?_, fun h m t t2 th z hM => ⟨th, ?_⟩⟩
  · have e := sp_cfewest (z := z) hK
    rw [ptn_ptm hG] at e
    exact co_RR hK.rd.1 (hK.rd.2.mono (by omega) (by omega)) e
  · obtain ⟨⟨S, a1⟩, ⟨C, a2, a3⟩, -⟩ := hM.2.2.2.2.1
    exact md_MR hM (Sp_conseq (CtR_MR hM.2.2.1 hM.2.2.2 hG.1) (sp_mfewest hM.2.2.1 hG.1 a1 a2 a3))
theorem jo_colour (hG : GOK N G) (hS : GOK sn SG) : jO (fun v : Int32 => Value.int v) (fun _ : Int32 => True) 130 134 [.int p0] [(2, 1)] N G sn SG := by
  cases hp : pl N p0
  · exact Or.inr ⟨2, 1, by decide, fun h x z c r c2 r2 hK => co_RX hK Fr.refl (sp_ccolour_no hK hp), fun h m t t2 th z hM => ⟨0, md_RR hM (sp_mcolour_no hG.1 hp)⟩⟩
  · obtain ⟨p, hpn, rfl⟩ := pl_ex hG.1 hp
    refine Or.inl ⟨nI (colF G p), N, G, sn, SG, trivial, fun h x z c r c2 r2 hK => ?_, fun h m t t2 th z hM => ?_⟩
    · obtain ⟨R, hR⟩ := hK.hcols.2.1
      have e := sp_ccolour (z := z) hK hR hpn
      rw [grR_col N p hpn] at e
      exact co_RR hK.gr.1 (hK.gr.2.mono (by omega) (by omega)) e
    · obtain ⟨S, e⟩ := hM.2.2.2.2.2.1
      exact md_MR hM (Sp_conseq (QtR_MR hM.2.2.1 hM.2.2.2) (sp_mcolour hM.2.2.1 hG.1 e hpn))
theorem jo_colourings (hG : GOK N G) (hS : GOK sn SG) : jO (fun v : Int32 => Value.int v) (fun _ : Int32 => True) 137 140 [.int p0] [(0, 1)] N G sn SG := by
  by_cases hp : p0 < 0 ∨ ¬ p0 ≤ 4
  · exact Or.inr ⟨0, 1, by decide, fun h x z c r c2 r2 hK => co_RX hK Fr.refl (sp_ccolourings_no hp), fun h m t t2 th z hM => ⟨0, md_RR hM (sp_mcolourings_no hp)⟩⟩
  · obtain ⟨k, hk, rfl⟩ := i_rng (n := 4) rfl hp
    refine Or.inl ⟨pnm N G k, N, G, sn, SG, trivial, fun h x z c r c2 r2 hK => ?_, fun h m t t2 th z hM => ?_⟩
    · have e := sp_ccolourings (z := z) hK hk
      rw [pnt_pnm hG hk] at e
      exact co_RR hK Fr.refl e
    · obtain ⟨S, e⟩ := hM.2.2.2.2.2.1
      exact md_MR hM (Sp_conseq (QtR_MR hM.2.2.1 hM.2.2.2) (sp_mcolourings hM.2.2.1 hG.1 e hk))
theorem jo_coefficient (hG : GOK N G) (hS : GOK sn SG) : jO (fun v : Int64 => Value.long v) (fun _ : Int64 => True) 142 144 [.int p0] [(2, 1)] N G sn SG := by
  by_cases hp : p0 < 0 ∨ ¬ p0 ≤ nI N
  · exact Or.inr ⟨2, 1, by decide, fun h x z c r c2 r2 hK => co_RX hK Fr.refl (sp_ccoeff_no hK hp), fun h m t t2 th z hM => ⟨0, md_RR hM (sp_mcoeff_no hp)⟩⟩
  · obtain ⟨k, hk, rfl⟩ := i_rng (n := N) (nI_toInt (by have := hG.1; omega)) hp
    refine Or.inl ⟨cofM G N k, N, G, sn, SG, trivial, fun h x z c r c2 r2 hK => ?_, fun h m t t2 th z hM => ?_⟩
    · have e := sp_ccoeff (z := z) hK hk
      rw [mlt_cof hG] at e
      exact co_RR hK.rd.1 (hK.rd.2.mono (by omega) (by omega)) e
    · exact md_MR hM (Sp_conseq (ExP_MR hM.2.2.1 hM.2.2.2 hG.1) (sp_mcoeff hM.2.2.1 hM.2.2.2.2.1 hG.1 hk))
theorem jo_directions (hG : GOK N G) (hS : GOK sn SG) : jN (fun v : Int64 => Value.long v) 185 187 [] N G sn SG := by
  refine ⟨absL (hor (cofM G N) (-1) (N + 1) 0), N, G, sn, SG, fun h x z c r c2 r2 hK => ?_, fun h m t t2 th z hM => ⟨th, ?_⟩⟩
  · have e := sp_cdirections (z := z) hK
    rw [mlt_cof hG] at e
    exact co_RR hK.rd.1 (hK.rd.2.mono (by omega) (by omega)) e
  · exact md_MR hM (Sp_conseq (ExP_MR hM.2.2.1 hM.2.2.2 hG.1) (sp_mdirections hM.2.2.1 hM.2.2.2.2.1 hG.1))
theorem jo_checksum (hG : GOK N G) (hS : GOK sn SG) : jN (fun v : Int64 => Value.long v) 211 214 [] N G sn SG := by
  refine ⟨chkM N G sn SG, N, G, sn, SG, fun h x z c r c2 r2 hK => ?_, fun h m t t2 th z hM => ⟨th, ?_⟩⟩
  · have e := sp_cchecksum (z := z) hK
    unfold chkF at e
    rw [mlt_cof hG, ptn_ptm hG] at e
    exact co_RR hK.rd.1 (hK.rd.2.mono (by omega) (by omega)) e
  · exact md_MR hM (sp_mchecksum hM.2.2.1 hM.2.2.2 hG hS)
end Jo2
