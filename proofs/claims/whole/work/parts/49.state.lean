/-! the object of class Colourmap with all its cells -/
def Fr (lo hi : Nat) (h h' : AH) : Prop := ∀ q, q < lo ∨ hi ≤ q → h' q = h q
theorem Fr.refl {lo hi : Nat} {h : AH} : Fr lo hi h h := fun _ _ => rfl
theorem Fr.trans {lo hi : Nat} {h h' h2 : AH} (a : Fr lo hi h h') (b : Fr lo hi h' h2) : Fr lo hi h h2 := fun q hq => (b q hq).trans (a q hq)
theorem Fr.mono {lo hi lo' hi' : Nat} {h h' : AH} (a : Fr lo hi h h') (h1 : lo' ≤ lo) (h2 : hi ≤ hi') : Fr lo' hi' h h' := fun q hq => a q (by omega)
theorem Fr.hup {lo hi a : Nat} {h : AH} {c : AC} (h1 : lo ≤ a) (h2 : a < hi) : Fr lo hi h (hup h a c) := fun q hq => hup_ne (by omega)
theorem Fr.ch {lo hi c r n : Nat} {h : AH} {G : Nat → Nat → Bool} (h1 : lo ≤ c) (h2 : c < hi) (h3 : lo ≤ r) (h4 : r < hi) : Fr lo hi h (chSet h c r n G) := fun q hq => chSet_ne (by omega) (by omega)
def Po (h : AH) (y : Nat) : Prop := PoAt h y (y + 1) (y + 2) (y + 3) (y + 4) (y + 5)
def RD (h : AH) (y n : Nat) (G : Nat → Nat → Bool) : AH := rdH h y (y + 1) (y + 2) (y + 3) (y + 4) (y + 5) n G
theorem RD_Fr {h : AH} {y n : Nat} {G : Nat → Nat → Bool} : Fr y (y + 6) h (RD h y n G) := by
  intro q hq
  unfold RD rdH
  rw [hup_ne (by omega), hup_ne (by omega), chSet_ne (by omega) (by omega), hup_ne (by omega)]
theorem RD_po {h : AH} {y n : Nat} {G : Nat → Nat → Bool} : RD h y n G y = some (poO true (y + 1) (y + 3) (y + 4) (y + 5)) := by
  unfold RD rdH
  rw [hup_ne (by omega), hup_ne (by omega), chSet_ne (by omega) (by omega), hup_same]
theorem RD_ch {h : AH} {y n : Nat} {G : Nat → Nat → Bool} : ChAt (RD h y n G) (y + 1) (y + 2) n G := by
  unfold RD rdH
  constructor
  · rw [hup_ne (by omega), hup_ne (by omega)]
    exact (chSet_at (by omega)).1
  · rw [hup_ne (by omega), hup_ne (by omega)]
    exact (chSet_at (by omega)).2
theorem RD_se {h : AH} {y n : Nat} {G : Nat → Nat → Bool} : RD h y n G (y + 3) = h (y + 3) := by
  unfold RD rdH
  rw [hup_ne (by omega), hup_ne (by omega), chSet_ne (by omega) (by omega), hup_ne (by omega)]
theorem RD_pa {h : AH} {y n : Nat} {G : Nat → Nat → Bool} : RD h y n G (y + 4) = some (na 10 (ptn n G)) := by
  unfold RD rdH
  rw [hup_ne (by omega), hup_same]
theorem RD_fa {h : AH} {y n : Nat} {G : Nat → Nat → Bool} : RD h y n G (y + 5) = some (la 10 (mlt (ptn n G) n n)) := by
  unfold RD rdH
  rw [hup_same]
theorem mlt_big {R : Nat → Nat} {top q : Nat} : ∀ k, k < q → mlt R top k q = 0 := by
  intro k
  induction k generalizing q with
  | zero =>
    intro h
    show updL (fun _ => 0) 0 _ q = 0
    unfold updL
    rw [if_neg (by omega)]
  | succ k ih =>
    intro h
    show updL (dsc (mlt R top k) _ (k + 1) 0) 0 _ q = 0
    unfold updL dsc
    rw [if_neg (by omega), if_neg (by omega)]
    exact ih (by omega)
theorem RD_Po {h : AH} {y n : Nat} {G : Nat → Nat → Bool} (hG : GOK n G) (hp : Po h y) : Po (RD h y n G) y := by
  obtain ⟨b, n0, G0, R, F, ho, hc0, hG0, hse, hpa, hfa, hR, hF, hb⟩ := hp
  have hn := hG.1
  refine ⟨true, n, G, ptn n G, mlt (ptn n G) n n, RD_po, RD_ch, hG, RD_se.trans hse, RD_pa, RD_fa, fun q hq => ptn_big (by omega), fun q hq => mlt_big n (by omega), fun _ => ⟨rfl, rfl⟩⟩
theorem Po.fr {h h' : AH} {y : Nat} (hp : Po h y) (hf : ∀ q, y ≤ q → q < y + 6 → h' q = h q) : Po h' y := by
  obtain ⟨b, n0, G0, R, F, ho, hc0, hG0, hse, hpa, hfa, hR, hF, hb⟩ := hp
  exact ⟨b, n0, G0, R, F, (hf _ (by omega) (by omega)).trans ho, ⟨(hf _ (by omega) (by omega)).trans hc0.1, (hf _ (by omega) (by omega)).trans hc0.2⟩, hG0, (hf _ (by omega) (by omega)).trans hse, (hf _ (by omega) (by omega)).trans hpa, (hf _ (by omega) (by omega)).trans hfa, hR, hF, hb⟩
def Cols (h : AH) (y : Nat) : Prop := h y = some (coO (y + 1) (y + 2)) ∧ (∃ R, h (y + 1) = some (na 9 R)) ∧ h (y + 2) = some (na 4 (fun _ => 0))
theorem Cols.fr {h h' : AH} {y : Nat} (hp : Cols h y) (hf : ∀ q, y ≤ q → q < y + 3 → h' q = h q) : Cols h' y := by
  obtain ⟨a, ⟨R, b⟩, c⟩ := hp
  exact ⟨(hf _ (by omega) (by omega)).trans a, ⟨R, (hf _ (by omega) (by omega)).trans b⟩, (hf _ (by omega) (by omega)).trans c⟩
def Dirs (h : AH) (y : Nat) : Prop := ∃ (m : Nat) (A B : Nat → Nat), h y = some (diO (y + 1) (y + 2) (y + 3) m) ∧ h (y + 1) = some (na 10 A) ∧ h (y + 2) = some (na 10 B) ∧ h (y + 3) = some (na 9 (fun _ => 0))
theorem Dirs.fr {h h' : AH} {y : Nat} (hp : Dirs h y) (hf : ∀ q, y ≤ q → q < y + 4 → h' q = h q) : Dirs h' y := by
  obtain ⟨m, A, B, a, b, c, d⟩ := hp
  exact ⟨m, A, B, (hf _ (by omega) (by omega)).trans a, (hf _ (by omega) (by omega)).trans b, (hf _ (by omega) (by omega)).trans c, (hf _ (by omega) (by omega)).trans d⟩
def Whl (h : AH) (y : Nat) : Prop := h y = some (whO (y + 1)) ∧ ∃ P : Nat → Int64, h (y + 1) = some (la 10 P) ∧ ∀ q, 10 ≤ q → P q = 0
theorem Whl.fr {h h' : AH} {y : Nat} (hp : Whl h y) (hf : ∀ q, y ≤ q → q < y + 2 → h' q = h q) : Whl h' y := by
  obtain ⟨a, P, b, c⟩ := hp
  exact ⟨(hf _ (by omega) (by omega)).trans a, P, (hf _ (by omega) (by omega)).trans b, c⟩
def Cht (h : AH) (y : Nat) : Prop := ∃ (n : Nat) (G : Nat → Nat → Bool), ChAt h y (y + 1) n G ∧ GOK n G
theorem Cht.fr {h h' : AH} {y : Nat} (hp : Cht h y) (hf : ∀ q, y ≤ q → q < y + 2 → h' q = h q) : Cht h' y := by
  obtain ⟨n, G, a, b⟩ := hp
  exact ⟨n, G, ⟨(hf _ (by omega) (by omega)).trans a.1, (hf _ (by omega) (by omega)).trans a.2⟩, b⟩
theorem ChAt.fr {h h' : AH} {c r n : Nat} {G : Nat → Nat → Bool} (hp : ChAt h c r n G) (h1 : h' c = h c) (h2 : h' r = h r) : ChAt h' c r n G := ⟨h1.trans hp.1, h2.trans hp.2⟩
def coM (x c c2 : Nat) : AC := ob 5 [.ref c, .ref c2, .ref (x + 5), .ref (x + 11), .ref (x + 14), .ref (x + 18), .ref (x + 20), .ref (x + 22), .ref (x + 24), .ref (x + 26), .ref (x + 32)]
/-- which charts the map and the spare map are -/
def Two (x c r c2 r2 : Nat) : Prop := (c = x + 1 ∧ r = x + 2 ∧ c2 = x + 3 ∧ r2 = x + 4) ∨ (c = x + 3 ∧ r = x + 4 ∧ c2 = x + 1 ∧ r2 = x + 2)
def K (h : AH) (x c r c2 r2 n : Nat) (G : Nat → Nat → Bool) (sn : Nat) (SG : Nat → Nat → Bool) : Prop := h x = some (coM x c c2) ∧ Two x c r c2 r2 ∧ ChAt h c r n G ∧ GOK n G ∧ ChAt h c2 r2 sn SG ∧ GOK sn SG ∧ Po h (x + 5) ∧ Cols h (x + 11) ∧ Dirs h (x + 14) ∧ Whl h (x + 18) ∧ Whl h (x + 20) ∧ Cht h (x + 22) ∧ Cht h (x + 24) ∧ Po h (x + 26) ∧ Po h (x + 32)
section State
variable {h h' : AH} {x c r c2 r2 n sn : Nat} {G SG : Nat → Nat → Bool}
theorem K.poly (hK : K h x c r c2 r2 n G sn SG) (hf : Fr (x + 5) (x + 11) h h') (hp : Po h' (x + 5)) : K h' x c r c2 r2 n G sn SG := by
  obtain ⟨e1, e2, e3, e4, e5, e6, p0, p1, p2, p3, p4, p5, p6, p7, p8⟩ := hK
  have e := e2
  unfold Two at e
  exact ⟨(hf _ (by omega)).trans e1, e2, e3.fr (hf _ (by omega)) (hf _ (by omega)), e4, e5.fr (hf _ (by omega)) (hf _ (by omega)), e6, hp, p1.fr (fun q a b => hf q (by omega)), p2.fr (fun q a b => hf q (by omega)), p3.fr (fun q a b => hf q (by omega)), p4.fr (fun q a b => hf q (by omega)), p5.fr (fun q a b => hf q (by omega)), p6.fr (fun q a b => hf q (by omega)), p7.fr (fun q a b => hf q (by omega)), p8.fr (fun q a b => hf q (by omega))⟩
theorem K.cols (hK : K h x c r c2 r2 n G sn SG) (hf : Fr (x + 11) (x + 14) h h') (hp : Cols h' (x + 11)) : K h' x c r c2 r2 n G sn SG := by
  obtain ⟨e1, e2, e3, e4, e5, e6, p0, p1, p2, p3, p4, p5, p6, p7, p8⟩ := hK
  have e := e2
  unfold Two at e
  exact ⟨(hf _ (by omega)).trans e1, e2, e3.fr (hf _ (by omega)) (hf _ (by omega)), e4, e5.fr (hf _ (by omega)) (hf _ (by omega)), e6, p0.fr (fun q a b => hf q (by omega)), hp, p2.fr (fun q a b => hf q (by omega)), p3.fr (fun q a b => hf q (by omega)), p4.fr (fun q a b => hf q (by omega)), p5.fr (fun q a b => hf q (by omega)), p6.fr (fun q a b => hf q (by omega)), p7.fr (fun q a b => hf q (by omega)), p8.fr (fun q a b => hf q (by omega))⟩
theorem K.dirs (hK : K h x c r c2 r2 n G sn SG) (hf : Fr (x + 14) (x + 18) h h') (hp : Dirs h' (x + 14)) : K h' x c r c2 r2 n G sn SG := by
  obtain ⟨e1, e2, e3, e4, e5, e6, p0, p1, p2, p3, p4, p5, p6, p7, p8⟩ := hK
  have e := e2
  unfold Two at e
  exact ⟨(hf _ (by omega)).trans e1, e2, e3.fr (hf _ (by omega)) (hf _ (by omega)), e4, e5.fr (hf _ (by omega)) (hf _ (by omega)), e6, p0.fr (fun q a b => hf q (by omega)), p1.fr (fun q a b => hf q (by omega)), hp, p3.fr (fun q a b => hf q (by omega)), p4.fr (fun q a b => hf q (by omega)), p5.fr (fun q a b => hf q (by omega)), p6.fr (fun q a b => hf q (by omega)), p7.fr (fun q a b => hf q (by omega)), p8.fr (fun q a b => hf q (by omega))⟩
theorem K.one (hK : K h x c r c2 r2 n G sn SG) (hf : Fr (x + 18) (x + 20) h h') (hp : Whl h' (x + 18)) : K h' x c r c2 r2 n G sn SG := by
  obtain ⟨e1, e2, e3, e4, e5, e6, p0, p1, p2, p3, p4, p5, p6, p7, p8⟩ := hK
  have e := e2
  unfold Two at e
  exact ⟨(hf _ (by omega)).trans e1, e2, e3.fr (hf _ (by omega)) (hf _ (by omega)), e4, e5.fr (hf _ (by omega)) (hf _ (by omega)), e6, p0.fr (fun q a b => hf q (by omega)), p1.fr (fun q a b => hf q (by omega)), p2.fr (fun q a b => hf q (by omega)), hp, p4.fr (fun q a b => hf q (by omega)), p5.fr (fun q a b => hf q (by omega)), p6.fr (fun q a b => hf q (by omega)), p7.fr (fun q a b => hf q (by omega)), p8.fr (fun q a b => hf q (by omega))⟩
theorem K.two (hK : K h x c r c2 r2 n G sn SG) (hf : Fr (x + 20) (x + 22) h h') (hp : Whl h' (x + 20)) : K h' x c r c2 r2 n G sn SG := by
  obtain ⟨e1, e2, e3, e4, e5, e6, p0, p1, p2, p3, p4, p5, p6, p7, p8⟩ := hK
  have e := e2
  unfold Two at e
  exact ⟨(hf _ (by omega)).trans e1, e2, e3.fr (hf _ (by omega)) (hf _ (by omega)), e4, e5.fr (hf _ (by omega)) (hf _ (by omega)), e6, p0.fr (fun q a b => hf q (by omega)), p1.fr (fun q a b => hf q (by omega)), p2.fr (fun q a b => hf q (by omega)), p3.fr (fun q a b => hf q (by omega)), hp, p5.fr (fun q a b => hf q (by omega)), p6.fr (fun q a b => hf q (by omega)), p7.fr (fun q a b => hf q (by omega)), p8.fr (fun q a b => hf q (by omega))⟩
theorem K.torn (hK : K h x c r c2 r2 n G sn SG) (hf : Fr (x + 22) (x + 24) h h') (hp : Cht h' (x + 22)) : K h' x c r c2 r2 n G sn SG := by
  obtain ⟨e1, e2, e3, e4, e5, e6, p0, p1, p2, p3, p4, p5, p6, p7, p8⟩ := hK
  have e := e2
  unfold Two at e
  exact ⟨(hf _ (by omega)).trans e1, e2, e3.fr (hf _ (by omega)) (hf _ (by omega)), e4, e5.fr (hf _ (by omega)) (hf _ (by omega)), e6, p0.fr (fun q a b => hf q (by omega)), p1.fr (fun q a b => hf q (by omega)), p2.fr (fun q a b => hf q (by omega)), p3.fr (fun q a b => hf q (by omega)), p4.fr (fun q a b => hf q (by omega)), hp, p6.fr (fun q a b => hf q (by omega)), p7.fr (fun q a b => hf q (by omega)), p8.fr (fun q a b => hf q (by omega))⟩
theorem K.drawn (hK : K h x c r c2 r2 n G sn SG) (hf : Fr (x + 24) (x + 26) h h') (hp : Cht h' (x + 24)) : K h' x c r c2 r2 n G sn SG := by
  obtain ⟨e1, e2, e3, e4, e5, e6, p0, p1, p2, p3, p4, p5, p6, p7, p8⟩ := hK
  have e := e2
  unfold Two at e
  exact ⟨(hf _ (by omega)).trans e1, e2, e3.fr (hf _ (by omega)) (hf _ (by omega)), e4, e5.fr (hf _ (by omega)) (hf _ (by omega)), e6, p0.fr (fun q a b => hf q (by omega)), p1.fr (fun q a b => hf q (by omega)), p2.fr (fun q a b => hf q (by omega)), p3.fr (fun q a b => hf q (by omega)), p4.fr (fun q a b => hf q (by omega)), p5.fr (fun q a b => hf q (by omega)), hp, p7.fr (fun q a b => hf q (by omega)), p8.fr (fun q a b => hf q (by omega))⟩
theorem K.tpoly (hK : K h x c r c2 r2 n G sn SG) (hf : Fr (x + 26) (x + 32) h h') (hp : Po h' (x + 26)) : K h' x c r c2 r2 n G sn SG := by
  obtain ⟨e1, e2, e3, e4, e5, e6, p0, p1, p2, p3, p4, p5, p6, p7, p8⟩ := hK
  have e := e2
  unfold Two at e
  exact ⟨(hf _ (by omega)).trans e1, e2, e3.fr (hf _ (by omega)) (hf _ (by omega)), e4, e5.fr (hf _ (by omega)) (hf _ (by omega)), e6, p0.fr (fun q a b => hf q (by omega)), p1.fr (fun q a b => hf q (by omega)), p2.fr (fun q a b => hf q (by omega)), p3.fr (fun q a b => hf q (by omega)), p4.fr (fun q a b => hf q (by omega)), p5.fr (fun q a b => hf q (by omega)), p6.fr (fun q a b => hf q (by omega)), hp, p8.fr (fun q a b => hf q (by omega))⟩
theorem K.dpoly (hK : K h x c r c2 r2 n G sn SG) (hf : Fr (x + 32) (x + 38) h h') (hp : Po h' (x + 32)) : K h' x c r c2 r2 n G sn SG := by
  obtain ⟨e1, e2, e3, e4, e5, e6, p0, p1, p2, p3, p4, p5, p6, p7, p8⟩ := hK
  have e := e2
  unfold Two at e
  exact ⟨(hf _ (by omega)).trans e1, e2, e3.fr (hf _ (by omega)) (hf _ (by omega)), e4, e5.fr (hf _ (by omega)) (hf _ (by omega)), e6, p0.fr (fun q a b => hf q (by omega)), p1.fr (fun q a b => hf q (by omega)), p2.fr (fun q a b => hf q (by omega)), p3.fr (fun q a b => hf q (by omega)), p4.fr (fun q a b => hf q (by omega)), p5.fr (fun q a b => hf q (by omega)), p6.fr (fun q a b => hf q (by omega)), p7.fr (fun q a b => hf q (by omega)), hp⟩
theorem K.map (hK : K h x c r c2 r2 n G sn SG) {n' : Nat} {G' : Nat → Nat → Bool} (hG : GOK n' G') : K (chSet h c r n' G') x c r c2 r2 n' G' sn SG ∧ Fr x (x + 38) h (chSet h c r n' G') := by
  obtain ⟨e1, e2, e3, e4, e5, e6, p0, p1, p2, p3, p4, p5, p6, p7, p8⟩ := hK
  have e := e2
  unfold Two at e
  have hf : ∀ q, q ≠ c → q ≠ r → chSet h c r n' G' q = h q := fun q a b => chSet_ne a b
  exact ⟨⟨(hf _ (by omega) (by omega)).trans e1, e2, chSet_at (by omega), hG, e5.fr (hf _ (by omega) (by omega)) (hf _ (by omega) (by omega)), e6, p0.fr (fun q a b => hf q (by omega) (by omega)), p1.fr (fun q a b => hf q (by omega) (by omega)), p2.fr (fun q a b => hf q (by omega) (by omega)), p3.fr (fun q a b => hf q (by omega) (by omega)), p4.fr (fun q a b => hf q (by omega) (by omega)), p5.fr (fun q a b => hf q (by omega) (by omega)), p6.fr (fun q a b => hf q (by omega) (by omega)), p7.fr (fun q a b => hf q (by omega) (by omega)), p8.fr (fun q a b => hf q (by omega) (by omega))⟩, fun q hq => hf q (by omega) (by omega)⟩
theorem K.spare (hK : K h x c r c2 r2 n G sn SG) {n' : Nat} {G' : Nat → Nat → Bool} (hG : GOK n' G') : K (chSet h c2 r2 n' G') x c r c2 r2 n G n' G' ∧ Fr x (x + 38) h (chSet h c2 r2 n' G') := by
  obtain ⟨e1, e2, e3, e4, e5, e6, p0, p1, p2, p3, p4, p5, p6, p7, p8⟩ := hK
  have e := e2
  unfold Two at e
  have hf : ∀ q, q ≠ c2 → q ≠ r2 → chSet h c2 r2 n' G' q = h q := fun q a b => chSet_ne a b
  exact ⟨⟨(hf _ (by omega) (by omega)).trans e1, e2, e3.fr (hf _ (by omega) (by omega)) (hf _ (by omega) (by omega)), e4, chSet_at (by omega), hG, p0.fr (fun q a b => hf q (by omega) (by omega)), p1.fr (fun q a b => hf q (by omega) (by omega)), p2.fr (fun q a b => hf q (by omega) (by omega)), p3.fr (fun q a b => hf q (by omega) (by omega)), p4.fr (fun q a b => hf q (by omega) (by omega)), p5.fr (fun q a b => hf q (by omega) (by omega)), p6.fr (fun q a b => hf q (by omega) (by omega)), p7.fr (fun q a b => hf q (by omega) (by omega)), p8.fr (fun q a b => hf q (by omega) (by omega))⟩, fun q hq => hf q (by omega) (by omega)⟩
theorem K.swap (hK : K h x c r c2 r2 n G sn SG) : K (hup h x (coM x c2 c)) x c2 r2 c r sn SG n G ∧ Fr x (x + 38) h (hup h x (coM x c2 c)) := by
  obtain ⟨e1, e2, e3, e4, e5, e6, p0, p1, p2, p3, p4, p5, p6, p7, p8⟩ := hK
  have e := e2
  unfold Two at e
  have hf : ∀ q, q ≠ x → hup h x (coM x c2 c) q = h q := fun q a => hup_ne a
  exact ⟨⟨hup_same, by unfold Two; omega, e5.fr (hf _ (by omega)) (hf _ (by omega)), e6, e3.fr (hf _ (by omega)) (hf _ (by omega)), e4, p0.fr (fun q a b => hf q (by omega)), p1.fr (fun q a b => hf q (by omega)), p2.fr (fun q a b => hf q (by omega)), p3.fr (fun q a b => hf q (by omega)), p4.fr (fun q a b => hf q (by omega)), p5.fr (fun q a b => hf q (by omega)), p6.fr (fun q a b => hf q (by omega)), p7.fr (fun q a b => hf q (by omega)), p8.fr (fun q a b => hf q (by omega))⟩, fun q hq => hf q (by omega)⟩
theorem K.rd (hK : K h x c r c2 r2 n G sn SG) : K (RD h (x + 5) n G) x c r c2 r2 n G sn SG ∧ Fr (x + 5) (x + 11) h (RD h (x + 5) n G) := by
  have hf : Fr (x + 5) (x + 11) h (RD h (x + 5) n G) := RD_Fr
  have hP := hK
  obtain ⟨e1, e2, e3, e4, e5, e6, p0, p1, p2, p3, p4, p5, p6, p7, p8⟩ := hP
  exact ⟨hK.poly hf (RD_Po e4 p0), hf⟩
theorem K.wh1 (hK : K h x c r c2 r2 n G sn SG) {P : Nat → Int64} (hz : ∀ q, 10 ≤ q → P q = 0) : K (hup h (x + 19) (la 10 P)) x c r c2 r2 n G sn SG ∧ Fr (x + 18) (x + 20) h (hup h (x + 19) (la 10 P)) := by
  have hf : Fr (x + 18) (x + 20) h (hup h (x + 19) (la 10 P)) := Fr.hup (by omega) (by omega)
  have hP := hK
  obtain ⟨e1, e2, e3, e4, e5, e6, p0, p1, p2, p3, p4, p5, p6, p7, p8⟩ := hP
  exact ⟨hK.one hf ⟨by rw [hup_ne (by omega)]; exact p3.1, P, hup_same, hz⟩, hf⟩
theorem K.wh2 (hK : K h x c r c2 r2 n G sn SG) {P : Nat → Int64} (hz : ∀ q, 10 ≤ q → P q = 0) : K (hup h (x + 21) (la 10 P)) x c r c2 r2 n G sn SG ∧ Fr (x + 20) (x + 22) h (hup h (x + 21) (la 10 P)) := by
  have hf : Fr (x + 20) (x + 22) h (hup h (x + 21) (la 10 P)) := Fr.hup (by omega) (by omega)
  have hP := hK
  obtain ⟨e1, e2, e3, e4, e5, e6, p0, p1, p2, p3, p4, p5, p6, p7, p8⟩ := hP
  exact ⟨hK.two hf ⟨by rw [hup_ne (by omega)]; exact p4.1, P, hup_same, hz⟩, hf⟩
theorem K.gr (hK : K h x c r c2 r2 n G sn SG) {R : Nat → Nat} {m : Nat} {G' : Nat → Nat → Bool} : K (grH h (x + 12) G' R m) x c r c2 r2 n G sn SG ∧ Fr (x + 11) (x + 14) h (grH h (x + 12) G' R m) := by
  have hf : Fr (x + 11) (x + 14) h (grH h (x + 12) G' R m) := Fr.hup (by omega) (by omega)
  have hP := hK
  obtain ⟨e1, e2, e3, e4, e5, e6, p0, p1, p2, p3, p4, p5, p6, p7, p8⟩ := hP
  exact ⟨hK.cols hf ⟨(hup_ne (by omega)).trans p1.1, ⟨_, hup_same⟩, (hup_ne (by omega)).trans p1.2.2⟩, hf⟩
end State
