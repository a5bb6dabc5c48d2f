/-! what the real heap has to do with the abstract one; locals; words -/
def Rep (D : va_G) (U : State) (a : Nat) (c : AC) (H : Heap) : Prop := match c with
  | .inl o => va_at D acl (a, .inr (o.1, o.2)) H ∧ o.2.length = aN o.1
  | .inr r => ∃ cell : Cell, H[a]? = some cell ∧ U.isArrayOf cell (AT r.1) ∧ cell.vm ≠ .unknown ∧ cell.slots.size = r.2.1 ∧ ∀ j, j < r.2.1 → cell.slots[j]? = some (r.2.2 j)
theorem Rep.kept {D : va_G} {U : State} {a : Nat} {c : AC} {H H1 : Heap} (h : Rep D U a c H) (e : H1[a]? = H[a]?) : Rep D U a c H1 := by
  cases c with
  | inl o =>
    obtain ⟨⟨r, h1, h2⟩, h3⟩ := h
    exact ⟨⟨r, h1, h2.kept e⟩, h3⟩
  | inr r =>
    obtain ⟨cell, h1, h2⟩ := h
    exact ⟨cell, by rw [e]; exact h1, h2⟩
theorem Rep.moved {D : va_G} {u U : State} {a : Nat} {c : AC} {H : Heap} (hvm : u.vm.Alike U.vm) (h : Rep D u a c H) : Rep D U a c H := by
  cases c with
  | inl o => exact h
  | inr r =>
    obtain ⟨cell, h1, h2, h3⟩ := h
    exact ⟨cell, h1, State.isArrayOf_alike hvm h2, h3⟩
theorem Rep.lt {D : va_G} {U : State} {a : Nat} {c : AC} {H : Heap} (h : Rep D U a c H) : a < H.size := by
  cases c with
  | inl o =>
    obtain ⟨⟨r, h1, cell, h2, -⟩, -⟩ := h
    exact (Array.getElem?_eq_some_iff.mp h2).1
  | inr r =>
    obtain ⟨cell, h1, -⟩ := h
    exact (Array.getElem?_eq_some_iff.mp h1).1
def Sim (D : va_G) (h : AH) (U : State) (H : Heap) : Prop := ∀ (a : Nat) (c : AC), h a = some c → Rep D U a c H
theorem Sim.moved {D : va_G} {h : AH} {u U : State} {H : Heap} (hvm : u.vm.Alike U.vm) (q : Sim D h u H) : Sim D h U H := fun a c e => (q a c e).moved hvm
def isRo (c : AC) : Prop := match c with
  | .inr r => r.1 = 5
  | _ => False
def aA (h : AH) (z : Nat) : Nat → Prop := fun q => (∃ c, h q = some c ∧ ¬ isRo c) ∨ z ≤ q
theorem Sim.put {D : va_G} {h : AH} {U : State} {H H1 : Heap} {a : Nat} {c : AC} (q : Sim D h U H) (hn : Rep D U a c H1) (ho : ∀ x c, h x = some c → x ≠ a → H1[x]? = H[x]?) : Sim D (hup h a c) U H1 := by
  intro x c' e
  unfold hup at e
  split at e
  · rename_i hx
    cases e
    exact hx ▸ hn
  · rename_i hx
    exact (q x c' e).kept (ho x c' e hx)
theorem aA_up {h : AH} {z a : Nat} {c : AC} {B : Nat → Prop} (hB : ∀ q, aA h z q → B q) (ha : B a) : ∀ q, aA (hup h a c) z q → B q := by
  intro q hq
  rcases hq with ⟨c', e, hr⟩ | hq
  · unfold hup at e
    split at e
    · rename_i hx
      exact hx ▸ ha
    · exact hB q (Or.inl ⟨c', e, hr⟩)
  · exact hB q (Or.inr hq)
theorem aA_z {h : AH} {z z' : Nat} {B : Nat → Prop} (hz : z ≤ z') (hB : ∀ q, aA h z q → B q) : ∀ q, aA h z' q → B q := by
  intro q hq
  rcases hq with hq | hq
  · exact hB q (Or.inl hq)
  · exact hB q (Or.inr (Nat.le_trans hz hq))
/-- the abstract locals as places and values -/
def al_l (al : AL) : List (Nat × Value) := (List.range al.length).filterMap fun i => match al[i]? with
  | some (some v) => some (i, v)
  | _ => none
theorem mem_al_l {al : AL} {i : Nat} {v : Value} : (i, v) ∈ al_l al ↔ al[i]? = some (some v) := by
  unfold al_l
  constructor
  · intro h
    obtain ⟨j, -, hj⟩ := List.mem_filterMap.mp h
    split at hj
    · rename_i w hw
      cases hj
      exact hw
    · cases hj
  · intro h
    refine List.mem_filterMap.mpr ⟨i, ?_, ?_⟩
    · exact List.mem_range.mpr (List.getElem?_eq_some_iff.mp h).1
    · rw [h]
def lh (ls : Array Slot) (al : AL) : Prop := lv_has ls al.length (al_l al)
theorem lh.get {ls : Array Slot} {al : AL} (h : lh ls al) {i : Nat} {v : Value} (e : al[i]? = some (some v)) : ls[i]? = some (.val v) := h.2.2 (i, v) (mem_al_l.mpr e)
theorem kil_spec {a : Option Value} {w : Value} (h : kil a = some w) : a = some w ∧ ¬ w.category = 2 := by
  unfold kil at h
  split at h
  · cases h
  · cases h
  · rename_i h1 h2
    subst h
    refine ⟨rfl, ?_⟩
    intro hc
    cases w <;> first | exact h1 _ rfl | exact h2 _ rfl | cases hc
theorem st1_len : ∀ (al : AL) (i : Nat) (v : Value), (st1 al i v).length = al.length
  | [], i, v => by simp [st1]
  | a :: l, 0, v => by simp [st1]
  | [a], 1, v => by simp [st1]
  | a :: b :: l, 1, v => by simp [st1]
  | a :: l, n + 2, v => by
    have := st1_len l (n + 1) v
    simp [st1, this]
theorem st1_spec : ∀ (al : AL) (i : Nat) (v : Value) (j : Nat) (w : Value), (st1 al i v)[j]? = some (some w) → (j = i ∧ w = v) ∨ (j ≠ i ∧ ¬ (j + 1 = i ∧ w.category = 2) ∧ al[j]? = some (some w))
  | [], i, v, j, w, h => by simp [st1] at h
  | a :: l, 0, v, j, w, h => by
    cases j with
    | zero => simp [st1] at h; exact Or.inl ⟨rfl, h.symm⟩
    | succ j => simp [st1] at h; exact Or.inr ⟨by omega, by omega, by simpa using h⟩
  | [a], 1, v, j, w, h => by
    cases j with
    | zero =>
      simp [st1] at h
      obtain ⟨h1, h2⟩ := kil_spec h
      exact Or.inr ⟨by omega, fun q => h2 q.2, by simpa using h1⟩
    | succ j => simp [st1] at h
  | a :: b :: l, 1, v, j, w, h => by
    cases j with
    | zero =>
      simp [st1] at h
      obtain ⟨h1, h2⟩ := kil_spec h
      exact Or.inr ⟨by omega, fun q => h2 q.2, by simpa using h1⟩
    | succ j =>
      cases j with
      | zero => simp [st1] at h; exact Or.inl ⟨rfl, h.symm⟩
      | succ j => simp [st1] at h; exact Or.inr ⟨by omega, by omega, by simpa using h⟩
  | a :: l, n + 2, v, j, w, h => by
    cases j with
    | zero => simp [st1] at h; exact Or.inr ⟨by omega, by omega, by simpa using h⟩
    | succ j =>
      have h' : (st1 l (n + 1) v)[j]? = some (some w) := by simpa [st1] using h
      rcases st1_spec l (n + 1) v j w h' with ⟨h1, h2⟩ | ⟨h1, h2, h3⟩
      · exact Or.inl ⟨by omega, h2⟩
      · exact Or.inr ⟨by omega, fun q => h2 ⟨by omega, q.2⟩, by simpa using h3⟩
theorem st2_len : ∀ (al : AL) (i : Nat) (v : Value), (st2 al i v).length = al.length
  | [], i, v => by simp [st2]
  | [a], 0, v => by simp [st2]
  | a :: b :: l, 0, v => by simp [st2]
  | [a], 1, v => by simp [st2]
  | [a, b], 1, v => by simp [st2]
  | a :: b :: c :: l, 1, v => by simp [st2]
  | a :: l, n + 2, v => by
    have := st2_len l (n + 1) v
    simp [st2, this]
theorem st2_spec : ∀ (al : AL) (i : Nat) (v : Value) (j : Nat) (w : Value), i + 1 < al.length → (st2 al i v)[j]? = some (some w) → (j = i ∧ w = v) ∨ (j ≠ i ∧ j ≠ i + 1 ∧ ¬ (j + 1 = i ∧ w.category = 2) ∧ al[j]? = some (some w))
  | [], i, v, j, w, hl, h => by simp at hl
  | [a], 0, v, j, w, hl, h => by simp at hl
  | a :: b :: l, 0, v, j, w, hl, h => by
    cases j with
    | zero => simp [st2] at h; exact Or.inl ⟨rfl, h.symm⟩
    | succ j =>
      cases j with
      | zero => simp [st2] at h
      | succ j => simp [st2] at h; exact Or.inr ⟨by omega, by omega, by omega, by simpa using h⟩
  | [a], 1, v, j, w, hl, h => by simp at hl
  | [a, b], 1, v, j, w, hl, h => by simp at hl
  | a :: b :: c :: l, 1, v, j, w, hl, h => by
    cases j with
    | zero =>
      simp [st2] at h
      obtain ⟨h1, h2⟩ := kil_spec h
      exact Or.inr ⟨by omega, by omega, fun q => h2 q.2, by simpa using h1⟩
    | succ j =>
      cases j with
      | zero => simp [st2] at h; exact Or.inl ⟨rfl, h.symm⟩
      | succ j =>
        cases j with
        | zero => simp [st2] at h
        | succ j => simp [st2] at h; exact Or.inr ⟨by omega, by omega, by omega, by simpa using h⟩
  | a :: l, n + 2, v, j, w, hl, h => by
    cases j with
    | zero => simp [st2] at h; exact Or.inr ⟨by omega, by omega, by omega, by simpa using h⟩
    | succ j =>
      have h' : (st2 l (n + 1) v)[j]? = some (some w) := by simpa [st2] using h
      rcases st2_spec l (n + 1) v j w (by simp at hl; omega) h' with ⟨h1, h2⟩ | ⟨h1, h2, h3, h4⟩
      · exact Or.inl ⟨by omega, h2⟩
      · exact Or.inr ⟨by omega, by omega, fun q => h3 ⟨by omega, q.2⟩, by simpa using h4⟩
theorem lh.st1 {ls' : Array Slot} {al : AL} {i : Nat} {v : Value} (h : lv_has ls' al.length ((i, v) :: (al_l al).filter (fun q => !(q.1 == i) && !(q.1 + 1 == i && q.2.category == 2)))) : lh ls' (st1 al i v) := by
  refine ⟨by rw [st1_len]; exact h.1, h.2.1, fun q hq => h.2.2 q ?_⟩
  obtain ⟨j, w⟩ := q
  rcases st1_spec al i v j w (mem_al_l.mp hq) with ⟨rfl, rfl⟩ | ⟨h1, h2, h3⟩
  · exact List.mem_cons_self
  · refine List.mem_cons_of_mem _ (List.mem_filter.mpr ⟨mem_al_l.mpr h3, ?_⟩)
    have e1 : (j == i) = false := by simpa using h1
    by_cases hj : j + 1 = i
    · have e2 : (w.category == 2) = false := by simpa using fun q => h2 ⟨hj, q⟩
      simp [e1, e2]
    · have e2 : (j + 1 == i) = false := by simpa using hj
      simp [e1, e2]
theorem lh.st2 {ls' : Array Slot} {al : AL} {i : Nat} {v : Value} (hi : i + 1 < al.length) (h : lv_has ls' al.length ((i, v) :: (al_l al).filter (fun q => !(q.1 == i) && (!(q.1 == i + 1) && !(q.1 + 1 == i && q.2.category == 2))))) : lh ls' (st2 al i v) := by
  refine ⟨by rw [st2_len]; exact h.1, h.2.1, fun q hq => h.2.2 q ?_⟩
  obtain ⟨j, w⟩ := q
  rcases st2_spec al i v j w hi (mem_al_l.mp hq) with ⟨rfl, rfl⟩ | ⟨h1, h0, h2, h3⟩
  · exact List.mem_cons_self
  · refine List.mem_cons_of_mem _ (List.mem_filter.mpr ⟨mem_al_l.mpr h3, ?_⟩)
    have e1 : (j == i) = false := by simpa using h1
    have e0 : (j == i + 1) = false := by simpa using h0
    by_cases hj : j + 1 = i
    · have e2 : (w.category == 2) = false := by simpa using fun q => h2 ⟨hj, q⟩
      simp [e1, e0, e2]
    · have e2 : (j + 1 == i) = false := by simpa using hj
      simp [e1, e0, e2]
theorem aEnt_spec : ∀ (vs : List Value) (o j : Nat) (w : Value), (aEnt vs)[j]? = some (some w) → (o + j, w) ∈ lv_args o vs
  | [], o, j, w, h => by simp [aEnt] at h
  | v :: vs, o, j, w, h => by
    unfold lv_args
    by_cases hc : v.category = 2
    · rw [aEnt, if_pos hc] at h
      rw [if_pos hc]
      match j, h with
      | 0, h => simp at h; subst h; exact List.mem_cons_self
      | 1, h => simp at h
      | j + 2, h =>
        refine List.mem_cons_of_mem _ ?_
        have := aEnt_spec vs (o + 2) j w (by simpa using h)
        rw [show o + (j + 2) = o + 2 + j by omega]
        exact this
    · rw [aEnt, if_neg hc] at h
      rw [if_neg hc]
      match j, h with
      | 0, h => simp at h; subst h; exact List.mem_cons_self
      | j + 1, h =>
        refine List.mem_cons_of_mem _ ?_
        have := aEnt_spec vs (o + 1) j w (by simpa using h)
        rw [show o + (j + 1) = o + 1 + j by omega]
        exact this
theorem aEnt_len : ∀ vs : List Value, (aEnt vs).length = (lg_sl vs).length
  | [] => rfl
  | v :: vs => by
    have := aEnt_len vs
    by_cases hc : v.category = 2 <;> simp [aEnt, lg_sl, hc, this]
theorem lh_entry {m : Nat} {as : List Value} (hl : (aEnt as).length ≤ mmax m) : lh ((lg_sl as ++ List.replicate (mmax m - (lg_sl as).length) Slot.unset).toArray) (aEntry m as) := by
  have h := lv_entry as (n := mmax m) (by rw [← aEnt_len]; exact hl)
  have hlen : (aEntry m as).length = mmax m := by
    unfold aEntry
    simp
    omega
  refine ⟨by rw [hlen]; exact h.1, h.2.1, fun q hq => h.2.2 q ?_⟩
  obtain ⟨j, w⟩ := q
  have h1 := mem_al_l.mp hq
  unfold aEntry at h1
  rw [List.getElem?_append] at h1
  split at h1
  · have := aEnt_spec as 0 j w h1
    simpa using this
  · rw [List.getElem?_replicate] at h1
    split at h1 <;> simp at h1
/-- what holds at a place of a body -/
def Rl (D : va_G) (h0 : AH) (z0 : Nat) (s : State) (h : AH) (z : Nat) (al : AL) (H : Heap) (locs : List Loc) (ls : Array Slot) : Prop :=
  lh ls al ∧ Sim D h s H ∧ H.size = z ∧ (∀ q, aA h z q → aA h0 z0 q) ∧ va_S (aA h0 z0) s.heap H locs
def AOA (U : State) : Prop := (Cond.arrayOver (.array .boolean)).before #[] U = true
theorem AOA.use {A : Array Value} {U : State} (h : AOA U) : (Cond.arrayOver (.array .boolean)).before A U = true := h
theorem AOA.of {A : Array Value} {U : State} (h : (Cond.arrayOver (.array .boolean)).before A U = true) : AOA U := h
theorem AOA.moved {u U : State} (hvm : u.vm.Alike U.vm) (h : AOA u) : AOA U := Jvm.Stand.arrayOver_alikeB hvm h
def dclL : List String := ["java/lang/RuntimeException", "java/lang/Exception", Bundle.tN]
def exL : List (Nat × Nat) := [(0, 2), (3, 2)]
def Envi (A : Nat → Prop) (U : State) : Prop := vx_Zq Bundle.tN "UNASSIGNED_STACK" Bundle.steD A U U.heap ∧ vx_Zq Bundle.tN "SUPPRESSED_SENTINEL" Bundle.listD A U U.heap ∧ (∀ e ∈ strL, ∃ sa, vk_R RX6 e.1 e.2 sa U) ∧ (∀ e ∈ exL, va_Nc (exn e.1) (exn e.2) U) ∧ (∀ E, E < 6 → va_Nw (.castable (exn E) (exn E)) U) ∧ AOA U ∧ (∀ Y ∈ dclL, va_Nw (.declares (Bundle.initS Y)) U) ∧ ∀ e ∈ nestL, va_Nw (.methodLinkNest (ocn e.1) e.2.1 (my e.2.2) "Colourmap") U
def aPc (D : va_G) (as : List Value) (h : AH) (z : Nat) : Array Value → State → Prop := va_Pc as (fun U => U.heap.size = z ∧ Sim D h U U.heap ∧ va_K D acl [] U ∧ Envi (aA h z) U)
def aQc (D : va_G) (P : AP) (h : AH) (z : Nat) : Array Value → State → Outcome → State → Prop := fun _ st oc t => ∃ (v : Option Value) (h' : AH) (z' : Nat), oc = .returned v ∧ P (.inl v) h' z' ∧ t.heap.size = z' ∧ Sim D h' t t.heap ∧ (∀ q, aA h' z' q → aA h z q) ∧ va_F (aA h z) st t
def aXC (D : va_G) (P : AP) (h : AH) (z : Nat) : String → State → State → Prop := fun E st t => ∃ (i : Nat) (h' : AH) (z' : Nat), E = exn i ∧ i < 6 ∧ P (.inr i) h' z' ∧ t.heap.size = z' ∧ Sim D h' t t.heap ∧ (∀ q, aA h' z' q → aA h z q) ∧ va_F (aA h z) st t
def rmD (d mc ms : Nat) : Room := { frames := d + 8, cells := mc, slots := ms, locals := 140 + 40 * d }
/-- all contracts of a depth hold of the machine -/
def Snd (l : Launch) (D : va_G) (C : ASp) (d : Nat) : Prop := ∀ (m : Nat) (as : List Value) (h : AH) (z mc ms : Nat) (P : AP), C m as h z mc ms P → vx_Met l (my m) (wsU m) (rmD d mc ms) (aPc D as h z) (aQc D P h z) (aXC D P h z) mc ms (aA h z)
theorem Envi.same {A : Nat → Prop} {u U : State} (hvm : U.vm = u.vm) (hh : U.heap = u.heap) (h : Envi A u) : Envi A U := by
  obtain ⟨h1, h2, h3, h4, h5, h6, h7, h8⟩ := h
  have ha : u.vm.Alike U.vm := by rw [hvm]; exact Vm.Alike.refl _
  refine ⟨by rw [hh]; exact h1.moved ha, by rw [hh]; exact h2.moved ha, fun e he => ?_, fun e he => (h4 e he).moved ha, fun E hE => va_Nw.same rfl hvm.symm (h5 E hE), h6.moved ha, fun Y hY => va_Nw.same rfl hvm.symm (h7 Y hY), fun e he => va_Nw.same rfl hvm.symm (h8 e he)⟩
  obtain ⟨sa, q⟩ := h3 e he
  exact ⟨sa, q.same hvm⟩
theorem Envi.next {A B : Nat → Prop} {s U : State} {H : Heap} (hU : U.heap = H) (hW : s.WarmedH U.vm) (hq : ∀ a : Nat, a < s.heap.size → ¬ A a → H[a]? = s.heap[a]?) (hAB : ∀ q, B q → A q) (h : Envi A s) : Envi B U := by
  obtain ⟨h1, h2, h3, h4, h5, h6, h7, h8⟩ := h
  refine ⟨?_, ?_, fun e he => ?_, fun e he => (h4 e he).moved hW.alike, fun E hE => va_Nw.warmC hW (h5 E hE), h6.moved hW.alike, fun Y hY => va_Nw.warmD hW (h7 Y hY), fun e he => va_Nw.warmM hW (h8 e he)⟩
  · rw [hU]
    exact ((h1.kept hq).narrow hAB).moved hW.alike
  · rw [hU]
    exact ((h2.kept hq).narrow hAB).moved hW.alike
  · obtain ⟨sa, q⟩ := h3 e he
    exact ⟨sa, q.warm hW⟩
theorem aPc_blind {D : va_G} {as : List Value} {h : AH} {z : Nat} : FrameBlind (aPc D as h z) := by
  intro a U g mk q
  obtain ⟨e, h1, h2, h3, h4⟩ := q
  exact ⟨e, h1, h2.moved (Vm.Alike.refl U.vm), va_K.moved (u := U) (U := U.calling g mk a) (Vm.Alike.refl U.vm) h3, h4.same rfl rfl⟩
