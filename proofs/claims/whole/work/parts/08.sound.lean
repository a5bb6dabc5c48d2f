/-! the machine does what the abstract machine does: instruction by instruction -/
theorem ldi_out {al : AL} {i : Nat} {f : Int32 → Prop} (q : ldi al i f) : ∃ x, al[i]? = some (some (.int x)) ∧ f x := by
  unfold ldi at q
  split at q
  · rename_i h; exact ⟨_, h, q⟩
  · exact q.elim
theorem ldl_out {al : AL} {i : Nat} {f : Int64 → Prop} (q : ldl al i f) : ∃ x, al[i]? = some (some (.long x)) ∧ f x := by
  unfold ldl at q
  split at q
  · rename_i h; exact ⟨_, h, q⟩
  · exact q.elim
theorem ldd_out {al : AL} {i : Nat} {f : UInt64 → Prop} (q : ldd al i f) : ∃ x, al[i]? = some (some (.double x)) ∧ f x := by
  unfold ldd at q
  split at q
  · rename_i h; exact ⟨_, h, q⟩
  · exact q.elim
theorem lda_out {al : AL} {i : Nat} {f : Nat → Prop} (q : lda al i f) : ∃ x, al[i]? = some (some (.ref x)) ∧ f x := by
  unfold lda at q
  split at q
  · rename_i h; exact ⟨_, h, q⟩
  · exact q.elim
theorem fres_ok {o i c k : Nat} (h : fres o i = some (c, k)) : ∃ (C : String) (T : u_T) (N : Nat), acl[c]? = some (C, T, N) ∧ k < N ∧ Cond.fieldLink (ocn o) i (T k).1 (T k).2.1 (T k).2.2.1 ∈ gw := by
  unfold fres at h
  obtain ⟨e, he, h9⟩ := Option.map_eq_some_iff.mp h
  have h1 := List.all_eq_true.mp okF_all e (List.mem_of_find?_eq_some he)
  have h2 := List.find?_some he
  obtain ⟨a, b, c', k'⟩ := e
  simp only [Bool.and_eq_true, beq_iff_eq] at h2
  obtain ⟨rfl, rfl⟩ := h2
  cases h9
  unfold okF at h1
  dsimp only at h1
  split at h1
  · rename_i r hr
    obtain ⟨C, T, N⟩ := r
    rw [Bool.and_eq_true] at h1
    exact ⟨C, T, N, hr, of_decide_eq_true h1.1, inG_in h1.2⟩
  · cases h1
theorem acl_ok {c : Nat} {r : vw_C} (h : acl[c]? = some r) : (∀ w ∈ u_ws r.1 r.2.1 r.2.2, w ∈ gw) ∧ (∀ a, a < r.2.2 → ∀ b, b < r.2.2 → a ≠ b → (r.2.1 a).2.1 ≠ (r.2.1 b).2.1) ∧ (∀ k, k < r.2.2 → parseFieldDescriptor (r.2.1 k).2.2.1 = some (aty c k)) ∧ Cond.instantiable r.1 r.2.2 ∈ gw ∧ Cond.initialized r.1 ∈ gw ∧ aN c = r.2.2 := by
  have hc : c < 7 := (List.getElem?_eq_some_iff.mp h).1
  have h1 := List.all_eq_true.mp okA_all c (List.mem_range.mpr hc)
  unfold okA at h1
  rw [h] at h1
  simp only [Bool.and_eq_true] at h1
  obtain ⟨⟨h1, h2⟩, h3⟩ := h1
  have h4 : ∀ k, k < r.2.2 → _ := fun k hk => List.all_eq_true.mp h1 k (List.mem_range.mpr hk)
  simp only [Bool.and_eq_true] at h4
  refine ⟨fun w hw => ?_, fun a ha b hb hab => ?_, fun k hk => of_decide_eq_true (h4 k hk).1.2, inG_in h2, inG_in h3, by unfold aN; rw [h]⟩
  · unfold u_ws at hw
    obtain ⟨k, hk, rfl⟩ := List.mem_map.mp hw
    exact inG_in (h4 k (List.mem_range.mp hk)).1.1
  · have := List.all_eq_true.mp (h4 a ha).2 b (List.mem_range.mpr hb)
    rw [Bool.or_eq_true] at this
    rcases this with q | q
    · exact absurd (of_decide_eq_true q) hab
    · exact of_decide_eq_true q
theorem cres_ok0 {o i c : Nat} (h : cres o i = some (0, c)) : ∃ r : vw_C, acl[c]? = some r ∧ Cond.classLink (ocn o) i r.1 ∈ gw := by
  unfold cres at h
  obtain ⟨e, he, h9⟩ := Option.map_eq_some_iff.mp h
  have h1 := List.all_eq_true.mp okX_all e (List.mem_of_find?_eq_some he)
  have h2 := List.find?_some he
  obtain ⟨a, b, c', k'⟩ := e
  simp only [Bool.and_eq_true, beq_iff_eq] at h2
  obtain ⟨rfl, rfl⟩ := h2
  cases h9
  change (match acl[c]? with | some r => inG (.classLink (ocn a) b r.1) | none => false) = true at h1
  split at h1
  · rename_i r hr
    exact ⟨r, hr, inG_in h1⟩
  · cases h1
theorem cres_ok1 {o i E : Nat} (h : cres o i = some (1, E)) : Cond.classLink (ocn o) i (exn E) ∈ gw ∧ E < 6 ∧ Cond.initialized (exn E) ∈ gw ∧ o = 5 := by
  unfold cres at h
  obtain ⟨e, he, h9⟩ := Option.map_eq_some_iff.mp h
  have h1 := List.all_eq_true.mp okX_all e (List.mem_of_find?_eq_some he)
  have h2 := List.find?_some he
  obtain ⟨a, b, c', k'⟩ := e
  simp only [Bool.and_eq_true, beq_iff_eq] at h2
  obtain ⟨rfl, rfl⟩ := h2
  cases h9
  unfold okX at h1
  dsimp only at h1
  simp only [Bool.and_eq_true, decide_eq_true_eq] at h1
  exact ⟨inG_in h1.1.1.1, h1.1.1.2, inG_in h1.1.2, h1.2⟩
theorem cat_ok {o i k E : Nat} (h : cat o i = some (k, E)) : Cond.classLink (ocn o) i (exn E) ∈ gw ∧ E < 6 ∧ i ≠ 0 := by
  unfold cat at h
  obtain ⟨e, he, h9⟩ := Option.map_eq_some_iff.mp h
  have h1 := List.all_eq_true.mp okY_all e (List.mem_of_find?_eq_some he)
  have h2 := List.find?_some he
  obtain ⟨a, b, c', k'⟩ := e
  simp only [Bool.and_eq_true, beq_iff_eq] at h2
  obtain ⟨rfl, rfl⟩ := h2
  cases h9
  unfold okY at h1
  simp only [Bool.and_eq_true, decide_eq_true_eq] at h1
  exact ⟨inG_in h1.1.1, h1.1.2, h1.2⟩
theorem kres_ok {o i : Nat} {v : Int32} (h : kres o i = some v) : Cond.constant (ocn o) i v ∈ gw := by
  unfold kres at h
  obtain ⟨e, he, h9⟩ := Option.map_eq_some_iff.mp h
  have h1 := List.all_eq_true.mp okK_all e (List.mem_of_find?_eq_some he)
  have h2 := List.find?_some he
  obtain ⟨a, b, c'⟩ := e
  simp only [Bool.and_eq_true, beq_iff_eq] at h2
  obtain ⟨rfl, rfl⟩ := h2
  cases h9
  exact inG_in h1
theorem lres_ok {o i : Nat} {v : Int64} (h : lres o i = some v) : Cond.constantLong (ocn o) i v ∈ gw := by
  unfold lres at h
  obtain ⟨e, he, h9⟩ := Option.map_eq_some_iff.mp h
  have h1 := List.all_eq_true.mp okL_all e (List.mem_of_find?_eq_some he)
  have h2 := List.find?_some he
  obtain ⟨a, b, c'⟩ := e
  simp only [Bool.and_eq_true, beq_iff_eq] at h2
  obtain ⟨rfl, rfl⟩ := h2
  cases h9
  exact inG_in h1
theorem mth_ok {m : Nat} (hm : m < 216) : cw m ∈ gw ∧ (my m).cls ≠ "java/lang/invoke/MethodHandle" ∧ (my m).cls ≠ "java/lang/invoke/VarHandle" ∧ (parseMethodDescriptor (my m).desc).map (fun d => d.parameters.length) = some (mna m) ∧ mmax m ≤ 21 ∧ plainFor (my m) = true ∧ (my m).cls = ocn (mo m) := by
  have h := okMth_all m hm
  unfold okMth at h
  simp only [Bool.and_eq_true, decide_eq_true_eq] at h
  obtain ⟨⟨⟨⟨⟨⟨h1, h2⟩, h3⟩, h4⟩, h5⟩, h6⟩, h7⟩ := h
  exact ⟨inG_in h1, h2, h3, h4, h5, h6, h7⟩
theorem mres_mem {o i k mi : Nat} (h : mres o i = some (k, mi)) : (o, i, k, mi) ∈ mresL := by
  unfold mres at h
  obtain ⟨e, he, h9⟩ := Option.map_eq_some_iff.mp h
  have h2 := List.find?_some he
  have h3 := List.mem_of_find?_eq_some he
  obtain ⟨a, b, c', k'⟩ := e
  simp only [Bool.and_eq_true, beq_iff_eq] at h2
  obtain ⟨rfl, rfl⟩ := h2
  cases h9
  exact h3
theorem mres_ok0 {o i mi : Nat} (h : mres o i = some (0, mi)) : Cond.methodLink (ocn o) i (my mi) ∈ gw ∧ Cond.initialized (my mi).cls ∈ gw ∧ mi < 217 ∧ Cond.instanceMethod (my mi) ∈ gw ∧ Cond.selects (my mi).cls (my mi) (my mi) ∈ gw ∧ mhh mi = [] := by
  have h1 := okM_all _ (mres_mem h)
  unfold okM at h1
  simp only [Bool.and_eq_true, decide_eq_true_eq] at h1
  obtain ⟨⟨⟨h1, h2⟩, h3⟩, ⟨h4, h5⟩, h6⟩ := h1
  exact ⟨inG_in h1, inG_in h2, h3, inG_in h4, inG_in h5, h6⟩
theorem mres_ok1 {o i mi : Nat} (h : mres o i = some (1, mi)) : Cond.methodLink (ocn o) i (my mi) ∈ gw ∧ Cond.initialized (my mi).cls ∈ gw ∧ mi < 217 ∧ Cond.static (my mi) ∈ gw := by
  have h1 := okM_all _ (mres_mem h)
  unfold okM at h1
  simp only [Bool.and_eq_true, decide_eq_true_eq] at h1
  obtain ⟨⟨⟨h1, h2⟩, h3⟩, h4⟩ := h1
  exact ⟨inG_in h1, inG_in h2, h3, inG_in h4⟩
theorem mres_ok2 {o i mi : Nat} (h : mres o i = some (2, mi)) : Cond.methodLink (ocn o) i (my mi) ∈ gw ∧ Cond.initialized (my mi).cls ∈ gw ∧ mi < 217 ∧ Cond.instanceMethod (my mi) ∈ gw ∧ (my mi).name = "<init>" ∧ mret mi = none ∧ mhh mi = [] := by
  have h1 := okM_all _ (mres_mem h)
  unfold okM at h1
  simp only [Bool.and_eq_true, decide_eq_true_eq] at h1
  obtain ⟨⟨⟨h1, h2⟩, h3⟩, ⟨⟨h4, h5⟩, h6⟩, h7⟩ := h1
  exact ⟨inG_in h1, inG_in h2, h3, inG_in h4, h5, h6, h7⟩
theorem mres_ok3 {o i mi : Nat} (h : mres o i = some (3, mi)) : Cond.methodLink (ocn o) i Lib.objectInit ∈ gw := by
  have h1 := okM_all _ (mres_mem h)
  unfold okM at h1
  exact inG_in h1
theorem mres_ok4 {o i mi : Nat} (h : mres o i = some (4, mi)) : (o, i, mi) ∈ nestL ∧ Cond.initialized (my mi).cls ∈ gw ∧ Cond.instanceMethod (my mi) ∈ gw ∧ (my mi).name = "<init>" ∧ mret mi = none ∧ mhh mi = [] := by
  have h1 := okM_all _ (mres_mem h)
  unfold okM at h1
  simp only [Bool.and_eq_true, decide_eq_true_eq] at h1
  obtain ⟨⟨⟨⟨⟨h1, h2⟩, h4⟩, h5⟩, h6⟩, h7⟩ := h1
  exact ⟨by simpa using h1, inG_in h2, inG_in h4, h5, h6, h7⟩
theorem oth_ok : Cond.instanceMethod Lib.objectInit ∈ gw ∧ Cond.code Lib.objectInit ⟨#[0xb1]⟩ 1 none ∈ gw ∧ Cond.arrayClass .int ∈ gw ∧ Cond.arrayClass .long ∈ gw ∧ Cond.arrayClass .boolean ∈ gw ∧ Cond.arrayClass .double ∈ gw ∧ Cond.classLink RX7 9 "[[Z" ∈ gw := by
  have h := okO_all
  simp only [Bool.and_eq_true] at h
  obtain ⟨⟨⟨⟨⟨⟨h1, h2⟩, h3⟩, h4⟩, h5⟩, h6⟩, h7⟩ := h
  exact ⟨inG_in h1, inG_in h2, inG_in h3, inG_in h4, inG_in h5, inG_in h6, inG_in h7⟩
/-- what stands fixed in a body -/
def Cx (p : Program) (l : Launch) (R : Room) (s : State) (mi : MethodId) (args : Array Value) (meth : Method) (c : Code) (D : va_G) (C : ASp) (m d : Nat) (h0 : AH) (z0 mc ms : Nat) : Prop :=
  p.tables.exec = Jvm.exec ∧ c.code = mcode m ∧ c.maxLocals = mmax m ∧ s.vm.findClass (ocn (mo m)) = some mi.cls ∧ (∀ w ∈ gw, w.before args s = true) ∧ va_K D acl [] s ∧ s.heap.size = z0 ∧ Envi (aA h0 z0) s ∧
  ((my m).name = "<init>" → meth.name = "<init>") ∧ meth.sig.returnType = mret m ∧ meth.locks = false ∧ c.exceptionTable.toList = tableOf (mhh m) ∧ l.stackTraces = false ∧ R.cells = mc ∧ R.slots = ms ∧ d + 9 ≤ R.frames ∧ 180 + 40 * d ≤ R.locals ∧ Snd l D C d
def WX (p : Program) (l : Launch) (e : Jvm.Env) (R : Room) (s : State) (mi : MethodId) (args : Array Value) (below : List Frame) (meth : Method) (c : Code) (D : va_G) (m : Nat) (h0 : AH) (z0 : Nat) (Q : State → Prop) : AX :=
  fun pc al st h z k n => ∀ (H : Heap) (locs : List Loc) (ls : Array Slot), Rl D h0 z0 s h z al H locs ls → al.length = mmax m → W p l e R s mi args below meth c H locs k n Q (F0 mi pc ls st)
section Body
variable {p : Program} {l : Launch} {e : Jvm.Env} {R : Room} {s : State} {mi : MethodId} {args : Array Value} {below : List Frame} {meth : Method} {c : Code} {D : va_G} {C : ASp} {m d : Nat} {h0 : AH} {z0 mc ms : Nat} {Q : State → Prop} {P : AP}
theorem tgt_eq {pc : Nat} {off : Int} (h : 0 ≤ (pc : Int) + off) : (pc : Int) + off = (tgt pc off : Int) := by
  unfold tgt
  omega
theorem Rl.put {D : va_G} {h : AH} {z : Nat} {al : AL} {H H1 : Heap} {locs : List Loc} {ls : Array Slot} {a i : Nat} {ac ac' : AC} (r : Rl D h0 z0 s h z al H locs ls) (ha : h a = some ac) (hro : ¬ isRo ac) (hn : Rep D s a ac' H1) (e2 : H1.size = H.size) (e3 : ∀ q, q ≠ a → H1[q]? = H[q]?) : Rl D h0 z0 s (hup h a ac') z al H1 (locs ++ [⟨a, i⟩]) ls := by
  obtain ⟨r1, r2, r3, r4, r5⟩ := r
  have hA : aA h0 z0 a := r4 a (Or.inl ⟨ac, ha, hro⟩)
  exact ⟨r1, r2.put hn (fun x c' _ hx => e3 x hx), e2.trans r3, aA_up r4 hA, r5.put e2 e3 hA⟩
/-- the heap has grown -/
theorem Rl.push {D : va_G} {h h' : AH} {z z' : Nat} {al : AL} {H H1 : Heap} {locs : List Loc} {ls : Array Slot} (r : Rl D h0 z0 s h z al H locs ls) (hz : s.heap.size = z0) (e2 : H1.size = z') (hle : z ≤ z') (e3 : ∀ q, q < z → H1[q]? = H[q]?) (ho : ∀ q, q < z → h' q = h q) (hn : ∀ q c, h' q = some c → z ≤ q → Rep D s q c H1) : Rl D h0 z0 s h' z' al H1 locs ls := by
  obtain ⟨r1, r2, r3, r4, r5⟩ := r
  have hz0 : z0 ≤ z := by
    rw [← hz, ← r3]
    exact r5.1
  refine ⟨r1, fun q c' hq => ?_, e2, fun q hq => ?_, ⟨?_, fun q h1 h2 => ?_, r5.2.2⟩⟩
  · rcases Nat.lt_or_ge q z with hl | hl
    · rw [ho q hl] at hq
      exact (r2 q c' hq).kept (e3 q hl)
    · exact hn q c' hq hl
  · rcases Nat.lt_or_ge q z with hl | hl
    · rcases hq with ⟨c', hq, hr⟩ | hq
      · rw [ho q hl] at hq
        exact r4 q (Or.inl ⟨c', hq, hr⟩)
      · omega
    · exact Or.inr (by omega)
  · rw [hz, e2]
    omega
  · rw [e3 q (by rw [hz] at h1; omega)]
    exact r5.2.1 q h1 h2
theorem sound_get (cx : Cx p l R s mi args meth c D C m d h0 z0 mc ms) {pc : Nat} {al : AL} {r : List Value} {h : AH} {z k n a i cc f : Nat} (hd : decode (mcode m) pc = .ok (.getfield i, 3)) (hf : fres (mo m) i = some (cc, f)) (q : gf h a cc f fun v => WX p l e R s mi args below meth c D m h0 z0 Q (pc + 3) al (v :: r) h z k n) : WX p l e R s mi args below meth c D m h0 z0 Q pc al (.ref a :: r) h z k n := by
  intro H locs ls rl hl
  obtain ⟨hx, hb, hml, hown, hgw, hK, -⟩ := cx
  obtain ⟨fs, v, e1, e2, q⟩ := q
  obtain ⟨CC, T, N, hc, hk, hw⟩ := fres_ok hf
  obtain ⟨w1, w2, w3, -⟩ := acl_ok hc
  obtain ⟨hat, hlen⟩ := rl.2.1 a _ e1
  have hP : va_P D acl [(a, .inr (cc, fs))] H := fun j x hj => by
    match j, hj with
    | 0, hj => cases hj; exact hat
    | j + 1, hj => simp at hj
  exact va_get hx hb hgw w1 hown hK hP 0 rfl hc f hk (hgw _ hw) (fun _ h9 => h9) e2 hd (q H locs ls rl hl)
theorem sound_put (cx : Cx p l R s mi args meth c D C m d h0 z0 mc ms) {pc : Nat} {al : AL} {r : List Value} {h : AH} {z k n a i cc f : Nat} {v : Value} (hd : decode (mcode m) pc = .ok (.putfield i, 3)) (hf : fres (mo m) i = some (cc, f)) (hfin : afin cc f = true → (my m).name = "<init>" ∧ afo cc f = ocn (mo m)) (q : pf h a cc f v fun h' => WX p l e R s mi args below meth c D m h0 z0 Q (pc + 3) al r h' z k n) : WX p l e R s mi args below meth c D m h0 z0 Q pc al (v :: .ref a :: r) h z k n := by
  intro H locs ls rl hl
  obtain ⟨hx, hb, hml, hown, hgw, hK, hz0, hE, hin, -⟩ := cx
  obtain ⟨fs, e1, e2, ⟨hn, hfit⟩, q⟩ := q
  obtain ⟨CC, T, N, hc, hk, hw⟩ := fres_ok hf
  obtain ⟨w1, w2, w3, -, -, wN⟩ := acl_ok hc
  obtain ⟨hat, hlen⟩ := rl.2.1 a _ e1
  have hap := va_apart (own := ocn (mo m)) hgw w1 (aty cc) w3 w2 hK hc
  obtain ⟨r', h1, cell, q1, q2, q3, q4⟩ := hat
  have hr : r' = (CC, T, N) := Option.some.inj (h1.symm.trans hc)
  subst hr
  obtain ⟨hS, hfc, kC, hkC, hkind⟩ := hK.1 cc _ hc
  obtain ⟨cf, kf, fi, fd, hi, hsl⟩ := hS f hk
  have hst := (u_facts hfc hkC (u_lays hgw w1 hk) hi).1
  have hd3 := w3 f hk
  have hlay := hgw _ (w1 _ (u_in_lay hk))
  unfold u_lay at hlay
  have fin : ∀ H1 : Heap, H1[a]? = some (cell.setSlot fd.slot v) → H1.size = H.size → (∀ q, q ≠ a → H1[q]? = H[q]?) → W p l e R s mi args below meth c H1 (locs ++ [⟨a, fd.slot⟩]) k n Q (F0 mi (pc + 3) ls r) := by
    intro H1 e1' e2' e3'
    refine q H1 _ ls (rl.put e1 (fun z => z) ?_ e2' e3') hl
    rw [hsl] at e1'
    exact ⟨⟨_, hc, t_OB.to (V := updV (vp_V fs) f v) ⟨_, e1', q2, q3, t_set q4 hap hk v⟩ (fun j _ => vp_updV_set e2 v j)⟩, by rw [List.length_set]; exact hlen⟩
  have hlt : fd.slot < cell.slots.size := by rw [hsl]; exact k2_hasslot (q4 f hk)
  cases hff : (T f).2.2.2
  · rw [if_neg (by rw [hff]; decide)] at hlay
    have h6 := u_store hfc hkC hkind hlay hi hd3 hn hfit
    exact W.putK hx hb (f := fd) ⟨hown, hgw _ hw, ⟨_, _, _, hi⟩, hst⟩ (by rw [q2]; exact h6) q1 q3 hlt rfl rfl hd fin
  · rw [if_pos hff] at hlay
    have hafin : afin cc f = true := by unfold afin; rw [hc]; exact hff
    obtain ⟨hname, hdecl⟩ := hfin hafin
    have hdecl' : (T f).1 = ocn (mo m) := by
      unfold afo at hdecl
      rw [hc] at hdecl
      exact hdecl
    have hcf : mi.cls = cf := by
      obtain ⟨_, _, c', _, _, _, -, -, hf', -, -, -, hown2, -⟩ := Cond.laysFinal_spec hlay
      have e1 : c' = cf := by have := hi.symm.trans hf'; simp at this; exact this.1.symm
      rw [hdecl'] at hown2
      rw [← e1]; exact Option.some.inj (hown.symm.trans hown2)
    have h6 := u_fits hfc hkC hkind (Or.inr hlay) hi hd3 hn hfit
    exact W.putFinK hx hb hown (hgw _ hw) hi hst hcf (hin hname) (by rw [q2]; exact h6) q1 q3 hlt rfl rfl hd fin
/-- an array's cell -/
theorem sound_arr {D : va_G} {h : AH} {H : Heap} {a k n : Nat} {g : Nat → Value} (hs : Sim D h s H) (e : h a = some (ra k n g)) : ∃ cell : Cell, H[a]? = some cell ∧ s.isArrayOf cell (AT k) ∧ cell.vm ≠ .unknown ∧ cell.slots.size = n ∧ ∀ j, j < n → cell.slots[j]? = some (g j) := hs a _ e
theorem kok_AT {k0 k : Nat} (h : kok k0 k = true) : AT k = AT k0 := by
  unfold kok at h
  simp only [Bool.or_eq_true, Bool.and_eq_true, beq_iff_eq] at h
  rcases h with rfl | ⟨rfl, rfl⟩ <;> rfl
theorem sound_lenI {x y : Nat} (h : x = y) : x.toInt32 = Int32.ofNat y := by subst h; rfl
theorem rep_store {D : va_G} {a k n j : Nat} {g : Nat → Value} {v : Value} {cell : Cell} {H1 : Heap} (h1 : s.isArrayOf cell (AT k)) (h2 : cell.vm ≠ .unknown) (h3 : cell.slots.size = n) (h4 : ∀ j, j < n → cell.slots[j]? = some (g j)) (e : H1[a]? = some (cell.setSlot j v)) : Rep D s a (ra k n (updV' g j v)) H1 := by
  refine ⟨_, e, h1, h2, by simp [Cell.setSlot, h3], fun i hi => ?_⟩
  show (cell.slots.setIfInBounds j v)[i]? = some (updV' g j v i)
  unfold updV'
  rw [Array.getElem?_setIfInBounds]
  by_cases hij : j = i
  · subst hij
    rw [if_pos rfl, if_pos rfl, if_pos (show j < cell.slots.size by rw [h3]; exact hi)]
  · rw [if_neg hij, if_neg (Ne.symm hij)]
    exact h4 i hi
theorem sound_vpin {i : Int32} {n : Nat} {x : Nat} (h : vp_in i n) (e : x = n) : ¬ (i < 0 ∨ x ≤ i.toNatClampNeg) := by subst e; exact h
theorem sound_vplt {i : Int32} {n : Nat} (h : vp_in i n) : i.toNatClampNeg < n := Nat.not_le.mp fun q => h (Or.inr q)
end Body
