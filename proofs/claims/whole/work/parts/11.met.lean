/-! from a body to its contract, depth by depth -/
def nmE : List String := ["java/lang/RuntimeException", "java/lang/Exception"]
def okT (e : Nat × Nat) : Bool :=
  ((vx_atS RX6 e.2 (exn e.1) nmE).filter goodWord).all (fun w => decide (w ∈ lw_tbl)) && ((vx_atS RX6 e.2 (exn e.1) nmE).filter (fun w => !goodWord w)).all (fun w => decide (w = .castable (exn e.1) (exn e.1)) || dclL.any (fun Y => decide (w = .declares (Bundle.initS Y)))) && (vx_atS RX6 e.2 (exn e.1) nmE).all vx_ot && Bundle.fit (exn e.1)
set_option maxRecDepth 100000 in
theorem okT0 : okT (0, 66) = true := by decide +kernel
set_option maxRecDepth 100000 in
theorem okT1 : okT (1, 156) = true := by decide +kernel
set_option maxRecDepth 100000 in
theorem okT2 : okT (2, 199) = true := by decide +kernel
set_option maxRecDepth 100000 in
theorem okT4 : okT (4, 216) = true := by decide +kernel
set_option maxRecDepth 100000 in
theorem okT5 : okT (5, 257) = true := by decide +kernel
def okT3 : Bool := ((at3 RX6 119 (exn 3) nmE).filter goodWord).all (fun w => decide (w ∈ lw_tbl)) && ((at3 RX6 119 (exn 3) nmE).filter (fun w => !goodWord w)).all (fun w => decide (w = .castable (exn 3) (exn 3)) || dclL.any (fun Y => decide (w = .declares (Bundle.initS Y)))) && (at3 RX6 119 (exn 3) nmE).all vx_ot && Bundle.fit (exn 3)
set_option maxRecDepth 100000 in
theorem okT3_ : okT3 = true := by decide +kernel
theorem okN : ∀ n ∈ nmE, Bundle.fit n = true := by decide +kernel
theorem okT_of {E ic : Nat} (h : excL.contains (E, ic) = true) (h3 : E ≠ 3) : okT (E, ic) = true := by
  have h1 : (E, ic) ∈ excL := by simpa using h
  simp only [excL, List.mem_cons, Prod.mk.injEq, List.mem_nil_iff, or_false] at h1
  rcases h1 with ⟨rfl, rfl⟩ | ⟨rfl, rfl⟩ | ⟨rfl, rfl⟩ | ⟨rfl, rfl⟩ | ⟨rfl, rfl⟩ | ⟨rfl, rfl⟩
  · exact okT0
  · exact okT1
  · exact okT2
  · exact absurd rfl h3
  · exact okT4
  · exact okT5
section Ends
variable {p : Program} {l : Launch} {e : Jvm.Env} {R : Room} {s : State} {mi : MethodId} {args : Array Value} {below : List Frame} {meth : Method} {c : Code} {D : va_G} {C : ASp} {m d : Nat} {h0 : AH} {z0 mc ms : Nat} {P : AP}
theorem ret_post {D : va_G} {h : AH} {z : Nat} {al : AL} {H : Heap} {locs : List Loc} {ls : Array Slot} {v : Option Value} (hz0 : s.heap.size = z0) (rl : Rl D h0 z0 s h z al H locs ls) (hp : P (.inl v) h z) (a : Array Value) (t : State) (ht : t.heap = H) (hW : s.WarmedH t.vm) : aQc D P h0 z0 a s (.returned v) t := by
  obtain ⟨r1, r2, r3, r4, r5⟩ := rl
  exact ⟨v, h, z, rfl, hp, by rw [ht]; exact r3, by rw [ht]; exact r2.moved hW.alike, r4, by rw [ht]; exact r5.1, fun q h1 h2 => by rw [ht]; exact r5.2.1 q h1 h2⟩
theorem exc_post {D : va_G} {h : AH} {z E : Nat} {al : AL} {H : Heap} {locs : List Loc} {ls : Array Slot} (hE : E < 6) (rl : Rl D h0 z0 s h z al H locs ls) (hp : P (.inr E) h z) (t : State) (ht : t.heap = H) (ha : s.vm.Alike t.vm) : aXC D P h0 z0 (exn E) s t := by
  obtain ⟨r1, r2, r3, r4, r5⟩ := rl
  exact ⟨E, h, z, rfl, hE, hp, by rw [ht]; exact r3, by rw [ht]; exact r2.moved ha, r4, by rw [ht]; exact r5.1, fun q h1 h2 => by rw [ht]; exact r5.2.1 q h1 h2⟩
theorem ends_ret (cx : Cx p l R s mi args meth c D C m d h0 z0 mc ms) : HRet p l e R s mi args below meth c D C m h0 z0 mc ms (vx_MQ below (aQc D P h0 z0) (aXC D P h0 z0) args s mc ms (aA h0 z0)) P := by
  obtain ⟨hx, hb, hml, hown, hgw, hK, hz0, hE, hin, hr, hlk, htab, hstt, hRc, hRs, -⟩ := id cx
  intro pc al st h z k n i hd hi q
  cases i
  all_goals (try (exact absurd hi (by decide)))
  all_goals (try (cases hi; done))
  all_goals (unfold aSem at q; dsimp only at q)
  case ireturn =>
    split at q
    · rename_i v
      obtain ⟨q1, q2, q3, q4⟩ := q
      intro H locs ls rl hl
      split at q1
      · rename_i ty hty
        exact vx_ret (W.widen q2 q3 (W.zret hx hb (hr.trans hty) q1 (fun t ht hW => ret_post hz0 rl q4 args t ht hW) rl.2.2.2.2.2.2 hd hlk))
      · exact q1.elim
    · exact q.elim
  case lreturn =>
    split at q
    · obtain ⟨q1, q2, q3, q4⟩ := q
      intro H locs ls rl hl
      exact vx_ret (W.widen q2 q3 (W.lret hx hb (hr.trans q1) (fun t ht hW => ret_post hz0 rl q4 args t ht hW) rl.2.2.2.2.2.2 hd hlk))
    · exact q.elim
  case dreturn =>
    split at q
    · obtain ⟨q1, q2, q3, q4⟩ := q
      intro H locs ls rl hl
      exact vx_ret (W.widen q2 q3 (W.dret hx hb (hr.trans q1) (fun t ht hW => ret_post hz0 rl q4 args t ht hW) rl.2.2.2.2.2.2 hd hlk))
    · exact q.elim
  case return_ =>
    split at q
    · obtain ⟨q1, q2, q3, q4⟩ := q
      intro H locs ls rl hl
      exact vx_ret (W.widen q2 q3 (W.vret hx hb (hr.trans q1) (fun t ht hW => ret_post hz0 rl q4 args t ht hW) rl.2.2.2.2.2.2 hd hlk))
    · exact q.elim
theorem ends_unc (cx : Cx p l R s mi args meth c D C m d h0 z0 mc ms) : HUnc p l e R s mi args below meth c D m h0 z0 mc ms (vx_MQ below (aQc D P h0 z0) (aXC D P h0 z0) args s mc ms (aA h0 z0)) P := by
  obtain ⟨hx, hb, hml, hown, hgw, hK, hz0, hE, hin, hr, hlk, htab, hstt, hRc, hRs, -⟩ := id cx
  intro pc al rest h z k n E H locs ls q ce hh hk hn hp hE6 rl hce hv hcl
  exact vx_out (by rw [htab, hh]; intro x hx; cases hx) hlk hce hv hcl (fun t ht ha => exc_post hE6 rl hp t ht ha) rl.2.2.2.2.2.2 hk hn
theorem thr_out {m E pc : Nat} (h : thr m E pc = true) : decode (mcode m) (pc + 3) = .ok (.dup, 1) ∧ ((∃ is ic tx, decode (mcode m) (pc + 4) = .ok (.ldc is, 2) ∧ (is, tx) ∈ strL ∧ decode (mcode m) (pc + 6) = .ok (.invokespecial ic, 3) ∧ excL.contains (E, ic) = true ∧ decode (mcode m) (pc + 9) = .ok (.athrow, 1)) ∨ (∃ is ic tx, E ≠ 3 ∧ decode (mcode m) (pc + 4) = .ok (.ldc_w is, 3) ∧ (is, tx) ∈ strL ∧ decode (mcode m) (pc + 7) = .ok (.invokespecial ic, 3) ∧ excL.contains (E, ic) = true ∧ decode (mcode m) (pc + 10) = .ok (.athrow, 1))) := by
  unfold thr at h
  rw [Bool.and_eq_true] at h
  obtain ⟨h1, h2⟩ := h
  refine ⟨?_, ?_⟩
  · split at h1
    · assumption
    · cases h1
  · split at h2
    · rename_i is hd4
      rw [Bool.and_eq_true] at h2
      obtain ⟨h3, h4⟩ := h2
      obtain ⟨⟨a, tx⟩, ha, hb⟩ := List.any_eq_true.mp h3
      obtain rfl : a = is := by simpa using hb
      split at h4
      · rename_i ic hd6
        rw [Bool.and_eq_true] at h4
        obtain ⟨h5, h6⟩ := h4
        split at h6
        · rename_i hd9
          exact Or.inl ⟨a, ic, tx, hd4, ha, hd6, h5, hd9⟩
        · cases h6
      · cases h4
    · rename_i is hd4
      rw [Bool.and_eq_true, Bool.and_eq_true] at h2
      obtain ⟨⟨hE3, h3⟩, h4⟩ := h2
      obtain ⟨⟨a, tx⟩, ha, hb⟩ := List.any_eq_true.mp h3
      obtain rfl : a = is := by simpa using hb
      split at h4
      · rename_i ic hd6
        rw [Bool.and_eq_true] at h4
        obtain ⟨h5, h6⟩ := h4
        split at h6
        · rename_i hd9
          exact Or.inr ⟨a, ic, tx, of_decide_eq_true hE3, hd4, ha, hd6, h5, hd9⟩
        · cases h6
      · cases h4
    · cases h2
theorem ends_thr (cx : Cx p l R s mi args meth c D C m d h0 z0 mc ms) : HThr p l e R s mi args below meth c D m h0 z0 mc ms (vx_MQ below (aQc D P h0 z0) (aXC D P h0 z0) args s mc ms (aA h0 z0)) P := by
  obtain ⟨hx, hb, hml, hown, hgw, hK, hz0, hE, hin, hr, hlk, htab, hstt, hRc, hRs, hRf, hRl, -⟩ := id cx
  intro pc al st h z k n i E hd hc ht hh hcat hk hn hp H locs ls rl hl
  obtain ⟨c1, hE6, c3, c4⟩ := cres_ok1 hc
  have hownX : ocn (mo m) = RX6 := by rw [c4]; rfl
  rw [hownX] at hown
  have c1' : (Jvm.Cond.classLink RX6 i (exn E)).before args s = true := by
    have := hgw _ c1
    rw [hownX] at this
    exact this
  have hxp : ∀ t : State, s.vm.Alike t.vm → H.size ≤ t.heap.size → (∀ q : Nat, q < H.size → t.heap[q]? = H[q]?) → aXC D P h0 z0 (exn E) s t := by
    intro t ha hz hq
    obtain ⟨r1, r2, r3, r4, r5⟩ := rl
    refine ⟨E, h, t.heap.size, rfl, hE6, hp _ (by rw [← r3]; exact hz), rfl, fun a ac e1 => ((r2 a ac e1).kept (hq a (r2 a ac e1).lt)).moved ha, aA_z (by rw [← r3]; exact hz) r4, Nat.le_trans r5.1 hz, fun q h1 h2 => ?_⟩
    rw [hq q (Nat.lt_of_lt_of_le h1 r5.1)]
    exact r5.2.1 q h1 h2
  have hout : ∀ y : Nat, ∀ x ∈ c.exceptionTable.toList, covers x y = false := by
    intro y
    rw [htab, hh]
    intro x hx
    cases hx
  obtain ⟨d3, d4⟩ := thr_out ht
  by_cases h3 : E = 3
  · subst h3
    have h1 := okT3_
    unfold okT3 at h1
    simp only [Bool.and_eq_true] at h1
    obtain ⟨⟨⟨g1, g2⟩, g3⟩, g4⟩ := h1
    rcases d4 with ⟨is, ic, tx, d4, hs, d6, hic, d9⟩ | ⟨is, ic, tx, hne, -⟩
    · have hic' : ic = 119 := by
        have h1 : (3, ic) ∈ excL := by simpa using hic
        simp only [excL, List.mem_cons, Prod.mk.injEq, List.mem_nil_iff, or_false] at h1
        omega
      subst hic'
      obtain ⟨sa, hsa⟩ := hE.2.2.1 _ hs
      refine throw3 hx hb hstt hown g4 okN c1' (hgw _ c3) hsa (vx_hat (B := .castable (exn 3) (exn 3) :: dclL.map (fun Y => .declares (Bundle.initS Y))) (fun w hw => ?_) (fun w hw => ?_) (fun w hw => ?_)) (fun w hw => ?_) hE.1 hE.2.1 rl.2.2.2.2 ((rl.1.1.trans hl).trans hml.symm) hd d3 d4 d6 d9 (hout _) (by show 2 + 3 < R.frames; omega) (by show _ + (13 * (2 + 1) + 43) ≤ R.locals; omega) (by rw [hRc]; exact hk) (by rw [hRs]; exact hn) hlk hxp rl.2.2.2.2.2.2 hk hn
      · exact hgw w (gw_in (of_decide_eq_true (List.all_eq_true.mp g1 w hw)) (List.mem_filter.mp hw).2)
      · have := List.all_eq_true.mp g2 w hw
        rw [Bool.or_eq_true] at this
        rcases this with h9 | h9
        · rw [of_decide_eq_true h9]
          exact List.mem_cons_self
        · obtain ⟨Y, hY, h8⟩ := List.any_eq_true.mp h9
          exact List.mem_cons_of_mem _ (List.mem_map.mpr ⟨Y, hY, (of_decide_eq_true h8).symm⟩)
      · rcases List.mem_cons.mp hw with rfl | hw
        · exact va_Nw.use rfl (hE.2.2.2.2.1 3 hE6)
        · obtain ⟨Y, hY, rfl⟩ := List.mem_map.mp hw
          exact va_Nw.use rfl (hE.2.2.2.2.2.2.1 Y hY)
      · rcases List.mem_cons.mp hw with rfl | hw
        · rfl
        · rcases List.mem_cons.mp hw with rfl | hw
          · rfl
          · exact List.all_eq_true.mp g3 w hw
    · exact absurd rfl hne
  · have hgo : ∀ ic, excL.contains (E, ic) = true → (∀ w ∈ vx_atS RX6 ic (exn E) nmE, w.before args s = true) ∧ (∀ w ∈ Jvm.Cond.classLink RX6 i (exn E) :: Jvm.Cond.initialized (exn E) :: vx_atS RX6 ic (exn E) nmE, vx_ot w = true) ∧ Bundle.fit (exn E) = true := by
      intro ic hic
      have h1 := okT_of hic h3
      unfold okT at h1
      simp only [Bool.and_eq_true] at h1
      obtain ⟨⟨⟨g1, g2⟩, g3⟩, g4⟩ := h1
      refine ⟨vx_hat (B := .castable (exn E) (exn E) :: dclL.map (fun Y => .declares (Bundle.initS Y))) (fun w hw => ?_) (fun w hw => ?_) (fun w hw => ?_), fun w hw => ?_, g4⟩
      · exact hgw w (gw_in (of_decide_eq_true (List.all_eq_true.mp g1 w hw)) (List.mem_filter.mp hw).2)
      · have := List.all_eq_true.mp g2 w hw
        rw [Bool.or_eq_true] at this
        rcases this with h9 | h9
        · rw [of_decide_eq_true h9]
          exact List.mem_cons_self
        · obtain ⟨Y, hY, h8⟩ := List.any_eq_true.mp h9
          exact List.mem_cons_of_mem _ (List.mem_map.mpr ⟨Y, hY, (of_decide_eq_true h8).symm⟩)
      · rcases List.mem_cons.mp hw with rfl | hw
        · exact va_Nw.use rfl (hE.2.2.2.2.1 E hE6)
        · obtain ⟨Y, hY, rfl⟩ := List.mem_map.mp hw
          exact va_Nw.use rfl (hE.2.2.2.2.2.2.1 Y hY)
      · rcases List.mem_cons.mp hw with rfl | hw
        · rfl
        · rcases List.mem_cons.mp hw with rfl | hw
          · rfl
          · exact List.all_eq_true.mp g3 w hw
    rcases d4 with ⟨is, ic, tx, d4, hs, d6, hic, d9⟩ | ⟨is, ic, tx, -, d4, hs, d6, hic, d9⟩
    · obtain ⟨sa, hsa⟩ := hE.2.2.1 _ hs
      obtain ⟨g1, g2, g3⟩ := hgo ic hic
      exact vx_throwS hx hb hstt hown g3 okN c1' (hgw _ c3) hsa g1 g2 hE.1 hE.2.1 rl.2.2.2.2 ((rl.1.1.trans hl).trans hml.symm) hd d3 d4 d6 d9 (hout _) (by show 2 + 3 < R.frames; omega) (by show _ + (13 * (2 + 1) + 43) ≤ R.locals; omega) (by rw [hRc]; exact hk) (by rw [hRs]; exact hn) hlk hxp rl.2.2.2.2.2.2 hk hn
    · obtain ⟨sa, hsa⟩ := hE.2.2.1 _ hs
      obtain ⟨g1, g2, g3⟩ := hgo ic hic
      exact vx_throwSW hx hb hstt hown g3 okN c1' (hgw _ c3) hsa g1 g2 hE.1 hE.2.1 rl.2.2.2.2 ((rl.1.1.trans hl).trans hml.symm) hd d3 d4 d6 d9 (hout _) (by show 2 + 3 < R.frames; omega) (by show _ + (13 * (2 + 1) + 43) ≤ R.locals; omega) (by rw [hRc]; exact hk) (by rw [hRs]; exact hn) hlk hxp rl.2.2.2.2.2.2 hk hn
end Ends
theorem vx_ofF {l : Launch} {y : MethodName} {ws : List Cond} {rm : Room} {Pc : Array Value → State → Prop} {Qc : Array Value → State → Outcome → State → Prop} {XC : String → State → State → Prop} {mc ms : Nat} {free : Addr → Prop} {cc : ByteArray} {maxL : Nat} {ret : Option FieldType}
    (hy : plainFor y = true) (his : ∀ (args : Array Value) (s : State) (m : MethodId), (headSpec ws rm).pre.before args s = true → s.methodNamed? y = some m → ∃ meth c, s.vm.method? m = some meth ∧ meth.code = some c ∧ c.code = cc ∧ c.maxLocals = maxL ∧ meth.sig.returnType = ret ∧ meth.locks = false)
    (body : ∀ p e s m args below meth c s₁, BodyLoose p l y (headSpec ws rm) cc maxL ret e s m args below meth c s₁ → c.maxLocals = maxL → Pc args s →
      W p l e (headSpec ws rm).room s m args below meth c s.heap [] 0 0 (vx_MQ below Qc XC args s mc ms free) (entryFrame m args maxL)) : vx_Met l y ws rm Pc Qc XC mc ms free := by
  refine MetFree.of_bodySF (code := cc) (maxLocals := maxL) (ret := ret) hy his ?_
  intro p e s m args below meth c s₁ B hml hP _
  have hh0 : s₁.heap = s.heap := by rw [B.state]; rfl
  obtain ⟨t, a1, o, b1, b2, b3⟩ := body p e s m args below meth c s₁ B hml hP s₁ hh0 (Stand.of_body B)
  exact ⟨t, o, a1, b1, b2, b3⟩
theorem Snd_succ {l : Launch} {D : va_G} {d : Nat} (hst : l.stackTraces = false) (ih : Snd l D (Sp d) d) {m : Nat} {as : List Value} {h : AH} {z mc ms : Nat} {P : AP} (q : Sp (d + 1) m as h z mc ms P) : vx_Met l (my m) (wsU m) (rmD (d + 1) mc ms) (aPc D as h z) (aQc D P h z) (aXC D P h z) mc ms (aA h z) := by
  obtain ⟨hm, hlen, hq⟩ := q
  obtain ⟨y1, y2, y3, y4, y5, y6, y7⟩ := mth_ok hm
  refine vx_ofF (cc := mcode m) (maxL := mmax m) (ret := mret m) y6 ?_ ?_
  · intro args s mk h hn
    have hc : (cw m).before args s = true := atoms_spec (ws := wsU m) h _ List.mem_cons_self
    unfold cw at hc
    split at hc
    · obtain ⟨meth, c, h1, h2, h3, h4, h5, h6, -, -⟩ := Cond.code_spec hn hc
      exact ⟨meth, c, h1, h2, h3, h4, h5, h6⟩
    · obtain ⟨m9, meth, c, hn9, h1, h2, h3, h4, -, h5, h6, -⟩ := Cond.codeWith_spec hc
      cases hn.symm.trans hn9
      exact ⟨meth, c, h1, h2, h3, h4, h5, h6⟩
  · intro p e s mk args below meth c s₁ B hml hP
    obtain ⟨rfl, hsz, hsim, hK, hE⟩ := hP
    have hts := atoms_spec (ws := wsU m) B.pre
    have hc : (cw m).before as.toArray s = true := hts _ List.mem_cons_self
    have htab : c.exceptionTable.toList = tableOf (mhh m) := by
      unfold cw at hc
      split at hc
      · rename_i hh
        obtain ⟨meth9, c9, h1, h2, -, -, -, -, h7, -⟩ := Cond.code_spec B.named hc
        cases Option.some.inj (h1.symm.trans B.method)
        cases Option.some.inj (h2.symm.trans (Stand.of_body B).code)
        rw [Array.isEmpty_iff.mp h7, hh]
        rfl
      · exact vx_table (x := my m) B hc
    have cx : Cx p l (rmD (d + 1) mc ms) s mk as.toArray meth c D (Sp d) m d h z mc ms := by
      refine ⟨B.exec, B.bytes, hml, by rw [← y7]; exact findClass_of_methodNamed B.named, fun w hw => hts w (List.mem_cons_of_mem _ hw), hK, hsz, hE, fun hn => (name_of_methodNamed B.named B.method).1.trans hn, B.returns, B.notSynchronized, htab, hst, rfl, rfl, ?_, ?_, ih⟩
      · show d + 9 ≤ d + 1 + 8
        omega
      · show 180 + 40 * d ≤ 140 + 40 * (d + 1)
        omega
    have key := hq (WX p l e (rmD (d + 1) mc ms) s mk as.toArray below meth c D m h z (vx_MQ below (aQc D P h z) (aXC D P h z) as.toArray s mc ms (aA h z))) (fun pc al st h z k n hs => by
      unfold aStep at hs
      split at hs
      · rename_i i len hd
        exact sem_sound cx (by omega) (ends_unc cx) (ends_ret cx) (ends_thr cx) hd hs.1 hs.2
      · exact hs.elim)
    rw [lg_entry_eq]
    refine key s.heap [] _ ⟨lh_entry hlen, hsim, hsz, fun q hq => hq, ?_⟩ ?_
    · exact va_S.rf
    · unfold aEntry
      simp
      omega
theorem Snd_all {l : Launch} {D : va_G} (hst : l.stackTraces = false) : ∀ d : Nat, Snd l D (Sp d) d
  | 0 => fun _ _ _ _ _ _ _ q => q.elim
  | d + 1 => fun _ _ _ _ _ _ _ q => Snd_succ hst (Snd_all hst d) q
