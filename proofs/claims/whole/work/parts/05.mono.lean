/-! a step is monotone; the fixed point's equation; contracts may be weakened and deepened -/
theorem ldi_mono {al : AL} {i : Nat} {f g : Int32 → Prop} (h : ∀ x, f x → g x) (q : ldi al i f) : ldi al i g := by
  unfold ldi at *
  split at q
  · exact h _ q
  · exact q
theorem ldl_mono {al : AL} {i : Nat} {f g : Int64 → Prop} (h : ∀ x, f x → g x) (q : ldl al i f) : ldl al i g := by
  unfold ldl at *
  split at q
  · exact h _ q
  · exact q
theorem ldd_mono {al : AL} {i : Nat} {f g : UInt64 → Prop} (h : ∀ x, f x → g x) (q : ldd al i f) : ldd al i g := by
  unfold ldd at *
  split at q
  · exact h _ q
  · exact q
theorem lda_mono {al : AL} {i : Nat} {f g : Nat → Prop} (h : ∀ x, f x → g x) (q : lda al i f) : lda al i g := by
  unfold lda at *
  split at q
  · exact h _ q
  · exact q
theorem br_mono {c A B A' B' : Prop} (h : A → A') (h2 : B → B') (q : br c A B) : br c A' B' := ⟨fun x => h (q.1 x), fun x => h2 (q.2 x)⟩
theorem gf_mono {h : AH} {a c k : Nat} {f g : Value → Prop} (hf : ∀ x, f x → g x) (q : gf h a c k f) : gf h a c k g := by
  obtain ⟨fs, v, q1, q2, q3⟩ := q
  exact ⟨fs, v, q1, q2, hf _ q3⟩
theorem pf_mono {h : AH} {a c k : Nat} {v : Value} {f g : AH → Prop} (hf : ∀ x, f x → g x) (q : pf h a c k v f) : pf h a c k v g := by
  obtain ⟨fs, q1, q2, q3, q4⟩ := q
  exact ⟨fs, q1, q2, q3, hf _ q4⟩
theorem ald_mono {h : AH} {a k0 : Nat} {i : Int32} {f g : Value → Prop} (hf : ∀ x, f x → g x) (q : ald h a k0 i f) : ald h a k0 i g := by
  obtain ⟨k, n, e, q1, q2, q3, q4⟩ := q
  exact ⟨k, n, e, q1, q2, q3, hf _ q4⟩
theorem aln_mono {h : AH} {a : Nat} {f g : Int32 → Prop} (hf : ∀ x, f x → g x) (q : aln h a f) : aln h a g := by
  obtain ⟨k, n, e, q1, q2⟩ := q
  exact ⟨k, n, e, q1, hf _ q2⟩
theorem ast_mono {h : AH} {a k : Nat} {i : Int32} {v : Value} {f g : AH → Prop} (hf : ∀ x, f x → g x) (q : ast h a k i v f) : ast h a k i v g := by
  obtain ⟨n, e, q1, q2, q3⟩ := q
  exact ⟨n, e, q1, q2, hf _ q3⟩
section Mono
variable {C C' : ASp} {m mc ms : Nat} {P P' : AP} {X X' : AX}
theorem aRet_mono (hP : ∀ o h z, P o h z → P' o h z) (hX : ∀ pc al st h z k n, X pc al st h z k n → X' pc al st h z k n) {pc : Nat} {al : AL} {rest : List Value} {k n : Nat} {o : AO} {h : AH} {z : Nat} (q : aRet m mc ms P X pc al rest k n o h z) : aRet m mc ms P' X' pc al rest k n o h z := by
  unfold aRet at *
  split
  · exact hX _ _ _ _ _ _ _ q
  · exact hX _ _ _ _ _ _ _ q
  · dsimp only at q
    split
    · rename_i h1
      rw [h1] at q
      exact fun a => hX _ _ _ _ _ _ _ (q a)
    · rename_i h1
      rw [h1] at q
      exact ⟨q.1, q.2.1, q.2.2.1, hP _ _ _ q.2.2.2⟩
theorem aCall_mono (hC : ∀ mi As h z a b Q, C mi As h z a b Q → C' mi As h z a b Q) (hP : ∀ o h z, P o h z → P' o h z) (hX : ∀ pc al st h z k n, X pc al st h z k n → X' pc al st h z k n) {pc : Nat} {al : AL} {rest : List Value} {h : AH} {z k n mi : Nat} {As : List Value} (q : aCall C m mc ms P X pc al rest h z k n mi As) : aCall C' m mc ms P' X' pc al rest h z k n mi As := by
  obtain ⟨q0, a, b, Q, q1, q2, q3, q4⟩ := q
  exact ⟨q0, a, b, Q, hC _ _ _ _ _ _ _ q1, q2, q3, fun o h' z' w => aRet_mono hP hX (q4 o h' z' w)⟩
theorem aOut_mono (hP : ∀ o h z, P o h z → P' o h z) {v : Option Value} {h : AH} {z k n : Nat} (q : aOut mc ms P v h z k n) : aOut mc ms P' v h z k n := ⟨q.1, q.2.1, hP _ _ _ q.2.2⟩
theorem aJ_mono (hX : ∀ pc al st h z k n, X pc al st h z k n → X' pc al st h z k n) {pc : Nat} {off : Int} {al : AL} {st : List Value} {h : AH} {z k n : Nat} (q : aJ X pc off al st h z k n) : aJ X' pc off al st h z k n := hX _ _ _ _ _ _ _ q
set_option maxHeartbeats 4000000 in
theorem aSem_mono (hC : ∀ mi As h z a b Q, C mi As h z a b Q → C' mi As h z a b Q) (hP : ∀ o h z, P o h z → P' o h z) (hX : ∀ pc al st h z k n, X pc al st h z k n → X' pc al st h z k n) {pc : Nat} {al : AL} {st : List Value} {h : AH} {z k n : Nat} {i : Instr} {len : Nat} (q : aSem C m mc ms P X pc al st h z k n i len) : aSem C' m mc ms P' X' pc al st h z k n i len := by
  have hx : ∀ {pc al st h z k n}, X pc al st h z k n → X' pc al st h z k n := fun q => hX _ _ _ _ _ _ _ q
  cases i
  all_goals (unfold aSem at q ⊢; dsimp only at q ⊢)
  all_goals first
    | exact q.elim
    | exact hx q
    | exact lda_mono (fun _ => hx) q
    | exact ldi_mono (fun _ => hx) q
    | exact ldl_mono (fun _ => hx) q
    | exact ldd_mono (fun _ => hx) q
    | exact aJ_mono hX q
    | exact ⟨q.1, hx q.2⟩
    | (split at q
       · first
         | exact hx q
         | exact ⟨q.1, hx q.2⟩
         | exact ⟨q.1, q.2.1, hx q.2.2⟩
         | exact br_mono (aJ_mono hX) hx q
         | exact ⟨fun x => aJ_mono hX (q.1 x), fun x => by obtain ⟨off, h1, h2⟩ := q.2 x; exact ⟨off, h1, aJ_mono hX h2⟩⟩
         | exact ⟨q.1, aOut_mono hP q.2⟩
         | exact gf_mono (fun _ => hx) q
         | exact ⟨q.1, pf_mono (fun _ => hx) q.2⟩
         | exact aln_mono (fun _ => hx) q
         | exact ald_mono (fun _ => hx) q
         | exact ast_mono (fun _ => hx) q
         | (obtain ⟨kd, q1, q2, q3, q4, q5, q6, q7⟩ := q; exact ⟨kd, q1, q2, q3, q4, q5, q6, hx q7⟩)
         | exact ⟨q.1, q.2.1, q.2.2.1, q.2.2.2.1, q.2.2.2.2.1, q.2.2.2.2.2.1, q.2.2.2.2.2.2.1, hx q.2.2.2.2.2.2.2⟩
         | (obtain ⟨As, a, r, c, fs, q1, q2, q3, q4, q5⟩ := q; exact ⟨As, a, r, c, fs, q1, q2, q3, q4, aCall_mono hC hP hX q5⟩)
         | (obtain ⟨As, r, q1, q2, q5⟩ := q; exact ⟨As, r, q1, q2, aCall_mono hC hP hX q5⟩)
         | (obtain ⟨As, a, r, q1, q2, q5⟩ := q; exact ⟨As, a, r, q1, q2, aCall_mono hC hP hX q5⟩)
       · exact q.elim)
    | (split at q
       · first
         | exact ⟨q.1, q.2.1, hx q.2.2⟩
         | (obtain ⟨As, a, r, q1, q2, q5⟩ := q; exact ⟨As, a, r, q1, q2, aCall_mono hC hP hX q5⟩)
       · first
         | exact ⟨q.1, q.2.1, q.2.2.1, q.2.2.2.1, q.2.2.2.2.1, fun z' hz => hP _ _ _ (q.2.2.2.2.2 z' hz)⟩
         | (obtain ⟨As, a, r, q1, q2, q5⟩ := q; exact ⟨As, a, r, q1, q2, aCall_mono hC hP hX q5⟩)
       · first
         | exact q.elim
         | (split at q
            · exact ⟨q.1, hx q.2⟩
            · exact q.elim)
       all_goals (exact q.elim))
theorem aStep_mono (hC : ∀ mi As h z a b Q, C mi As h z a b Q → C' mi As h z a b Q) (hP : ∀ o h z, P o h z → P' o h z) (hX : ∀ pc al st h z k n, X pc al st h z k n → X' pc al st h z k n) {pc : Nat} {al : AL} {st : List Value} {h : AH} {z k n : Nat} (q : aStep C m mc ms P X pc al st h z k n) : aStep C' m mc ms P' X' pc al st h z k n := by
  unfold aStep at *
  split at q
  · exact ⟨q.1, aSem_mono hC hP hX q.2⟩
  · exact q
theorem aW_in {pc : Nat} {al : AL} {st : List Value} {h : AH} {z k n : Nat} (q : aStep C m mc ms P (aW C m mc ms P) pc al st h z k n) : aW C m mc ms P pc al st h z k n :=
  fun X hX => hX _ _ _ _ _ _ _ (aStep_mono (fun _ _ _ _ _ _ _ w => w) (fun _ _ _ w => w) (fun _ _ _ _ _ _ _ w => w X hX) q)
theorem aW_out {pc : Nat} {al : AL} {st : List Value} {h : AH} {z k n : Nat} (q : aW C m mc ms P pc al st h z k n) : aStep C m mc ms P (aW C m mc ms P) pc al st h z k n :=
  q (aStep C m mc ms P (aW C m mc ms P)) (fun _ _ _ _ _ _ _ w => aStep_mono (fun _ _ _ _ _ _ _ w => w) (fun _ _ _ w => w) (fun _ _ _ _ _ _ _ w => aW_in w) w)
theorem aW_dec {pc : Nat} {al : AL} {st : List Value} {h : AH} {z k n : Nat} {i : Instr} {len : Nat} (hd : decode (mcode m) pc = .ok (i, len)) (hl : ilok pc i len = true := by rfl) : aW C m mc ms P pc al st h z k n = aSem C m mc ms P (aW C m mc ms P) pc al st h z k n i len := by
  have e : aStep C m mc ms P (aW C m mc ms P) pc al st h z k n = aSem C m mc ms P (aW C m mc ms P) pc al st h z k n i len := by
    unfold aStep
    rw [hd]
    exact propext ⟨fun q => q.2, fun q => ⟨hl, q⟩⟩
  exact propext ⟨fun q => e ▸ aW_out q, fun q => aW_in (e.symm ▸ q)⟩
theorem aW_mono (hC : ∀ mi As h z a b Q, C mi As h z a b Q → C' mi As h z a b Q) (hP : ∀ o h z, P o h z → P' o h z) {pc : Nat} {al : AL} {st : List Value} {h : AH} {z k n : Nat} (q : aW C m mc ms P pc al st h z k n) : aW C' m mc ms P' pc al st h z k n :=
  fun X hX => q X (fun _ _ _ _ _ _ _ w => hX _ _ _ _ _ _ _ (aStep_mono hC hP (fun _ _ _ _ _ _ _ w => w) w))
end Mono
theorem Sp_conseq {d m : Nat} {as : List Value} {h : AH} {z mc ms : Nat} {P P' : AP} (hP : ∀ o h z, P o h z → P' o h z) (q : Sp d m as h z mc ms P) : Sp d m as h z mc ms P' := by
  cases d with
  | zero => exact q
  | succ d => exact ⟨q.1, q.2.1, aW_mono (fun _ _ _ _ _ _ _ w => w) hP q.2.2⟩
theorem Sp_succ {d : Nat} : ∀ {m : Nat} {as : List Value} {h : AH} {z mc ms : Nat} {P : AP}, Sp d m as h z mc ms P → Sp (d + 1) m as h z mc ms P := by
  induction d with
  | zero => exact fun q => q.elim
  | succ d ih => exact fun q => ⟨q.1, q.2.1, aW_mono (fun _ _ _ _ _ _ _ w => ih w) (fun _ _ _ w => w) q.2.2⟩
theorem Sp_le {d d' m : Nat} {as : List Value} {h : AH} {z mc ms : Nat} {P : AP} (hd : d ≤ d') (q : Sp d m as h z mc ms P) : Sp d' m as h z mc ms P := by
  induction hd with
  | refl => exact q
  | step _ ih => exact Sp_succ ih
