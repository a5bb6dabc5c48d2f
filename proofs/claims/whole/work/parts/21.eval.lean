/-! reading and writing of places, cells and numbers, for simp -/
theorem ldi_0 {x : Int32} {l : AL} {f : Int32 → Prop} : ldi (some (.int x) :: l) 0 f = f x := rfl
theorem ldi_s {a : Option Value} {l : AL} {i : Nat} {f : Int32 → Prop} : ldi (a :: l) (i + 1) f = ldi l i f := rfl
theorem ldl_0 {x : Int64} {l : AL} {f : Int64 → Prop} : ldl (some (.long x) :: l) 0 f = f x := rfl
theorem ldl_s {a : Option Value} {l : AL} {i : Nat} {f : Int64 → Prop} : ldl (a :: l) (i + 1) f = ldl l i f := rfl
theorem ldd_0 {x : UInt64} {l : AL} {f : UInt64 → Prop} : ldd (some (.double x) :: l) 0 f = f x := rfl
theorem ldd_s {a : Option Value} {l : AL} {i : Nat} {f : UInt64 → Prop} : ldd (a :: l) (i + 1) f = ldd l i f := rfl
theorem lda_0 {x : Nat} {l : AL} {f : Nat → Prop} : lda (some (.ref x) :: l) 0 f = f x := rfl
theorem lda_s {a : Option Value} {l : AL} {i : Nat} {f : Nat → Prop} : lda (a :: l) (i + 1) f = lda l i f := rfl
theorem st1_0 {a : Option Value} {l : AL} {v : Value} : st1 (a :: l) 0 v = some v :: l := rfl
theorem st1_1 {a b : Option Value} {l : AL} {v : Value} : st1 (a :: b :: l) 1 v = kil a :: some v :: l := rfl
theorem st1_s {a : Option Value} {l : AL} {i : Nat} {v : Value} : st1 (a :: l) (i + 2) v = a :: st1 l (i + 1) v := by cases l <;> rfl
theorem st2_0 {a b : Option Value} {l : AL} {v : Value} : st2 (a :: b :: l) 0 v = some v :: none :: l := rfl
theorem st2_1 {a b c : Option Value} {l : AL} {v : Value} : st2 (a :: b :: c :: l) 1 v = kil a :: some v :: none :: l := rfl
theorem st2_s {a : Option Value} {l : AL} {i : Nat} {v : Value} : st2 (a :: l) (i + 2) v = a :: st2 l (i + 1) v := by
  match l with
  | [] => rfl
  | [_] => rfl
  | _ :: _ :: _ => rfl
theorem sti_0 {a : Option Value} {l : AL} {v : Value} {f : AL → Prop} : sti (a :: l) 0 v f = f (some v :: l) := by
  unfold sti
  exact and_t (by simp)
theorem sti_1 {a b : Option Value} {l : AL} {v : Value} {f : AL → Prop} : sti (a :: b :: l) 1 v f = f (kil a :: some v :: l) := by
  unfold sti
  exact and_t (by simp)
theorem sti_s {a : Option Value} {l : AL} {i : Nat} {v : Value} {f : AL → Prop} : sti (a :: l) (i + 2) v f = sti l (i + 1) v (fun l' => f (a :: l')) := by
  unfold sti
  rw [st1_s, show (i + 2 < (a :: l).length) = (i + 1 < l.length) from propext (by rw [List.length_cons]; omega)]
theorem stj_0 {a b : Option Value} {l : AL} {v : Value} {f : AL → Prop} : stj (a :: b :: l) 0 v f = f (some v :: none :: l) := by
  unfold stj
  exact and_t (by simp)
theorem stj_1 {a b c : Option Value} {l : AL} {v : Value} {f : AL → Prop} : stj (a :: b :: c :: l) 1 v f = f (kil a :: some v :: none :: l) := by
  unfold stj
  exact and_t (by simp)
theorem stj_s {a : Option Value} {l : AL} {i : Nat} {v : Value} {f : AL → Prop} : stj (a :: l) (i + 2) v f = stj l (i + 1) v (fun l' => f (a :: l')) := by
  unfold stj
  rw [st2_s, show (i + 2 + 1 < (a :: l).length) = (i + 1 + 1 < l.length) from propext (by rw [List.length_cons]; omega)]
theorem st1_2 {a0 a1 a2 : Option Value} {l : AL} {v : Value} : st1 (a0 :: a1 :: a2 :: l) 2 v = a0 :: kil a1 :: some v :: l := rfl
theorem sti_2 {a0 a1 a2 : Option Value} {l : AL} {v : Value} {f : AL → Prop} : sti (a0 :: a1 :: a2 :: l) 2 v f = f (a0 :: kil a1 :: some v :: l) := by
  unfold sti
  exact and_t (by simp)
theorem st2_2 {a0 a1 a2 b : Option Value} {l : AL} {v : Value} : st2 (a0 :: a1 :: a2 :: b :: l) 2 v = a0 :: kil a1 :: some v :: none :: l := rfl
theorem stj_2 {a0 a1 a2 b : Option Value} {l : AL} {v : Value} {f : AL → Prop} : stj (a0 :: a1 :: a2 :: b :: l) 2 v f = f (a0 :: kil a1 :: some v :: none :: l) := by
  unfold stj
  exact and_t (by simp)
theorem st1_3 {a0 a1 a2 a3 : Option Value} {l : AL} {v : Value} : st1 (a0 :: a1 :: a2 :: a3 :: l) 3 v = a0 :: a1 :: kil a2 :: some v :: l := rfl
theorem sti_3 {a0 a1 a2 a3 : Option Value} {l : AL} {v : Value} {f : AL → Prop} : sti (a0 :: a1 :: a2 :: a3 :: l) 3 v f = f (a0 :: a1 :: kil a2 :: some v :: l) := by
  unfold sti
  exact and_t (by simp)
theorem st2_3 {a0 a1 a2 a3 b : Option Value} {l : AL} {v : Value} : st2 (a0 :: a1 :: a2 :: a3 :: b :: l) 3 v = a0 :: a1 :: kil a2 :: some v :: none :: l := rfl
theorem stj_3 {a0 a1 a2 a3 b : Option Value} {l : AL} {v : Value} {f : AL → Prop} : stj (a0 :: a1 :: a2 :: a3 :: b :: l) 3 v f = f (a0 :: a1 :: kil a2 :: some v :: none :: l) := by
  unfold stj
  exact and_t (by simp)
theorem st1_4 {a0 a1 a2 a3 a4 : Option Value} {l : AL} {v : Value} : st1 (a0 :: a1 :: a2 :: a3 :: a4 :: l) 4 v = a0 :: a1 :: a2 :: kil a3 :: some v :: l := rfl
theorem sti_4 {a0 a1 a2 a3 a4 : Option Value} {l : AL} {v : Value} {f : AL → Prop} : sti (a0 :: a1 :: a2 :: a3 :: a4 :: l) 4 v f = f (a0 :: a1 :: a2 :: kil a3 :: some v :: l) := by
  unfold sti
  exact and_t (by simp)
theorem st2_4 {a0 a1 a2 a3 a4 b : Option Value} {l : AL} {v : Value} : st2 (a0 :: a1 :: a2 :: a3 :: a4 :: b :: l) 4 v = a0 :: a1 :: a2 :: kil a3 :: some v :: none :: l := rfl
theorem stj_4 {a0 a1 a2 a3 a4 b : Option Value} {l : AL} {v : Value} {f : AL → Prop} : stj (a0 :: a1 :: a2 :: a3 :: a4 :: b :: l) 4 v f = f (a0 :: a1 :: a2 :: kil a3 :: some v :: none :: l) := by
  unfold stj
  exact and_t (by simp)
theorem st1_5 {a0 a1 a2 a3 a4 a5 : Option Value} {l : AL} {v : Value} : st1 (a0 :: a1 :: a2 :: a3 :: a4 :: a5 :: l) 5 v = a0 :: a1 :: a2 :: a3 :: kil a4 :: some v :: l := rfl
theorem sti_5 {a0 a1 a2 a3 a4 a5 : Option Value} {l : AL} {v : Value} {f : AL → Prop} : sti (a0 :: a1 :: a2 :: a3 :: a4 :: a5 :: l) 5 v f = f (a0 :: a1 :: a2 :: a3 :: kil a4 :: some v :: l) := by
  unfold sti
  exact and_t (by simp)
theorem st2_5 {a0 a1 a2 a3 a4 a5 b : Option Value} {l : AL} {v : Value} : st2 (a0 :: a1 :: a2 :: a3 :: a4 :: a5 :: b :: l) 5 v = a0 :: a1 :: a2 :: a3 :: kil a4 :: some v :: none :: l := rfl
theorem stj_5 {a0 a1 a2 a3 a4 a5 b : Option Value} {l : AL} {v : Value} {f : AL → Prop} : stj (a0 :: a1 :: a2 :: a3 :: a4 :: a5 :: b :: l) 5 v f = f (a0 :: a1 :: a2 :: a3 :: kil a4 :: some v :: none :: l) := by
  unfold stj
  exact and_t (by simp)
theorem st1_6 {a0 a1 a2 a3 a4 a5 a6 : Option Value} {l : AL} {v : Value} : st1 (a0 :: a1 :: a2 :: a3 :: a4 :: a5 :: a6 :: l) 6 v = a0 :: a1 :: a2 :: a3 :: a4 :: kil a5 :: some v :: l := rfl
theorem sti_6 {a0 a1 a2 a3 a4 a5 a6 : Option Value} {l : AL} {v : Value} {f : AL → Prop} : sti (a0 :: a1 :: a2 :: a3 :: a4 :: a5 :: a6 :: l) 6 v f = f (a0 :: a1 :: a2 :: a3 :: a4 :: kil a5 :: some v :: l) := by
  unfold sti
  exact and_t (by simp)
theorem st2_6 {a0 a1 a2 a3 a4 a5 a6 b : Option Value} {l : AL} {v : Value} : st2 (a0 :: a1 :: a2 :: a3 :: a4 :: a5 :: a6 :: b :: l) 6 v = a0 :: a1 :: a2 :: a3 :: a4 :: kil a5 :: some v :: none :: l := rfl
theorem stj_6 {a0 a1 a2 a3 a4 a5 a6 b : Option Value} {l : AL} {v : Value} {f : AL → Prop} : stj (a0 :: a1 :: a2 :: a3 :: a4 :: a5 :: a6 :: b :: l) 6 v f = f (a0 :: a1 :: a2 :: a3 :: a4 :: kil a5 :: some v :: none :: l) := by
  unfold stj
  exact and_t (by simp)
theorem st1_7 {a0 a1 a2 a3 a4 a5 a6 a7 : Option Value} {l : AL} {v : Value} : st1 (a0 :: a1 :: a2 :: a3 :: a4 :: a5 :: a6 :: a7 :: l) 7 v = a0 :: a1 :: a2 :: a3 :: a4 :: a5 :: kil a6 :: some v :: l := rfl
theorem sti_7 {a0 a1 a2 a3 a4 a5 a6 a7 : Option Value} {l : AL} {v : Value} {f : AL → Prop} : sti (a0 :: a1 :: a2 :: a3 :: a4 :: a5 :: a6 :: a7 :: l) 7 v f = f (a0 :: a1 :: a2 :: a3 :: a4 :: a5 :: kil a6 :: some v :: l) := by
  unfold sti
  exact and_t (by simp)
theorem st2_7 {a0 a1 a2 a3 a4 a5 a6 a7 b : Option Value} {l : AL} {v : Value} : st2 (a0 :: a1 :: a2 :: a3 :: a4 :: a5 :: a6 :: a7 :: b :: l) 7 v = a0 :: a1 :: a2 :: a3 :: a4 :: a5 :: kil a6 :: some v :: none :: l := rfl
theorem stj_7 {a0 a1 a2 a3 a4 a5 a6 a7 b : Option Value} {l : AL} {v : Value} {f : AL → Prop} : stj (a0 :: a1 :: a2 :: a3 :: a4 :: a5 :: a6 :: a7 :: b :: l) 7 v f = f (a0 :: a1 :: a2 :: a3 :: a4 :: a5 :: kil a6 :: some v :: none :: l) := by
  unfold stj
  exact and_t (by simp)
theorem st1_8 {a0 a1 a2 a3 a4 a5 a6 a7 a8 : Option Value} {l : AL} {v : Value} : st1 (a0 :: a1 :: a2 :: a3 :: a4 :: a5 :: a6 :: a7 :: a8 :: l) 8 v = a0 :: a1 :: a2 :: a3 :: a4 :: a5 :: a6 :: kil a7 :: some v :: l := rfl
theorem sti_8 {a0 a1 a2 a3 a4 a5 a6 a7 a8 : Option Value} {l : AL} {v : Value} {f : AL → Prop} : sti (a0 :: a1 :: a2 :: a3 :: a4 :: a5 :: a6 :: a7 :: a8 :: l) 8 v f = f (a0 :: a1 :: a2 :: a3 :: a4 :: a5 :: a6 :: kil a7 :: some v :: l) := by
  unfold sti
  exact and_t (by simp)
theorem st2_8 {a0 a1 a2 a3 a4 a5 a6 a7 a8 b : Option Value} {l : AL} {v : Value} : st2 (a0 :: a1 :: a2 :: a3 :: a4 :: a5 :: a6 :: a7 :: a8 :: b :: l) 8 v = a0 :: a1 :: a2 :: a3 :: a4 :: a5 :: a6 :: kil a7 :: some v :: none :: l := rfl
theorem stj_8 {a0 a1 a2 a3 a4 a5 a6 a7 a8 b : Option Value} {l : AL} {v : Value} {f : AL → Prop} : stj (a0 :: a1 :: a2 :: a3 :: a4 :: a5 :: a6 :: a7 :: a8 :: b :: l) 8 v f = f (a0 :: a1 :: a2 :: a3 :: a4 :: a5 :: a6 :: kil a7 :: some v :: none :: l) := by
  unfold stj
  exact and_t (by simp)
theorem st1_9 {a0 a1 a2 a3 a4 a5 a6 a7 a8 a9 : Option Value} {l : AL} {v : Value} : st1 (a0 :: a1 :: a2 :: a3 :: a4 :: a5 :: a6 :: a7 :: a8 :: a9 :: l) 9 v = a0 :: a1 :: a2 :: a3 :: a4 :: a5 :: a6 :: a7 :: kil a8 :: some v :: l := rfl
theorem sti_9 {a0 a1 a2 a3 a4 a5 a6 a7 a8 a9 : Option Value} {l : AL} {v : Value} {f : AL → Prop} : sti (a0 :: a1 :: a2 :: a3 :: a4 :: a5 :: a6 :: a7 :: a8 :: a9 :: l) 9 v f = f (a0 :: a1 :: a2 :: a3 :: a4 :: a5 :: a6 :: a7 :: kil a8 :: some v :: l) := by
  unfold sti
  exact and_t (by simp)
theorem st2_9 {a0 a1 a2 a3 a4 a5 a6 a7 a8 a9 b : Option Value} {l : AL} {v : Value} : st2 (a0 :: a1 :: a2 :: a3 :: a4 :: a5 :: a6 :: a7 :: a8 :: a9 :: b :: l) 9 v = a0 :: a1 :: a2 :: a3 :: a4 :: a5 :: a6 :: a7 :: kil a8 :: some v :: none :: l := rfl
theorem stj_9 {a0 a1 a2 a3 a4 a5 a6 a7 a8 a9 b : Option Value} {l : AL} {v : Value} {f : AL → Prop} : stj (a0 :: a1 :: a2 :: a3 :: a4 :: a5 :: a6 :: a7 :: a8 :: a9 :: b :: l) 9 v f = f (a0 :: a1 :: a2 :: a3 :: a4 :: a5 :: a6 :: a7 :: kil a8 :: some v :: none :: l) := by
  unfold stj
  exact and_t (by simp)
theorem cat_i {x : Int32} : ((Value.int x).category = 1) = True := propext ⟨fun _ => trivial, fun _ => rfl⟩
theorem cat_r {x : Nat} : ((Value.ref x).category = 1) = True := propext ⟨fun _ => trivial, fun _ => rfl⟩
theorem kil_n : kil none = none := rfl
theorem kil_i {x : Int32} : kil (some (.int x)) = some (.int x) := rfl
theorem kil_r {x : Nat} : kil (some (.ref x)) = some (.ref x) := rfl
theorem kil_l {x : Int64} : kil (some (.long x)) = none := rfl
theorem kil_d {x : UInt64} : kil (some (.double x)) = none := rfl
def gl (l : List Value) (k : Nat) (f : Value → Prop) : Prop := ∃ v, l[k]? = some v ∧ f v
theorem gl_0 {v : Value} {l : List Value} {f : Value → Prop} : gl (v :: l) 0 f = f v := by
  unfold gl
  simp
theorem gl_s {v : Value} {l : List Value} {k : Nat} {f : Value → Prop} : gl (v :: l) (k + 1) f = gl l k f := by
  unfold gl
  simp
theorem ob_inj {c c' : Nat} {fs fs' : List Value} (h : some (ob c fs) = some (ob c' fs')) : c = c' ∧ fs = fs' := by
  cases h
  exact ⟨rfl, rfl⟩
theorem ra_inj {k k' n n' : Nat} {g g' : Nat → Value} (h : some (ra k n g) = some (ra k' n' g')) : k = k' ∧ n = n' ∧ g = g' := by
  cases h
  exact ⟨rfl, rfl, rfl⟩
theorem gf_ob {h : AH} {a c k : Nat} {fs : List Value} {f : Value → Prop} (e : h a = some (ob c fs)) : gf h a c k f = gl fs k f := by
  unfold gf gl
  rw [e]
  refine propext ⟨?_, ?_⟩
  · rintro ⟨fs', v, h1, h2, h3⟩
    obtain ⟨-, rfl⟩ := ob_inj h1
    exact ⟨v, h2, h3⟩
  · rintro ⟨v, h2, h3⟩
    exact ⟨fs, v, rfl, h2, h3⟩
theorem okv_i {x : Int32} : okv .int (.int x) := ⟨rfl, rfl⟩
theorem pf_ob {h : AH} {a c k : Nat} {fs : List Value} {v : Value} {f : AH → Prop} (e : h a = some (ob c fs)) (hk : k < fs.length) (hv : okv (aty c k) v) : pf h a c k v f = f (hup h a (ob c (fs.set k v))) := by
  unfold pf
  rw [e]
  refine propext ⟨?_, fun q => ⟨fs, rfl, hk, hv, q⟩⟩
  rintro ⟨fs', h1, h2, h3, h4⟩
  obtain ⟨-, rfl⟩ := ob_inj h1
  exact h4
theorem ald_ra {h : AH} {a k k0 n : Nat} {g : Nat → Value} {i : Int32} {f : Value → Prop} (e : h a = some (ra k n g)) (hk : kok k0 k = true := by rfl) : ald h a k0 i f = (vp_in i n ∧ f (g i.toNatClampNeg)) := by
  unfold ald
  rw [e]
  refine propext ⟨?_, fun q => ⟨k, n, g, rfl, hk, q.1, q.2⟩⟩
  rintro ⟨k', n', g', h1, h2, h3, h4⟩
  obtain ⟨-, rfl, rfl⟩ := ra_inj h1
  exact ⟨h3, h4⟩
theorem ast_ra {h : AH} {a k n : Nat} {g : Nat → Value} {i : Int32} {v : Value} {f : AH → Prop} (e : h a = some (ra k n g)) : ast h a k i v f = (vp_in i n ∧ f (hup h a (ra k n (updV' g i.toNatClampNeg v)))) := by
  unfold ast
  rw [e]
  refine propext ⟨?_, fun q => ⟨n, g, rfl, q.1, q.2⟩⟩
  rintro ⟨n', g', h1, h3, h4⟩
  obtain ⟨-, rfl, rfl⟩ := ra_inj h1
  exact ⟨h3, h4⟩
theorem aln_ra {h : AH} {a k n : Nat} {g : Nat → Value} {f : Int32 → Prop} (e : h a = some (ra k n g)) : aln h a f = f (nI n) := by
  unfold aln
  rw [e]
  refine propext ⟨?_, fun q => ⟨k, n, g, rfl, q⟩⟩
  rintro ⟨k', n', g', h1, h4⟩
  obtain ⟨-, rfl, rfl⟩ := ra_inj h1
  exact h4
/-- at a natural index -/
theorem ald_at {h : AH} {a k k0 n p : Nat} {g : Nat → Value} {f : Value → Prop} (e : h a = some (ra k n g)) (hp : p < n) (hn : n < 2 ^ 31 := by decide) (hk : kok k0 k = true := by rfl) : ald h a k0 (nI p) f = f (g p) := by
  rw [ald_ra e hk, nI_clamp (Nat.lt_trans hp hn)]
  exact and_t (vp_in_nI hp hn)
theorem ast_at {h : AH} {a k n p : Nat} {g : Nat → Value} {v : Value} {f : AH → Prop} (e : h a = some (ra k n g)) (hp : p < n) (hn : n < 2 ^ 31 := by decide) : ast h a k (nI p) v f = f (hup h a (ra k n (updV' g p v))) := by
  rw [ast_ra e, nI_clamp (Nat.lt_trans hp hn)]
  exact and_t (vp_in_nI hp hn)
theorem hup_same {h : AH} {a : Nat} {c : AC} : hup h a c a = some c := if_pos rfl
theorem hup_ne {h : AH} {a b : Nat} {c : AC} (hn : b ≠ a) : hup h a c b = h b := if_neg hn
theorem hup_hup {h : AH} {a : Nat} {c c' : AC} : hup (hup h a c) a c' = hup h a c' := by
  funext q
  unfold hup
  split <;> rfl
theorem hup_comm {h : AH} {a b : Nat} {c c' : AC} (hn : a ≠ b) : hup (hup h a c) b c' = hup (hup h b c') a c := by
  funext q
  unfold hup
  by_cases h1 : q = a
  · subst h1
    rw [if_neg hn, if_pos rfl, if_pos rfl]
  · by_cases h2 : q = b
    · subst h2
      rw [if_pos rfl, if_neg h1, if_pos rfl]
    · rw [if_neg h2, if_neg h1, if_neg h1, if_neg h2]
theorem hup_id {h : AH} {a : Nat} {c : AC} (e : h a = some c) : hup h a c = h := by
  funext q
  unfold hup
  split
  · rename_i hq
    rw [hq, e]
  · rfl
theorem kind_ne {h : AH} {a b c k n : Nat} {fs : List Value} {g : Nat → Value} (e1 : h a = some (ob c fs)) (e2 : h b = some (ra k n g)) : a ≠ b := by
  rintro rfl
  rw [e1] at e2
  cases e2
theorem br_1 {c A B : Prop} (h : c) : br c A B = A := propext ⟨fun q => q.1 h, fun q => ⟨fun _ => q, fun w => absurd h w⟩⟩
theorem br_0 {c A B : Prop} (h : ¬ c) : br c A B = B := propext ⟨fun q => q.2 h, fun q => ⟨fun w => absurd w h, fun _ => q⟩⟩
theorem out_RR {mc ms : Nat} {v : Option Value} {h : AH} {z k n : Nat} (hk : k ≤ mc := by omega) (hn : n ≤ ms := by omega) : aOut mc ms (RR v h z) v h z k n := ⟨hk, hn, rfl, rfl, rfl⟩
theorem out_eq {mc ms : Nat} {v v' : Option Value} {h h' : AH} {z z' k n : Nat} (e1 : v = v') (e2 : h = h') (e3 : z = z') (hk : k ≤ mc := by omega) (hn : n ≤ ms := by omega) : aOut mc ms (RR v' h' z') v h z k n := ⟨hk, hn, by rw [e1], e2, e3⟩
