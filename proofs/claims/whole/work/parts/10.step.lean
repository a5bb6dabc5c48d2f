section Step
variable {p : Program} {l : Launch} {e : Jvm.Env} {R : Room} {s : State} {mi : MethodId} {args : Array Value} {below : List Frame} {meth : Method} {c : Code} {D : va_G} {C : ASp} {m d : Nat} {h0 : AH} {z0 mc ms : Nat} {Q : State → Prop} {P : AP}
theorem mres_lt : (mresL.all fun e => decide (e.2.2.2 < 216)) = true := by decide +kernel
theorem mres_216 {o i k mm : Nat} (h : mres o i = some (k, mm)) : mm < 216 := of_decide_eq_true (List.all_eq_true.mp mres_lt _ (mres_mem h))
def isRet (i : Instr) : Bool := match i with
  | .ireturn => true
  | .lreturn => true
  | .dreturn => true
  | .return_ => true
  | _ => false
theorem sound_new (cx : Cx p l R s mi args meth c D C m d h0 z0 mc ms) {pc : Nat} {al : AL} {st : List Value} {h : AH} {z k n i cc : Nat} (hd : decode (mcode m) pc = .ok (.new i, 3)) (hf : cres (mo m) i = some (0, cc)) (hk : k + 1 ≤ mc) (hn : n + aN cc ≤ ms) (q : WX p l e R s mi args below meth c D m h0 z0 Q (pc + 3) al (.ref z :: st) (hup h z (ob cc (dfl cc))) (z + 1) (k + 1) (n + aN cc)) : WX p l e R s mi args below meth c D m h0 z0 Q pc al st h z k n := by
  intro H locs ls rl hl
  obtain ⟨hx, hb, hml, hown, hgw, hK, hz0, hE, hin, hr, hlk, htab, hstt, hRc, hRs, -⟩ := cx
  obtain ⟨r, hc, hw⟩ := cres_ok0 hf
  obtain ⟨w1, w2, w3, w4, w5, wN⟩ := acl_ok hc
  have hKn := hK.1 cc _ hc
  rw [wN] at hn q
  refine W.newcK hx hb hown (hgw _ hw) (hgw _ w4) (hgw _ w5) rfl hd (by rw [hRc]; exact hk) (by rw [hRs]; exact hn) hKn.2.1 rl.2.2.1 fun H1 kC hkC e1 z1 o1 => ?_
  refine q H1 locs ls (rl.push hz0 z1 (by omega) o1 (fun x hx => ?_) (fun x c' hq hx => ?_)) hl
  · unfold hup
    rw [if_neg (by omega)]
  · have hxz : x = z := by
      have hlt : x < z + 1 := by
        unfold hup at hq
        split at hq
        · omega
        · have := (rl.2.1 x c' hq).lt
          rw [rl.2.2.1] at this
          omega
      omega
    subst hxz
    unfold hup at hq
    rw [if_pos rfl] at hq
    cases hq
    refine ⟨⟨r, hc, (u_born (aty cc) hgw w1 hKn hkC e1 w3).to (fun j hj => ?_)⟩, ?_⟩
    · unfold vp_V dfl
      rw [wN]
      simp [List.getD_eq_getElem?_getD, hj]
    · show (dfl cc).length = aN cc
      unfold dfl
      simp
theorem sound_newa (cx : Cx p l R s mi args meth c D C m d h0 z0 mc ms) {pc : Nat} {al : AL} {st : List Value} {h : AH} {z k n kd : Nat} {t : ArrayType} {len : Int32} (hd : decode (mcode m) pc = .ok (.newarray t, 2)) (ht : newarray.typeOf t = AT kd) (hkd : kd < 4) (hlen : ¬ len < 0) (h1000 : len.toNatClampNeg ≤ 1000) (hk : k + 1 ≤ mc) (hn : n + len.toNatClampNeg ≤ ms) (q : WX p l e R s mi args below meth c D m h0 z0 Q (pc + 2) al (.ref z :: st) (hup h z (ra kd len.toNatClampNeg fun _ => defaultValue (AT kd))) (z + 1) (k + 1) (n + len.toNatClampNeg)) : WX p l e R s mi args below meth c D m h0 z0 Q pc al (.int len :: st) h z k n := by
  intro H locs ls rl hl
  obtain ⟨hx, hb, hml, hown, hgw, hK, hz0, hE, hin, hr, hlk, htab, hstt, hRc, hRs, -⟩ := cx
  obtain ⟨-, -, a0, a1, a2, a3, -⟩ := oth_ok
  have harr : (Jvm.Cond.arrayClass (newarray.typeOf t)).before args s = true := by
    rw [ht]
    match kd, hkd with
    | 0, _ => exact hgw _ a0
    | 1, _ => exact hgw _ a1
    | 2, _ => exact hgw _ a2
    | 3, _ => exact hgw _ a3
  have hby : len.toNatClampNeg * componentBytes (newarray.typeOf t) ≤ 536870912 := by
    rw [ht]
    have h8 : componentBytes (AT kd) ≤ 8 := by
      match kd, hkd with
      | 0, _ => decide
      | 1, _ => decide
      | 2, _ => decide
      | 3, _ => decide
    exact Nat.le_trans (Nat.mul_le_mul h1000 h8) (by decide)
  refine W.newaK hx hb harr rfl hd rfl hlen rfl hby (by rw [hRc]; exact hk) (by rw [hRs]; exact hn) rl.2.2.1 fun H1 cA e1 z1 o1 harrOf => ?_
  refine q H1 locs ls (rl.push hz0 z1 (by omega) o1 (fun x hx => ?_) (fun x c' hq hx => ?_)) hl
  · unfold hup
    rw [if_neg (by omega)]
  · have hxz : x = z := by
      have hlt : x < z + 1 := by
        unfold hup at hq
        split at hq
        · omega
        · have := (rl.2.1 x c' hq).lt
          rw [rl.2.2.1] at this
          omega
      omega
    subst hxz
    unfold hup at hq
    rw [if_pos rfl] at hq
    cases hq
    rw [ht] at e1 harrOf
    exact ⟨_, e1, harrOf _ _, (fun w => by cases w), arrV_size _ _ _, fun j hj => arrV_read _ _ hj⟩
theorem sound_mna (cx : Cx p l R s mi args meth c D C m d h0 z0 mc ms) {pc : Nat} {al : AL} {st : List Value} {h : AH} {z k n : Nat} (hd : decode (mcode m) pc = .ok (.multianewarray 9 2, 4)) (ho : mo m = 6) (hk : k + 10 ≤ mc) (hn : n + 90 ≤ ms) (q : WX p l e R s mi args below meth c D m h0 z0 Q (pc + 4) al (.ref z :: st) (fun q => if q = z then some (ra 4 9 fun j => .ref (z + 1 + j)) else if z < q ∧ q ≤ z + 9 then some (ra 2 9 fun _ => .int 0) else h q) (z + 10) (k + 10) (n + 90)) : WX p l e R s mi args below meth c D m h0 z0 Q pc al (.int 9 :: .int 9 :: st) h z k n := by
  intro H locs ls rl hl
  obtain ⟨hx, hb, hml, hown, hgw, hK, hz0, hE, hin, hr, hlk, htab, hstt, hRc, hRs, -⟩ := cx
  obtain ⟨-, -, -, -, a2, -, a9⟩ := oth_ok
  intro T hT X
  rw [ho] at hown
  have h9 : (9 : Int32).toNatClampNeg = 9 := by decide
  obtain ⟨vm₁, cA, comp, -, fA, fC, hO, hI, X', step⟩ := X.multianewarray2F (ty := .boolean) hx hown (hgw _ a9) hE.2.2.2.2.2.1.use (hgw _ a2) (g := F0 mi pc ls (.int 9 :: .int 9 :: st)) rfl (by rw [hb]; exact hd) (n := 9) (k := 9) (rest := st) rfl (by decide) (by decide) (by decide) (by decide) (by decide) (by decide) (by decide) (by rw [h9, hRc]; omega) (by rw [h9, hRs]; omega)
  rw [h9] at X' step
  have hTh : (T.setVm vm₁).heap = H := hT
  obtain ⟨f1, f2, -, -⟩ := Jvm.Free.Multi.fill_facts (T.setVm vm₁) cA comp 9 9 (defaultValue .boolean) 9
  have f3 : ∀ x : Nat, x < H.size → _ := fun x hx => Jvm.Free.Multi.fill_old (T.setVm vm₁) cA comp 9 9 (defaultValue .boolean) (a := x) (by rw [hTh]; exact hx) 9
  have f4 : ∀ j : Nat, j < 9 → _ := fun j hj => Jvm.Free.Multi.fill_inner (T.setVm vm₁) cA comp 9 9 (defaultValue .boolean) 9 j hj
  have g1 := (Jvm.Free.Multi.outerC_facts cA 9 (T.setVm vm₁).heap.size 9).2.2
  have g2 : ∀ j : Nat, j < 9 → _ := fun j hj => Jvm.Free.Multi.outerC_slot cA 9 (T.setVm vm₁).heap.size 9 j hj
  generalize hF : Jvm.Free.Multi.fill (T.setVm vm₁) cA comp 9 9 (defaultValue .boolean) 9 = F at X' step f1 f2 f3 f4
  rw [hTh] at f1 f2 f3 f4 g1 g2
  have hTs : T.heap.size = z := by rw [hT]; exact rl.2.2.1
  have hHs : H.size = z := rl.2.2.1
  rw [hHs] at f1 f2 f3 f4 g1 g2
  have hO1 := hO 9 z 9
  generalize Jvm.Free.Multi.outerC cA 9 z 9 = oc at f2 g1 g2 hO1
  rw [hTs] at step
  have rl' : Rl D h0 z0 s (fun q => if q = z then some (ra 4 9 fun j => .ref (z + 1 + j)) else if z < q ∧ q ≤ z + 9 then some (ra 2 9 fun _ => .int 0) else h q) (z + 10) al F.heap locs ls := by
    refine rl.push hz0 (by rw [f1]) (by omega) f3 (fun x hx => ?_) (fun x c' hq hx => ?_)
    · rw [if_neg (by omega), if_neg (by omega)]
    · by_cases hxz : x = z
      · subst hxz
        rw [if_pos rfl] at hq
        cases hq
        exact ⟨_, f2, hO1.1, hO1.2, g1, fun j hj => (g2 j hj).trans (congrArg some (if_pos (show j < 9 from hj)))⟩
      · rw [if_neg hxz] at hq
        by_cases hin2 : z < x ∧ x ≤ z + 9
        · rw [if_pos hin2] at hq
          cases hq
          have := f4 (x - z - 1) (by omega)
          rw [show z + 1 + (x - z - 1) = x by omega] at this
          exact ⟨_, this, (hI _ _).1, (hI _ _).2, by simp [Jvm.Free.Multi.innerC], fun j hj => by
            have hj' : j < 9 := hj
            simp [Jvm.Free.Multi.innerC, hj', defaultValue]⟩
        · rw [if_neg hin2] at hq
          have := (rl.2.1 x c' hq).lt
          omega
  obtain ⟨t2, a1, b1⟩ := q F.heap locs ls rl' hl F rfl (by
    rw [show k + 10 = k + 1 + 9 by omega, show n + 90 = n + 9 + 9 * 9 by omega]
    exact X')
  exact ⟨t2, step t2 a1, b1⟩
def HRet (p : Program) (l : Launch) (e : Jvm.Env) (R : Room) (s : State) (mi : MethodId) (args : Array Value) (below : List Frame) (meth : Method) (c : Code) (D : va_G) (C : ASp) (m : Nat) (h0 : AH) (z0 mc ms : Nat) (Q : State → Prop) (P : AP) : Prop :=
  ∀ (pc : Nat) (al : AL) (st : List Value) (h : AH) (z k n : Nat) (i : Instr), decode (mcode m) pc = .ok (i, 1) → isRet i = true → aSem C m mc ms P (WX p l e R s mi args below meth c D m h0 z0 Q) pc al st h z k n i 1 → WX p l e R s mi args below meth c D m h0 z0 Q pc al st h z k n
def HThr (p : Program) (l : Launch) (e : Jvm.Env) (R : Room) (s : State) (mi : MethodId) (args : Array Value) (below : List Frame) (meth : Method) (c : Code) (D : va_G) (m : Nat) (h0 : AH) (z0 mc ms : Nat) (Q : State → Prop) (P : AP) : Prop :=
  ∀ (pc : Nat) (al : AL) (st : List Value) (h : AH) (z k n i E : Nat), decode (mcode m) pc = .ok (.new i, 3) → cres (mo m) i = some (1, E) → thr m E pc = true → mhh m = [] → (st.map fun v => v.category).sum ≤ 8 → k + 1 ≤ mc → n + 6 ≤ ms → (∀ z' : Nat, z ≤ z' → P (.inr E) h z') → WX p l e R s mi args below meth c D m h0 z0 Q pc al st h z k n
set_option maxHeartbeats 4000000 in
theorem sem_sound (cx : Cx p l R s mi args meth c D C m d h0 z0 mc ms) (hm : m < 217) (hunc : HUnc p l e R s mi args below meth c D m h0 z0 mc ms Q P) (hret : HRet p l e R s mi args below meth c D C m h0 z0 mc ms Q P) (hthr : HThr p l e R s mi args below meth c D m h0 z0 mc ms Q P) {pc : Nat} {al : AL} {st : List Value} {h : AH} {z k n : Nat} {i : Instr} {len : Nat} (hd : decode (mcode m) pc = .ok (i, len)) (hil : ilok pc i len = true)
    (q : aSem C m mc ms P (WX p l e R s mi args below meth c D m h0 z0 Q) pc al st h z k n i len) : WX p l e R s mi args below meth c D m h0 z0 Q pc al st h z k n := by
  obtain ⟨hx, hb, hml, hown, hgw, hK, hz0, hE, hin, hr, hlk, htab, hstt, hRc, hRs, -⟩ := id cx
  cases i
  all_goals (try (obtain rfl := eq_of_beq hil))
  all_goals (try (exact hret _ _ _ _ _ _ _ _ hd rfl q))
  all_goals (unfold aSem at q; dsimp only at q)
  all_goals (try (exact q.elim))
  case aload j =>
    obtain ⟨x, e1, q⟩ := lda_out q
    exact fun H locs ls r hl => lv_aload hx hb hd (r.1.get e1) (q H locs ls r hl)
  case aload_n j =>
    obtain ⟨x, e1, q⟩ := lda_out q
    exact fun H locs ls r hl => lv_aload_n hx hb hd rfl (r.1.get e1) (q H locs ls r hl)
  case iload j =>
    obtain ⟨x, e1, q⟩ := ldi_out q
    exact fun H locs ls r hl => lv_iload hx hb hd (r.1.get e1) (q H locs ls r hl)
  case iload_n j =>
    obtain ⟨x, e1, q⟩ := ldi_out q
    exact fun H locs ls r hl => lv_iload_n hx hb hd rfl (r.1.get e1) (q H locs ls r hl)
  case lload j =>
    obtain ⟨x, e1, q⟩ := ldl_out q
    exact fun H locs ls r hl => lv_lload hx hb hd (r.1.get e1) (q H locs ls r hl)
  case lload_n j =>
    obtain ⟨x, e1, q⟩ := ldl_out q
    exact fun H locs ls r hl => lv_lload_n hx hb hd rfl (r.1.get e1) (q H locs ls r hl)
  case dload j =>
    obtain ⟨x, e1, q⟩ := ldd_out q
    exact fun H locs ls r hl => lv_dload hx hb hd (r.1.get e1) (q H locs ls r hl)
  case dload_n j =>
    obtain ⟨x, e1, q⟩ := ldd_out q
    exact fun H locs ls r hl => lv_dload_n hx hb hd rfl (r.1.get e1) (q H locs ls r hl)
  case astore j =>
    split at q
    · exact fun H locs ls r hl => lv_astore hx hb hd r.1 q.1 rfl (fun ls' h' => q.2 H locs ls' ⟨lh.st1 h', r.2⟩ (by rw [st1_len]; exact hl))
    · exact q.elim
  case astore_n j =>
    split at q
    · exact fun H locs ls r hl => lv_astore_n hx hb hd rfl r.1 q.1 rfl (fun ls' h' => q.2 H locs ls' ⟨lh.st1 h', r.2⟩ (by rw [st1_len]; exact hl))
    · exact q.elim
  case istore j =>
    split at q
    · exact fun H locs ls r hl => lv_istore hx hb hd r.1 q.1 rfl (fun ls' h' => q.2 H locs ls' ⟨lh.st1 h', r.2⟩ (by rw [st1_len]; exact hl))
    · exact q.elim
  case istore_n j =>
    split at q
    · exact fun H locs ls r hl => lv_istore_n hx hb hd rfl r.1 q.1 rfl (fun ls' h' => q.2 H locs ls' ⟨lh.st1 h', r.2⟩ (by rw [st1_len]; exact hl))
    · exact q.elim
  case lstore j =>
    split at q
    · exact fun H locs ls r hl => lv_lstore hx hb hd r.1 q.1 rfl (fun ls' h' => q.2 H locs ls' ⟨lh.st2 q.1 h', r.2⟩ (by rw [st2_len]; exact hl))
    · exact q.elim
  case lstore_n j =>
    split at q
    · exact fun H locs ls r hl => lv_lstore_n hx hb hd rfl r.1 q.1 rfl (fun ls' h' => q.2 H locs ls' ⟨lh.st2 q.1 h', r.2⟩ (by rw [st2_len]; exact hl))
    · exact q.elim
  case dstore j =>
    split at q
    · exact fun H locs ls r hl => lv_dstore hx hb hd r.1 q.1 rfl (fun ls' h' => q.2 H locs ls' ⟨lh.st2 q.1 h', r.2⟩ (by rw [st2_len]; exact hl))
    · exact q.elim
  case dstore_n j =>
    split at q
    · exact fun H locs ls r hl => lv_dstore_n hx hb hd rfl r.1 q.1 rfl (fun ls' h' => q.2 H locs ls' ⟨lh.st2 q.1 h', r.2⟩ (by rw [st2_len]; exact hl))
    · exact q.elim
  case iconst j => exact fun H locs ls r hl => lv_iconst hx hb hd rfl (q H locs ls r hl)
  case lconst j => exact fun H locs ls r hl => lv_lconst hx hb hd rfl (q H locs ls r hl)
  case dconst j =>
    obtain ⟨rfl, q⟩ := q
    exact fun H locs ls r hl => lv_dconst0 hx hb hd (q H locs ls r hl)
  case bipush j => exact fun H locs ls r hl => lv_bipush hx hb hd rfl (q H locs ls r hl)
  case sipush j => exact fun H locs ls r hl => lv_sipush hx hb hd rfl (q H locs ls r hl)
  case ldc j =>
    split at q
    · rename_i v hv
      exact fun H locs ls r hl => lv_ldc hx hb hown (hgw _ (kres_ok hv)) hd (q H locs ls r hl)
    · exact q.elim
  case ldc_w j =>
    split at q
    · rename_i v hv
      exact fun H locs ls r hl => lv_ldcw hx hb hown (hgw _ (kres_ok hv)) hd (q H locs ls r hl)
    · exact q.elim
  case ldc2_w j =>
    split at q
    · rename_i v hv
      exact fun H locs ls r hl => lv_ldc2 hx hb hown (hgw _ (lres_ok hv)) hd (q H locs ls r hl)
    · exact q.elim
  case dup =>
    split at q
    · exact fun H locs ls r hl => lv_dup hx hb hd q.1 (q.2 H locs ls r hl)
    · exact q.elim
  case pop =>
    split at q
    · exact fun H locs ls r hl => lv_pop hx hb hd q.1 (q.2 H locs ls r hl)
    · exact q.elim
  case dup2 =>
    split at q
    · exact fun H locs ls r hl => lv_dup2_11 hx hb hd q.1 q.2.1 (q.2.2 H locs ls r hl)
    · exact q.elim
  case iadd =>
    split at q
    · exact fun H locs ls r hl => lv_iadd hx hb hd (q H locs ls r hl)
    · exact q.elim
  case isub =>
    split at q
    · exact fun H locs ls r hl => lv_isub hx hb hd (q H locs ls r hl)
    · exact q.elim
  case imul =>
    split at q
    · exact fun H locs ls r hl => lv_imul hx hb hd (q H locs ls r hl)
    · exact q.elim
  case idiv =>
    split at q
    · exact fun H locs ls r hl => lv_idiv hx hb hd q.1 (q.2 H locs ls r hl)
    · exact q.elim
  case irem =>
    split at q
    · exact fun H locs ls r hl => lv_irem hx hb hd q.1 (q.2 H locs ls r hl)
    · exact q.elim
  case ineg =>
    split at q
    · exact fun H locs ls r hl => lv_ineg hx hb hd (q H locs ls r hl)
    · exact q.elim
  case iand =>
    split at q
    · exact fun H locs ls r hl => lv_iand hx hb hd (q H locs ls r hl)
    · exact q.elim
  case ior =>
    split at q
    · exact fun H locs ls r hl => lv_ior hx hb hd (q H locs ls r hl)
    · exact q.elim
  case ixor =>
    split at q
    · exact fun H locs ls r hl => lv_ixor hx hb hd (q H locs ls r hl)
    · exact q.elim
  case ishl =>
    split at q
    · exact fun H locs ls r hl => lv_ishl hx hb hd (q H locs ls r hl)
    · exact q.elim
  case ishr =>
    split at q
    · exact fun H locs ls r hl => lv_ishr hx hb hd (q H locs ls r hl)
    · exact q.elim
  case iushr =>
    split at q
    · exact fun H locs ls r hl => lv_iushr hx hb hd rfl (q H locs ls r hl)
    · exact q.elim
  case ladd =>
    split at q
    · exact fun H locs ls r hl => lv_ladd hx hb hd (q H locs ls r hl)
    · exact q.elim
  case lsub =>
    split at q
    · exact fun H locs ls r hl => lv_lsub hx hb hd (q H locs ls r hl)
    · exact q.elim
  case lmul =>
    split at q
    · exact fun H locs ls r hl => lv_lmul hx hb hd (q H locs ls r hl)
    · exact q.elim
  case ldiv =>
    split at q
    · exact fun H locs ls r hl => lv_ldiv hx hb hd q.1 (q.2 H locs ls r hl)
    · exact q.elim
  case lrem =>
    split at q
    · exact fun H locs ls r hl => lv_lrem hx hb hd q.1 (q.2 H locs ls r hl)
    · exact q.elim
  case lneg =>
    split at q
    · exact fun H locs ls r hl => lv_lneg hx hb hd (q H locs ls r hl)
    · exact q.elim
  case land =>
    split at q
    · exact fun H locs ls r hl => lv_land hx hb hd (q H locs ls r hl)
    · exact q.elim
  case lor =>
    split at q
    · exact fun H locs ls r hl => lv_lor hx hb hd (q H locs ls r hl)
    · exact q.elim
  case lxor =>
    split at q
    · exact fun H locs ls r hl => lv_lxor hx hb hd (q H locs ls r hl)
    · exact q.elim
  case lshl =>
    split at q
    · exact fun H locs ls r hl => lv_lshl hx hb hd rfl (q H locs ls r hl)
    · exact q.elim
  case lshr =>
    split at q
    · exact fun H locs ls r hl => lv_lshr hx hb hd rfl (q H locs ls r hl)
    · exact q.elim
  case lushr =>
    split at q
    · exact fun H locs ls r hl => lv_lushr hx hb hd rfl (q H locs ls r hl)
    · exact q.elim
  case i2l =>
    split at q
    · exact fun H locs ls r hl => lv_i2l hx hb hd rfl (q H locs ls r hl)
    · exact q.elim
  case l2i =>
    split at q
    · exact fun H locs ls r hl => lv_l2i hx hb hd rfl (q H locs ls r hl)
    · exact q.elim
  case i2d =>
    split at q
    · exact fun H locs ls r hl => lv_i2d hx hb hd (q H locs ls r hl)
    · exact q.elim
  case ddiv =>
    split at q
    · exact fun H locs ls r hl => lv_ddiv hx hb hd q.1 (q.2 H locs ls r hl)
    · exact q.elim
  case dcmp =>
    split at q
    · exact fun H locs ls r hl => lv_dcmp hx hb hd (q H locs ls r hl)
    · exact q.elim
  case lcmp =>
    split at q
    · exact fun H locs ls r hl => W.lcmp hx hb hd (q H locs ls r hl)
    · exact q.elim
  case iinc j cc =>
    obtain ⟨x, e1, q⟩ := ldi_out q
    intro H locs ls r hl
    obtain ⟨kk, hkk⟩ := List.mem_iff_getElem?.mp (mem_al_l.mpr e1)
    exact lv_iinc hx hb hd r.1 hkk rfl (List.getElem?_eq_some_iff.mp e1).1 rfl (fun ls' h' => q H locs ls' ⟨lh.st1 h', r.2⟩ (by rw [st1_len]; exact hl))
  case ifCond cd off =>
    obtain ⟨hlen, hoff⟩ := Bool.and_eq_true_iff.mp hil
    obtain rfl := eq_of_beq hlen
    have ht := tgt_eq (of_decide_eq_true hoff)
    split at q
    · intro H locs ls r hl
      cases cd
      · exact lv_if_eq hx hb hd ht (fun w => q.1 w H locs ls r hl) (fun w => q.2 w H locs ls r hl)
      · exact lv_if_ne hx hb hd ht (fun w => q.1 w H locs ls r hl) (fun w => q.2 (fun g => g w) H locs ls r hl)
      · exact lv_if_lt hx hb hd ht (fun w => q.1 w H locs ls r hl) (fun w => q.2 w H locs ls r hl)
      · exact lv_if_ge hx hb hd ht (fun w => q.1 w H locs ls r hl) (fun w => q.2 w H locs ls r hl)
      · exact lv_if_gt hx hb hd ht (fun w => q.1 w H locs ls r hl) (fun w => q.2 w H locs ls r hl)
      · exact lv_if_le hx hb hd ht (fun w => q.1 w H locs ls r hl) (fun w => q.2 w H locs ls r hl)
    · exact q.elim
  case if_icmp cd off =>
    obtain ⟨hlen, hoff⟩ := Bool.and_eq_true_iff.mp hil
    obtain rfl := eq_of_beq hlen
    have ht := tgt_eq (of_decide_eq_true hoff)
    split at q
    · intro H locs ls r hl
      cases cd
      · exact lv_icmp_eq hx hb hd ht (fun w => q.1 w H locs ls r hl) (fun w => q.2 w H locs ls r hl)
      · exact lv_icmp_ne hx hb hd ht (fun w => q.1 w H locs ls r hl) (fun w => q.2 (fun g => g w) H locs ls r hl)
      · exact lv_icmp_lt hx hb hd ht (fun w => q.1 w H locs ls r hl) (fun w => q.2 w H locs ls r hl)
      · exact lv_icmp_ge hx hb hd ht (fun w => q.1 w H locs ls r hl) (fun w => q.2 w H locs ls r hl)
      · exact lv_icmp_gt hx hb hd ht (fun w => q.1 w H locs ls r hl) (fun w => q.2 w H locs ls r hl)
      · exact lv_icmp_le hx hb hd ht (fun w => q.1 w H locs ls r hl) (fun w => q.2 w H locs ls r hl)
    · exact q.elim
  case goto off =>
    obtain ⟨hlen, hoff⟩ := Bool.and_eq_true_iff.mp hil
    obtain rfl := eq_of_beq hlen
    exact fun H locs ls r hl => lv_goto hx hb hd (tgt_eq (of_decide_eq_true hoff)) (q H locs ls r hl)
  case tableswitch dflt lo hi offs =>
    obtain ⟨h1, h2⟩ := Bool.and_eq_true_iff.mp hil
    split at q
    · rename_i x r0
      intro H locs ls r hl
      by_cases hb1 : x.toInt < lo
      · exact lv_tableOut hx hb hd (Or.inl hb1) (tgt_eq (of_decide_eq_true h1)) (q.1 (Or.inl hb1) H locs ls r hl)
      · by_cases hb2 : hi < x.toInt
        · exact lv_tableOut hx hb hd (Or.inr hb2) (tgt_eq (of_decide_eq_true h1)) (q.1 (Or.inr hb2) H locs ls r hl)
        · obtain ⟨off, ho, q3⟩ := q.2 (fun w => w.elim hb1 hb2)
          have hmem : off ∈ offs.toList := by
            have := Array.mem_of_getElem? ho
            simpa using this
          exact lv_tableIn hx hb hd hb1 hb2 ho (tgt_eq (of_decide_eq_true (List.all_eq_true.mp h2 off hmem))) (q3 H locs ls r hl)
    · exact q.elim
  case getfield j =>
    split at q
    · rename_i hf
      exact sound_get cx hd hf q
    · exact q.elim
  case putfield j =>
    split at q
    · rename_i hf
      exact sound_put cx hd hf q.1 q.2
    · exact q.elim
  case arraylength =>
    split at q
    · obtain ⟨kk, nn, g, e1, q⟩ := q
      intro H locs ls r hl
      obtain ⟨cell, g1, g2, g3, g4, g5⟩ := sound_arr r.2.1 e1
      exact W.alen hx hb g1 g2 (sound_lenI g4) rfl rfl hd (q H locs ls r hl)
    · exact q.elim
  case iaload =>
    split at q
    · obtain ⟨kk, nn, g, e1, e2, e3, q⟩ := q
      intro H locs ls r hl
      obtain ⟨cell, g1, g2, g3, g4, g5⟩ := sound_arr r.2.1 e1
      rw [kok_AT e2] at g2
      exact W.iald hx hb g1 g2 g3 (sound_vpin e3 g4) (g5 _ (sound_vplt e3)) rfl rfl hd (q H locs ls r hl)
    · exact q.elim
  case laload =>
    split at q
    · obtain ⟨kk, nn, g, e1, e2, e3, q⟩ := q
      intro H locs ls r hl
      obtain ⟨cell, g1, g2, g3, g4, g5⟩ := sound_arr r.2.1 e1
      rw [kok_AT e2] at g2
      exact W.lald hx hb g1 g2 g3 (sound_vpin e3 g4) (g5 _ (sound_vplt e3)) rfl rfl hd (q H locs ls r hl)
    · exact q.elim
  case baload =>
    split at q
    · obtain ⟨kk, nn, g, e1, e2, e3, q⟩ := q
      intro H locs ls r hl
      obtain ⟨cell, g1, g2, g3, g4, g5⟩ := sound_arr r.2.1 e1
      rw [kok_AT e2] at g2
      exact W.zald hx hb g1 g2 g3 (sound_vpin e3 g4) (g5 _ (sound_vplt e3)) rfl rfl hd (q H locs ls r hl)
    · exact q.elim
  case daload =>
    split at q
    · obtain ⟨kk, nn, g, e1, e2, e3, q⟩ := q
      intro H locs ls r hl
      obtain ⟨cell, g1, g2, g3, g4, g5⟩ := sound_arr r.2.1 e1
      rw [kok_AT e2] at g2
      exact W.dald hx hb g1 g2 g3 (sound_vpin e3 g4) (g5 _ (sound_vplt e3)) rfl rfl hd (q H locs ls r hl)
    · exact q.elim
  case aaload =>
    split at q
    · obtain ⟨kk, nn, g, e1, e2, e3, q⟩ := q
      intro H locs ls r hl
      obtain ⟨cell, g1, g2, g3, g4, g5⟩ := sound_arr r.2.1 e1
      rw [kok_AT e2] at g2
      exact W.aald hx hb g1 g2 rfl g3 (sound_vpin e3 g4) (g5 _ (sound_vplt e3)) rfl rfl hd (q H locs ls r hl)
    · exact q.elim
  case iastore =>
    split at q
    · obtain ⟨nn, g, e1, e3, q⟩ := q
      intro H locs ls r hl
      obtain ⟨cell, g1, g2, g3, g4, g5⟩ := sound_arr r.2.1 e1
      exact W.iast hx hb g1 g2 g3 (sound_vpin e3 g4) rfl rfl hd (fun H1 w1 w2 w3 => q H1 _ ls (r.put e1 (fun w => by cases w) (rep_store g2 g3 g4 g5 w1) w2 w3) hl)
    · exact q.elim
  case lastore =>
    split at q
    · obtain ⟨nn, g, e1, e3, q⟩ := q
      intro H locs ls r hl
      obtain ⟨cell, g1, g2, g3, g4, g5⟩ := sound_arr r.2.1 e1
      exact W.last hx hb g1 g2 g3 (sound_vpin e3 g4) rfl rfl hd (fun H1 w1 w2 w3 => q H1 _ ls (r.put e1 (fun w => by cases w) (rep_store g2 g3 g4 g5 w1) w2 w3) hl)
    · exact q.elim
  case bastore =>
    split at q
    · obtain ⟨nn, g, e1, e3, q⟩ := q
      intro H locs ls r hl
      obtain ⟨cell, g1, g2, g3, g4, g5⟩ := sound_arr r.2.1 e1
      exact W.zast hx hb g1 g2 g3 (sound_vpin e3 g4) rfl rfl hd (fun H1 w1 w2 w3 => q H1 _ ls (r.put e1 (fun w => by cases w) (rep_store g2 g3 g4 g5 w1) w2 w3) hl)
    · exact q.elim
  case dastore =>
    split at q
    · obtain ⟨nn, g, e1, e3, q⟩ := q
      intro H locs ls r hl
      obtain ⟨cell, g1, g2, g3, g4, g5⟩ := sound_arr r.2.1 e1
      exact W.dast hx hb g1 g2 g3 (sound_vpin e3 g4) rfl rfl hd (fun H1 w1 w2 w3 => q H1 _ ls (r.put e1 (fun w => by cases w) (rep_store g2 g3 g4 g5 w1) w2 w3) hl)
    · exact q.elim
  case newarray t =>
    split at q
    · obtain ⟨kd, q1, q2, q3, q4, q5, q6, q7⟩ := q
      exact sound_newa cx hd q1 q2 q3 q4 q5 q6 q7
    · exact q.elim
  case multianewarray j dd =>
    split at q
    · obtain ⟨q1, rfl, rfl, rfl, rfl, q6, q7, q8⟩ := q
      exact sound_mna cx hd q1 q6 q7 q8
    · exact q.elim
  case new j =>
    split at q
    · rename_i hf
      exact sound_new cx hd hf q.1 q.2.1 q.2.2
    · rename_i hf
      exact hthr _ _ _ _ _ _ _ _ _ hd hf q.1 q.2.1 q.2.2.1 q.2.2.2.1 q.2.2.2.2.1 q.2.2.2.2.2
    · exact q.elim
  case invokevirtual j =>
    split at q
    · rename_i hf
      obtain ⟨As, a, r, cc, fs, rfl, q2, q3, q4, q5⟩ := q
      exact sound_invV cx hm hunc hd hf (mres_216 hf) q2 q3 q4 q5
    · exact q.elim
  case invokestatic j =>
    split at q
    · rename_i hf
      obtain ⟨As, r, rfl, q2, q5⟩ := q
      exact sound_invS cx hm hunc hd hf (mres_216 hf) q2 q5
    · exact q.elim
  case invokespecial j =>
    split at q
    · rename_i hf
      obtain ⟨As, a, r, rfl, q2, q5⟩ := q
      exact sound_invI cx hm hunc hd hf (mres_216 hf) q2 q5
    · rename_i hf
      obtain ⟨As, a, r, rfl, q2, q5⟩ := q
      exact sound_invN cx hm hunc hd hf (mres_216 hf) q2 q5
    · rename_i hf
      split at q
      · intro H locs ls r hl
        obtain ⟨o1, o2, -⟩ := oth_ok
        have hRf : d + 9 ≤ R.frames ∧ 180 + 40 * d ≤ R.locals := ⟨cx.2.2.2.2.2.2.2.2.2.2.2.2.2.2.2.1, cx.2.2.2.2.2.2.2.2.2.2.2.2.2.2.2.2.1⟩
        refine W.objInit hx hb hown (hgw _ (mres_ok3 hf)) (hgw _ o1) (hgw _ o2) rfl (by rw [hml]; exact r.1.1.trans hl) rfl hd (by omega) ?_ (q.2 H locs ls r hl)
        have h9 := q.1
        show 2 * 0 + _ + 12 ≤ R.locals
        omega
      · exact q.elim
    · exact q.elim
end Step
