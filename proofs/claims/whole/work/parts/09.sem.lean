section Sem
variable {p : Program} {l : Launch} {e : Jvm.Env} {R : Room} {s : State} {mi : MethodId} {args : Array Value} {below : List Frame} {meth : Method} {c : Code} {D : va_G} {C : ASp} {m d : Nat} {h0 : AH} {z0 mc ms : Nat} {Q : State → Prop} {P : AP}
def okHL (o : Nat) : List (Nat × Nat × Nat × Nat) → Bool
  | [] => true
  | x :: r => (match cat o x.2.2.2 with
    | some (_, E1) => r.all (fun y => match cat o y.2.2.2 with
      | some (_, E2) => exL.contains (E2, E1)
      | none => false)
    | none => false) && okHL o r
theorem okH_all : ((List.range 217).all fun m => okHL (mo m) (mhh m)) = true := by decide +kernel
theorem okHL_spec {o : Nat} {x : Nat × Nat × Nat × Nat} {bs : List (Nat × Nat × Nat × Nat)} : ∀ {as : List (Nat × Nat × Nat × Nat)}, okHL o (as ++ x :: bs) = true → ∀ z ∈ as, ∃ k E1 k2 E2, cat o z.2.2.2 = some (k, E1) ∧ cat o x.2.2.2 = some (k2, E2) ∧ (E2, E1) ∈ exL
  | [], _, z, hz => by simp at hz
  | y :: as, h, z, hz => by
    rw [List.cons_append, okHL, Bool.and_eq_true] at h
    obtain ⟨h1, h2⟩ := h
    rcases List.mem_cons.mp hz with rfl | hz
    · split at h1
      · rename_i k E1 hk
        have h3 := List.all_eq_true.mp h1 x (by simp)
        split at h3
        · rename_i k2 E2 hk2
          exact ⟨k, E1, k2, E2, hk, hk2, by simpa using h3⟩
        · cases h3
      · cases h1
    · exact okHL_spec h2 z hz
theorem goodIn_gw {ws : List Cond} (h : ∀ w ∈ ws, w ∈ gw) : GoodIn gw ws := fun w hw => ⟨h w hw, good_of_word (List.mem_filter.mp (h w hw)).2⟩
theorem sound_catch (cx : Cx p l R s mi args meth c D C m d h0 z0 mc ms) (hm : m < 217) {E pc hp : Nat} (hh : hdl m E pc = some hp) (hE : E < 6) {H : Heap} {locs : List Loc} {k n : Nat} {ls : Array Slot} {rest : List Value} {q : Nat} {ce : Cell} (hcell : H[q]? = some ce) (hv : ce.vm = .none) (hcl : s.vm.findClass (exn E) = some ce.cls) (kk : W p l e R s mi args below meth c H locs k n Q (F0 mi hp ls [.ref q])) : vx_W p l e R s mi args below meth c H locs k n Q (F0 mi pc ls rest) q := by
  obtain ⟨hx, hb, hml, hown, hgw, hK, hz0, hEn, hin, hr, hlk, htab, -⟩ := cx
  obtain ⟨x, hx1, rfl⟩ := Option.map_eq_some_iff.mp hh
  obtain ⟨hpred, as, bs, hsplit, has⟩ := List.find?_eq_some_iff_append.mp hx1
  simp only [Bool.and_eq_true, decide_eq_true_eq, beq_iff_eq] at hpred
  obtain ⟨⟨hp1, hp2⟩, hp3⟩ := hpred
  have hok := List.all_eq_true.mp okH_all m (List.mem_range.mpr hm)
  rw [hsplit] at hok
  obtain ⟨c1, -, c3⟩ := cat_ok hp3
  refine vx_catch hown (tableOf as) ⟨x.1, x.2.1, x.2.2.1, x.2.2.2⟩ (tableOf bs) (by rw [htab, hsplit]; simp [tableOf]) (fun z hz => ?_) (by simp [hp1, hp2]) c3 (hgw _ c1) (va_Nw.use rfl (hEn.2.2.2.2.1 E hE)) hcell hv hcl kk
  unfold tableOf at hz
  obtain ⟨y, hy, rfl⟩ := List.mem_map.mp hz
  obtain ⟨k1, E1, k2, E2, g1, g2, g3⟩ := okHL_spec hok y hy
  rw [hp3] at g2
  cases g2
  obtain ⟨d1, -, d3⟩ := cat_ok g1
  exact Or.inr ⟨d3, exn E1, hgw _ d1, hEn.2.2.2.1 _ g3⟩
def HUnc (p : Program) (l : Launch) (e : Jvm.Env) (R : Room) (s : State) (mi : MethodId) (args : Array Value) (below : List Frame) (meth : Method) (c : Code) (D : va_G) (m : Nat) (h0 : AH) (z0 mc ms : Nat) (Q : State → Prop) (P : AP) : Prop :=
  ∀ (pc : Nat) (al : AL) (rest : List Value) (h : AH) (z k n E : Nat) (H : Heap) (locs : List Loc) (ls : Array Slot) (q : Nat) (ce : Cell), mhh m = [] → k ≤ mc → n ≤ ms → P (.inr E) h z → E < 6 → Rl D h0 z0 s h z al H locs ls → H[q]? = some ce → ce.vm = .none → s.vm.findClass (exn E) = some ce.cls → vx_W p l e R s mi args below meth c H locs k n Q (F0 mi pc ls rest) q
theorem sound_after (cx : Cx p l R s mi args meth c D C m d h0 z0 mc ms) (hm : m < 217) (hunc : HUnc p l e R s mi args below meth c D m h0 z0 mc ms Q P) {pc : Nat} {al : AL} {rest st0 : List Value} {h : AH} {z k n mc' ms' : Nat} {P' : AP} {a0 : Array Value} {H : Heap} {locs : List Loc} {ls : Array Slot}
    (hr : vx_Run p l e R s mi args below meth c H locs k n mc' ms' (F0 mi pc ls st0) rest (aQc D P' h z a0) (aXC D P' h z) (aA h z)) (rl : Rl D h0 z0 s h z al H locs ls) (hl : al.length = mmax m)
    (hk : ∀ (o : AO) (h' : AH) (z' : Nat), P' o h' z' → aRet m mc ms P (WX p l e R s mi args below meth c D m h0 z0 Q) pc al rest (k + mc') (n + ms') o h' z') : W p l e R s mi args below meth c H locs k n Q (F0 mi pc ls st0) := by
  intro T hT X0
  have hf : ∀ q, aA h z q → aA h0 z0 q := rl.2.2.2.1
  rcases hr T hT X0 with ⟨v, st₀, t, T', L, h0', X', hL, e1, e2, ⟨v', h', z', hv, hp, hsz, hsim, hdom, hF⟩, st⟩ | ⟨q, st₀, t, T', L, E, ce, h0', X', hL, e1, e2, ⟨i, h', z', hE, hi, hp, hsz, hsim, hdom, hF⟩, hce, hcv, hcl, st⟩
  · obtain rfl : v = v' := by cases hv; rfl
    obtain ⟨-, -, k3⟩ := vx_keep h0' e1 rl.2.2.2.2 (fun q _ hq => hf q hq) hf hL hF
    have ha : s.vm.Alike t.vm := by rw [← e2]; exact X'.warmed.alike
    have rl' : Rl D h0 z0 s h' z' al T'.heap (locs ++ L) ls := ⟨rl.1, by rw [e1]; exact hsim.moved ha.symm, by rw [e1]; exact hsz, fun q hq => hf q (hdom q hq), k3⟩
    have hw := hk (.inl v) h' z' hp
    cases v with
    | none =>
      obtain ⟨t2, a1, b1⟩ := hw T'.heap (locs ++ L) ls rl' hl T' rfl X'
      exact ⟨t2, st t2 a1, b1⟩
    | some w =>
      obtain ⟨t2, a1, b1⟩ := hw T'.heap (locs ++ L) ls rl' hl T' rfl X'
      exact ⟨t2, st t2 a1, b1⟩
  · subst hE
    obtain ⟨-, -, k3⟩ := vx_keep h0' e1 rl.2.2.2.2 (fun q _ hq => hf q hq) hf hL hF
    have ha : s.vm.Alike t.vm := by rw [← e2]; exact X'.warmed.alike
    have rl' : Rl D h0 z0 s h' z' al T'.heap (locs ++ L) ls := ⟨rl.1, by rw [e1]; exact hsim.moved ha.symm, by rw [e1]; exact hsz, fun q hq => hf q (hdom q hq), k3⟩
    have hw := hk (.inr i) h' z' hp
    unfold aRet at hw
    dsimp only at hw
    split at hw
    · rename_i hp' hh
      obtain ⟨t2, a1, b1⟩ := sound_catch (rest := rest) cx hm hh hi (by rw [e1]; exact hce) hcv hcl (hw q T'.heap (locs ++ L) ls rl' hl) T' rfl X'
      exact ⟨t2, st.trans a1, b1⟩
    · obtain ⟨g1, g2, g3, g4⟩ := hw
      obtain ⟨t2, a1, b1⟩ := hunc pc al rest h' z' _ _ i T'.heap (locs ++ L) ls q ce g1 g2 g3 g4 hi rl' (by rw [e1]; exact hce) hcv hcl T' rfl X'
      exact ⟨t2, st.trans a1, b1⟩
theorem sound_pre (cx : Cx p l R s mi args meth c D C m d h0 z0 mc ms) {h : AH} {z : Nat} {al : AL} {H : Heap} {locs : List Loc} {ls : Array Slot} (rl : Rl D h0 z0 s h z al H locs ls) (As : List Value) (U : State) (hU : U.heap = H) (hW : s.WarmedH U.vm) : aPc D As h z As.toArray U := by
  obtain ⟨hx, hb, hml, hown, hgw, hK, hz0, hEn, -⟩ := cx
  refine ⟨rfl, by rw [hU]; exact rl.2.2.1, by rw [hU]; exact rl.2.1.moved hW.alike, va_K.moved hW.alike hK, ?_⟩
  exact Envi.next hU hW (fun a h1 h2 => rl.2.2.2.2.2.1 a h1 h2) rl.2.2.2.1 hEn
theorem sound_room (cx : Cx p l R s mi args meth c D C m d h0 z0 mc ms) {mm mc' ms' : Nat} (hm : mmax mm ≤ 21) : (rmD d mc' ms').frames + 1 ≤ R.frames ∧ 8 + (mmax mm + 11) + (rmD d mc' ms').locals ≤ R.locals := by
  obtain ⟨-, -, -, -, -, -, -, -, -, -, -, -, -, -, -, h1, h2, -⟩ := cx
  unfold rmD
  dsimp only
  omega
theorem sound_invV (cx : Cx p l R s mi args meth c D C m d h0 z0 mc ms) (hm : m < 217) (hunc : HUnc p l e R s mi args below meth c D m h0 z0 mc ms Q P) {pc : Nat} {al : AL} {h : AH} {z k n i mm a cc : Nat} {As r fs : List Value} (hd : decode (mcode m) pc = .ok (.invokevirtual i, 3)) (hf : mres (mo m) i = some (0, mm)) (hmm : mm < 216) (hn : As.length = mna mm) (ha : h a = some (ob cc fs)) (hcls : (acl[cc]?).map (fun q => q.1) = some (my mm).cls) (q : aCall C m mc ms P (WX p l e R s mi args below meth c D m h0 z0 Q) pc al r h z k n mm (.ref a :: As)) : WX p l e R s mi args below meth c D m h0 z0 Q pc al (As.reverse ++ .ref a :: r) h z k n := by
  intro H locs ls rl hl
  obtain ⟨hcat, mc', ms', P', hC, hk1, hn1, hk⟩ := q
  have hSnd : Snd l D C d := cx.2.2.2.2.2.2.2.2.2.2.2.2.2.2.2.2.2
  have hM := hSnd _ _ _ _ _ _ _ hC
  obtain ⟨w1, w2, -, w4, w5, w6⟩ := mres_ok0 hf
  obtain ⟨y1, y2, y3, y4, y5, y6, y7⟩ := mth_ok hmm
  have hR := sound_room cx (mm := mm) (mc' := mc') (ms' := ms') y5
  have hpre := sound_pre cx rl (.ref a :: As)
  obtain ⟨hx, hb, hml, hown, hgw, hK, hz0, hEn, hin, hr, hlk, htab, hst, hRc, hRs, -⟩ := id cx
  have hcode : wsU mm = Cond.code (my mm) (mcode mm) (mmax mm) (mret mm) :: gw := by unfold wsU cw; rw [if_pos w6]
  obtain ⟨⟨r', g0, cell, g1, g2, g3, -⟩, -⟩ := rl.2.1 a _ ha
  have hrc : r'.1 = (my mm).cls := by rw [g0] at hcls; exact Option.some.inj hcls
  have hrun := vx_runV (As := As) (rest := r) (b := a) (g := F0 mi pc ls (As.reverse ++ .ref a :: r)) (cells := k) (slots := n) (locs := locs) (H := H) (e := e) (below := below) (meth := meth) (Ts := gw) ⟨hx, hb, hml, hown, hgw⟩ hM
    (cwV (R := R) (own := ocn (mo m)) (C := (my mm).cls) (index := i) (mna mm) hgw (goodIn_gw (fun w hw => by
      unfold wsV at hw
      rcases List.mem_append.mp hw with hw | hw
      · simp only [List.mem_cons, List.mem_nil_iff, or_false] at hw
        rcases hw with rfl | rfl | rfl | rfl
        · exact w1
        · exact w4
        · exact w5
        · exact w2
      · rcases List.mem_cons.mp hw with rfl | hw
        · exact y1
        · exact hw)) hcode rfl rfl ⟨rfl, y2, y3, y4⟩ hR)
    ⟨aPc_blind, ⟨cell, g1, by rw [g3]; rfl, by rw [g2, ← hrc]; exact (hK.1 cc r' g0).2.1⟩, hpre⟩ rfl hn (rl.1.1.trans hl) rfl (lv_room hcat) hd ⟨by rw [hRc]; exact hk1, by rw [hRs]; exact hn1⟩
  exact sound_after cx hm hunc hrun rl hl hk
theorem sound_invS (cx : Cx p l R s mi args meth c D C m d h0 z0 mc ms) (hm : m < 217) (hunc : HUnc p l e R s mi args below meth c D m h0 z0 mc ms Q P) {pc : Nat} {al : AL} {h : AH} {z k n i mm : Nat} {As r : List Value} (hd : decode (mcode m) pc = .ok (.invokestatic i, 3)) (hf : mres (mo m) i = some (1, mm)) (hmm : mm < 216) (hn : As.length = mna mm) (q : aCall C m mc ms P (WX p l e R s mi args below meth c D m h0 z0 Q) pc al r h z k n mm As) : WX p l e R s mi args below meth c D m h0 z0 Q pc al (As.reverse ++ r) h z k n := by
  intro H locs ls rl hl
  obtain ⟨hcat, mc', ms', P', hC, hk1, hn1, hk⟩ := q
  have hSnd : Snd l D C d := cx.2.2.2.2.2.2.2.2.2.2.2.2.2.2.2.2.2
  have hM := hSnd _ _ _ _ _ _ _ hC
  obtain ⟨w1, w2, -, w4⟩ := mres_ok1 hf
  obtain ⟨y1, y2, y3, y4, y5, y6, y7⟩ := mth_ok hmm
  have hR := sound_room cx (mm := mm) (mc' := mc') (ms' := ms') y5
  have hpre := sound_pre cx rl As
  obtain ⟨hx, hb, hml, hown, hgw, hK, hz0, hEn, hin, hr, hlk, htab, hst, hRc, hRs, -⟩ := id cx
  have hG : GoodIn gw (wsU mm) := goodIn_gw (fun w hw => by
    rcases List.mem_cons.mp hw with rfl | hw
    · exact y1
    · exact hw)
  by_cases hh : mhh mm = []
  · have hcode : wsU mm = Cond.code (my mm) (mcode mm) (mmax mm) (mret mm) :: gw := by unfold wsU cw; rw [if_pos hh]
    have hrun := vx_runS (As := As) (rest := r) (g := F0 mi pc ls (As.reverse ++ r)) (cells := k) (slots := n) (locs := locs) (H := H) (e := e) (below := below) (meth := meth) (Ts := gw) ⟨hx, hb, hml, hown, hgw⟩ hM
      ⟨callB_of (R := R) (own := ocn (mo m)) (index := i) (mna mm) hgw hG hcode rfl rfl (hgw _ w2) (hgw _ w1) ⟨y2, y3, y4⟩ hR, hgw _ w4⟩
      ⟨aPc_blind, hpre⟩ rfl hn (rl.1.1.trans hl) rfl (lv_room hcat) hd ⟨by rw [hRc]; exact hk1, by rw [hRs]; exact hn1⟩
    exact sound_after cx hm hunc hrun rl hl hk
  · have hcode : wsU mm = Cond.codeWith (my mm) (mcode mm) (mmax mm) (mret mm) (mhh mm) :: gw := by unfold wsU cw; rw [if_neg hh]
    have hrun := vx_runSX (As := As) (rest := r) (g := F0 mi pc ls (As.reverse ++ r)) (cells := k) (slots := n) (locs := locs) (H := H) (e := e) (below := below) (meth := meth) (Ts := gw) ⟨hx, hb, hml, hown, hgw⟩ hM
      (vx_cwSW (R := R) (own := ocn (mo m)) (index := i) (mna mm) hgw (goodIn_gw (fun w hw => by
        unfold va_wsS at hw
        rcases List.mem_append.mp hw with hw | hw
        · simp only [List.mem_cons, List.mem_nil_iff, or_false] at hw
          rcases hw with rfl | rfl | rfl
          · exact w1
          · exact w4
          · exact w2
        · exact (hG w hw).1)) hcode rfl rfl ⟨y2, y3, y4⟩ hR)
      ⟨aPc_blind, hpre⟩ rfl hn (rl.1.1.trans hl) rfl (lv_room hcat) hd ⟨by rw [hRc]; exact hk1, by rw [hRs]; exact hn1⟩
    exact sound_after cx hm hunc hrun rl hl hk
theorem sound_invI (cx : Cx p l R s mi args meth c D C m d h0 z0 mc ms) (hm : m < 217) (hunc : HUnc p l e R s mi args below meth c D m h0 z0 mc ms Q P) {pc : Nat} {al : AL} {h : AH} {z k n i mm a : Nat} {As r : List Value} (hd : decode (mcode m) pc = .ok (.invokespecial i, 3)) (hf : mres (mo m) i = some (2, mm)) (hmm : mm < 216) (hn : As.length = mna mm) (q : aCall C m mc ms P (WX p l e R s mi args below meth c D m h0 z0 Q) pc al r h z k n mm (.ref a :: As)) : WX p l e R s mi args below meth c D m h0 z0 Q pc al (As.reverse ++ .ref a :: r) h z k n := by
  intro H locs ls rl hl
  obtain ⟨hcat, mc', ms', P', hC, hk1, hn1, hk⟩ := q
  have hSnd : Snd l D C d := cx.2.2.2.2.2.2.2.2.2.2.2.2.2.2.2.2.2
  have hM := hSnd _ _ _ _ _ _ _ hC
  obtain ⟨w1, w2, -, w4, w5, w6, w7⟩ := mres_ok2 hf
  obtain ⟨y1, y2, y3, y4, y5, y6, y7⟩ := mth_ok hmm
  have hR := sound_room cx (mm := mm) (mc' := mc') (ms' := ms') y5
  have hpre := sound_pre cx rl (.ref a :: As)
  obtain ⟨hx, hb, hml, hown, hgw, hK, hz0, hEn, hin, hr, hlk, htab, hst, hRc, hRs, -⟩ := id cx
  have hG : GoodIn gw (wsU mm) := goodIn_gw (fun w hw => by
    rcases List.mem_cons.mp hw with rfl | hw
    · exact y1
    · exact hw)
  have hcode : wsU mm = Cond.code (my mm) (mcode mm) (mmax mm) none :: gw := by unfold wsU cw; rw [if_pos w7, w6]
  have hrun := vx_runI (As := As) (rest := r) (b := a) (g := F0 mi pc ls (As.reverse ++ .ref a :: r)) (cells := k) (slots := n) (locs := locs) (H := H) (e := e) (below := below) (meth := meth) (Ts := gw) ⟨hx, hb, hml, hown, hgw⟩ hM
    ⟨callB_of (R := R) (own := ocn (mo m)) (index := i) (mna mm) hgw hG hcode rfl rfl (hgw _ w2) (hgw _ w1) ⟨y2, y3, y4⟩ hR, w5, hgw _ w4⟩
    ⟨aPc_blind, hpre⟩ rfl hn (rl.1.1.trans hl) rfl (lv_room hcat) hd ⟨by rw [hRc]; exact hk1, by rw [hRs]; exact hn1⟩
  exact sound_after cx hm hunc hrun rl hl hk
set_option maxHeartbeats 4000000 in
theorem sound_invN (cx : Cx p l R s mi args meth c D C m d h0 z0 mc ms) (hm : m < 217) (hunc : HUnc p l e R s mi args below meth c D m h0 z0 mc ms Q P) {pc : Nat} {al : AL} {h : AH} {z k n i mm a : Nat} {As r : List Value} (hd : decode (mcode m) pc = .ok (.invokespecial i, 3)) (hf : mres (mo m) i = some (4, mm)) (hmm : mm < 216) (hn : As.length = mna mm) (q : aCall C m mc ms P (WX p l e R s mi args below meth c D m h0 z0 Q) pc al r h z k n mm (.ref a :: As)) : WX p l e R s mi args below meth c D m h0 z0 Q pc al (As.reverse ++ .ref a :: r) h z k n := by
  intro H locs ls rl hl
  obtain ⟨hcat, mc', ms', P', hC, hk1, hn1, hk⟩ := q
  have hSnd : Snd l D C d := cx.2.2.2.2.2.2.2.2.2.2.2.2.2.2.2.2.2
  have hM := hSnd _ _ _ _ _ _ _ hC
  obtain ⟨w1, w2, w4, w5, w6, w7⟩ := mres_ok4 hf
  obtain ⟨y1, y2, y3, y4, y5, y6, y7⟩ := mth_ok hmm
  have hR := sound_room cx (mm := mm) (mc' := mc') (ms' := ms') y5
  have hpre := sound_pre cx rl (.ref a :: As)
  obtain ⟨hx, hb, hml, hown, hgw, hK, hz0, hEn, hin, hr, hlk, htab, hst, hRc, hRs, -⟩ := id cx
  have hw9 : va_Nw (.methodLinkNest (ocn (mo m)) i (my mm) "Colourmap") s := hEn.2.2.2.2.2.2.2 (mo m, i, mm) w1
  have hG : GoodIn gw (wsU mm) := goodIn_gw (fun w hw => by
    rcases List.mem_cons.mp hw with rfl | hw
    · exact y1
    · exact hw)
  have hcode : wsU mm = Cond.code (my mm) (mcode mm) (mmax mm) none :: gw := by unfold wsU cw; rw [if_pos w7, w6]
  have hrun := vx_runIN (host := "Colourmap") (As := As) (rest := r) (b := a) (g := F0 mi pc ls (As.reverse ++ .ref a :: r)) (cells := k) (slots := n) (locs := locs) (H := H) (e := e) (below := below) (meth := meth) (Ts := gw) ⟨hx, hb, hml, hown, hgw⟩ hM
    ⟨va_cnB (R := R) (own := ocn (mo m)) (index := i) (mna mm) hgw hG hcode rfl rfl hw9 (hgw _ w2) ⟨y2, y3, y4⟩ hR, w5, hgw _ w4⟩
    ⟨aPc_blind, hpre⟩ rfl hn (rl.1.1.trans hl) rfl (lv_room hcat) hd ⟨by rw [hRc]; exact hk1, by rw [hRs]; exact hn1⟩
  exact sound_after cx hm hunc hrun rl hl hk
end Sem
