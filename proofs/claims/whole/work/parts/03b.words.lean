/-! the tables' words are among the claim's (written by gen1.py) -/
/-- a field's type -/
def aty (c k : Nat) : FieldType := match acl[c]? with
  | some r => (parseFieldDescriptor (r.2.1 k).2.2.1).getD .int
  | none => .int
def gw : List Cond := lw_tbl.filter goodWord
theorem gw_in {w : Cond} (h : w ∈ lw_tbl) (g : goodWord w = true) : w ∈ gw := List.mem_filter.mpr ⟨h, g⟩
def cw (m : Nat) : Cond := if mhh m = [] then .code (my m) (mcode m) (mmax m) (mret m) else .codeWith (my m) (mcode m) (mmax m) (mret m) (mhh m)
def wsU (m : Nat) : List Cond := cw m :: gw
theorem wsU_good {m m' : Nat} (h : cw m' ∈ gw) : GoodIn (wsU m) (wsU m') := by
  intro w hw
  have h1 : w ∈ gw := by
    rcases List.mem_cons.mp hw with e | e
    · exact e ▸ h
    · exact e
  exact ⟨List.mem_cons_of_mem _ h1, good_of_word (List.mem_filter.mp h1).2⟩
def inG (w : Cond) : Bool := goodWord w && decide (w ∈ lw_tbl)
theorem inG_in {w : Cond} (h : inG w = true) : w ∈ gw := by
  unfold inG at h
  rw [Bool.and_eq_true] at h
  exact gw_in (of_decide_eq_true h.2) h.1
def okM (e : Nat × Nat × Nat × Nat) : Bool := match e.2.2.1 with
  | 3 => inG (.methodLink (ocn e.1) e.2.1 Lib.objectInit)
  | 4 => nestL.contains (e.1, e.2.1, e.2.2.2) && inG (.initialized (my e.2.2.2).cls) && inG (.instanceMethod (my e.2.2.2)) && decide ((my e.2.2.2).name = "<init>") && decide (mret e.2.2.2 = none) && decide (mhh e.2.2.2 = [])
  | k => inG (.methodLink (ocn e.1) e.2.1 (my e.2.2.2)) && inG (.initialized (my e.2.2.2).cls) && decide (e.2.2.2 < 217) &&
    (match k with
      | 0 => inG (.instanceMethod (my e.2.2.2)) && inG (.selects (my e.2.2.2).cls (my e.2.2.2) (my e.2.2.2)) && decide (mhh e.2.2.2 = [])
      | 1 => inG (.static (my e.2.2.2))
      | _ => inG (.instanceMethod (my e.2.2.2)) && decide ((my e.2.2.2).name = "<init>") && decide (mret e.2.2.2 = none) && decide (mhh e.2.2.2 = []))
def okMth (m : Nat) : Bool := inG (cw m) && decide ((my m).cls ≠ "java/lang/invoke/MethodHandle") && decide ((my m).cls ≠ "java/lang/invoke/VarHandle") && decide ((parseMethodDescriptor (my m).desc).map (fun d => d.parameters.length) = some (mna m)) && decide (mmax m ≤ 21) && plainFor (my m) && decide ((my m).cls = ocn (mo m))
set_option maxRecDepth 100000 in
theorem okM0 : mresL0.all okM = true := by decide +kernel
set_option maxRecDepth 100000 in
theorem okM1 : mresL1.all okM = true := by decide +kernel
set_option maxRecDepth 100000 in
theorem okM2 : mresL2.all okM = true := by decide +kernel
set_option maxRecDepth 100000 in
theorem okM3 : mresL3.all okM = true := by decide +kernel
set_option maxRecDepth 100000 in
theorem okM4 : mresL4.all okM = true := by decide +kernel
set_option maxRecDepth 100000 in
theorem okM5 : mresL5.all okM = true := by decide +kernel
set_option maxRecDepth 100000 in
theorem okM6 : mresL6.all okM = true := by decide +kernel
set_option maxRecDepth 100000 in
theorem okM7 : mresL7.all okM = true := by decide +kernel
set_option maxRecDepth 100000 in
theorem okM8 : mresL8.all okM = true := by decide +kernel
set_option maxRecDepth 100000 in
theorem okM9 : mresL9.all okM = true := by decide +kernel
set_option maxRecDepth 100000 in
theorem okM10 : mresL10.all okM = true := by decide +kernel
set_option maxRecDepth 100000 in
theorem okM11 : mresL11.all okM = true := by decide +kernel
set_option maxRecDepth 100000 in
theorem okM12 : mresL12.all okM = true := by decide +kernel
set_option maxRecDepth 100000 in
theorem okM13 : mresL13.all okM = true := by decide +kernel
set_option maxRecDepth 100000 in
theorem okM14 : mresL14.all okM = true := by decide +kernel
set_option maxRecDepth 100000 in
theorem okM15 : mresL15.all okM = true := by decide +kernel
set_option maxRecDepth 100000 in
theorem okM16 : mresL16.all okM = true := by decide +kernel
set_option maxRecDepth 100000 in
theorem okM17 : mresL17.all okM = true := by decide +kernel
set_option maxRecDepth 100000 in
theorem okM18 : mresL18.all okM = true := by decide +kernel
set_option maxRecDepth 100000 in
theorem okM19 : mresL19.all okM = true := by decide +kernel
set_option maxRecDepth 100000 in
theorem okM20 : mresL20.all okM = true := by decide +kernel
set_option maxRecDepth 100000 in
theorem okM21 : mresL21.all okM = true := by decide +kernel
set_option maxRecDepth 100000 in
theorem okM22 : mresL22.all okM = true := by decide +kernel
set_option maxRecDepth 100000 in
theorem okM23 : mresL23.all okM = true := by decide +kernel
set_option maxRecDepth 100000 in
theorem okM24 : mresL24.all okM = true := by decide +kernel
set_option maxRecDepth 100000 in
theorem okM25 : mresL25.all okM = true := by decide +kernel
theorem okM_all : ∀ e ∈ mresL, okM e = true := by
  intro e he
  unfold mresL at he
  simp only [List.mem_append] at he
  rcases he with he | he | he | he | he | he | he | he | he | he | he | he | he | he | he | he | he | he | he | he | he | he | he | he | he | he
  · exact List.all_eq_true.mp okM0 e he
  · exact List.all_eq_true.mp okM1 e he
  · exact List.all_eq_true.mp okM2 e he
  · exact List.all_eq_true.mp okM3 e he
  · exact List.all_eq_true.mp okM4 e he
  · exact List.all_eq_true.mp okM5 e he
  · exact List.all_eq_true.mp okM6 e he
  · exact List.all_eq_true.mp okM7 e he
  · exact List.all_eq_true.mp okM8 e he
  · exact List.all_eq_true.mp okM9 e he
  · exact List.all_eq_true.mp okM10 e he
  · exact List.all_eq_true.mp okM11 e he
  · exact List.all_eq_true.mp okM12 e he
  · exact List.all_eq_true.mp okM13 e he
  · exact List.all_eq_true.mp okM14 e he
  · exact List.all_eq_true.mp okM15 e he
  · exact List.all_eq_true.mp okM16 e he
  · exact List.all_eq_true.mp okM17 e he
  · exact List.all_eq_true.mp okM18 e he
  · exact List.all_eq_true.mp okM19 e he
  · exact List.all_eq_true.mp okM20 e he
  · exact List.all_eq_true.mp okM21 e he
  · exact List.all_eq_true.mp okM22 e he
  · exact List.all_eq_true.mp okM23 e he
  · exact List.all_eq_true.mp okM24 e he
  · exact List.all_eq_true.mp okM25 e he
set_option maxRecDepth 100000 in
theorem okMth0 : ((List.range 8).all fun i => okMth (0 + i)) = true := by decide +kernel
set_option maxRecDepth 100000 in
theorem okMth1 : ((List.range 8).all fun i => okMth (8 + i)) = true := by decide +kernel
set_option maxRecDepth 100000 in
theorem okMth2 : ((List.range 8).all fun i => okMth (16 + i)) = true := by decide +kernel
set_option maxRecDepth 100000 in
theorem okMth3 : ((List.range 8).all fun i => okMth (24 + i)) = true := by decide +kernel
set_option maxRecDepth 100000 in
theorem okMth4 : ((List.range 8).all fun i => okMth (32 + i)) = true := by decide +kernel
set_option maxRecDepth 100000 in
theorem okMth5 : ((List.range 8).all fun i => okMth (40 + i)) = true := by decide +kernel
set_option maxRecDepth 100000 in
theorem okMth6 : ((List.range 8).all fun i => okMth (48 + i)) = true := by decide +kernel
set_option maxRecDepth 100000 in
theorem okMth7 : ((List.range 8).all fun i => okMth (56 + i)) = true := by decide +kernel
set_option maxRecDepth 100000 in
theorem okMth8 : ((List.range 8).all fun i => okMth (64 + i)) = true := by decide +kernel
set_option maxRecDepth 100000 in
theorem okMth9 : ((List.range 8).all fun i => okMth (72 + i)) = true := by decide +kernel
set_option maxRecDepth 100000 in
theorem okMth10 : ((List.range 8).all fun i => okMth (80 + i)) = true := by decide +kernel
set_option maxRecDepth 100000 in
theorem okMth11 : ((List.range 8).all fun i => okMth (88 + i)) = true := by decide +kernel
set_option maxRecDepth 100000 in
theorem okMth12 : ((List.range 8).all fun i => okMth (96 + i)) = true := by decide +kernel
set_option maxRecDepth 100000 in
theorem okMth13 : ((List.range 8).all fun i => okMth (104 + i)) = true := by decide +kernel
set_option maxRecDepth 100000 in
theorem okMth14 : ((List.range 8).all fun i => okMth (112 + i)) = true := by decide +kernel
set_option maxRecDepth 100000 in
theorem okMth15 : ((List.range 8).all fun i => okMth (120 + i)) = true := by decide +kernel
set_option maxRecDepth 100000 in
theorem okMth16 : ((List.range 8).all fun i => okMth (128 + i)) = true := by decide +kernel
set_option maxRecDepth 100000 in
theorem okMth17 : ((List.range 8).all fun i => okMth (136 + i)) = true := by decide +kernel
set_option maxRecDepth 100000 in
theorem okMth18 : ((List.range 8).all fun i => okMth (144 + i)) = true := by decide +kernel
set_option maxRecDepth 100000 in
theorem okMth19 : ((List.range 8).all fun i => okMth (152 + i)) = true := by decide +kernel
set_option maxRecDepth 100000 in
theorem okMth20 : ((List.range 8).all fun i => okMth (160 + i)) = true := by decide +kernel
set_option maxRecDepth 100000 in
theorem okMth21 : ((List.range 8).all fun i => okMth (168 + i)) = true := by decide +kernel
set_option maxRecDepth 100000 in
theorem okMth22 : ((List.range 8).all fun i => okMth (176 + i)) = true := by decide +kernel
set_option maxRecDepth 100000 in
theorem okMth23 : ((List.range 8).all fun i => okMth (184 + i)) = true := by decide +kernel
set_option maxRecDepth 100000 in
theorem okMth24 : ((List.range 8).all fun i => okMth (192 + i)) = true := by decide +kernel
set_option maxRecDepth 100000 in
theorem okMth25 : ((List.range 8).all fun i => okMth (200 + i)) = true := by decide +kernel
set_option maxRecDepth 100000 in
theorem okMth26 : ((List.range 8).all fun i => okMth (208 + i)) = true := by decide +kernel
theorem okMth_all : ∀ m, m < 216 → okMth m = true := by
  intro m hm
  obtain ⟨q, r, hq, hr⟩ : ∃ q r, m = 8 * q + r ∧ r < 8 := ⟨m / 8, m % 8, by omega, by omega⟩
  subst hq
  match q, hm with
  | 0, hm => exact List.all_eq_true.mp okMth0 r (List.mem_range.mpr (by omega))
  | 1, hm => exact List.all_eq_true.mp okMth1 r (List.mem_range.mpr (by omega))
  | 2, hm => exact List.all_eq_true.mp okMth2 r (List.mem_range.mpr (by omega))
  | 3, hm => exact List.all_eq_true.mp okMth3 r (List.mem_range.mpr (by omega))
  | 4, hm => exact List.all_eq_true.mp okMth4 r (List.mem_range.mpr (by omega))
  | 5, hm => exact List.all_eq_true.mp okMth5 r (List.mem_range.mpr (by omega))
  | 6, hm => exact List.all_eq_true.mp okMth6 r (List.mem_range.mpr (by omega))
  | 7, hm => exact List.all_eq_true.mp okMth7 r (List.mem_range.mpr (by omega))
  | 8, hm => exact List.all_eq_true.mp okMth8 r (List.mem_range.mpr (by omega))
  | 9, hm => exact List.all_eq_true.mp okMth9 r (List.mem_range.mpr (by omega))
  | 10, hm => exact List.all_eq_true.mp okMth10 r (List.mem_range.mpr (by omega))
  | 11, hm => exact List.all_eq_true.mp okMth11 r (List.mem_range.mpr (by omega))
  | 12, hm => exact List.all_eq_true.mp okMth12 r (List.mem_range.mpr (by omega))
  | 13, hm => exact List.all_eq_true.mp okMth13 r (List.mem_range.mpr (by omega))
  | 14, hm => exact List.all_eq_true.mp okMth14 r (List.mem_range.mpr (by omega))
  | 15, hm => exact List.all_eq_true.mp okMth15 r (List.mem_range.mpr (by omega))
  | 16, hm => exact List.all_eq_true.mp okMth16 r (List.mem_range.mpr (by omega))
  | 17, hm => exact List.all_eq_true.mp okMth17 r (List.mem_range.mpr (by omega))
  | 18, hm => exact List.all_eq_true.mp okMth18 r (List.mem_range.mpr (by omega))
  | 19, hm => exact List.all_eq_true.mp okMth19 r (List.mem_range.mpr (by omega))
  | 20, hm => exact List.all_eq_true.mp okMth20 r (List.mem_range.mpr (by omega))
  | 21, hm => exact List.all_eq_true.mp okMth21 r (List.mem_range.mpr (by omega))
  | 22, hm => exact List.all_eq_true.mp okMth22 r (List.mem_range.mpr (by omega))
  | 23, hm => exact List.all_eq_true.mp okMth23 r (List.mem_range.mpr (by omega))
  | 24, hm => exact List.all_eq_true.mp okMth24 r (List.mem_range.mpr (by omega))
  | 25, hm => exact List.all_eq_true.mp okMth25 r (List.mem_range.mpr (by omega))
  | 26, hm => exact List.all_eq_true.mp okMth26 r (List.mem_range.mpr (by omega))
  | q + 27, hm => exact absurd hm (by omega)
def okF (e : Nat × Nat × Nat × Nat) : Bool := match acl[e.2.2.1]? with
  | some r => decide (e.2.2.2 < r.2.2) && inG (.fieldLink (ocn e.1) e.2.1 (r.2.1 e.2.2.2).1 (r.2.1 e.2.2.2).2.1 (r.2.1 e.2.2.2).2.2.1)
  | none => false
set_option maxRecDepth 100000 in
theorem okF_all : fresL.all okF = true := by decide +kernel
def okX (e : Nat × Nat × Nat × Nat) : Bool := match e.2.2.1 with
  | 0 => (match acl[e.2.2.2]? with | some r => inG (.classLink (ocn e.1) e.2.1 r.1) | none => false)
  | 1 => inG (.classLink (ocn e.1) e.2.1 (exn e.2.2.2)) && decide (e.2.2.2 < 6) && inG (.initialized (exn e.2.2.2)) && decide (e.1 = 5)
  | _ => false
set_option maxRecDepth 100000 in
theorem okX_all : cresL.all okX = true := by decide +kernel
def okY (e : Nat × Nat × Nat × Nat) : Bool := inG (.classLink (ocn e.1) e.2.1 (exn e.2.2.2)) && decide (e.2.2.2 < 6) && decide (e.2.1 ≠ 0)
set_option maxRecDepth 100000 in
theorem okY_all : catL.all okY = true := by decide +kernel
set_option maxRecDepth 100000 in
theorem okK_all : (kresL.all fun e => inG (.constant (ocn e.1) e.2.1 e.2.2)) = true := by decide +kernel
set_option maxRecDepth 100000 in
theorem okL_all : (lresL.all fun e => inG (.constantLong (ocn e.1) e.2.1 e.2.2)) = true := by decide +kernel
def okA (c : Nat) : Bool := match acl[c]? with
  | some r => (List.range r.2.2).all (fun k => inG (u_lay r.1 r.2.1 k) && decide (parseFieldDescriptor (r.2.1 k).2.2.1 = some (aty c k)) && (List.range r.2.2).all (fun j => decide (k = j) || decide ((r.2.1 k).2.1 ≠ (r.2.1 j).2.1))) && inG (.instantiable r.1 r.2.2) && inG (.initialized r.1)
  | none => false
set_option maxRecDepth 100000 in
theorem okA_all : ((List.range 7).all okA) = true := by decide +kernel
set_option maxRecDepth 100000 in
theorem okO_all : (inG (.instanceMethod Lib.objectInit) && inG (.code Lib.objectInit ⟨#[0xb1]⟩ 1 none) && inG (.arrayClass .int) && inG (.arrayClass .long) && inG (.arrayClass .boolean) && inG (.arrayClass .double) && inG (.classLink RX7 9 "[[Z")) = true := by decide +kernel
