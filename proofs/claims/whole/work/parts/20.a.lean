/-! rows of the steps, method by method (written by gen2.py) -/
def RR (v : Option Value) (h1 : AH) (z1 : Nat) : AP := fun o h z => o = .inl v ∧ h = h1 ∧ z = z1
def RX (E : Nat) (h1 : AH) (z1 : Nat) : AP := fun o h z => o = .inr E ∧ h = h1 ∧ z1 ≤ z
def sti (al : AL) (j : Nat) (v : Value) (f : AL → Prop) : Prop := j < al.length ∧ f (st1 al j v)
def stj (al : AL) (j : Nat) (v : Value) (f : AL → Prop) : Prop := j + 1 < al.length ∧ f (st2 al j v)
theorem and_t {A B : Prop} (h : A) : (A ∧ B) = B := propext ⟨fun q => q.2, fun q => ⟨h, q⟩⟩
theorem and_mt {A B D : Prop} (h : B) : (A ∧ B ∧ D) = (A ∧ D) := propext ⟨fun q => ⟨q.1, q.2.2⟩, fun q => ⟨q.1, h, q.2⟩⟩
section StepRows
variable {C : ASp} {d m mc ms : Nat} {P P' : AP} {pc : Nat} {al : AL} {st r : List Value} {h : AH} {z k n : Nat}
theorem S_get {a i c f : Nat} (hd : decode (mcode m) pc = .ok (.getfield i, 3)) (hf : fres (mo m) i = some (c, f)) : aW C m mc ms P pc al (.ref a :: st) h z k n = gf h a c f fun v => aW C m mc ms P (pc + 3) al (v :: st) h z k n := by
  rw [aW_dec hd]
  unfold aSem
  dsimp only
  rw [hf]
theorem S_put {a i c f : Nat} {v : Value} (hd : decode (mcode m) pc = .ok (.putfield i, 3)) (hf : fres (mo m) i = some (c, f)) (hfin : afin c f = true → (my m).name = "<init>" ∧ afo c f = ocn (mo m)) : aW C m mc ms P pc al (v :: .ref a :: st) h z k n = pf h a c f v fun h => aW C m mc ms P (pc + 3) al st h z k n := by
  rw [aW_dec hd]
  unfold aSem
  dsimp only
  rw [hf]
  exact and_t hfin
theorem S_obj {a i x : Nat} (hd : decode (mcode m) pc = .ok (.invokespecial i, 3)) (hf : mres (mo m) i = some (3, x)) : aW C m mc ms P pc al (.ref a :: st) h z k n = ((st.map fun v => v.category).sum ≤ 8 ∧ aW C m mc ms P (pc + 3) al st h z k n) := by
  rw [aW_dec hd]
  unfold aSem
  dsimp only
  rw [hf]
  rfl
theorem S_new {i c : Nat} (hd : decode (mcode m) pc = .ok (.new i, 3)) (hf : cres (mo m) i = some (0, c)) (hk : k + 1 ≤ mc) (hn : n + aN c ≤ ms) (q : aW C m mc ms P (pc + 3) al (.ref z :: st) (hup h z (ob c (dfl c))) (z + 1) (k + 1) (n + aN c)) : aW C m mc ms P pc al st h z k n := by
  rw [aW_dec hd]
  unfold aSem
  dsimp only
  rw [hf]
  exact ⟨hk, hn, q⟩
theorem S_thr {i E : Nat} (hd : decode (mcode m) pc = .ok (.new i, 3)) (hf : cres (mo m) i = some (1, E)) (ht : thr m E pc = true) (hh : mhh m = []) (hcat : (st.map fun v => v.category).sum ≤ 8) (hk : k + 1 ≤ mc) (hn : n + 6 ≤ ms) (q : ∀ z' : Nat, z ≤ z' → P (.inr E) h z') : aW C m mc ms P pc al st h z k n := by
  rw [aW_dec hd]
  unfold aSem
  dsimp only
  rw [hf]
  exact ⟨ht, hh, hcat, hk, hn, q⟩
theorem S_callV {i mi a cc mc' ms' : Nat} {fs As : List Value} (hd : decode (mcode m) pc = .ok (.invokevirtual i, 3)) (hf : mres (mo m) i = some (0, mi)) (hcl : (acl[cc]?).map (fun q => q.1) = some (my mi).cls) (hAs : As.length = mna mi) (ha : h a = some (ob cc fs)) (hcat : (r.map fun v => v.category).sum ≤ 8) (hs : Sp d mi (.ref a :: As) h z mc' ms' P') (hk : k + mc' ≤ mc) (hn : n + ms' ≤ ms) (hq : ∀ (o : AO) (h' : AH) (z' : Nat), P' o h' z' → aRet m mc ms P (aW (Sp d) m mc ms P) pc al r (k + mc') (n + ms') o h' z') : aW (Sp d) m mc ms P pc al (As.reverse ++ .ref a :: r) h z k n := by
  rw [aW_dec hd]
  unfold aSem
  dsimp only
  rw [hf]
  exact ⟨As, a, r, cc, fs, rfl, hAs, ha, hcl, hcat, mc', ms', P', hs, hk, hn, hq⟩
theorem S_callS {i mi mc' ms' : Nat} {As : List Value} (hd : decode (mcode m) pc = .ok (.invokestatic i, 3)) (hf : mres (mo m) i = some (1, mi)) (hAs : As.length = mna mi) (hcat : (r.map fun v => v.category).sum ≤ 8) (hs : Sp d mi As h z mc' ms' P') (hk : k + mc' ≤ mc) (hn : n + ms' ≤ ms) (hq : ∀ (o : AO) (h' : AH) (z' : Nat), P' o h' z' → aRet m mc ms P (aW (Sp d) m mc ms P) pc al r (k + mc') (n + ms') o h' z') : aW (Sp d) m mc ms P pc al (As.reverse ++ r) h z k n := by
  rw [aW_dec hd]
  unfold aSem
  dsimp only
  rw [hf]
  exact ⟨As, r, rfl, hAs, hcat, mc', ms', P', hs, hk, hn, hq⟩
theorem S_callI {i mi a mc' ms' : Nat} {As : List Value} (hd : decode (mcode m) pc = .ok (.invokespecial i, 3)) (hf : mres (mo m) i = some (2, mi)) (hAs : As.length = mna mi) (hcat : (r.map fun v => v.category).sum ≤ 8) (hs : Sp d mi (.ref a :: As) h z mc' ms' P') (hk : k + mc' ≤ mc) (hn : n + ms' ≤ ms) (hq : ∀ (o : AO) (h' : AH) (z' : Nat), P' o h' z' → aRet m mc ms P (aW (Sp d) m mc ms P) pc al r (k + mc') (n + ms') o h' z') : aW (Sp d) m mc ms P pc al (As.reverse ++ .ref a :: r) h z k n := by
  rw [aW_dec hd]
  unfold aSem
  dsimp only
  rw [hf]
  exact ⟨As, a, r, rfl, hAs, hcat, mc', ms', P', hs, hk, hn, hq⟩
theorem S_callN {i mi a mc' ms' : Nat} {As : List Value} (hd : decode (mcode m) pc = .ok (.invokespecial i, 3)) (hf : mres (mo m) i = some (4, mi)) (hAs : As.length = mna mi) (hcat : (r.map fun v => v.category).sum ≤ 8) (hs : Sp d mi (.ref a :: As) h z mc' ms' P') (hk : k + mc' ≤ mc) (hn : n + ms' ≤ ms) (hq : ∀ (o : AO) (h' : AH) (z' : Nat), P' o h' z' → aRet m mc ms P (aW (Sp d) m mc ms P) pc al r (k + mc') (n + ms') o h' z') : aW (Sp d) m mc ms P pc al (As.reverse ++ .ref a :: r) h z k n := by
  rw [aW_dec hd]
  unfold aSem
  dsimp only
  rw [hf]
  exact ⟨As, a, r, rfl, hAs, hcat, mc', ms', P', hs, hk, hn, hq⟩
theorem RR_ret {v : Option Value} {h' : AH} {z' : Nat} (q : aW (Sp d) m mc ms P (pc + 3) al (v.toList ++ r) h' z' k n) : ∀ (o : AO) (h1 : AH) (z1 : Nat), RR v h' z' o h1 z1 → aRet m mc ms P (aW (Sp d) m mc ms P) pc al r (k + 0) (n + 0) o h1 z1 := by
  rintro _ _ _ ⟨rfl, rfl, rfl⟩
  cases v <;> exact q
end StepRows
theorem fr0_9 : fres 0 9 = some (0, 0) := by decide +kernel
theorem fr0_15 : fres 0 15 = some (0, 1) := by decide +kernel
theorem fr1_9 : fres 1 9 = some (1, 0) := by decide +kernel
theorem fr1_15 : fres 1 15 = some (1, 1) := by decide +kernel
theorem fr2_9 : fres 2 9 = some (2, 0) := by decide +kernel
theorem fr2_15 : fres 2 15 = some (2, 1) := by decide +kernel
theorem fr2_18 : fres 2 18 = some (2, 2) := by decide +kernel
theorem fr2_21 : fres 2 21 = some (2, 3) := by decide +kernel
theorem fr3_9 : fres 3 9 = some (3, 0) := by decide +kernel
theorem fr3_18 : fres 3 18 = some (3, 1) := by decide +kernel
theorem fr3_22 : fres 3 22 = some (3, 2) := by decide +kernel
theorem fr3_26 : fres 3 26 = some (3, 3) := by decide +kernel
theorem fr3_29 : fres 3 29 = some (3, 4) := by decide +kernel
theorem fr4_9 : fres 4 9 = some (4, 0) := by decide +kernel
theorem fr5_10 : fres 5 10 = some (5, 0) := by decide +kernel
theorem fr5_16 : fres 5 16 = some (5, 1) := by decide +kernel
theorem fr5_22 : fres 5 22 = some (5, 2) := by decide +kernel
theorem fr5_29 : fres 5 29 = some (5, 3) := by decide +kernel
theorem fr5_36 : fres 5 36 = some (5, 4) := by decide +kernel
theorem fr5_43 : fres 5 43 = some (5, 5) := by decide +kernel
theorem fr5_47 : fres 5 47 = some (5, 6) := by decide +kernel
theorem fr5_50 : fres 5 50 = some (5, 7) := by decide +kernel
theorem fr5_53 : fres 5 53 = some (5, 8) := by decide +kernel
theorem fr5_56 : fres 5 56 = some (5, 9) := by decide +kernel
theorem fr5_59 : fres 5 59 = some (5, 10) := by decide +kernel
theorem fr6_11 : fres 6 11 = some (6, 2) := by decide +kernel
theorem fr6_14 : fres 6 14 = some (6, 4) := by decide +kernel
theorem fr6_17 : fres 6 17 = some (6, 5) := by decide +kernel
theorem fr6_21 : fres 6 21 = some (6, 6) := by decide +kernel
theorem fr6_24 : fres 6 24 = some (6, 7) := by decide +kernel
theorem fr6_28 : fres 6 28 = some (6, 8) := by decide +kernel
theorem fr6_31 : fres 6 31 = some (6, 9) := by decide +kernel
theorem fr6_34 : fres 6 34 = some (6, 10) := by decide +kernel
theorem fr6_37 : fres 6 37 = some (6, 11) := by decide +kernel
theorem fr6_40 : fres 6 40 = some (6, 12) := by decide +kernel
theorem fr6_43 : fres 6 43 = some (6, 13) := by decide +kernel
theorem fr6_46 : fres 6 46 = some (6, 14) := by decide +kernel
theorem fr6_49 : fres 6 49 = some (6, 15) := by decide +kernel
theorem fr6_52 : fres 6 52 = some (6, 0) := by decide +kernel
theorem fr6_56 : fres 6 56 = some (6, 1) := by decide +kernel
theorem fr6_91 : fres 6 91 = some (6, 3) := by decide +kernel
theorem mr0_3 : mres 0 3 = some (3, 0) := by decide +kernel
theorem mr0_19 : mres 0 19 = some (0, 34) := by decide +kernel
theorem mr0_23 : mres 0 23 = some (1, 27) := by decide +kernel
theorem mr0_29 : mres 0 29 = some (1, 11) := by decide +kernel
theorem mr0_35 : mres 0 35 = some (1, 12) := by decide +kernel
theorem mr0_38 : mres 0 38 = some (0, 22) := by decide +kernel
theorem mr0_42 : mres 0 42 = some (0, 21) := by decide +kernel
theorem mr0_46 : mres 0 46 = some (1, 37) := by decide +kernel
theorem mr0_49 : mres 0 49 = some (0, 45) := by decide +kernel
theorem mr0_53 : mres 0 53 = some (0, 46) := by decide +kernel
theorem mr0_57 : mres 0 57 = some (0, 36) := by decide +kernel
theorem mr0_60 : mres 0 60 = some (1, 60) := by decide +kernel
theorem mr1_3 : mres 1 3 = some (3, 0) := by decide +kernel
theorem mr1_18 : mres 1 18 = some (0, 132) := by decide +kernel
theorem mr1_22 : mres 1 22 = some (0, 9) := by decide +kernel
theorem mr1_28 : mres 1 28 = some (1, 12) := by decide +kernel
theorem mr1_34 : mres 1 34 = some (0, 45) := by decide +kernel
theorem mr1_38 : mres 1 38 = some (1, 133) := by decide +kernel
theorem mr1_42 : mres 1 42 = some (1, 139) := by decide +kernel
theorem mr1_46 : mres 1 46 = some (0, 35) := by decide +kernel
theorem mr2_3 : mres 2 3 = some (3, 0) := by decide +kernel
theorem mr2_25 : mres 2 25 = some (0, 191) := by decide +kernel
theorem mr2_29 : mres 2 29 = some (1, 192) := by decide +kernel
theorem mr2_33 : mres 2 33 = some (0, 9) := by decide +kernel
theorem mr2_39 : mres 2 39 = some (0, 45) := by decide +kernel
theorem mr2_43 : mres 2 43 = some (1, 193) := by decide +kernel
theorem mr3_3 : mres 3 3 = some (3, 0) := by decide +kernel
theorem mr3_17 : mres 3 17 = some (4, 1) := by decide +kernel
theorem mr3_33 : mres 3 33 = some (0, 69) := by decide +kernel
theorem mr3_37 : mres 3 37 = some (0, 66) := by decide +kernel
theorem mr3_41 : mres 3 41 = some (0, 115) := by decide +kernel
theorem mr3_44 : mres 3 44 = some (0, 117) := by decide +kernel
theorem mr3_47 : mres 3 47 = some (0, 9) := by decide +kernel
theorem mr3_51 : mres 3 51 = some (1, 180) := by decide +kernel
theorem mr3_57 : mres 3 57 = some (1, 116) := by decide +kernel
theorem mr3_61 : mres 3 61 = some (0, 35) := by decide +kernel
theorem mr4_1 : mres 4 1 = some (3, 0) := by decide +kernel
theorem mr4_15 : mres 4 15 = some (1, 151) := by decide +kernel
theorem mr4_21 : mres 4 21 = some (0, 152) := by decide +kernel
theorem mr4_24 : mres 4 24 = some (0, 167) := by decide +kernel
theorem mr4_30 : mres 4 30 = some (0, 153) := by decide +kernel
theorem mr4_34 : mres 4 34 = some (0, 168) := by decide +kernel
theorem mr5_1 : mres 5 1 = some (3, 0) := by decide +kernel
theorem mr5_9 : mres 5 9 = some (4, 1) := by decide +kernel
theorem mr5_21 : mres 5 21 = some (4, 2) := by decide +kernel
theorem mr5_28 : mres 5 28 = some (4, 3) := by decide +kernel
theorem mr5_35 : mres 5 35 = some (4, 4) := by decide +kernel
theorem mr5_42 : mres 5 42 = some (4, 5) := by decide +kernel
theorem mr5_69 : mres 5 69 = some (0, 9) := by decide +kernel
theorem mr5_73 : mres 5 73 = some (0, 10) := by decide +kernel
theorem mr5_77 : mres 5 77 = some (0, 20) := by decide +kernel
theorem mr5_80 : mres 5 80 = some (0, 21) := by decide +kernel
theorem mr5_83 : mres 5 83 = some (0, 22) := by decide +kernel
theorem mr5_86 : mres 5 86 = some (0, 26) := by decide +kernel
theorem mr5_89 : mres 5 89 = some (0, 33) := by decide +kernel
theorem mr5_92 : mres 5 92 = some (0, 35) := by decide +kernel
theorem mr5_96 : mres 5 96 = some (1, 27) := by decide +kernel
theorem mr5_101 : mres 5 101 = some (0, 36) := by decide +kernel
theorem mr5_104 : mres 5 104 = some (0, 44) := by decide +kernel
theorem mr5_108 : mres 5 108 = some (0, 45) := by decide +kernel
theorem mr5_112 : mres 5 112 = some (0, 46) := by decide +kernel
theorem mr5_120 : mres 5 120 = some (0, 50) := by decide +kernel
theorem mr5_123 : mres 5 123 = some (0, 54) := by decide +kernel
theorem mr5_126 : mres 5 126 = some (0, 59) := by decide +kernel
theorem mr5_129 : mres 5 129 = some (0, 63) := by decide +kernel
theorem mr5_132 : mres 5 132 = some (0, 66) := by decide +kernel
theorem mr5_136 : mres 5 136 = some (0, 69) := by decide +kernel
theorem mr5_140 : mres 5 140 = some (0, 73) := by decide +kernel
theorem mr5_143 : mres 5 143 = some (0, 86) := by decide +kernel
theorem mr5_146 : mres 5 146 = some (1, 11) := by decide +kernel
theorem mr5_157 : mres 5 157 = some (1, 95) := by decide +kernel
theorem mr5_163 : mres 5 163 = some (1, 96) := by decide +kernel
theorem mr5_167 : mres 5 167 = some (1, 104) := by decide +kernel
theorem mr5_170 : mres 5 170 = some (1, 109) := by decide +kernel
theorem mr5_175 : mres 5 175 = some (0, 114) := by decide +kernel
theorem mr5_178 : mres 5 178 = some (0, 118) := by decide +kernel
theorem mr5_181 : mres 5 181 = some (1, 123) := by decide +kernel
theorem mr5_184 : mres 5 184 = some (0, 127) := by decide +kernel
theorem mr5_187 : mres 5 187 = some (0, 131) := by decide +kernel
theorem mr5_192 : mres 5 192 = some (0, 138) := by decide +kernel
theorem mr5_200 : mres 5 200 = some (0, 143) := by decide +kernel
theorem mr5_204 : mres 5 204 = some (0, 148) := by decide +kernel
theorem mr5_208 : mres 5 208 = some (0, 154) := by decide +kernel
theorem mr5_217 : mres 5 217 = some (0, 155) := by decide +kernel
theorem mr5_221 : mres 5 221 = some (0, 166) := by decide +kernel
theorem mr5_224 : mres 5 224 = some (0, 168) := by decide +kernel
theorem mr5_227 : mres 5 227 = some (0, 171) := by decide +kernel
theorem mr5_232 : mres 5 232 = some (0, 175) := by decide +kernel
theorem mr5_237 : mres 5 237 = some (0, 179) := by decide +kernel
theorem mr5_240 : mres 5 240 = some (0, 183) := by decide +kernel
theorem mr5_246 : mres 5 246 = some (0, 186) := by decide +kernel
theorem mr5_250 : mres 5 250 = some (1, 151) := by decide +kernel
theorem mr5_258 : mres 5 258 = some (0, 190) := by decide +kernel
theorem mr5_261 : mres 5 261 = some (0, 198) := by decide +kernel
theorem mr5_264 : mres 5 264 = some (0, 200) := by decide +kernel
theorem mr5_267 : mres 5 267 = some (0, 201) := by decide +kernel
theorem mr5_270 : mres 5 270 = some (0, 202) := by decide +kernel
theorem mr5_273 : mres 5 273 = some (0, 204) := by decide +kernel
theorem mr5_278 : mres 5 278 = some (1, 212) := by decide +kernel
theorem mr5_282 : mres 5 282 = some (1, 213) := by decide +kernel
theorem mr5_286 : mres 5 286 = some (0, 34) := by decide +kernel
theorem mr5_298 : mres 5 298 = some (0, 149) := by decide +kernel
theorem mr5_301 : mres 5 301 = some (0, 150) := by decide +kernel
theorem mr5_304 : mres 5 304 = some (0, 153) := by decide +kernel
theorem mr5_310 : mres 5 310 = some (1, 199) := by decide +kernel
theorem mr5_316 : mres 5 316 = some (0, 203) := by decide +kernel
theorem mr5_321 : mres 5 321 = some (0, 205) := by decide +kernel
theorem mr6_1 : mres 6 1 = some (3, 0) := by decide +kernel
theorem mr6_59 : mres 6 59 = some (1, 14) := by decide +kernel
theorem mr6_63 : mres 6 63 = some (1, 41) := by decide +kernel
theorem mr6_67 : mres 6 67 = some (0, 15) := by decide +kernel
theorem mr6_71 : mres 6 71 = some (0, 16) := by decide +kernel
theorem mr6_75 : mres 6 75 = some (0, 29) := by decide +kernel
theorem mr6_79 : mres 6 79 = some (0, 39) := by decide +kernel
theorem mr6_83 : mres 6 83 = some (0, 40) := by decide +kernel
theorem mr6_87 : mres 6 87 = some (1, 56) := by decide +kernel
theorem mr6_94 : mres 6 94 = some (1, 30) := by decide +kernel
theorem mr6_98 : mres 6 98 = some (0, 99) := by decide +kernel
theorem mr6_101 : mres 6 101 = some (0, 107) := by decide +kernel
theorem mr6_105 : mres 6 105 = some (0, 121) := by decide +kernel
theorem mr6_109 : mres 6 109 = some (0, 120) := by decide +kernel
theorem mr6_113 : mres 6 113 = some (0, 125) := by decide +kernel
theorem mr6_117 : mres 6 117 = some (0, 135) := by decide +kernel
theorem mr6_120 : mres 6 120 = some (0, 145) := by decide +kernel
theorem mr6_125 : mres 6 125 = some (1, 158) := by decide +kernel
theorem mr6_129 : mres 6 129 = some (1, 159) := by decide +kernel
theorem mr6_132 : mres 6 132 = some (1, 160) := by decide +kernel
theorem mr6_136 : mres 6 136 = some (1, 161) := by decide +kernel
theorem mr6_140 : mres 6 140 = some (0, 157) := by decide +kernel
theorem mr6_149 : mres 6 149 = some (0, 164) := by decide +kernel
theorem mr6_155 : mres 6 155 = some (0, 196) := by decide +kernel
theorem mr6_159 : mres 6 159 = some (0, 195) := by decide +kernel
theorem mr6_162 : mres 6 162 = some (0, 98) := by decide +kernel
theorem mr6_165 : mres 6 165 = some (0, 209) := by decide +kernel
theorem mr6_168 : mres 6 168 = some (0, 207) := by decide +kernel
theorem mr6_171 : mres 6 171 = some (0, 187) := by decide +kernel
theorem mr6_175 : mres 6 175 = some (0, 208) := by decide +kernel
theorem mr6_179 : mres 6 179 = some (0, 128) := by decide +kernel
theorem mr6_182 : mres 6 182 = some (0, 124) := by decide +kernel
theorem mr6_185 : mres 6 185 = some (0, 210) := by decide +kernel
theorem mr6_188 : mres 6 188 = some (0, 106) := by decide +kernel
theorem mr6_191 : mres 6 191 = some (0, 111) := by decide +kernel
theorem mr6_198 : mres 6 198 = some (1, 215) := by decide +kernel
theorem mr7_7 : mres 7 7 = some (0, 9) := by decide +kernel
theorem mr7_13 : mres 7 13 = some (1, 96) := by decide +kernel
theorem mr7_19 : mres 7 19 = some (1, 97) := by decide +kernel
theorem mr7_22 : mres 7 22 = some (0, 35) := by decide +kernel
theorem mr7_26 : mres 7 26 = some (0, 22) := by decide +kernel
theorem mr7_29 : mres 7 29 = some (1, 27) := by decide +kernel
theorem mr7_34 : mres 7 34 = some (1, 105) := by decide +kernel
theorem mr7_38 : mres 7 38 = some (1, 110) := by decide +kernel
theorem mr8_7 : mres 8 7 = some (0, 8) := by decide +kernel
theorem mr8_15 : mres 8 15 = some (0, 19) := by decide +kernel
theorem mr8_21 : mres 8 21 = some (0, 25) := by decide +kernel
theorem mr8_24 : mres 8 24 = some (0, 32) := by decide +kernel
theorem mr8_29 : mres 8 29 = some (0, 43) := by decide +kernel
theorem mr8_33 : mres 8 33 = some (0, 49) := by decide +kernel
theorem mr8_39 : mres 8 39 = some (0, 53) := by decide +kernel
theorem mr8_42 : mres 8 42 = some (0, 58) := by decide +kernel
theorem mr8_45 : mres 8 45 = some (0, 72) := by decide +kernel
theorem mr8_48 : mres 8 48 = some (0, 79) := by decide +kernel
theorem mr8_51 : mres 8 51 = some (0, 82) := by decide +kernel
theorem mr8_54 : mres 8 54 = some (0, 85) := by decide +kernel
theorem mr8_57 : mres 8 57 = some (0, 89) := by decide +kernel
theorem mr8_60 : mres 8 60 = some (0, 92) := by decide +kernel
theorem mr8_64 : mres 8 64 = some (0, 101) := by decide +kernel
theorem mr8_67 : mres 8 67 = some (0, 113) := by decide +kernel
theorem mr8_70 : mres 8 70 = some (0, 130) := by decide +kernel
theorem mr8_73 : mres 8 73 = some (0, 137) := by decide +kernel
theorem mr8_76 : mres 8 76 = some (0, 142) := by decide +kernel
theorem mr8_80 : mres 8 80 = some (0, 147) := by decide +kernel
theorem mr8_85 : mres 8 85 = some (0, 174) := by decide +kernel
theorem mr8_88 : mres 8 88 = some (0, 178) := by decide +kernel
theorem mr8_91 : mres 8 91 = some (0, 189) := by decide +kernel
theorem mr8_96 : mres 8 96 = some (2, 0) := by decide +kernel
theorem mr8_99 : mres 8 99 = some (2, 6) := by decide +kernel
theorem mr8_100 : mres 8 100 = some (1, 7) := by decide +kernel
theorem mr8_105 : mres 8 105 = some (0, 13) := by decide +kernel
theorem mr8_106 : mres 8 106 = some (0, 17) := by decide +kernel
theorem mr8_109 : mres 8 109 = some (1, 18) := by decide +kernel
theorem mr8_112 : mres 8 112 = some (0, 23) := by decide +kernel
theorem mr8_113 : mres 8 113 = some (1, 24) := by decide +kernel
theorem mr8_115 : mres 8 115 = some (0, 28) := by decide +kernel
theorem mr8_116 : mres 8 116 = some (1, 31) := by decide +kernel
theorem mr8_118 : mres 8 118 = some (0, 38) := by decide +kernel
theorem mr8_119 : mres 8 119 = some (1, 42) := by decide +kernel
theorem mr8_122 : mres 8 122 = some (0, 47) := by decide +kernel
theorem mr8_123 : mres 8 123 = some (1, 48) := by decide +kernel
theorem mr8_125 : mres 8 125 = some (0, 51) := by decide +kernel
theorem mr8_126 : mres 8 126 = some (1, 52) := by decide +kernel
theorem mr8_128 : mres 8 128 = some (0, 55) := by decide +kernel
theorem mr8_129 : mres 8 129 = some (1, 57) := by decide +kernel
theorem mr8_131 : mres 8 131 = some (0, 61) := by decide +kernel
theorem mr8_132 : mres 8 132 = some (0, 62) := by decide +kernel
theorem mr8_135 : mres 8 135 = some (0, 64) := by decide +kernel
theorem mr8_136 : mres 8 136 = some (0, 65) := by decide +kernel
theorem mr8_139 : mres 8 139 = some (0, 67) := by decide +kernel
theorem mr8_140 : mres 8 140 = some (0, 68) := by decide +kernel
theorem mr8_144 : mres 8 144 = some (0, 70) := by decide +kernel
theorem mr8_145 : mres 8 145 = some (1, 71) := by decide +kernel
theorem mr8_147 : mres 8 147 = some (0, 74) := by decide +kernel
theorem mr8_148 : mres 8 148 = some (0, 75) := by decide +kernel
theorem mr8_151 : mres 8 151 = some (0, 76) := by decide +kernel
theorem mr8_152 : mres 8 152 = some (0, 77) := by decide +kernel
theorem mr8_155 : mres 8 155 = some (0, 29) := by decide +kernel
theorem mr8_156 : mres 8 156 = some (1, 78) := by decide +kernel
theorem mr8_158 : mres 8 158 = some (0, 80) := by decide +kernel
theorem mr8_159 : mres 8 159 = some (1, 81) := by decide +kernel
theorem mr8_161 : mres 8 161 = some (0, 83) := by decide +kernel
theorem mr8_162 : mres 8 162 = some (1, 84) := by decide +kernel
theorem mr8_164 : mres 8 164 = some (0, 87) := by decide +kernel
theorem mr8_165 : mres 8 165 = some (1, 88) := by decide +kernel
theorem mr8_167 : mres 8 167 = some (0, 90) := by decide +kernel
theorem mr8_168 : mres 8 168 = some (1, 91) := by decide +kernel
theorem mr8_171 : mres 8 171 = some (0, 93) := by decide +kernel
theorem mr8_172 : mres 8 172 = some (0, 94) := by decide +kernel
theorem mr8_175 : mres 8 175 = some (0, 98) := by decide +kernel
theorem mr8_176 : mres 8 176 = some (1, 100) := by decide +kernel
theorem mr8_178 : mres 8 178 = some (0, 102) := by decide +kernel
theorem mr8_179 : mres 8 179 = some (0, 103) := by decide +kernel
theorem mr8_182 : mres 8 182 = some (0, 106) := by decide +kernel
theorem mr8_183 : mres 8 183 = some (0, 108) := by decide +kernel
theorem mr8_186 : mres 8 186 = some (0, 111) := by decide +kernel
theorem mr8_187 : mres 8 187 = some (1, 112) := by decide +kernel
theorem mr8_189 : mres 8 189 = some (0, 119) := by decide +kernel
theorem mr8_190 : mres 8 190 = some (0, 122) := by decide +kernel
theorem mr8_193 : mres 8 193 = some (0, 124) := by decide +kernel
theorem mr8_194 : mres 8 194 = some (0, 126) := by decide +kernel
theorem mr8_197 : mres 8 197 = some (0, 128) := by decide +kernel
theorem mr8_198 : mres 8 198 = some (1, 129) := by decide +kernel
theorem mr8_200 : mres 8 200 = some (0, 134) := by decide +kernel
theorem mr8_201 : mres 8 201 = some (1, 136) := by decide +kernel
theorem mr8_203 : mres 8 203 = some (0, 140) := by decide +kernel
theorem mr8_204 : mres 8 204 = some (1, 141) := by decide +kernel
theorem mr8_206 : mres 8 206 = some (0, 144) := by decide +kernel
theorem mr8_207 : mres 8 207 = some (1, 146) := by decide +kernel
theorem mr8_209 : mres 8 209 = some (0, 156) := by decide +kernel
theorem mr8_210 : mres 8 210 = some (0, 162) := by decide +kernel
theorem mr8_213 : mres 8 213 = some (0, 163) := by decide +kernel
theorem mr8_214 : mres 8 214 = some (0, 165) := by decide +kernel
theorem mr8_217 : mres 8 217 = some (0, 169) := by decide +kernel
theorem mr8_218 : mres 8 218 = some (0, 170) := by decide +kernel
theorem mr8_221 : mres 8 221 = some (0, 172) := by decide +kernel
theorem mr8_222 : mres 8 222 = some (1, 173) := by decide +kernel
theorem mr8_224 : mres 8 224 = some (0, 176) := by decide +kernel
theorem mr8_225 : mres 8 225 = some (1, 177) := by decide +kernel
theorem mr8_227 : mres 8 227 = some (0, 181) := by decide +kernel
theorem mr8_228 : mres 8 228 = some (0, 182) := by decide +kernel
theorem mr8_231 : mres 8 231 = some (0, 184) := by decide +kernel
theorem mr8_232 : mres 8 232 = some (0, 185) := by decide +kernel
theorem mr8_236 : mres 8 236 = some (0, 187) := by decide +kernel
theorem mr8_237 : mres 8 237 = some (1, 188) := by decide +kernel
theorem mr8_239 : mres 8 239 = some (0, 194) := by decide +kernel
theorem mr8_240 : mres 8 240 = some (0, 197) := by decide +kernel
theorem mr8_243 : mres 8 243 = some (0, 206) := by decide +kernel
theorem mr8_244 : mres 8 244 = some (0, 211) := by decide +kernel
theorem mr8_247 : mres 8 247 = some (0, 214) := by decide +kernel
