/-! the law's own method: the switch -/
section Steps
variable {C : ASp} {d mc ms : Nat} {P P' : AP} {al : AL} {st : List Value} {h : AH} {z k n : Nat} {x y : Int32} {u w : Int64} {fx fy : UInt64} {a : Nat} {v : Value}
theorem s216_sw : aW C 216 mc ms P 44 al (.int x :: st) h z k n = br (x.toInt < 0 ∨ 39 < x.toInt) (aW C 216 mc ms P 1881 al st h z k n) (∃ off, (#[176, 232, 276, 320, 376, 451, 519, 587, 662, 675, 688, 701, 745, 758, 771, 846, 902, 970, 1038, 1103, 1116, 1172, 1185, 1198, 1254, 1267, 1280, 1336, 1392, 1447, 1503, 1529, 1554, 1579, 1647, 1715, 1752, 1766, 1810, 1823] : Array Int)[(x.toInt - 0).toNat]? = some off ∧ aJ (aW C 216 mc ms P) 44 off al st h z k n) := aW_dec (ck216_0 (44, .tableswitch 1837 0 39 #[176, 232, 276, 320, 376, 451, 519, 587, 662, 675, 688, 701, 745, 758, 771, 846, 902, 970, 1038, 1103, 1116, 1172, 1185, 1198, 1254, 1267, 1280, 1336, 1392, 1447, 1503, 1529, 1554, 1579, 1647, 1715, 1752, 1766, 1810, 1823], 176) (List.mem_of_getElem? (i := 27) rfl))
theorem s216_df {j : Nat} (hj : 40 ≤ j) (hj2 : j < 64) : aW C 216 mc ms P 44 al (.int (nI j) :: st) h z k n = aW C 216 mc ms P 1881 al st h z k n := by
  rw [s216_sw, br_1 (by rw [nI_toInt (by omega)]; omega)]
theorem s216_w0 : aW C 216 mc ms P 44 al (.int (nI 0) :: st) h z k n = aW C 216 mc ms P 220 al st h z k n := by
  rw [s216_sw, br_0 (by decide)]
  exact propext ⟨fun ⟨off, h1, h2⟩ => by cases h1; exact h2, fun q => ⟨176, rfl, q⟩⟩
theorem s216_w1 : aW C 216 mc ms P 44 al (.int (nI 1) :: st) h z k n = aW C 216 mc ms P 276 al st h z k n := by
  rw [s216_sw, br_0 (by decide)]
  exact propext ⟨fun ⟨off, h1, h2⟩ => by cases h1; exact h2, fun q => ⟨232, rfl, q⟩⟩
theorem s216_w2 : aW C 216 mc ms P 44 al (.int (nI 2) :: st) h z k n = aW C 216 mc ms P 320 al st h z k n := by
  rw [s216_sw, br_0 (by decide)]
  exact propext ⟨fun ⟨off, h1, h2⟩ => by cases h1; exact h2, fun q => ⟨276, rfl, q⟩⟩
theorem s216_w3 : aW C 216 mc ms P 44 al (.int (nI 3) :: st) h z k n = aW C 216 mc ms P 364 al st h z k n := by
  rw [s216_sw, br_0 (by decide)]
  exact propext ⟨fun ⟨off, h1, h2⟩ => by cases h1; exact h2, fun q => ⟨320, rfl, q⟩⟩
theorem s216_w4 : aW C 216 mc ms P 44 al (.int (nI 4) :: st) h z k n = aW C 216 mc ms P 420 al st h z k n := by
  rw [s216_sw, br_0 (by decide)]
  exact propext ⟨fun ⟨off, h1, h2⟩ => by cases h1; exact h2, fun q => ⟨376, rfl, q⟩⟩
theorem s216_w5 : aW C 216 mc ms P 44 al (.int (nI 5) :: st) h z k n = aW C 216 mc ms P 495 al st h z k n := by
  rw [s216_sw, br_0 (by decide)]
  exact propext ⟨fun ⟨off, h1, h2⟩ => by cases h1; exact h2, fun q => ⟨451, rfl, q⟩⟩
theorem s216_w6 : aW C 216 mc ms P 44 al (.int (nI 6) :: st) h z k n = aW C 216 mc ms P 563 al st h z k n := by
  rw [s216_sw, br_0 (by decide)]
  exact propext ⟨fun ⟨off, h1, h2⟩ => by cases h1; exact h2, fun q => ⟨519, rfl, q⟩⟩
theorem s216_w7 : aW C 216 mc ms P 44 al (.int (nI 7) :: st) h z k n = aW C 216 mc ms P 631 al st h z k n := by
  rw [s216_sw, br_0 (by decide)]
  exact propext ⟨fun ⟨off, h1, h2⟩ => by cases h1; exact h2, fun q => ⟨587, rfl, q⟩⟩
theorem s216_w8 : aW C 216 mc ms P 44 al (.int (nI 8) :: st) h z k n = aW C 216 mc ms P 706 al st h z k n := by
  rw [s216_sw, br_0 (by decide)]
  exact propext ⟨fun ⟨off, h1, h2⟩ => by cases h1; exact h2, fun q => ⟨662, rfl, q⟩⟩
theorem s216_w9 : aW C 216 mc ms P 44 al (.int (nI 9) :: st) h z k n = aW C 216 mc ms P 719 al st h z k n := by
  rw [s216_sw, br_0 (by decide)]
  exact propext ⟨fun ⟨off, h1, h2⟩ => by cases h1; exact h2, fun q => ⟨675, rfl, q⟩⟩
theorem s216_w10 : aW C 216 mc ms P 44 al (.int (nI 10) :: st) h z k n = aW C 216 mc ms P 732 al st h z k n := by
  rw [s216_sw, br_0 (by decide)]
  exact propext ⟨fun ⟨off, h1, h2⟩ => by cases h1; exact h2, fun q => ⟨688, rfl, q⟩⟩
theorem s216_w11 : aW C 216 mc ms P 44 al (.int (nI 11) :: st) h z k n = aW C 216 mc ms P 745 al st h z k n := by
  rw [s216_sw, br_0 (by decide)]
  exact propext ⟨fun ⟨off, h1, h2⟩ => by cases h1; exact h2, fun q => ⟨701, rfl, q⟩⟩
theorem s216_w12 : aW C 216 mc ms P 44 al (.int (nI 12) :: st) h z k n = aW C 216 mc ms P 789 al st h z k n := by
  rw [s216_sw, br_0 (by decide)]
  exact propext ⟨fun ⟨off, h1, h2⟩ => by cases h1; exact h2, fun q => ⟨745, rfl, q⟩⟩
theorem s216_w13 : aW C 216 mc ms P 44 al (.int (nI 13) :: st) h z k n = aW C 216 mc ms P 802 al st h z k n := by
  rw [s216_sw, br_0 (by decide)]
  exact propext ⟨fun ⟨off, h1, h2⟩ => by cases h1; exact h2, fun q => ⟨758, rfl, q⟩⟩
theorem s216_w14 : aW C 216 mc ms P 44 al (.int (nI 14) :: st) h z k n = aW C 216 mc ms P 815 al st h z k n := by
  rw [s216_sw, br_0 (by decide)]
  exact propext ⟨fun ⟨off, h1, h2⟩ => by cases h1; exact h2, fun q => ⟨771, rfl, q⟩⟩
theorem s216_w15 : aW C 216 mc ms P 44 al (.int (nI 15) :: st) h z k n = aW C 216 mc ms P 890 al st h z k n := by
  rw [s216_sw, br_0 (by decide)]
  exact propext ⟨fun ⟨off, h1, h2⟩ => by cases h1; exact h2, fun q => ⟨846, rfl, q⟩⟩
theorem s216_w16 : aW C 216 mc ms P 44 al (.int (nI 16) :: st) h z k n = aW C 216 mc ms P 946 al st h z k n := by
  rw [s216_sw, br_0 (by decide)]
  exact propext ⟨fun ⟨off, h1, h2⟩ => by cases h1; exact h2, fun q => ⟨902, rfl, q⟩⟩
theorem s216_w17 : aW C 216 mc ms P 44 al (.int (nI 17) :: st) h z k n = aW C 216 mc ms P 1014 al st h z k n := by
  rw [s216_sw, br_0 (by decide)]
  exact propext ⟨fun ⟨off, h1, h2⟩ => by cases h1; exact h2, fun q => ⟨970, rfl, q⟩⟩
theorem s216_w18 : aW C 216 mc ms P 44 al (.int (nI 18) :: st) h z k n = aW C 216 mc ms P 1082 al st h z k n := by
  rw [s216_sw, br_0 (by decide)]
  exact propext ⟨fun ⟨off, h1, h2⟩ => by cases h1; exact h2, fun q => ⟨1038, rfl, q⟩⟩
theorem s216_w19 : aW C 216 mc ms P 44 al (.int (nI 19) :: st) h z k n = aW C 216 mc ms P 1147 al st h z k n := by
  rw [s216_sw, br_0 (by decide)]
  exact propext ⟨fun ⟨off, h1, h2⟩ => by cases h1; exact h2, fun q => ⟨1103, rfl, q⟩⟩
theorem s216_w20 : aW C 216 mc ms P 44 al (.int (nI 20) :: st) h z k n = aW C 216 mc ms P 1160 al st h z k n := by
  rw [s216_sw, br_0 (by decide)]
  exact propext ⟨fun ⟨off, h1, h2⟩ => by cases h1; exact h2, fun q => ⟨1116, rfl, q⟩⟩
theorem s216_w21 : aW C 216 mc ms P 44 al (.int (nI 21) :: st) h z k n = aW C 216 mc ms P 1216 al st h z k n := by
  rw [s216_sw, br_0 (by decide)]
  exact propext ⟨fun ⟨off, h1, h2⟩ => by cases h1; exact h2, fun q => ⟨1172, rfl, q⟩⟩
theorem s216_w22 : aW C 216 mc ms P 44 al (.int (nI 22) :: st) h z k n = aW C 216 mc ms P 1229 al st h z k n := by
  rw [s216_sw, br_0 (by decide)]
  exact propext ⟨fun ⟨off, h1, h2⟩ => by cases h1; exact h2, fun q => ⟨1185, rfl, q⟩⟩
theorem s216_w23 : aW C 216 mc ms P 44 al (.int (nI 23) :: st) h z k n = aW C 216 mc ms P 1242 al st h z k n := by
  rw [s216_sw, br_0 (by decide)]
  exact propext ⟨fun ⟨off, h1, h2⟩ => by cases h1; exact h2, fun q => ⟨1198, rfl, q⟩⟩
theorem s216_w24 : aW C 216 mc ms P 44 al (.int (nI 24) :: st) h z k n = aW C 216 mc ms P 1298 al st h z k n := by
  rw [s216_sw, br_0 (by decide)]
  exact propext ⟨fun ⟨off, h1, h2⟩ => by cases h1; exact h2, fun q => ⟨1254, rfl, q⟩⟩
theorem s216_w25 : aW C 216 mc ms P 44 al (.int (nI 25) :: st) h z k n = aW C 216 mc ms P 1311 al st h z k n := by
  rw [s216_sw, br_0 (by decide)]
  exact propext ⟨fun ⟨off, h1, h2⟩ => by cases h1; exact h2, fun q => ⟨1267, rfl, q⟩⟩
theorem s216_w26 : aW C 216 mc ms P 44 al (.int (nI 26) :: st) h z k n = aW C 216 mc ms P 1324 al st h z k n := by
  rw [s216_sw, br_0 (by decide)]
  exact propext ⟨fun ⟨off, h1, h2⟩ => by cases h1; exact h2, fun q => ⟨1280, rfl, q⟩⟩
theorem s216_w27 : aW C 216 mc ms P 44 al (.int (nI 27) :: st) h z k n = aW C 216 mc ms P 1380 al st h z k n := by
  rw [s216_sw, br_0 (by decide)]
  exact propext ⟨fun ⟨off, h1, h2⟩ => by cases h1; exact h2, fun q => ⟨1336, rfl, q⟩⟩
theorem s216_w28 : aW C 216 mc ms P 44 al (.int (nI 28) :: st) h z k n = aW C 216 mc ms P 1436 al st h z k n := by
  rw [s216_sw, br_0 (by decide)]
  exact propext ⟨fun ⟨off, h1, h2⟩ => by cases h1; exact h2, fun q => ⟨1392, rfl, q⟩⟩
theorem s216_w29 : aW C 216 mc ms P 44 al (.int (nI 29) :: st) h z k n = aW C 216 mc ms P 1491 al st h z k n := by
  rw [s216_sw, br_0 (by decide)]
  exact propext ⟨fun ⟨off, h1, h2⟩ => by cases h1; exact h2, fun q => ⟨1447, rfl, q⟩⟩
theorem s216_w30 : aW C 216 mc ms P 44 al (.int (nI 30) :: st) h z k n = aW C 216 mc ms P 1547 al st h z k n := by
  rw [s216_sw, br_0 (by decide)]
  exact propext ⟨fun ⟨off, h1, h2⟩ => by cases h1; exact h2, fun q => ⟨1503, rfl, q⟩⟩
theorem s216_w31 : aW C 216 mc ms P 44 al (.int (nI 31) :: st) h z k n = aW C 216 mc ms P 1573 al st h z k n := by
  rw [s216_sw, br_0 (by decide)]
  exact propext ⟨fun ⟨off, h1, h2⟩ => by cases h1; exact h2, fun q => ⟨1529, rfl, q⟩⟩
theorem s216_w32 : aW C 216 mc ms P 44 al (.int (nI 32) :: st) h z k n = aW C 216 mc ms P 1598 al st h z k n := by
  rw [s216_sw, br_0 (by decide)]
  exact propext ⟨fun ⟨off, h1, h2⟩ => by cases h1; exact h2, fun q => ⟨1554, rfl, q⟩⟩
theorem s216_w33 : aW C 216 mc ms P 44 al (.int (nI 33) :: st) h z k n = aW C 216 mc ms P 1623 al st h z k n := by
  rw [s216_sw, br_0 (by decide)]
  exact propext ⟨fun ⟨off, h1, h2⟩ => by cases h1; exact h2, fun q => ⟨1579, rfl, q⟩⟩
theorem s216_w34 : aW C 216 mc ms P 44 al (.int (nI 34) :: st) h z k n = aW C 216 mc ms P 1691 al st h z k n := by
  rw [s216_sw, br_0 (by decide)]
  exact propext ⟨fun ⟨off, h1, h2⟩ => by cases h1; exact h2, fun q => ⟨1647, rfl, q⟩⟩
theorem s216_w35 : aW C 216 mc ms P 44 al (.int (nI 35) :: st) h z k n = aW C 216 mc ms P 1759 al st h z k n := by
  rw [s216_sw, br_0 (by decide)]
  exact propext ⟨fun ⟨off, h1, h2⟩ => by cases h1; exact h2, fun q => ⟨1715, rfl, q⟩⟩
theorem s216_w36 : aW C 216 mc ms P 44 al (.int (nI 36) :: st) h z k n = aW C 216 mc ms P 1796 al st h z k n := by
  rw [s216_sw, br_0 (by decide)]
  exact propext ⟨fun ⟨off, h1, h2⟩ => by cases h1; exact h2, fun q => ⟨1752, rfl, q⟩⟩
theorem s216_w37 : aW C 216 mc ms P 44 al (.int (nI 37) :: st) h z k n = aW C 216 mc ms P 1810 al st h z k n := by
  rw [s216_sw, br_0 (by decide)]
  exact propext ⟨fun ⟨off, h1, h2⟩ => by cases h1; exact h2, fun q => ⟨1766, rfl, q⟩⟩
theorem s216_w38 : aW C 216 mc ms P 44 al (.int (nI 38) :: st) h z k n = aW C 216 mc ms P 1854 al st h z k n := by
  rw [s216_sw, br_0 (by decide)]
  exact propext ⟨fun ⟨off, h1, h2⟩ => by cases h1; exact h2, fun q => ⟨1810, rfl, q⟩⟩
theorem s216_w39 : aW C 216 mc ms P 44 al (.int (nI 39) :: st) h z k n = aW C 216 mc ms P 1867 al st h z k n := by
  rw [s216_sw, br_0 (by decide)]
  exact propext ⟨fun ⟨off, h1, h2⟩ => by cases h1; exact h2, fun q => ⟨1823, rfl, q⟩⟩
end Steps
