set_option maxHeartbeats 1000000 in
set_option maxRecDepth 100000 in
theorem uX7_append (l : Launch) (X : KX) (ad pa pb qa qb ra rb : Nat → Nat) (ha hb : Nat → Nat → Nat) (Z : CZ) (x0 : Int) (x1 : Int) (x2 : Int) (x3 : Int) (x4 : Int) (hsz : 0 ≤ (zI Z 0) ∧ (zI Z 0) ≤ 500) (hx0 : i32 x0) (hx1 : i32 x1) (hx2 : i32 x2) (hx3 : i32 x3) (hx4 : i32 x4) : CM l X yX7_append wsX7_append ({ frames := 1, cells := 0, slots := 0, locals := 22 }) [.ref (ad 0), .int (iI x0), .int (iI x1), .int (iI x2), .int (iI x3), .int (iI x4)] (clB X ad pa pb qa qb ra rb ha hb Z).flatten (fun v9 w9 => ∃ n9 : Int, ∃ U : Nat → Int, ∃ z : Int, (((zI Z 0) + 20 ≤ 500 ∧ z = (zI Z 0) + 20 ∧ n9 = (zI Z 0) + 20 ∧ U = ap5 (zT Z) (zI Z 0) x0 x1 x2 x3 x4) ∨ (500 < (zI Z 0) + 20 ∧ z = -2 ∧ n9 = (zI Z 0) ∧ U = (zT Z))) ∧ v9 = some (.int (iI z)) ∧ w9 = (clB X ad pa pb qa qb ra rb ha hb (uI (zI Z) 0 n9, (U), zB Z, zP Z, zS Z, zR Z, zQ Z, zL Z, zA Z, zG Z)).flatten) 0 0 := by
  refine ((kX7_append l X (ad 0) (ad 1) (ad 2) (qa 0) (ad 3) (ra 0) (ad 4) (ad 5) (ad 6) (zI Z 0) (zI Z 1) (pa 0) (zT Z) x0 x1 x2 x3 x4 (hsz) (hx0) (hx1) (hx2) (hx3) (hx4)).blk (clB X ad pa pb qa qb ra rb ha hb Z) clL [0, 1] rfl (blt rfl) rfl (by decide +kernel)).weak (fun v9 w9 h9 => ?_)
  · obtain ⟨w1, ⟨n9, U, z, f0, hv9, rfl⟩, hW⟩ := h9
    exact ⟨n9, U, z, f0, hv9, (hW [(clB X ad pa pb qa qb ra rb ha hb (uI (zI Z) 0 n9, (U), zB Z, zP Z, zS Z, zR Z, zQ Z, zL Z, zA Z, zG Z)).getD 0 [], (clB X ad pa pb qa qb ra rb ha hb (uI (zI Z) 0 n9, (U), zB Z, zP Z, zS Z, zR Z, zQ Z, zL Z, zA Z, zG Z)).getD 1 []] rfl rfl).trans rfl⟩

set_option maxHeartbeats 1000000 in
set_option maxRecDepth 100000 in
theorem uX7_truncateInput (l : Launch) (X : KX) (kS : Nat → Nat) (hst : l.stackTraces = false) (ad pa pb qa qb ra rb : Nat → Nat) (ha hb : Nat → Nat → Nat) (Z : CZ) (k : Int) (hk9 : i32 k) (hsz : 0 ≤ (zI Z 0) ∧ (zI Z 0) ≤ 500) : CT l X kS yX7_truncateInput wsX7_truncateInput ({ frames := 7, cells := 1, slots := 6, locals := 122 }) [.ref (ad 0), .int (iI k)] (clB X ad pa pb qa qb ra rb ha hb Z).flatten (fun v9 w9 => (0 ≤ k ∧ k ≤ (zI Z 0)) ∧ v9 = some (.int (iI k)) ∧ w9 = (clB X ad pa pb qa qb ra rb ha hb (uI (zI Z) 0 k, zT Z, zB Z, zP Z, zS Z, zR Z, zQ Z, zL Z, zA Z, zG Z)).flatten) (fun E9 w9 => (E9 = "java/lang/IllegalArgumentException") ∧ (¬ (0 ≤ k ∧ k ≤ (zI Z 0))) ∧ w9 = (clB X ad pa pb qa qb ra rb ha hb Z).flatten) 1 6 := by
  refine ((kX7_truncateInput l X kS hst (ad 0) (ad 1) (ad 2) (qa 0) (ad 3) (ra 0) (ad 4) (ad 5) (ad 6) (zI Z 0) (zI Z 1) (pa 0) k (hk9) (hsz)).blk (clB X ad pa pb qa qb ra rb ha hb Z) clL [0] rfl (blt rfl) rfl (by decide +kernel)).weak (fun v9 w9 h9 => ?_) (fun E9 w9 h9 => ?_)
  · obtain ⟨w1, ⟨f0, hv9, rfl⟩, hW⟩ := h9
    exact ⟨f0, hv9, (hW [(clB X ad pa pb qa qb ra rb ha hb (uI (zI Z) 0 k, zT Z, zB Z, zP Z, zS Z, zR Z, zQ Z, zL Z, zA Z, zG Z)).getD 0 []] rfl rfl).trans rfl⟩
  · obtain ⟨w1, ⟨f0, f1, rfl⟩, hW⟩ := h9
    exact ⟨f0, f1, (hW [(clB X ad pa pb qa qb ra rb ha hb Z).getD 0 []] rfl rfl).trans rfl⟩

set_option maxHeartbeats 1000000 in
set_option maxRecDepth 100000 in
theorem uX7_inputLength (l : Launch) (X : KX) (ad pa pb qa qb ra rb : Nat → Nat) (ha hb : Nat → Nat → Nat) (Z : CZ) (hPI : PI (zP Z)) : CM l X yX7_inputLength wsX7_inputLength ({ frames := 0, cells := 0, slots := 0, locals := 0 }) [.ref (ad 0)] (clB X ad pa pb qa qb ra rb ha hb Z).flatten (fun v9 w9 => v9 = some (.int (iI (zI Z 0))) ∧ w9 = (clB X ad pa pb qa qb ra rb ha hb Z).flatten) 0 0 := by
  refine ((kX7_inputLength l X (ad 0) (ad 1) (ad 2) (qa 0) (ad 3) (ra 0) (ad 4) (ad 5) (ad 6) (zI Z 0) (zI Z 1) pa pb (zP Z) (hPI)).blk (clB X ad pa pb qa qb ra rb ha hb Z) clL [0, 2, 3] rfl (blt rfl) rfl (by decide +kernel)).weak (fun v9 w9 h9 => ?_)
  · obtain ⟨w1, ⟨hv9, rfl⟩, hW⟩ := h9
    exact ⟨hv9, (hW [(clB X ad pa pb qa qb ra rb ha hb Z).getD 0 [], (clB X ad pa pb qa qb ra rb ha hb Z).getD 2 [], (clB X ad pa pb qa qb ra rb ha hb Z).getD 3 []] rfl rfl).trans rfl⟩

set_option maxHeartbeats 1000000 in
set_option maxRecDepth 100000 in
theorem uX7_undoCount (l : Launch) (X : KX) (ad pa pb qa qb ra rb : Nat → Nat) (ha hb : Nat → Nat → Nat) (Z : CZ) : CM l X yX7_undoCount wsX7_undoCount ({ frames := 0, cells := 0, slots := 0, locals := 0 }) [.ref (ad 0)] (clB X ad pa pb qa qb ra rb ha hb Z).flatten (fun v9 w9 => v9 = some (.int (iI (zI Z 3))) ∧ w9 = (clB X ad pa pb qa qb ra rb ha hb Z).flatten) 0 0 := by
  refine ((kX7_undoCount l X (ad 0) (ad 1) (ad 2) (qa 0) (ad 3) (ra 0) (ad 4) (ad 5) (ad 6) (zI Z 0) (zI Z 1) (pa 0) (ad 7) (zI Z 2) (zI Z 3) ).blk (clB X ad pa pb qa qb ra rb ha hb Z) clL [0, 4] rfl (blt rfl) rfl (by decide +kernel)).weak (fun v9 w9 h9 => ?_)
  · obtain ⟨w1, ⟨hv9, rfl⟩, hW⟩ := h9
    exact ⟨hv9, (hW [(clB X ad pa pb qa qb ra rb ha hb Z).getD 0 [], (clB X ad pa pb qa qb ra rb ha hb Z).getD 4 []] rfl rfl).trans rfl⟩

set_option maxHeartbeats 1000000 in
set_option maxRecDepth 100000 in
theorem uX7_saveSnapshot (l : Launch) (X : KX) (ad pa pb qa qb ra rb : Nat → Nat) (ha hb : Nat → Nat → Nat) (Z : CZ) (xs : Nat) (hPI : PI (zP Z)) : CM l X yX7_saveSnapshot wsX7_saveSnapshot ({ frames := 3, cells := 0, slots := 0, locals := 103 }) [.ref (ad 0)] (clB X ad pa pb qa qb ra rb ha hb Z).flatten (fun v9 w9 => v9 = some (.int (iI (Pn (zP Z)))) ∧ w9 = (clB X ad pa pb qa qb ra rb ha hb (uI (zI Z) 1 1, zT Z, zB Z, zP Z, ((cpP (zS Z) (zP Z))), zR Z, zQ Z, zL Z, zA Z, zG Z)).flatten) 0 0 := by
  refine ((kX7_saveSnapshot l X (ad 0) (ad 1) (ad 2) xs (ad 3) (ra 0) (ad 4) (ad 5) (ad 6) (zI Z 0) (zI Z 1) qa qb (zS Z) pa pb (zP Z) (hPI)).blk (clB X ad pa pb qa qb ra rb ha hb Z) clL [0, 22, 2, 23, 3] rfl (blt rfl) rfl (by decide +kernel)).weak (fun v9 w9 h9 => ?_)
  · obtain ⟨w1, ⟨hv9, rfl⟩, hW⟩ := h9
    exact ⟨hv9, (hW [(clB X ad pa pb qa qb ra rb ha hb (uI (zI Z) 1 1, zT Z, zB Z, zP Z, ((cpP (zS Z) (zP Z))), zR Z, zQ Z, zL Z, zA Z, zG Z)).getD 0 [], (clB X ad pa pb qa qb ra rb ha hb (uI (zI Z) 1 1, zT Z, zB Z, zP Z, ((cpP (zS Z) (zP Z))), zR Z, zQ Z, zL Z, zA Z, zG Z)).getD 22 [], (clB X ad pa pb qa qb ra rb ha hb (uI (zI Z) 1 1, zT Z, zB Z, zP Z, ((cpP (zS Z) (zP Z))), zR Z, zQ Z, zL Z, zA Z, zG Z)).getD 2 [], (clB X ad pa pb qa qb ra rb ha hb (uI (zI Z) 1 1, zT Z, zB Z, zP Z, ((cpP (zS Z) (zP Z))), zR Z, zQ Z, zL Z, zA Z, zG Z)).getD 23 [], (clB X ad pa pb qa qb ra rb ha hb (uI (zI Z) 1 1, zT Z, zB Z, zP Z, ((cpP (zS Z) (zP Z))), zR Z, zQ Z, zL Z, zA Z, zG Z)).getD 3 []] rfl rfl).trans rfl⟩

set_option maxHeartbeats 1000000 in
set_option maxRecDepth 100000 in
theorem uX7_restoreSnapshot (l : Launch) (X : KX) (kS : Nat → Nat) (hst : l.stackTraces = false) (ad pa pb qa qb ra rb : Nat → Nat) (ha hb : Nat → Nat → Nat) (Z : CZ) (xs : Nat) (hPI : PI (zS Z)) (hsv : (zI Z 1) = 0 ∨ (zI Z 1) = 1) : CT l X kS yX7_restoreSnapshot wsX7_restoreSnapshot ({ frames := 6, cells := 1, slots := 6, locals := 103 }) [.ref (ad 0)] (clB X ad pa pb qa qb ra rb ha hb Z).flatten (fun v9 w9 => ((zI Z 1) = 1) ∧ v9 = some (.int (iI (Pn (cpP (zP Z) (zS Z))))) ∧ w9 = (clB X ad pa pb qa qb ra rb ha hb (uI (zI Z) 3 0, zT Z, zB Z, ((cpP (zP Z) (zS Z))), zS Z, zR Z, zQ Z, zL Z, zA Z, zG Z)).flatten) (fun E9 w9 => (E9 = "java/util/NoSuchElementException") ∧ ((zI Z 1) = 0) ∧ w9 = (clB X ad pa pb qa qb ra rb ha hb Z).flatten) 1 6 := by
  refine ((kX7_restoreSnapshot l X kS hst (ad 0) (ad 1) (ad 2) xs (ad 3) (ra 0) (ad 4) (ad 5) (ad 6) (zI Z 0) (zI Z 1) (ad 7) (zI Z 2) (zI Z 3) qa qb (zS Z) pa pb (zP Z) (hPI) (hsv)).blk (clB X ad pa pb qa qb ra rb ha hb Z) clL [0, 4, 2, 22, 3, 23] rfl (blt rfl) rfl (by decide +kernel)).weak (fun v9 w9 h9 => ?_) (fun E9 w9 h9 => ?_)
  · obtain ⟨w1, ⟨f0, hv9, rfl⟩, hW⟩ := h9
    exact ⟨f0, hv9, (hW [(clB X ad pa pb qa qb ra rb ha hb (uI (zI Z) 3 0, zT Z, zB Z, ((cpP (zP Z) (zS Z))), zS Z, zR Z, zQ Z, zL Z, zA Z, zG Z)).getD 0 [], (clB X ad pa pb qa qb ra rb ha hb (uI (zI Z) 3 0, zT Z, zB Z, ((cpP (zP Z) (zS Z))), zS Z, zR Z, zQ Z, zL Z, zA Z, zG Z)).getD 4 [], (clB X ad pa pb qa qb ra rb ha hb (uI (zI Z) 3 0, zT Z, zB Z, ((cpP (zP Z) (zS Z))), zS Z, zR Z, zQ Z, zL Z, zA Z, zG Z)).getD 2 [], (clB X ad pa pb qa qb ra rb ha hb (uI (zI Z) 3 0, zT Z, zB Z, ((cpP (zP Z) (zS Z))), zS Z, zR Z, zQ Z, zL Z, zA Z, zG Z)).getD 22 [], (clB X ad pa pb qa qb ra rb ha hb (uI (zI Z) 3 0, zT Z, zB Z, ((cpP (zP Z) (zS Z))), zS Z, zR Z, zQ Z, zL Z, zA Z, zG Z)).getD 3 [], (clB X ad pa pb qa qb ra rb ha hb (uI (zI Z) 3 0, zT Z, zB Z, ((cpP (zP Z) (zS Z))), zS Z, zR Z, zQ Z, zL Z, zA Z, zG Z)).getD 23 []] rfl rfl).trans rfl⟩
  · obtain ⟨w1, ⟨f0, f1, rfl⟩, hW⟩ := h9
    exact ⟨f0, f1, (hW [(clB X ad pa pb qa qb ra rb ha hb Z).getD 0 [], (clB X ad pa pb qa qb ra rb ha hb Z).getD 4 [], (clB X ad pa pb qa qb ra rb ha hb Z).getD 2 [], (clB X ad pa pb qa qb ra rb ha hb Z).getD 22 [], (clB X ad pa pb qa qb ra rb ha hb Z).getD 3 [], (clB X ad pa pb qa qb ra rb ha hb Z).getD 23 []] rfl rfl).trans rfl⟩

set_option maxHeartbeats 1000000 in
set_option maxRecDepth 100000 in
theorem uX7_scriptErrorKind (l : Launch) (X : KX) (ad pa pb qa qb ra rb : Nat → Nat) (ha hb : Nat → Nat → Nat) (Z : CZ) : CM l X yX7_scriptErrorKind wsX7_scriptErrorKind ({ frames := 0, cells := 0, slots := 0, locals := 0 }) [.ref (ad 0)] (clB X ad pa pb qa qb ra rb ha hb Z).flatten (fun v9 w9 => v9 = some (.int (iI (zI Z 12))) ∧ w9 = (clB X ad pa pb qa qb ra rb ha hb Z).flatten) 0 0 := by
  refine ((kX7_scriptErrorKind l X (ad 0) (ad 1) (ad 2) (qa 0) (ad 3) (ra 0) (ad 4) (ad 5) (ad 6) (zI Z 0) (zI Z 1) (pa 0) (ad 9) (ra 0) (ad 10) (ad 11) (ad 12) (zI Z 5) (zI Z 6) (zI Z 7) (zI Z 8) (zI Z 9) (zI Z 10) (zI Z 11) (zI Z 12) (zI Z 13) ).blk (clB X ad pa pb qa qb ra rb ha hb Z) clL [0, 30] rfl (blt rfl) rfl (by decide +kernel)).weak (fun v9 w9 h9 => ?_)
  · obtain ⟨w1, ⟨hv9, rfl⟩, hW⟩ := h9
    exact ⟨hv9, (hW [(clB X ad pa pb qa qb ra rb ha hb Z).getD 0 [], (clB X ad pa pb qa qb ra rb ha hb Z).getD 30 []] rfl rfl).trans rfl⟩

set_option maxHeartbeats 1000000 in
set_option maxRecDepth 100000 in
theorem uX7_scriptErrorOffset (l : Launch) (X : KX) (ad pa pb qa qb ra rb : Nat → Nat) (ha hb : Nat → Nat → Nat) (Z : CZ) : CM l X yX7_scriptErrorOffset wsX7_scriptErrorOffset ({ frames := 0, cells := 0, slots := 0, locals := 0 }) [.ref (ad 0)] (clB X ad pa pb qa qb ra rb ha hb Z).flatten (fun v9 w9 => v9 = some (.int (iI (zI Z 13))) ∧ w9 = (clB X ad pa pb qa qb ra rb ha hb Z).flatten) 0 0 := by
  refine ((kX7_scriptErrorOffset l X (ad 0) (ad 1) (ad 2) (qa 0) (ad 3) (ra 0) (ad 4) (ad 5) (ad 6) (zI Z 0) (zI Z 1) (pa 0) (ad 9) (ra 0) (ad 10) (ad 11) (ad 12) (zI Z 5) (zI Z 6) (zI Z 7) (zI Z 8) (zI Z 9) (zI Z 10) (zI Z 11) (zI Z 12) (zI Z 13) ).blk (clB X ad pa pb qa qb ra rb ha hb Z) clL [0, 30] rfl (blt rfl) rfl (by decide +kernel)).weak (fun v9 w9 h9 => ?_)
  · obtain ⟨w1, ⟨hv9, rfl⟩, hW⟩ := h9
    exact ⟨hv9, (hW [(clB X ad pa pb qa qb ra rb ha hb Z).getD 0 [], (clB X ad pa pb qa qb ra rb ha hb Z).getD 30 []] rfl rfl).trans rfl⟩

set_option maxHeartbeats 1000000 in
set_option maxRecDepth 100000 in
theorem uX7_loanCount (l : Launch) (X : KX) (ad pa pb qa qb ra rb : Nat → Nat) (ha hb : Nat → Nat → Nat) (Z : CZ) (hPI : PI (zP Z)) : CM l X yX7_loanCount wsX7_loanCount ({ frames := 0, cells := 0, slots := 0, locals := 0 }) [.ref (ad 0)] (clB X ad pa pb qa qb ra rb ha hb Z).flatten (fun v9 w9 => v9 = some (.int (iI (Pn (zP Z)))) ∧ w9 = (clB X ad pa pb qa qb ra rb ha hb Z).flatten) 0 0 := by
  refine ((kX7_loanCount l X (ad 0) (ad 1) (ad 2) (qa 0) (ad 3) (ra 0) (ad 4) (ad 5) (ad 6) (zI Z 0) (zI Z 1) pa pb (zP Z) (hPI)).blk (clB X ad pa pb qa qb ra rb ha hb Z) clL [0, 2, 3] rfl (blt rfl) rfl (by decide +kernel)).weak (fun v9 w9 h9 => ?_)
  · obtain ⟨w1, ⟨hv9, rfl⟩, hW⟩ := h9
    exact ⟨hv9, (hW [(clB X ad pa pb qa qb ra rb ha hb Z).getD 0 [], (clB X ad pa pb qa qb ra rb ha hb Z).getD 2 [], (clB X ad pa pb qa qb ra rb ha hb Z).getD 3 []] rfl rfl).trans rfl⟩

set_option maxHeartbeats 1000000 in
set_option maxRecDepth 100000 in
theorem uX7_openCount (l : Launch) (X : KX) (ad pa pb qa qb ra rb : Nat → Nat) (ha hb : Nat → Nat → Nat) (Z : CZ) (hPI : PI (zP Z)) : CM l X yX7_openCount wsX7_openCount ({ frames := 2, cells := 0, slots := 0, locals := 42 }) [.ref (ad 0)] (clB X ad pa pb qa qb ra rb ha hb Z).flatten (fun v9 w9 => v9 = some (.int (iI (cnt (PL (zP Z)) (Pn (zP Z)).toNat))) ∧ w9 = (clB X ad pa pb qa qb ra rb ha hb Z).flatten) 0 0 := by
  refine ((kX7_openCount l X (ad 0) (ad 1) (ad 2) (qa 0) (ad 3) (ra 0) (ad 4) (ad 5) (ad 6) (zI Z 0) (zI Z 1) pa pb (zP Z) (hPI)).blk (clB X ad pa pb qa qb ra rb ha hb Z) clL [0, 2, 3] rfl (blt rfl) rfl (by decide +kernel)).weak (fun v9 w9 h9 => ?_)
  · obtain ⟨w1, ⟨hv9, rfl⟩, hW⟩ := h9
    exact ⟨hv9, (hW [(clB X ad pa pb qa qb ra rb ha hb Z).getD 0 [], (clB X ad pa pb qa qb ra rb ha hb Z).getD 2 [], (clB X ad pa pb qa qb ra rb ha hb Z).getD 3 []] rfl rfl).trans rfl⟩

set_option maxHeartbeats 1000000 in
set_option maxRecDepth 100000 in
theorem uX7_isOpen (l : Launch) (X : KX) (kS : Nat → Nat) (hst : l.stackTraces = false) (ad pa pb qa qb ra rb : Nat → Nat) (ha hb : Nat → Nat → Nat) (Z : CZ) (i : Int) (hPI : PI (zP Z)) (hi9 : i32 i) : CT l X kS yX7_isOpen wsX7_isOpen ({ frames := 7, cells := 1, slots := 6, locals := 121 }) [.ref (ad 0), .int (iI i)] (clB X ad pa pb qa qb ra rb ha hb Z).flatten (fun v9 w9 => ∃ z : Int, (0 ≤ i ∧ i < Pn (zP Z)) ∧ ((z = 1 ∧ 0 < PL (zP Z) i.toNat 1) ∨ (z = 0 ∧ PL (zP Z) i.toNat 1 ≤ 0)) ∧ v9 = some (.int (iI z)) ∧ w9 = (clB X ad pa pb qa qb ra rb ha hb Z).flatten) (fun E9 w9 => (E9 = "java/lang/IndexOutOfBoundsException") ∧ (¬ (0 ≤ i ∧ i < Pn (zP Z))) ∧ w9 = (clB X ad pa pb qa qb ra rb ha hb Z).flatten) 1 6 := by
  refine ((kX7_isOpen l X kS hst (ad 0) (ad 1) (ad 2) (qa 0) (ad 3) (ra 0) (ad 4) (ad 5) (ad 6) (zI Z 0) (zI Z 1) pa pb (zP Z) i (hPI) (hi9)).blk (clB X ad pa pb qa qb ra rb ha hb Z) clL [0, 2, 3] rfl (blt rfl) rfl (by decide +kernel)).weak (fun v9 w9 h9 => ?_) (fun E9 w9 h9 => ?_)
  · obtain ⟨w1, ⟨z, f0, f1, hv9, rfl⟩, hW⟩ := h9
    exact ⟨z, f0, f1, hv9, (hW [(clB X ad pa pb qa qb ra rb ha hb Z).getD 0 [], (clB X ad pa pb qa qb ra rb ha hb Z).getD 2 [], (clB X ad pa pb qa qb ra rb ha hb Z).getD 3 []] rfl rfl).trans rfl⟩
  · obtain ⟨w1, ⟨f0, f1, rfl⟩, hW⟩ := h9
    exact ⟨f0, f1, (hW [(clB X ad pa pb qa qb ra rb ha hb Z).getD 0 [], (clB X ad pa pb qa qb ra rb ha hb Z).getD 2 [], (clB X ad pa pb qa qb ra rb ha hb Z).getD 3 []] rfl rfl).trans rfl⟩

set_option maxHeartbeats 1000000 in
set_option maxRecDepth 100000 in
theorem uX7_principal (l : Launch) (X : KX) (kS : Nat → Nat) (hst : l.stackTraces = false) (ad pa pb qa qb ra rb : Nat → Nat) (ha hb : Nat → Nat → Nat) (Z : CZ) (i : Int) (hPI : PI (zP Z)) (hi9 : i32 i) : CT l X kS yX7_principal wsX7_principal ({ frames := 7, cells := 1, slots := 6, locals := 121 }) [.ref (ad 0), .int (iI i)] (clB X ad pa pb qa qb ra rb ha hb Z).flatten (fun v9 w9 => (0 ≤ i ∧ i < Pn (zP Z)) ∧ v9 = some (.int (iI (PL (zP Z) i.toNat 0))) ∧ w9 = (clB X ad pa pb qa qb ra rb ha hb Z).flatten) (fun E9 w9 => (E9 = "java/lang/IndexOutOfBoundsException") ∧ (¬ (0 ≤ i ∧ i < Pn (zP Z))) ∧ w9 = (clB X ad pa pb qa qb ra rb ha hb Z).flatten) 1 6 := by
  refine ((kX7_principal l X kS hst (ad 0) (ad 1) (ad 2) (qa 0) (ad 3) (ra 0) (ad 4) (ad 5) (ad 6) (zI Z 0) (zI Z 1) pa pb (zP Z) i (hPI) (hi9)).blk (clB X ad pa pb qa qb ra rb ha hb Z) clL [0, 2, 3] rfl (blt rfl) rfl (by decide +kernel)).weak (fun v9 w9 h9 => ?_) (fun E9 w9 h9 => ?_)
  · obtain ⟨w1, ⟨f0, hv9, rfl⟩, hW⟩ := h9
    exact ⟨f0, hv9, (hW [(clB X ad pa pb qa qb ra rb ha hb Z).getD 0 [], (clB X ad pa pb qa qb ra rb ha hb Z).getD 2 [], (clB X ad pa pb qa qb ra rb ha hb Z).getD 3 []] rfl rfl).trans rfl⟩
  · obtain ⟨w1, ⟨f0, f1, rfl⟩, hW⟩ := h9
    exact ⟨f0, f1, (hW [(clB X ad pa pb qa qb ra rb ha hb Z).getD 0 [], (clB X ad pa pb qa qb ra rb ha hb Z).getD 2 [], (clB X ad pa pb qa qb ra rb ha hb Z).getD 3 []] rfl rfl).trans rfl⟩

set_option maxHeartbeats 1000000 in
set_option maxRecDepth 100000 in
theorem uX7_balance (l : Launch) (X : KX) (kS : Nat → Nat) (hst : l.stackTraces = false) (ad pa pb qa qb ra rb : Nat → Nat) (ha hb : Nat → Nat → Nat) (Z : CZ) (i : Int) (hPI : PI (zP Z)) (hi9 : i32 i) : CT l X kS yX7_balance wsX7_balance ({ frames := 7, cells := 1, slots := 6, locals := 121 }) [.ref (ad 0), .int (iI i)] (clB X ad pa pb qa qb ra rb ha hb Z).flatten (fun v9 w9 => (0 ≤ i ∧ i < Pn (zP Z)) ∧ v9 = some (.int (iI (PL (zP Z) i.toNat 1))) ∧ w9 = (clB X ad pa pb qa qb ra rb ha hb Z).flatten) (fun E9 w9 => (E9 = "java/lang/IndexOutOfBoundsException") ∧ (¬ (0 ≤ i ∧ i < Pn (zP Z))) ∧ w9 = (clB X ad pa pb qa qb ra rb ha hb Z).flatten) 1 6 := by
  refine ((kX7_balance l X kS hst (ad 0) (ad 1) (ad 2) (qa 0) (ad 3) (ra 0) (ad 4) (ad 5) (ad 6) (zI Z 0) (zI Z 1) pa pb (zP Z) i (hPI) (hi9)).blk (clB X ad pa pb qa qb ra rb ha hb Z) clL [0, 2, 3] rfl (blt rfl) rfl (by decide +kernel)).weak (fun v9 w9 h9 => ?_) (fun E9 w9 h9 => ?_)
  · obtain ⟨w1, ⟨f0, hv9, rfl⟩, hW⟩ := h9
    exact ⟨f0, hv9, (hW [(clB X ad pa pb qa qb ra rb ha hb Z).getD 0 [], (clB X ad pa pb qa qb ra rb ha hb Z).getD 2 [], (clB X ad pa pb qa qb ra rb ha hb Z).getD 3 []] rfl rfl).trans rfl⟩
  · obtain ⟨w1, ⟨f0, f1, rfl⟩, hW⟩ := h9
    exact ⟨f0, f1, (hW [(clB X ad pa pb qa qb ra rb ha hb Z).getD 0 [], (clB X ad pa pb qa qb ra rb ha hb Z).getD 2 [], (clB X ad pa pb qa qb ra rb ha hb Z).getD 3 []] rfl rfl).trans rfl⟩

set_option maxHeartbeats 1000000 in
set_option maxRecDepth 100000 in
theorem uX7_rate (l : Launch) (X : KX) (kS : Nat → Nat) (hst : l.stackTraces = false) (ad pa pb qa qb ra rb : Nat → Nat) (ha hb : Nat → Nat → Nat) (Z : CZ) (i : Int) (hPI : PI (zP Z)) (hi9 : i32 i) : CT l X kS yX7_rate wsX7_rate ({ frames := 7, cells := 1, slots := 6, locals := 121 }) [.ref (ad 0), .int (iI i)] (clB X ad pa pb qa qb ra rb ha hb Z).flatten (fun v9 w9 => (0 ≤ i ∧ i < Pn (zP Z)) ∧ v9 = some (.int (iI (PL (zP Z) i.toNat 2))) ∧ w9 = (clB X ad pa pb qa qb ra rb ha hb Z).flatten) (fun E9 w9 => (E9 = "java/lang/IndexOutOfBoundsException") ∧ (¬ (0 ≤ i ∧ i < Pn (zP Z))) ∧ w9 = (clB X ad pa pb qa qb ra rb ha hb Z).flatten) 1 6 := by
  refine ((kX7_rate l X kS hst (ad 0) (ad 1) (ad 2) (qa 0) (ad 3) (ra 0) (ad 4) (ad 5) (ad 6) (zI Z 0) (zI Z 1) pa pb (zP Z) i (hPI) (hi9)).blk (clB X ad pa pb qa qb ra rb ha hb Z) clL [0, 2, 3] rfl (blt rfl) rfl (by decide +kernel)).weak (fun v9 w9 h9 => ?_) (fun E9 w9 h9 => ?_)
  · obtain ⟨w1, ⟨f0, hv9, rfl⟩, hW⟩ := h9
    exact ⟨f0, hv9, (hW [(clB X ad pa pb qa qb ra rb ha hb Z).getD 0 [], (clB X ad pa pb qa qb ra rb ha hb Z).getD 2 [], (clB X ad pa pb qa qb ra rb ha hb Z).getD 3 []] rfl rfl).trans rfl⟩
  · obtain ⟨w1, ⟨f0, f1, rfl⟩, hW⟩ := h9
    exact ⟨f0, f1, (hW [(clB X ad pa pb qa qb ra rb ha hb Z).getD 0 [], (clB X ad pa pb qa qb ra rb ha hb Z).getD 2 [], (clB X ad pa pb qa qb ra rb ha hb Z).getD 3 []] rfl rfl).trans rfl⟩

set_option maxHeartbeats 1000000 in
set_option maxRecDepth 100000 in
theorem uX7_monthsLeft (l : Launch) (X : KX) (kS : Nat → Nat) (hst : l.stackTraces = false) (ad pa pb qa qb ra rb : Nat → Nat) (ha hb : Nat → Nat → Nat) (Z : CZ) (i : Int) (hPI : PI (zP Z)) (hi9 : i32 i) : CT l X kS yX7_monthsLeft wsX7_monthsLeft ({ frames := 7, cells := 1, slots := 6, locals := 121 }) [.ref (ad 0), .int (iI i)] (clB X ad pa pb qa qb ra rb ha hb Z).flatten (fun v9 w9 => (0 ≤ i ∧ i < Pn (zP Z)) ∧ v9 = some (.int (iI (PL (zP Z) i.toNat 3))) ∧ w9 = (clB X ad pa pb qa qb ra rb ha hb Z).flatten) (fun E9 w9 => (E9 = "java/lang/IndexOutOfBoundsException") ∧ (¬ (0 ≤ i ∧ i < Pn (zP Z))) ∧ w9 = (clB X ad pa pb qa qb ra rb ha hb Z).flatten) 1 6 := by
  refine ((kX7_monthsLeft l X kS hst (ad 0) (ad 1) (ad 2) (qa 0) (ad 3) (ra 0) (ad 4) (ad 5) (ad 6) (zI Z 0) (zI Z 1) pa pb (zP Z) i (hPI) (hi9)).blk (clB X ad pa pb qa qb ra rb ha hb Z) clL [0, 2, 3] rfl (blt rfl) rfl (by decide +kernel)).weak (fun v9 w9 h9 => ?_) (fun E9 w9 h9 => ?_)
  · obtain ⟨w1, ⟨f0, hv9, rfl⟩, hW⟩ := h9
    exact ⟨f0, hv9, (hW [(clB X ad pa pb qa qb ra rb ha hb Z).getD 0 [], (clB X ad pa pb qa qb ra rb ha hb Z).getD 2 [], (clB X ad pa pb qa qb ra rb ha hb Z).getD 3 []] rfl rfl).trans rfl⟩
  · obtain ⟨w1, ⟨f0, f1, rfl⟩, hW⟩ := h9
    exact ⟨f0, f1, (hW [(clB X ad pa pb qa qb ra rb ha hb Z).getD 0 [], (clB X ad pa pb qa qb ra rb ha hb Z).getD 2 [], (clB X ad pa pb qa qb ra rb ha hb Z).getD 3 []] rfl rfl).trans rfl⟩

set_option maxHeartbeats 1000000 in
set_option maxRecDepth 100000 in
theorem uX7_installment (l : Launch) (X : KX) (kS : Nat → Nat) (hst : l.stackTraces = false) (ad pa pb qa qb ra rb : Nat → Nat) (ha hb : Nat → Nat → Nat) (Z : CZ) (i : Int) (hPI : PI (zP Z)) (hi9 : i32 i) : CT l X kS yX7_installment wsX7_installment ({ frames := 7, cells := 1, slots := 6, locals := 121 }) [.ref (ad 0), .int (iI i)] (clB X ad pa pb qa qb ra rb ha hb Z).flatten (fun v9 w9 => (0 ≤ i ∧ i < Pn (zP Z)) ∧ v9 = some (.int (iI (PL (zP Z) i.toNat 4))) ∧ w9 = (clB X ad pa pb qa qb ra rb ha hb Z).flatten) (fun E9 w9 => (E9 = "java/lang/IndexOutOfBoundsException") ∧ (¬ (0 ≤ i ∧ i < Pn (zP Z))) ∧ w9 = (clB X ad pa pb qa qb ra rb ha hb Z).flatten) 1 6 := by
  refine ((kX7_installment l X kS hst (ad 0) (ad 1) (ad 2) (qa 0) (ad 3) (ra 0) (ad 4) (ad 5) (ad 6) (zI Z 0) (zI Z 1) pa pb (zP Z) i (hPI) (hi9)).blk (clB X ad pa pb qa qb ra rb ha hb Z) clL [0, 2, 3] rfl (blt rfl) rfl (by decide +kernel)).weak (fun v9 w9 h9 => ?_) (fun E9 w9 h9 => ?_)
  · obtain ⟨w1, ⟨f0, hv9, rfl⟩, hW⟩ := h9
    exact ⟨f0, hv9, (hW [(clB X ad pa pb qa qb ra rb ha hb Z).getD 0 [], (clB X ad pa pb qa qb ra rb ha hb Z).getD 2 [], (clB X ad pa pb qa qb ra rb ha hb Z).getD 3 []] rfl rfl).trans rfl⟩
  · obtain ⟨w1, ⟨f0, f1, rfl⟩, hW⟩ := h9
    exact ⟨f0, f1, (hW [(clB X ad pa pb qa qb ra rb ha hb Z).getD 0 [], (clB X ad pa pb qa qb ra rb ha hb Z).getD 2 [], (clB X ad pa pb qa qb ra rb ha hb Z).getD 3 []] rfl rfl).trans rfl⟩

set_option maxHeartbeats 1000000 in
set_option maxRecDepth 100000 in
theorem uX7_carry (l : Launch) (X : KX) (kS : Nat → Nat) (hst : l.stackTraces = false) (ad pa pb qa qb ra rb : Nat → Nat) (ha hb : Nat → Nat → Nat) (Z : CZ) (i : Int) (hPI : PI (zP Z)) (hi9 : i32 i) : CT l X kS yX7_carry wsX7_carry ({ frames := 7, cells := 1, slots := 6, locals := 121 }) [.ref (ad 0), .int (iI i)] (clB X ad pa pb qa qb ra rb ha hb Z).flatten (fun v9 w9 => (0 ≤ i ∧ i < Pn (zP Z)) ∧ v9 = some (.int (iI (PL (zP Z) i.toNat 5))) ∧ w9 = (clB X ad pa pb qa qb ra rb ha hb Z).flatten) (fun E9 w9 => (E9 = "java/lang/IndexOutOfBoundsException") ∧ (¬ (0 ≤ i ∧ i < Pn (zP Z))) ∧ w9 = (clB X ad pa pb qa qb ra rb ha hb Z).flatten) 1 6 := by
  refine ((kX7_carry l X kS hst (ad 0) (ad 1) (ad 2) (qa 0) (ad 3) (ra 0) (ad 4) (ad 5) (ad 6) (zI Z 0) (zI Z 1) pa pb (zP Z) i (hPI) (hi9)).blk (clB X ad pa pb qa qb ra rb ha hb Z) clL [0, 2, 3] rfl (blt rfl) rfl (by decide +kernel)).weak (fun v9 w9 h9 => ?_) (fun E9 w9 h9 => ?_)
  · obtain ⟨w1, ⟨f0, hv9, rfl⟩, hW⟩ := h9
    exact ⟨f0, hv9, (hW [(clB X ad pa pb qa qb ra rb ha hb Z).getD 0 [], (clB X ad pa pb qa qb ra rb ha hb Z).getD 2 [], (clB X ad pa pb qa qb ra rb ha hb Z).getD 3 []] rfl rfl).trans rfl⟩
  · obtain ⟨w1, ⟨f0, f1, rfl⟩, hW⟩ := h9
    exact ⟨f0, f1, (hW [(clB X ad pa pb qa qb ra rb ha hb Z).getD 0 [], (clB X ad pa pb qa qb ra rb ha hb Z).getD 2 [], (clB X ad pa pb qa qb ra rb ha hb Z).getD 3 []] rfl rfl).trans rfl⟩

set_option maxHeartbeats 1000000 in
set_option maxRecDepth 100000 in
theorem uX7_interestDue (l : Launch) (X : KX) (kS : Nat → Nat) (hst : l.stackTraces = false) (ad pa pb qa qb ra rb : Nat → Nat) (ha hb : Nat → Nat → Nat) (Z : CZ) (i : Int) (hPI : PI (zP Z)) (hi9 : i32 i) : CT l X kS yX7_interestDue wsX7_interestDue ({ frames := 7, cells := 1, slots := 6, locals := 121 }) [.ref (ad 0), .int (iI i)] (clB X ad pa pb qa qb ra rb ha hb Z).flatten (fun v9 w9 => (0 ≤ i ∧ i < Pn (zP Z)) ∧ v9 = some (.int (iI (fI (PL (zP Z) i.toNat 1) (PL (zP Z) i.toNat 2) (PL (zP Z) i.toNat 5)))) ∧ w9 = (clB X ad pa pb qa qb ra rb ha hb Z).flatten) (fun E9 w9 => (E9 = "java/lang/IndexOutOfBoundsException") ∧ (¬ (0 ≤ i ∧ i < Pn (zP Z))) ∧ w9 = (clB X ad pa pb qa qb ra rb ha hb Z).flatten) 1 6 := by
  refine ((kX7_interestDue l X kS hst (ad 0) (ad 1) (ad 2) (qa 0) (ad 3) (ra 0) (ad 4) (ad 5) (ad 6) (zI Z 0) (zI Z 1) pa pb (zP Z) i (hPI) (hi9)).blk (clB X ad pa pb qa qb ra rb ha hb Z) clL [0, 2, 3] rfl (blt rfl) rfl (by decide +kernel)).weak (fun v9 w9 h9 => ?_) (fun E9 w9 h9 => ?_)
  · obtain ⟨w1, ⟨f0, hv9, rfl⟩, hW⟩ := h9
    exact ⟨f0, hv9, (hW [(clB X ad pa pb qa qb ra rb ha hb Z).getD 0 [], (clB X ad pa pb qa qb ra rb ha hb Z).getD 2 [], (clB X ad pa pb qa qb ra rb ha hb Z).getD 3 []] rfl rfl).trans rfl⟩
  · obtain ⟨w1, ⟨f0, f1, rfl⟩, hW⟩ := h9
    exact ⟨f0, f1, (hW [(clB X ad pa pb qa qb ra rb ha hb Z).getD 0 [], (clB X ad pa pb qa qb ra rb ha hb Z).getD 2 [], (clB X ad pa pb qa qb ra rb ha hb Z).getD 3 []] rfl rfl).trans rfl⟩

set_option maxHeartbeats 1000000 in
set_option maxRecDepth 100000 in
theorem uX7_amountDue (l : Launch) (X : KX) (kS : Nat → Nat) (hst : l.stackTraces = false) (ad pa pb qa qb ra rb : Nat → Nat) (ha hb : Nat → Nat → Nat) (Z : CZ) (i : Int) (hPI : PI (zP Z)) (hi9 : i32 i) : CT l X kS yX7_amountDue wsX7_amountDue ({ frames := 7, cells := 1, slots := 6, locals := 121 }) [.ref (ad 0), .int (iI i)] (clB X ad pa pb qa qb ra rb ha hb Z).flatten (fun v9 w9 => (0 ≤ i ∧ i < Pn (zP Z)) ∧ v9 = some (.int (iI (dueL (PL (zP Z) i.toNat)))) ∧ w9 = (clB X ad pa pb qa qb ra rb ha hb Z).flatten) (fun E9 w9 => (E9 = "java/lang/IndexOutOfBoundsException") ∧ (¬ (0 ≤ i ∧ i < Pn (zP Z))) ∧ w9 = (clB X ad pa pb qa qb ra rb ha hb Z).flatten) 1 6 := by
  refine ((kX7_amountDue l X kS hst (ad 0) (ad 1) (ad 2) (qa 0) (ad 3) (ra 0) (ad 4) (ad 5) (ad 6) (zI Z 0) (zI Z 1) pa pb (zP Z) i (hPI) (hi9)).blk (clB X ad pa pb qa qb ra rb ha hb Z) clL [0, 2, 3] rfl (blt rfl) rfl (by decide +kernel)).weak (fun v9 w9 h9 => ?_) (fun E9 w9 h9 => ?_)
  · obtain ⟨w1, ⟨f0, hv9, rfl⟩, hW⟩ := h9
    exact ⟨f0, hv9, (hW [(clB X ad pa pb qa qb ra rb ha hb Z).getD 0 [], (clB X ad pa pb qa qb ra rb ha hb Z).getD 2 [], (clB X ad pa pb qa qb ra rb ha hb Z).getD 3 []] rfl rfl).trans rfl⟩
  · obtain ⟨w1, ⟨f0, f1, rfl⟩, hW⟩ := h9
    exact ⟨f0, f1, (hW [(clB X ad pa pb qa qb ra rb ha hb Z).getD 0 [], (clB X ad pa pb qa qb ra rb ha hb Z).getD 2 [], (clB X ad pa pb qa qb ra rb ha hb Z).getD 3 []] rfl rfl).trans rfl⟩

set_option maxHeartbeats 1000000 in
set_option maxRecDepth 100000 in
theorem uX7_interestSoFar (l : Launch) (X : KX) (kS : Nat → Nat) (hst : l.stackTraces = false) (ad pa pb qa qb ra rb : Nat → Nat) (ha hb : Nat → Nat → Nat) (Z : CZ) (i : Int) (hPI : PI (zP Z)) (hi9 : i32 i) : CT l X kS yX7_interestSoFar wsX7_interestSoFar ({ frames := 7, cells := 1, slots := 6, locals := 121 }) [.ref (ad 0), .int (iI i)] (clB X ad pa pb qa qb ra rb ha hb Z).flatten (fun v9 w9 => (0 ≤ i ∧ i < Pn (zP Z)) ∧ v9 = some (.int (iI (PL (zP Z) i.toNat 6))) ∧ w9 = (clB X ad pa pb qa qb ra rb ha hb Z).flatten) (fun E9 w9 => (E9 = "java/lang/IndexOutOfBoundsException") ∧ (¬ (0 ≤ i ∧ i < Pn (zP Z))) ∧ w9 = (clB X ad pa pb qa qb ra rb ha hb Z).flatten) 1 6 := by
  refine ((kX7_interestSoFar l X kS hst (ad 0) (ad 1) (ad 2) (qa 0) (ad 3) (ra 0) (ad 4) (ad 5) (ad 6) (zI Z 0) (zI Z 1) pa pb (zP Z) i (hPI) (hi9)).blk (clB X ad pa pb qa qb ra rb ha hb Z) clL [0, 2, 3] rfl (blt rfl) rfl (by decide +kernel)).weak (fun v9 w9 h9 => ?_) (fun E9 w9 h9 => ?_)
  · obtain ⟨w1, ⟨f0, hv9, rfl⟩, hW⟩ := h9
    exact ⟨f0, hv9, (hW [(clB X ad pa pb qa qb ra rb ha hb Z).getD 0 [], (clB X ad pa pb qa qb ra rb ha hb Z).getD 2 [], (clB X ad pa pb qa qb ra rb ha hb Z).getD 3 []] rfl rfl).trans rfl⟩
  · obtain ⟨w1, ⟨f0, f1, rfl⟩, hW⟩ := h9
    exact ⟨f0, f1, (hW [(clB X ad pa pb qa qb ra rb ha hb Z).getD 0 [], (clB X ad pa pb qa qb ra rb ha hb Z).getD 2 [], (clB X ad pa pb qa qb ra rb ha hb Z).getD 3 []] rfl rfl).trans rfl⟩

set_option maxHeartbeats 1000000 in
set_option maxRecDepth 100000 in
theorem uX7_paidSoFar (l : Launch) (X : KX) (kS : Nat → Nat) (hst : l.stackTraces = false) (ad pa pb qa qb ra rb : Nat → Nat) (ha hb : Nat → Nat → Nat) (Z : CZ) (i : Int) (hPI : PI (zP Z)) (hi9 : i32 i) : CT l X kS yX7_paidSoFar wsX7_paidSoFar ({ frames := 7, cells := 1, slots := 6, locals := 121 }) [.ref (ad 0), .int (iI i)] (clB X ad pa pb qa qb ra rb ha hb Z).flatten (fun v9 w9 => (0 ≤ i ∧ i < Pn (zP Z)) ∧ v9 = some (.int (iI (PL (zP Z) i.toNat 7))) ∧ w9 = (clB X ad pa pb qa qb ra rb ha hb Z).flatten) (fun E9 w9 => (E9 = "java/lang/IndexOutOfBoundsException") ∧ (¬ (0 ≤ i ∧ i < Pn (zP Z))) ∧ w9 = (clB X ad pa pb qa qb ra rb ha hb Z).flatten) 1 6 := by
  refine ((kX7_paidSoFar l X kS hst (ad 0) (ad 1) (ad 2) (qa 0) (ad 3) (ra 0) (ad 4) (ad 5) (ad 6) (zI Z 0) (zI Z 1) pa pb (zP Z) i (hPI) (hi9)).blk (clB X ad pa pb qa qb ra rb ha hb Z) clL [0, 2, 3] rfl (blt rfl) rfl (by decide +kernel)).weak (fun v9 w9 h9 => ?_) (fun E9 w9 h9 => ?_)
  · obtain ⟨w1, ⟨f0, hv9, rfl⟩, hW⟩ := h9
    exact ⟨f0, hv9, (hW [(clB X ad pa pb qa qb ra rb ha hb Z).getD 0 [], (clB X ad pa pb qa qb ra rb ha hb Z).getD 2 [], (clB X ad pa pb qa qb ra rb ha hb Z).getD 3 []] rfl rfl).trans rfl⟩
  · obtain ⟨w1, ⟨f0, f1, rfl⟩, hW⟩ := h9
    exact ⟨f0, f1, (hW [(clB X ad pa pb qa qb ra rb ha hb Z).getD 0 [], (clB X ad pa pb qa qb ra rb ha hb Z).getD 2 [], (clB X ad pa pb qa qb ra rb ha hb Z).getD 3 []] rfl rfl).trans rfl⟩

set_option maxHeartbeats 1000000 in
set_option maxRecDepth 100000 in
theorem uX7_paidMonths (l : Launch) (X : KX) (kS : Nat → Nat) (hst : l.stackTraces = false) (ad pa pb qa qb ra rb : Nat → Nat) (ha hb : Nat → Nat → Nat) (Z : CZ) (i : Int) (hPI : PI (zP Z)) (hi9 : i32 i) : CT l X kS yX7_paidMonths wsX7_paidMonths ({ frames := 7, cells := 1, slots := 6, locals := 121 }) [.ref (ad 0), .int (iI i)] (clB X ad pa pb qa qb ra rb ha hb Z).flatten (fun v9 w9 => (0 ≤ i ∧ i < Pn (zP Z)) ∧ v9 = some (.int (iI (PL (zP Z) i.toNat 8))) ∧ w9 = (clB X ad pa pb qa qb ra rb ha hb Z).flatten) (fun E9 w9 => (E9 = "java/lang/IndexOutOfBoundsException") ∧ (¬ (0 ≤ i ∧ i < Pn (zP Z))) ∧ w9 = (clB X ad pa pb qa qb ra rb ha hb Z).flatten) 1 6 := by
  refine ((kX7_paidMonths l X kS hst (ad 0) (ad 1) (ad 2) (qa 0) (ad 3) (ra 0) (ad 4) (ad 5) (ad 6) (zI Z 0) (zI Z 1) pa pb (zP Z) i (hPI) (hi9)).blk (clB X ad pa pb qa qb ra rb ha hb Z) clL [0, 2, 3] rfl (blt rfl) rfl (by decide +kernel)).weak (fun v9 w9 h9 => ?_) (fun E9 w9 h9 => ?_)
  · obtain ⟨w1, ⟨f0, hv9, rfl⟩, hW⟩ := h9
    exact ⟨f0, hv9, (hW [(clB X ad pa pb qa qb ra rb ha hb Z).getD 0 [], (clB X ad pa pb qa qb ra rb ha hb Z).getD 2 [], (clB X ad pa pb qa qb ra rb ha hb Z).getD 3 []] rfl rfl).trans rfl⟩
  · obtain ⟨w1, ⟨f0, f1, rfl⟩, hW⟩ := h9
    exact ⟨f0, f1, (hW [(clB X ad pa pb qa qb ra rb ha hb Z).getD 0 [], (clB X ad pa pb qa qb ra rb ha hb Z).getD 2 [], (clB X ad pa pb qa qb ra rb ha hb Z).getD 3 []] rfl rfl).trans rfl⟩

set_option maxHeartbeats 1000000 in
set_option maxRecDepth 100000 in
theorem uX7_skippedMonths (l : Launch) (X : KX) (kS : Nat → Nat) (hst : l.stackTraces = false) (ad pa pb qa qb ra rb : Nat → Nat) (ha hb : Nat → Nat → Nat) (Z : CZ) (i : Int) (hPI : PI (zP Z)) (hi9 : i32 i) : CT l X kS yX7_skippedMonths wsX7_skippedMonths ({ frames := 7, cells := 1, slots := 6, locals := 121 }) [.ref (ad 0), .int (iI i)] (clB X ad pa pb qa qb ra rb ha hb Z).flatten (fun v9 w9 => (0 ≤ i ∧ i < Pn (zP Z)) ∧ v9 = some (.int (iI (PL (zP Z) i.toNat 9))) ∧ w9 = (clB X ad pa pb qa qb ra rb ha hb Z).flatten) (fun E9 w9 => (E9 = "java/lang/IndexOutOfBoundsException") ∧ (¬ (0 ≤ i ∧ i < Pn (zP Z))) ∧ w9 = (clB X ad pa pb qa qb ra rb ha hb Z).flatten) 1 6 := by
  refine ((kX7_skippedMonths l X kS hst (ad 0) (ad 1) (ad 2) (qa 0) (ad 3) (ra 0) (ad 4) (ad 5) (ad 6) (zI Z 0) (zI Z 1) pa pb (zP Z) i (hPI) (hi9)).blk (clB X ad pa pb qa qb ra rb ha hb Z) clL [0, 2, 3] rfl (blt rfl) rfl (by decide +kernel)).weak (fun v9 w9 h9 => ?_) (fun E9 w9 h9 => ?_)
  · obtain ⟨w1, ⟨f0, hv9, rfl⟩, hW⟩ := h9
    exact ⟨f0, hv9, (hW [(clB X ad pa pb qa qb ra rb ha hb Z).getD 0 [], (clB X ad pa pb qa qb ra rb ha hb Z).getD 2 [], (clB X ad pa pb qa qb ra rb ha hb Z).getD 3 []] rfl rfl).trans rfl⟩
  · obtain ⟨w1, ⟨f0, f1, rfl⟩, hW⟩ := h9
    exact ⟨f0, f1, (hW [(clB X ad pa pb qa qb ra rb ha hb Z).getD 0 [], (clB X ad pa pb qa qb ra rb ha hb Z).getD 2 [], (clB X ad pa pb qa qb ra rb ha hb Z).getD 3 []] rfl rfl).trans rfl⟩

set_option maxHeartbeats 1000000 in
set_option maxRecDepth 100000 in
theorem uX7_entryCount (l : Launch) (X : KX) (ad pa pb qa qb ra rb : Nat → Nat) (ha hb : Nat → Nat → Nat) (Z : CZ) (hPI : PI (zP Z)) : CM l X yX7_entryCount wsX7_entryCount ({ frames := 0, cells := 0, slots := 0, locals := 0 }) [.ref (ad 0)] (clB X ad pa pb qa qb ra rb ha hb Z).flatten (fun v9 w9 => v9 = some (.int (iI (Pk (zP Z)))) ∧ w9 = (clB X ad pa pb qa qb ra rb ha hb Z).flatten) 0 0 := by
  refine ((kX7_entryCount l X (ad 0) (ad 1) (ad 2) (qa 0) (ad 3) (ra 0) (ad 4) (ad 5) (ad 6) (zI Z 0) (zI Z 1) pa pb (zP Z) (hPI)).blk (clB X ad pa pb qa qb ra rb ha hb Z) clL [0, 2, 3] rfl (blt rfl) rfl (by decide +kernel)).weak (fun v9 w9 h9 => ?_)
  · obtain ⟨w1, ⟨hv9, rfl⟩, hW⟩ := h9
    exact ⟨hv9, (hW [(clB X ad pa pb qa qb ra rb ha hb Z).getD 0 [], (clB X ad pa pb qa qb ra rb ha hb Z).getD 2 [], (clB X ad pa pb qa qb ra rb ha hb Z).getD 3 []] rfl rfl).trans rfl⟩

set_option maxHeartbeats 1000000 in
set_option maxRecDepth 100000 in
theorem uX7_entryLoan (l : Launch) (X : KX) (ad pa pb qa qb ra rb : Nat → Nat) (ha hb : Nat → Nat → Nat) (Z : CZ) (i : Int) (hPI : PI (zP Z)) (hi9 : i32 i) : CM l X yX7_entryLoan wsX7_entryLoan ({ frames := 1, cells := 0, slots := 0, locals := 22 }) [.ref (ad 0), .int (iI i)] (clB X ad pa pb qa qb ra rb ha hb Z).flatten (fun v9 w9 => ∃ z : Int, ((¬ (0 ≤ i ∧ i < Pk (zP Z)) ∧ z = -1) ∨ (0 ≤ i ∧ i < Pk (zP Z) ∧ z = Pa (zP Z) ((Px (zP Z) - 1 - i) % 20).toNat)) ∧ v9 = some (.int (iI z)) ∧ w9 = (clB X ad pa pb qa qb ra rb ha hb Z).flatten) 0 0 := by
  refine ((kX7_entryLoan l X (ad 0) (ad 1) (ad 2) (qa 0) (ad 3) (ra 0) (ad 4) (ad 5) (ad 6) (zI Z 0) (zI Z 1) pa pb (zP Z) i (hPI) (hi9)).blk (clB X ad pa pb qa qb ra rb ha hb Z) clL [0, 2, 3] rfl (blt rfl) rfl (by decide +kernel)).weak (fun v9 w9 h9 => ?_)
  · obtain ⟨w1, ⟨z, f0, hv9, rfl⟩, hW⟩ := h9
    exact ⟨z, f0, hv9, (hW [(clB X ad pa pb qa qb ra rb ha hb Z).getD 0 [], (clB X ad pa pb qa qb ra rb ha hb Z).getD 2 [], (clB X ad pa pb qa qb ra rb ha hb Z).getD 3 []] rfl rfl).trans rfl⟩

set_option maxHeartbeats 1000000 in
set_option maxRecDepth 100000 in
theorem uX7_entryAmount (l : Launch) (X : KX) (ad pa pb qa qb ra rb : Nat → Nat) (ha hb : Nat → Nat → Nat) (Z : CZ) (i : Int) (hPI : PI (zP Z)) (hi9 : i32 i) : CM l X yX7_entryAmount wsX7_entryAmount ({ frames := 1, cells := 0, slots := 0, locals := 22 }) [.ref (ad 0), .int (iI i)] (clB X ad pa pb qa qb ra rb ha hb Z).flatten (fun v9 w9 => ∃ z : Int, ((¬ (0 ≤ i ∧ i < Pk (zP Z)) ∧ z = -1) ∨ (0 ≤ i ∧ i < Pk (zP Z) ∧ z = Pb (zP Z) ((Px (zP Z) - 1 - i) % 20).toNat)) ∧ v9 = some (.int (iI z)) ∧ w9 = (clB X ad pa pb qa qb ra rb ha hb Z).flatten) 0 0 := by
  refine ((kX7_entryAmount l X (ad 0) (ad 1) (ad 2) (qa 0) (ad 3) (ra 0) (ad 4) (ad 5) (ad 6) (zI Z 0) (zI Z 1) pa pb (zP Z) i (hPI) (hi9)).blk (clB X ad pa pb qa qb ra rb ha hb Z) clL [0, 2, 3] rfl (blt rfl) rfl (by decide +kernel)).weak (fun v9 w9 h9 => ?_)
  · obtain ⟨w1, ⟨z, f0, hv9, rfl⟩, hW⟩ := h9
    exact ⟨z, f0, hv9, (hW [(clB X ad pa pb qa qb ra rb ha hb Z).getD 0 [], (clB X ad pa pb qa qb ra rb ha hb Z).getD 2 [], (clB X ad pa pb qa qb ra rb ha hb Z).getD 3 []] rfl rfl).trans rfl⟩

set_option maxHeartbeats 1000000 in
set_option maxRecDepth 100000 in
theorem uX7_entryInterest (l : Launch) (X : KX) (ad pa pb qa qb ra rb : Nat → Nat) (ha hb : Nat → Nat → Nat) (Z : CZ) (i : Int) (hPI : PI (zP Z)) (hi9 : i32 i) : CM l X yX7_entryInterest wsX7_entryInterest ({ frames := 1, cells := 0, slots := 0, locals := 22 }) [.ref (ad 0), .int (iI i)] (clB X ad pa pb qa qb ra rb ha hb Z).flatten (fun v9 w9 => ∃ z : Int, ((¬ (0 ≤ i ∧ i < Pk (zP Z)) ∧ z = -1) ∨ (0 ≤ i ∧ i < Pk (zP Z) ∧ z = Pd (zP Z) ((Px (zP Z) - 1 - i) % 20).toNat)) ∧ v9 = some (.int (iI z)) ∧ w9 = (clB X ad pa pb qa qb ra rb ha hb Z).flatten) 0 0 := by
  refine ((kX7_entryInterest l X (ad 0) (ad 1) (ad 2) (qa 0) (ad 3) (ra 0) (ad 4) (ad 5) (ad 6) (zI Z 0) (zI Z 1) pa pb (zP Z) i (hPI) (hi9)).blk (clB X ad pa pb qa qb ra rb ha hb Z) clL [0, 2, 3] rfl (blt rfl) rfl (by decide +kernel)).weak (fun v9 w9 h9 => ?_)
  · obtain ⟨w1, ⟨z, f0, hv9, rfl⟩, hW⟩ := h9
    exact ⟨z, f0, hv9, (hW [(clB X ad pa pb qa qb ra rb ha hb Z).getD 0 [], (clB X ad pa pb qa qb ra rb ha hb Z).getD 2 [], (clB X ad pa pb qa qb ra rb ha hb Z).getD 3 []] rfl rfl).trans rfl⟩

set_option maxHeartbeats 1000000 in
set_option maxRecDepth 100000 in
theorem uX7_interestOfPayment (l : Launch) (X : KX) (kS : Nat → Nat) (hst : l.stackTraces = false) (ad pa pb qa qb ra rb : Nat → Nat) (ha hb : Nat → Nat → Nat) (Z : CZ) (i : Int) (k : Int) (hPI : PI (zP Z)) (hi9 : i32 i) (hk9 : i32 k) : CT l X kS yX7_interestOfPayment wsX7_interestOfPayment ({ frames := 7, cells := 2, slots := 12, locals := 122 }) [.ref (ad 0), .int (iI i), .int (iI k)] (clB X ad pa pb qa qb ra rb ha hb Z).flatten (fun v9 w9 => ∃ A9 : Nat → Int, ∃ z : Int, (0 ≤ i ∧ i < Pn (zP Z)) ∧ (1 ≤ k ∧ k ≤ 120) ∧ ((0 < (runL (k - 1).toNat (PL (zP Z) i.toNat)) 1 ∧ z = fI ((runL (k - 1).toNat (PL (zP Z) i.toNat)) 1) ((runL (k - 1).toNat (PL (zP Z) i.toNat)) 2) ((runL (k - 1).toNat (PL (zP Z) i.toNat)) 5)) ∨ ((runL (k - 1).toNat (PL (zP Z) i.toNat)) 1 ≤ 0 ∧ z = -1)) ∧ v9 = some (.int (iI z)) ∧ w9 = (clB X ad pa pb qa qb ra rb ha hb (zI Z, zT Z, zB Z, zP Z, zS Z, zR Z, zQ Z, zL Z, (A9), zG Z)).flatten) (fun E9 w9 => ∃ A9 : Nat → Int, ((E9 = "java/lang/IndexOutOfBoundsException" ∧ ¬ (0 ≤ i ∧ i < Pn (zP Z))) ∨ (E9 = "java/lang/IllegalArgumentException" ∧ (0 ≤ i ∧ i < Pn (zP Z)) ∧ ¬ (1 ≤ k ∧ k ≤ 120))) ∧ w9 = (clB X ad pa pb qa qb ra rb ha hb (zI Z, zT Z, zB Z, zP Z, zS Z, zR Z, zQ Z, zL Z, (A9), zG Z)).flatten) 2 12 := by
  refine ((kX7_interestOfPayment l X kS hst (ad 0) (ad 1) (ad 2) (qa 0) (ad 3) (ra 0) (ad 4) (ad 5) (ad 6) (zI Z 0) (zI Z 1) (zA Z) pa pb (zP Z) i k (hPI) (hi9) (hk9)).blk (clB X ad pa pb qa qb ra rb ha hb Z) clL [0, 29, 2, 3] rfl (blt rfl) rfl (by decide +kernel)).weak (fun v9 w9 h9 => ?_) (fun E9 w9 h9 => ?_)
  · obtain ⟨w1, ⟨A9, z, f0, f1, f2, hv9, rfl⟩, hW⟩ := h9
    exact ⟨A9, z, f0, f1, f2, hv9, (hW [(clB X ad pa pb qa qb ra rb ha hb (zI Z, zT Z, zB Z, zP Z, zS Z, zR Z, zQ Z, zL Z, (A9), zG Z)).getD 0 [], (clB X ad pa pb qa qb ra rb ha hb (zI Z, zT Z, zB Z, zP Z, zS Z, zR Z, zQ Z, zL Z, (A9), zG Z)).getD 29 [], (clB X ad pa pb qa qb ra rb ha hb (zI Z, zT Z, zB Z, zP Z, zS Z, zR Z, zQ Z, zL Z, (A9), zG Z)).getD 2 [], (clB X ad pa pb qa qb ra rb ha hb (zI Z, zT Z, zB Z, zP Z, zS Z, zR Z, zQ Z, zL Z, (A9), zG Z)).getD 3 []] rfl rfl).trans rfl⟩
  · obtain ⟨w1, ⟨A9, f0, rfl⟩, hW⟩ := h9
    exact ⟨A9, f0, (hW [(clB X ad pa pb qa qb ra rb ha hb (zI Z, zT Z, zB Z, zP Z, zS Z, zR Z, zQ Z, zL Z, (A9), zG Z)).getD 0 [], (clB X ad pa pb qa qb ra rb ha hb (zI Z, zT Z, zB Z, zP Z, zS Z, zR Z, zQ Z, zL Z, (A9), zG Z)).getD 29 [], (clB X ad pa pb qa qb ra rb ha hb (zI Z, zT Z, zB Z, zP Z, zS Z, zR Z, zQ Z, zL Z, (A9), zG Z)).getD 2 [], (clB X ad pa pb qa qb ra rb ha hb (zI Z, zT Z, zB Z, zP Z, zS Z, zR Z, zQ Z, zL Z, (A9), zG Z)).getD 3 []] rfl rfl).trans rfl⟩

set_option maxHeartbeats 1000000 in
set_option maxRecDepth 100000 in
theorem uX7_amountOfPayment (l : Launch) (X : KX) (kS : Nat → Nat) (hst : l.stackTraces = false) (ad pa pb qa qb ra rb : Nat → Nat) (ha hb : Nat → Nat → Nat) (Z : CZ) (i : Int) (k : Int) (hPI : PI (zP Z)) (hi9 : i32 i) (hk9 : i32 k) : CT l X kS yX7_amountOfPayment wsX7_amountOfPayment ({ frames := 7, cells := 2, slots := 12, locals := 122 }) [.ref (ad 0), .int (iI i), .int (iI k)] (clB X ad pa pb qa qb ra rb ha hb Z).flatten (fun v9 w9 => ∃ A9 : Nat → Int, ∃ z : Int, (0 ≤ i ∧ i < Pn (zP Z)) ∧ (1 ≤ k ∧ k ≤ 120) ∧ ((0 < (runL (k - 1).toNat (PL (zP Z) i.toNat)) 1 ∧ z = dueL (runL (k - 1).toNat (PL (zP Z) i.toNat))) ∨ ((runL (k - 1).toNat (PL (zP Z) i.toNat)) 1 ≤ 0 ∧ z = -1)) ∧ v9 = some (.int (iI z)) ∧ w9 = (clB X ad pa pb qa qb ra rb ha hb (zI Z, zT Z, zB Z, zP Z, zS Z, zR Z, zQ Z, zL Z, (A9), zG Z)).flatten) (fun E9 w9 => ∃ A9 : Nat → Int, ((E9 = "java/lang/IndexOutOfBoundsException" ∧ ¬ (0 ≤ i ∧ i < Pn (zP Z))) ∨ (E9 = "java/lang/IllegalArgumentException" ∧ (0 ≤ i ∧ i < Pn (zP Z)) ∧ ¬ (1 ≤ k ∧ k ≤ 120))) ∧ w9 = (clB X ad pa pb qa qb ra rb ha hb (zI Z, zT Z, zB Z, zP Z, zS Z, zR Z, zQ Z, zL Z, (A9), zG Z)).flatten) 2 12 := by
  refine ((kX7_amountOfPayment l X kS hst (ad 0) (ad 1) (ad 2) (qa 0) (ad 3) (ra 0) (ad 4) (ad 5) (ad 6) (zI Z 0) (zI Z 1) (zA Z) pa pb (zP Z) i k (hPI) (hi9) (hk9)).blk (clB X ad pa pb qa qb ra rb ha hb Z) clL [0, 29, 2, 3] rfl (blt rfl) rfl (by decide +kernel)).weak (fun v9 w9 h9 => ?_) (fun E9 w9 h9 => ?_)
  · obtain ⟨w1, ⟨A9, z, f0, f1, f2, hv9, rfl⟩, hW⟩ := h9
    exact ⟨A9, z, f0, f1, f2, hv9, (hW [(clB X ad pa pb qa qb ra rb ha hb (zI Z, zT Z, zB Z, zP Z, zS Z, zR Z, zQ Z, zL Z, (A9), zG Z)).getD 0 [], (clB X ad pa pb qa qb ra rb ha hb (zI Z, zT Z, zB Z, zP Z, zS Z, zR Z, zQ Z, zL Z, (A9), zG Z)).getD 29 [], (clB X ad pa pb qa qb ra rb ha hb (zI Z, zT Z, zB Z, zP Z, zS Z, zR Z, zQ Z, zL Z, (A9), zG Z)).getD 2 [], (clB X ad pa pb qa qb ra rb ha hb (zI Z, zT Z, zB Z, zP Z, zS Z, zR Z, zQ Z, zL Z, (A9), zG Z)).getD 3 []] rfl rfl).trans rfl⟩
  · obtain ⟨w1, ⟨A9, f0, rfl⟩, hW⟩ := h9
    exact ⟨A9, f0, (hW [(clB X ad pa pb qa qb ra rb ha hb (zI Z, zT Z, zB Z, zP Z, zS Z, zR Z, zQ Z, zL Z, (A9), zG Z)).getD 0 [], (clB X ad pa pb qa qb ra rb ha hb (zI Z, zT Z, zB Z, zP Z, zS Z, zR Z, zQ Z, zL Z, (A9), zG Z)).getD 29 [], (clB X ad pa pb qa qb ra rb ha hb (zI Z, zT Z, zB Z, zP Z, zS Z, zR Z, zQ Z, zL Z, (A9), zG Z)).getD 2 [], (clB X ad pa pb qa qb ra rb ha hb (zI Z, zT Z, zB Z, zP Z, zS Z, zR Z, zQ Z, zL Z, (A9), zG Z)).getD 3 []] rfl rfl).trans rfl⟩

set_option maxHeartbeats 1000000 in
set_option maxRecDepth 100000 in
theorem uX7_paymentsTo (l : Launch) (X : KX) (kS : Nat → Nat) (hst : l.stackTraces = false) (ad pa pb qa qb ra rb : Nat → Nat) (ha hb : Nat → Nat → Nat) (Z : CZ) (i : Int) (k : Int) (hPI : PI (zP Z)) (hi9 : i32 i) (hk9 : i32 k) : CT l X kS yX7_paymentsTo wsX7_paymentsTo ({ frames := 7, cells := 2, slots := 12, locals := 122 }) [.ref (ad 0), .int (iI i), .int (iI k)] (clB X ad pa pb qa qb ra rb ha hb Z).flatten (fun v9 w9 => ∃ A9 : Nat → Int, (0 ≤ i ∧ i < Pn (zP Z)) ∧ (0 ≤ k ∧ k ≤ 9999999) ∧ v9 = some (.int (iI (untL 120 (PL (zP Z) i.toNat) k))) ∧ w9 = (clB X ad pa pb qa qb ra rb ha hb (zI Z, zT Z, zB Z, zP Z, zS Z, zR Z, zQ Z, zL Z, (A9), zG Z)).flatten) (fun E9 w9 => ((E9 = "java/lang/IndexOutOfBoundsException" ∧ ¬ (0 ≤ i ∧ i < Pn (zP Z))) ∨ (E9 = "java/lang/IllegalArgumentException" ∧ (0 ≤ i ∧ i < Pn (zP Z)) ∧ ¬ (0 ≤ k ∧ k ≤ 9999999))) ∧ w9 = (clB X ad pa pb qa qb ra rb ha hb Z).flatten) 2 12 := by
  refine ((kX7_paymentsTo l X kS hst (ad 0) (ad 1) (ad 2) (qa 0) (ad 3) (ra 0) (ad 4) (ad 5) (ad 6) (zI Z 0) (zI Z 1) (zA Z) pa pb (zP Z) i k (hPI) (hi9) (hk9)).blk (clB X ad pa pb qa qb ra rb ha hb Z) clL [0, 29, 2, 3] rfl (blt rfl) rfl (by decide +kernel)).weak (fun v9 w9 h9 => ?_) (fun E9 w9 h9 => ?_)
  · obtain ⟨w1, ⟨A9, f0, f1, hv9, rfl⟩, hW⟩ := h9
    exact ⟨A9, f0, f1, hv9, (hW [(clB X ad pa pb qa qb ra rb ha hb (zI Z, zT Z, zB Z, zP Z, zS Z, zR Z, zQ Z, zL Z, (A9), zG Z)).getD 0 [], (clB X ad pa pb qa qb ra rb ha hb (zI Z, zT Z, zB Z, zP Z, zS Z, zR Z, zQ Z, zL Z, (A9), zG Z)).getD 29 [], (clB X ad pa pb qa qb ra rb ha hb (zI Z, zT Z, zB Z, zP Z, zS Z, zR Z, zQ Z, zL Z, (A9), zG Z)).getD 2 [], (clB X ad pa pb qa qb ra rb ha hb (zI Z, zT Z, zB Z, zP Z, zS Z, zR Z, zQ Z, zL Z, (A9), zG Z)).getD 3 []] rfl rfl).trans rfl⟩
  · obtain ⟨w1, ⟨f0, rfl⟩, hW⟩ := h9
    exact ⟨f0, (hW [(clB X ad pa pb qa qb ra rb ha hb Z).getD 0 [], (clB X ad pa pb qa qb ra rb ha hb Z).getD 29 [], (clB X ad pa pb qa qb ra rb ha hb Z).getD 2 [], (clB X ad pa pb qa qb ra rb ha hb Z).getD 3 []] rfl rfl).trans rfl⟩

set_option maxHeartbeats 1000000 in
set_option maxRecDepth 100000 in
theorem uX7_balanceAfter (l : Launch) (X : KX) (kS : Nat → Nat) (hst : l.stackTraces = false) (ad pa pb qa qb ra rb : Nat → Nat) (ha hb : Nat → Nat → Nat) (Z : CZ) (i : Int) (k : Int) (hPI : PI (zP Z)) (hi9 : i32 i) (hk9 : i32 k) : CT l X kS yX7_balanceAfter wsX7_balanceAfter ({ frames := 7, cells := 2, slots := 12, locals := 122 }) [.ref (ad 0), .int (iI i), .int (iI k)] (clB X ad pa pb qa qb ra rb ha hb Z).flatten (fun v9 w9 => ∃ A9 : Nat → Int, (0 ≤ i ∧ i < Pn (zP Z)) ∧ (0 ≤ k ∧ k ≤ 120) ∧ v9 = some (.int (iI (runL k.toNat (PL (zP Z) i.toNat) 1))) ∧ w9 = (clB X ad pa pb qa qb ra rb ha hb (zI Z, zT Z, zB Z, zP Z, zS Z, zR Z, zQ Z, zL Z, (A9), zG Z)).flatten) (fun E9 w9 => ∃ A9 : Nat → Int, ((E9 = "java/lang/IndexOutOfBoundsException" ∧ ¬ (0 ≤ i ∧ i < Pn (zP Z))) ∨ (E9 = "java/lang/IllegalArgumentException" ∧ (0 ≤ i ∧ i < Pn (zP Z)) ∧ ¬ (0 ≤ k ∧ k ≤ 120))) ∧ w9 = (clB X ad pa pb qa qb ra rb ha hb (zI Z, zT Z, zB Z, zP Z, zS Z, zR Z, zQ Z, zL Z, (A9), zG Z)).flatten) 2 12 := by
  refine ((kX7_balanceAfter l X kS hst (ad 0) (ad 1) (ad 2) (qa 0) (ad 3) (ra 0) (ad 4) (ad 5) (ad 6) (zI Z 0) (zI Z 1) (zA Z) pa pb (zP Z) i k (hPI) (hi9) (hk9)).blk (clB X ad pa pb qa qb ra rb ha hb Z) clL [0, 29, 2, 3] rfl (blt rfl) rfl (by decide +kernel)).weak (fun v9 w9 h9 => ?_) (fun E9 w9 h9 => ?_)
  · obtain ⟨w1, ⟨A9, f0, f1, hv9, rfl⟩, hW⟩ := h9
    exact ⟨A9, f0, f1, hv9, (hW [(clB X ad pa pb qa qb ra rb ha hb (zI Z, zT Z, zB Z, zP Z, zS Z, zR Z, zQ Z, zL Z, (A9), zG Z)).getD 0 [], (clB X ad pa pb qa qb ra rb ha hb (zI Z, zT Z, zB Z, zP Z, zS Z, zR Z, zQ Z, zL Z, (A9), zG Z)).getD 29 [], (clB X ad pa pb qa qb ra rb ha hb (zI Z, zT Z, zB Z, zP Z, zS Z, zR Z, zQ Z, zL Z, (A9), zG Z)).getD 2 [], (clB X ad pa pb qa qb ra rb ha hb (zI Z, zT Z, zB Z, zP Z, zS Z, zR Z, zQ Z, zL Z, (A9), zG Z)).getD 3 []] rfl rfl).trans rfl⟩
  · obtain ⟨w1, ⟨A9, f0, rfl⟩, hW⟩ := h9
    exact ⟨A9, f0, (hW [(clB X ad pa pb qa qb ra rb ha hb (zI Z, zT Z, zB Z, zP Z, zS Z, zR Z, zQ Z, zL Z, (A9), zG Z)).getD 0 [], (clB X ad pa pb qa qb ra rb ha hb (zI Z, zT Z, zB Z, zP Z, zS Z, zR Z, zQ Z, zL Z, (A9), zG Z)).getD 29 [], (clB X ad pa pb qa qb ra rb ha hb (zI Z, zT Z, zB Z, zP Z, zS Z, zR Z, zQ Z, zL Z, (A9), zG Z)).getD 2 [], (clB X ad pa pb qa qb ra rb ha hb (zI Z, zT Z, zB Z, zP Z, zS Z, zR Z, zQ Z, zL Z, (A9), zG Z)).getD 3 []] rfl rfl).trans rfl⟩

set_option maxHeartbeats 1000000 in
set_option maxRecDepth 100000 in
theorem uX7_interestAhead (l : Launch) (X : KX) (kS : Nat → Nat) (hst : l.stackTraces = false) (ad pa pb qa qb ra rb : Nat → Nat) (ha hb : Nat → Nat → Nat) (Z : CZ) (i : Int) (hPI : PI (zP Z)) (hi9 : i32 i) : CT l X kS yX7_interestAhead wsX7_interestAhead ({ frames := 7, cells := 1, slots := 6, locals := 121 }) [.ref (ad 0), .int (iI i)] (clB X ad pa pb qa qb ra rb ha hb Z).flatten (fun v9 w9 => ∃ A9 : Nat → Int, (0 ≤ i ∧ i < Pn (zP Z)) ∧ v9 = some (.int (iI (runL 120 (PL (zP Z) i.toNat) 6 - PL (zP Z) i.toNat 6))) ∧ w9 = (clB X ad pa pb qa qb ra rb ha hb (zI Z, zT Z, zB Z, zP Z, zS Z, zR Z, zQ Z, zL Z, (A9), zG Z)).flatten) (fun E9 w9 => (E9 = "java/lang/IndexOutOfBoundsException") ∧ (¬ (0 ≤ i ∧ i < Pn (zP Z))) ∧ w9 = (clB X ad pa pb qa qb ra rb ha hb Z).flatten) 1 6 := by
  refine ((kX7_interestAhead l X kS hst (ad 0) (ad 1) (ad 2) (qa 0) (ad 3) (ra 0) (ad 4) (ad 5) (ad 6) (zI Z 0) (zI Z 1) (zA Z) pa pb (zP Z) i (hPI) (hi9)).blk (clB X ad pa pb qa qb ra rb ha hb Z) clL [0, 29, 2, 3] rfl (blt rfl) rfl (by decide +kernel)).weak (fun v9 w9 h9 => ?_) (fun E9 w9 h9 => ?_)
  · obtain ⟨w1, ⟨A9, f0, hv9, rfl⟩, hW⟩ := h9
    exact ⟨A9, f0, hv9, (hW [(clB X ad pa pb qa qb ra rb ha hb (zI Z, zT Z, zB Z, zP Z, zS Z, zR Z, zQ Z, zL Z, (A9), zG Z)).getD 0 [], (clB X ad pa pb qa qb ra rb ha hb (zI Z, zT Z, zB Z, zP Z, zS Z, zR Z, zQ Z, zL Z, (A9), zG Z)).getD 29 [], (clB X ad pa pb qa qb ra rb ha hb (zI Z, zT Z, zB Z, zP Z, zS Z, zR Z, zQ Z, zL Z, (A9), zG Z)).getD 2 [], (clB X ad pa pb qa qb ra rb ha hb (zI Z, zT Z, zB Z, zP Z, zS Z, zR Z, zQ Z, zL Z, (A9), zG Z)).getD 3 []] rfl rfl).trans rfl⟩
  · obtain ⟨w1, ⟨f0, f1, rfl⟩, hW⟩ := h9
    exact ⟨f0, f1, (hW [(clB X ad pa pb qa qb ra rb ha hb Z).getD 0 [], (clB X ad pa pb qa qb ra rb ha hb Z).getD 29 [], (clB X ad pa pb qa qb ra rb ha hb Z).getD 2 [], (clB X ad pa pb qa qb ra rb ha hb Z).getD 3 []] rfl rfl).trans rfl⟩

set_option maxHeartbeats 1000000 in
set_option maxRecDepth 100000 in
theorem uX7_lastDue (l : Launch) (X : KX) (kS : Nat → Nat) (hst : l.stackTraces = false) (ad pa pb qa qb ra rb : Nat → Nat) (ha hb : Nat → Nat → Nat) (Z : CZ) (i : Int) (hPI : PI (zP Z)) (hi9 : i32 i) : CT l X kS yX7_lastDue wsX7_lastDue ({ frames := 7, cells := 1, slots := 6, locals := 121 }) [.ref (ad 0), .int (iI i)] (clB X ad pa pb qa qb ra rb ha hb Z).flatten (fun v9 w9 => ∃ A9 : Nat → Int, (0 ≤ i ∧ i < Pn (zP Z)) ∧ v9 = some (.int (iI (lastL 120 (PL (zP Z) i.toNat) 0))) ∧ w9 = (clB X ad pa pb qa qb ra rb ha hb (zI Z, zT Z, zB Z, zP Z, zS Z, zR Z, zQ Z, zL Z, (A9), zG Z)).flatten) (fun E9 w9 => (E9 = "java/lang/IndexOutOfBoundsException") ∧ (¬ (0 ≤ i ∧ i < Pn (zP Z))) ∧ w9 = (clB X ad pa pb qa qb ra rb ha hb Z).flatten) 1 6 := by
  refine ((kX7_lastDue l X kS hst (ad 0) (ad 1) (ad 2) (qa 0) (ad 3) (ra 0) (ad 4) (ad 5) (ad 6) (zI Z 0) (zI Z 1) (zA Z) pa pb (zP Z) i (hPI) (hi9)).blk (clB X ad pa pb qa qb ra rb ha hb Z) clL [0, 29, 2, 3] rfl (blt rfl) rfl (by decide +kernel)).weak (fun v9 w9 h9 => ?_) (fun E9 w9 h9 => ?_)
  · obtain ⟨w1, ⟨A9, f0, hv9, rfl⟩, hW⟩ := h9
    exact ⟨A9, f0, hv9, (hW [(clB X ad pa pb qa qb ra rb ha hb (zI Z, zT Z, zB Z, zP Z, zS Z, zR Z, zQ Z, zL Z, (A9), zG Z)).getD 0 [], (clB X ad pa pb qa qb ra rb ha hb (zI Z, zT Z, zB Z, zP Z, zS Z, zR Z, zQ Z, zL Z, (A9), zG Z)).getD 29 [], (clB X ad pa pb qa qb ra rb ha hb (zI Z, zT Z, zB Z, zP Z, zS Z, zR Z, zQ Z, zL Z, (A9), zG Z)).getD 2 [], (clB X ad pa pb qa qb ra rb ha hb (zI Z, zT Z, zB Z, zP Z, zS Z, zR Z, zQ Z, zL Z, (A9), zG Z)).getD 3 []] rfl rfl).trans rfl⟩
  · obtain ⟨w1, ⟨f0, f1, rfl⟩, hW⟩ := h9
    exact ⟨f0, f1, (hW [(clB X ad pa pb qa qb ra rb ha hb Z).getD 0 [], (clB X ad pa pb qa qb ra rb ha hb Z).getD 29 [], (clB X ad pa pb qa qb ra rb ha hb Z).getD 2 [], (clB X ad pa pb qa qb ra rb ha hb Z).getD 3 []] rfl rfl).trans rfl⟩

set_option maxHeartbeats 1000000 in
set_option maxRecDepth 100000 in
theorem uX7_monthsToHalf (l : Launch) (X : KX) (kS : Nat → Nat) (hst : l.stackTraces = false) (ad pa pb qa qb ra rb : Nat → Nat) (ha hb : Nat → Nat → Nat) (Z : CZ) (i : Int) (hPI : PI (zP Z)) (hpr : ∀ k : Nat, (k : Int) < Pn (zP Z) → 1 ≤ PL (zP Z) k 0 ∧ PL (zP Z) k 0 ≤ 9999999) (hi9 : i32 i) : CT l X kS yX7_monthsToHalf wsX7_monthsToHalf ({ frames := 7, cells := 1, slots := 6, locals := 121 }) [.ref (ad 0), .int (iI i)] (clB X ad pa pb qa qb ra rb ha hb Z).flatten (fun v9 w9 => ∃ A9 : Nat → Int, (0 ≤ i ∧ i < Pn (zP Z)) ∧ v9 = some (.int (iI (untL 120 (PL (zP Z) i.toNat) (PL (zP Z) i.toNat 0 / 2)))) ∧ w9 = (clB X ad pa pb qa qb ra rb ha hb (zI Z, zT Z, zB Z, zP Z, zS Z, zR Z, zQ Z, zL Z, (A9), zG Z)).flatten) (fun E9 w9 => (E9 = "java/lang/IndexOutOfBoundsException") ∧ (¬ (0 ≤ i ∧ i < Pn (zP Z))) ∧ w9 = (clB X ad pa pb qa qb ra rb ha hb Z).flatten) 1 6 := by
  refine ((kX7_monthsToHalf l X kS hst (ad 0) (ad 1) (ad 2) (qa 0) (ad 3) (ra 0) (ad 4) (ad 5) (ad 6) (zI Z 0) (zI Z 1) (zA Z) pa pb (zP Z) i (hPI) (hpr) (hi9)).blk (clB X ad pa pb qa qb ra rb ha hb Z) clL [0, 29, 2, 3] rfl (blt rfl) rfl (by decide +kernel)).weak (fun v9 w9 h9 => ?_) (fun E9 w9 h9 => ?_)
  · obtain ⟨w1, ⟨A9, f0, hv9, rfl⟩, hW⟩ := h9
    exact ⟨A9, f0, hv9, (hW [(clB X ad pa pb qa qb ra rb ha hb (zI Z, zT Z, zB Z, zP Z, zS Z, zR Z, zQ Z, zL Z, (A9), zG Z)).getD 0 [], (clB X ad pa pb qa qb ra rb ha hb (zI Z, zT Z, zB Z, zP Z, zS Z, zR Z, zQ Z, zL Z, (A9), zG Z)).getD 29 [], (clB X ad pa pb qa qb ra rb ha hb (zI Z, zT Z, zB Z, zP Z, zS Z, zR Z, zQ Z, zL Z, (A9), zG Z)).getD 2 [], (clB X ad pa pb qa qb ra rb ha hb (zI Z, zT Z, zB Z, zP Z, zS Z, zR Z, zQ Z, zL Z, (A9), zG Z)).getD 3 []] rfl rfl).trans rfl⟩
  · obtain ⟨w1, ⟨f0, f1, rfl⟩, hW⟩ := h9
    exact ⟨f0, f1, (hW [(clB X ad pa pb qa qb ra rb ha hb Z).getD 0 [], (clB X ad pa pb qa qb ra rb ha hb Z).getD 29 [], (clB X ad pa pb qa qb ra rb ha hb Z).getD 2 [], (clB X ad pa pb qa qb ra rb ha hb Z).getD 3 []] rfl rfl).trans rfl⟩

set_option maxHeartbeats 1000000 in
set_option maxRecDepth 100000 in
theorem uX7_installmentFor (l : Launch) (X : KX) (kS : Nat → Nat) (hst : l.stackTraces = false) (ad pa pb qa qb ra rb : Nat → Nat) (ha hb : Nat → Nat → Nat) (Z : CZ) (i : Int) (k : Int) (hPI : PI (zP Z)) (hi9 : i32 i) (hk9 : i32 k) : CT l X kS yX7_installmentFor wsX7_installmentFor ({ frames := 7, cells := 2, slots := 12, locals := 122 }) [.ref (ad 0), .int (iI i), .int (iI k)] (clB X ad pa pb qa qb ra rb ha hb Z).flatten (fun v9 w9 => ∃ z : Int, (0 ≤ i ∧ i < Pn (zP Z)) ∧ (1 ≤ k ∧ k ≤ 120) ∧ ((0 < PL (zP Z) i.toNat 1 ∧ z = lvl (PL (zP Z) i.toNat 1) (PL (zP Z) i.toNat 2) (PL (zP Z) i.toNat 5) k) ∨ (PL (zP Z) i.toNat 1 ≤ 0 ∧ z = 0)) ∧ v9 = some (.int (iI z)) ∧ w9 = (clB X ad pa pb qa qb ra rb ha hb Z).flatten) (fun E9 w9 => ((E9 = "java/lang/IndexOutOfBoundsException" ∧ ¬ (0 ≤ i ∧ i < Pn (zP Z))) ∨ (E9 = "java/lang/IllegalArgumentException" ∧ (0 ≤ i ∧ i < Pn (zP Z)) ∧ ¬ (1 ≤ k ∧ k ≤ 120))) ∧ w9 = (clB X ad pa pb qa qb ra rb ha hb Z).flatten) 2 12 := by
  refine ((kX7_installmentFor l X kS hst (ad 0) (ad 1) (ad 2) (qa 0) (ad 3) (ra 0) (ad 4) (ad 5) (ad 6) (zI Z 0) (zI Z 1) pa pb (zP Z) i k (hPI) (hi9) (hk9)).blk (clB X ad pa pb qa qb ra rb ha hb Z) clL [0, 2, 3] rfl (blt rfl) rfl (by decide +kernel)).weak (fun v9 w9 h9 => ?_) (fun E9 w9 h9 => ?_)
  · obtain ⟨w1, ⟨z, f0, f1, f2, hv9, rfl⟩, hW⟩ := h9
    exact ⟨z, f0, f1, f2, hv9, (hW [(clB X ad pa pb qa qb ra rb ha hb Z).getD 0 [], (clB X ad pa pb qa qb ra rb ha hb Z).getD 2 [], (clB X ad pa pb qa qb ra rb ha hb Z).getD 3 []] rfl rfl).trans rfl⟩
  · obtain ⟨w1, ⟨f0, rfl⟩, hW⟩ := h9
    exact ⟨f0, (hW [(clB X ad pa pb qa qb ra rb ha hb Z).getD 0 [], (clB X ad pa pb qa qb ra rb ha hb Z).getD 2 [], (clB X ad pa pb qa qb ra rb ha hb Z).getD 3 []] rfl rfl).trans rfl⟩

set_option maxHeartbeats 1000000 in
set_option maxRecDepth 100000 in
theorem uX7_monthsFor (l : Launch) (X : KX) (kS : Nat → Nat) (hst : l.stackTraces = false) (ad pa pb qa qb ra rb : Nat → Nat) (ha hb : Nat → Nat → Nat) (Z : CZ) (i : Int) (k : Int) (hPI : PI (zP Z)) (hi9 : i32 i) (hk9 : i32 k) : CT l X kS yX7_monthsFor wsX7_monthsFor ({ frames := 7, cells := 2, slots := 12, locals := 122 }) [.ref (ad 0), .int (iI i), .int (iI k)] (clB X ad pa pb qa qb ra rb ha hb Z).flatten (fun v9 w9 => ∃ z : Int, (0 ≤ i ∧ i < Pn (zP Z)) ∧ (1 ≤ k ∧ k ≤ 9999999) ∧ ((0 < PL (zP Z) i.toNat 1 ∧ z = trm (PL (zP Z) i.toNat 2) k 120 1 (PL (zP Z) i.toNat 1) (PL (zP Z) i.toNat 5)) ∨ (PL (zP Z) i.toNat 1 ≤ 0 ∧ z = 0)) ∧ v9 = some (.int (iI z)) ∧ w9 = (clB X ad pa pb qa qb ra rb ha hb Z).flatten) (fun E9 w9 => ((E9 = "java/lang/IndexOutOfBoundsException" ∧ ¬ (0 ≤ i ∧ i < Pn (zP Z))) ∨ (E9 = "java/lang/IllegalArgumentException" ∧ (0 ≤ i ∧ i < Pn (zP Z)) ∧ ¬ (1 ≤ k ∧ k ≤ 9999999))) ∧ w9 = (clB X ad pa pb qa qb ra rb ha hb Z).flatten) 2 12 := by
  refine ((kX7_monthsFor l X kS hst (ad 0) (ad 1) (ad 2) (qa 0) (ad 3) (ra 0) (ad 4) (ad 5) (ad 6) (zI Z 0) (zI Z 1) pa pb (zP Z) i k (hPI) (hi9) (hk9)).blk (clB X ad pa pb qa qb ra rb ha hb Z) clL [0, 2, 3] rfl (blt rfl) rfl (by decide +kernel)).weak (fun v9 w9 h9 => ?_) (fun E9 w9 h9 => ?_)
  · obtain ⟨w1, ⟨z, f0, f1, f2, hv9, rfl⟩, hW⟩ := h9
    exact ⟨z, f0, f1, f2, hv9, (hW [(clB X ad pa pb qa qb ra rb ha hb Z).getD 0 [], (clB X ad pa pb qa qb ra rb ha hb Z).getD 2 [], (clB X ad pa pb qa qb ra rb ha hb Z).getD 3 []] rfl rfl).trans rfl⟩
  · obtain ⟨w1, ⟨f0, rfl⟩, hW⟩ := h9
    exact ⟨f0, (hW [(clB X ad pa pb qa qb ra rb ha hb Z).getD 0 [], (clB X ad pa pb qa qb ra rb ha hb Z).getD 2 [], (clB X ad pa pb qa qb ra rb ha hb Z).getD 3 []] rfl rfl).trans rfl⟩

set_option maxHeartbeats 1000000 in
set_option maxRecDepth 100000 in
theorem uX7_savingOfExtra (l : Launch) (X : KX) (kS : Nat → Nat) (hst : l.stackTraces = false) (ad pa pb qa qb ra rb : Nat → Nat) (ha hb : Nat → Nat → Nat) (Z : CZ) (i : Int) (k : Int) (y : Int) (hPI : PI (zP Z)) (hi9 : i32 i) (hk9 : i32 k) (hy : y = 0 ∨ y = 1) : CT l X kS yX7_savingOfExtra wsX7_savingOfExtra ({ frames := 7, cells := 2, slots := 12, locals := 122 }) [.ref (ad 0), .int (iI i), .int (iI k), .int (iI y)] (clB X ad pa pb qa qb ra rb ha hb Z).flatten (fun v9 w9 => ∃ A9 : Nat → Int, ∃ B9 : Nat → Int, ∃ z : Int, (0 ≤ i ∧ i < Pn (zP Z)) ∧ (1 ≤ k ∧ k ≤ 9999999) ∧ ((0 < PL (zP Z) i.toNat 1 ∧ k ≤ PL (zP Z) i.toNat 1 ∧ z = (runL 120 (PL (zP Z) i.toNat) 6 - PL (zP Z) i.toNat 6) - (runL 120 (redL (PL (zP Z) i.toNat) k y) 6 - redL (PL (zP Z) i.toNat) k y 6)) ∨ (¬ (0 < PL (zP Z) i.toNat 1 ∧ k ≤ PL (zP Z) i.toNat 1) ∧ z = 0)) ∧ v9 = some (.int (iI z)) ∧ w9 = (clB X ad pa pb qa qb ra rb ha hb (zI Z, zT Z, zB Z, zP Z, zS Z, zR Z, zQ Z, (B9), (A9), zG Z)).flatten) (fun E9 w9 => ((E9 = "java/lang/IndexOutOfBoundsException" ∧ ¬ (0 ≤ i ∧ i < Pn (zP Z))) ∨ (E9 = "java/lang/IllegalArgumentException" ∧ (0 ≤ i ∧ i < Pn (zP Z)) ∧ ¬ (1 ≤ k ∧ k ≤ 9999999))) ∧ w9 = (clB X ad pa pb qa qb ra rb ha hb Z).flatten) 2 12 := by
  refine ((kX7_savingOfExtra l X kS hst (ad 0) (ad 1) (ad 2) (qa 0) (ad 3) (ra 0) (ad 4) (ad 5) (ad 6) (zI Z 0) (zI Z 1) (zA Z) (zL Z) pa pb (zP Z) i k y (hPI) (hi9) (hk9) (hy)).blk (clB X ad pa pb qa qb ra rb ha hb Z) clL [0, 29, 28, 2, 3] rfl (blt rfl) rfl (by decide +kernel)).weak (fun v9 w9 h9 => ?_) (fun E9 w9 h9 => ?_)
  · obtain ⟨w1, ⟨A9, B9, z, f0, f1, f2, hv9, rfl⟩, hW⟩ := h9
    exact ⟨A9, B9, z, f0, f1, f2, hv9, (hW [(clB X ad pa pb qa qb ra rb ha hb (zI Z, zT Z, zB Z, zP Z, zS Z, zR Z, zQ Z, (B9), (A9), zG Z)).getD 0 [], (clB X ad pa pb qa qb ra rb ha hb (zI Z, zT Z, zB Z, zP Z, zS Z, zR Z, zQ Z, (B9), (A9), zG Z)).getD 29 [], (clB X ad pa pb qa qb ra rb ha hb (zI Z, zT Z, zB Z, zP Z, zS Z, zR Z, zQ Z, (B9), (A9), zG Z)).getD 28 [], (clB X ad pa pb qa qb ra rb ha hb (zI Z, zT Z, zB Z, zP Z, zS Z, zR Z, zQ Z, (B9), (A9), zG Z)).getD 2 [], (clB X ad pa pb qa qb ra rb ha hb (zI Z, zT Z, zB Z, zP Z, zS Z, zR Z, zQ Z, (B9), (A9), zG Z)).getD 3 []] rfl rfl).trans rfl⟩
  · obtain ⟨w1, ⟨f0, rfl⟩, hW⟩ := h9
    exact ⟨f0, (hW [(clB X ad pa pb qa qb ra rb ha hb Z).getD 0 [], (clB X ad pa pb qa qb ra rb ha hb Z).getD 29 [], (clB X ad pa pb qa qb ra rb ha hb Z).getD 28 [], (clB X ad pa pb qa qb ra rb ha hb Z).getD 2 [], (clB X ad pa pb qa qb ra rb ha hb Z).getD 3 []] rfl rfl).trans rfl⟩

set_option maxHeartbeats 1000000 in
set_option maxRecDepth 100000 in
theorem uX7_interestIfRate (l : Launch) (X : KX) (kS : Nat → Nat) (hst : l.stackTraces = false) (ad pa pb qa qb ra rb : Nat → Nat) (ha hb : Nat → Nat → Nat) (Z : CZ) (i : Int) (k : Int) (hPI : PI (zP Z)) (hi9 : i32 i) (hk9 : i32 k) : CT l X kS yX7_interestIfRate wsX7_interestIfRate ({ frames := 7, cells := 2, slots := 12, locals := 122 }) [.ref (ad 0), .int (iI i), .int (iI k)] (clB X ad pa pb qa qb ra rb ha hb Z).flatten (fun v9 w9 => ∃ A9 : Nat → Int, ∃ B9 : Nat → Int, ∃ z : Int, (0 ≤ i ∧ i < Pn (zP Z)) ∧ (0 ≤ k ∧ k ≤ 3000) ∧ ((0 < PL (zP Z) i.toNat 1 ∧ z = runL 120 (setL (PL (zP Z) i.toNat) k (PL (zP Z) i.toNat 3)) 6 - setL (PL (zP Z) i.toNat) k (PL (zP Z) i.toNat 3) 6) ∨ (PL (zP Z) i.toNat 1 ≤ 0 ∧ z = 0)) ∧ v9 = some (.int (iI z)) ∧ w9 = (clB X ad pa pb qa qb ra rb ha hb (zI Z, zT Z, zB Z, zP Z, zS Z, zR Z, zQ Z, (B9), (A9), zG Z)).flatten) (fun E9 w9 => ((E9 = "java/lang/IndexOutOfBoundsException" ∧ ¬ (0 ≤ i ∧ i < Pn (zP Z))) ∨ (E9 = "java/lang/IllegalArgumentException" ∧ (0 ≤ i ∧ i < Pn (zP Z)) ∧ ¬ (0 ≤ k ∧ k ≤ 3000))) ∧ w9 = (clB X ad pa pb qa qb ra rb ha hb Z).flatten) 2 12 := by
  refine ((kX7_interestIfRate l X kS hst (ad 0) (ad 1) (ad 2) (qa 0) (ad 3) (ra 0) (ad 4) (ad 5) (ad 6) (zI Z 0) (zI Z 1) (zA Z) (zL Z) pa pb (zP Z) i k (hPI) (hi9) (hk9)).blk (clB X ad pa pb qa qb ra rb ha hb Z) clL [0, 29, 28, 2, 3] rfl (blt rfl) rfl (by decide +kernel)).weak (fun v9 w9 h9 => ?_) (fun E9 w9 h9 => ?_)
  · obtain ⟨w1, ⟨A9, B9, z, f0, f1, f2, hv9, rfl⟩, hW⟩ := h9
    exact ⟨A9, B9, z, f0, f1, f2, hv9, (hW [(clB X ad pa pb qa qb ra rb ha hb (zI Z, zT Z, zB Z, zP Z, zS Z, zR Z, zQ Z, (B9), (A9), zG Z)).getD 0 [], (clB X ad pa pb qa qb ra rb ha hb (zI Z, zT Z, zB Z, zP Z, zS Z, zR Z, zQ Z, (B9), (A9), zG Z)).getD 29 [], (clB X ad pa pb qa qb ra rb ha hb (zI Z, zT Z, zB Z, zP Z, zS Z, zR Z, zQ Z, (B9), (A9), zG Z)).getD 28 [], (clB X ad pa pb qa qb ra rb ha hb (zI Z, zT Z, zB Z, zP Z, zS Z, zR Z, zQ Z, (B9), (A9), zG Z)).getD 2 [], (clB X ad pa pb qa qb ra rb ha hb (zI Z, zT Z, zB Z, zP Z, zS Z, zR Z, zQ Z, (B9), (A9), zG Z)).getD 3 []] rfl rfl).trans rfl⟩
  · obtain ⟨w1, ⟨f0, rfl⟩, hW⟩ := h9
    exact ⟨f0, (hW [(clB X ad pa pb qa qb ra rb ha hb Z).getD 0 [], (clB X ad pa pb qa qb ra rb ha hb Z).getD 29 [], (clB X ad pa pb qa qb ra rb ha hb Z).getD 28 [], (clB X ad pa pb qa qb ra rb ha hb Z).getD 2 [], (clB X ad pa pb qa qb ra rb ha hb Z).getD 3 []] rfl rfl).trans rfl⟩

set_option maxHeartbeats 1000000 in
set_option maxRecDepth 100000 in
theorem uX7_isCheaper (l : Launch) (X : KX) (kS : Nat → Nat) (hst : l.stackTraces = false) (ad pa pb qa qb ra rb : Nat → Nat) (ha hb : Nat → Nat → Nat) (Z : CZ) (i : Int) (k : Int) (m : Int) (hPI : PI (zP Z)) (hi9 : i32 i) (hk9 : i32 k) (hm99 : i32 m) : CT l X kS yX7_isCheaper wsX7_isCheaper ({ frames := 7, cells := 3, slots := 18, locals := 122 }) [.ref (ad 0), .int (iI i), .int (iI k), .int (iI m)] (clB X ad pa pb qa qb ra rb ha hb Z).flatten (fun v9 w9 => ∃ A9 : Nat → Int, ∃ B9 : Nat → Int, ∃ z : Int, (0 ≤ i ∧ i < Pn (zP Z)) ∧ ((0 ≤ k ∧ k ≤ 3000) ∧ (1 ≤ m ∧ m ≤ 120)) ∧ ((z = 1 ∧ 0 < PL (zP Z) i.toNat 1 ∧ runL 120 (setL (PL (zP Z) i.toNat) k m) 6 - setL (PL (zP Z) i.toNat) k m 6 < runL 120 (PL (zP Z) i.toNat) 6 - PL (zP Z) i.toNat 6) ∨ (z = 0 ∧ ¬ (0 < PL (zP Z) i.toNat 1 ∧ runL 120 (setL (PL (zP Z) i.toNat) k m) 6 - setL (PL (zP Z) i.toNat) k m 6 < runL 120 (PL (zP Z) i.toNat) 6 - PL (zP Z) i.toNat 6))) ∧ v9 = some (.int (iI z)) ∧ w9 = (clB X ad pa pb qa qb ra rb ha hb (zI Z, zT Z, zB Z, zP Z, zS Z, zR Z, zQ Z, (B9), (A9), zG Z)).flatten) (fun E9 w9 => ((E9 = "java/lang/IndexOutOfBoundsException" ∧ ¬ (0 ≤ i ∧ i < Pn (zP Z))) ∨ (E9 = "java/lang/IllegalArgumentException" ∧ (0 ≤ i ∧ i < Pn (zP Z)) ∧ ¬ ((0 ≤ k ∧ k ≤ 3000) ∧ (1 ≤ m ∧ m ≤ 120)))) ∧ w9 = (clB X ad pa pb qa qb ra rb ha hb Z).flatten) 3 18 := by
  refine ((kX7_isCheaper l X kS hst (ad 0) (ad 1) (ad 2) (qa 0) (ad 3) (ra 0) (ad 4) (ad 5) (ad 6) (zI Z 0) (zI Z 1) (zA Z) (zL Z) pa pb (zP Z) i k m (hPI) (hi9) (hk9) (hm99)).blk (clB X ad pa pb qa qb ra rb ha hb Z) clL [0, 29, 28, 2, 3] rfl (blt rfl) rfl (by decide +kernel)).weak (fun v9 w9 h9 => ?_) (fun E9 w9 h9 => ?_)
  · obtain ⟨w1, ⟨A9, B9, z, f0, f1, f2, hv9, rfl⟩, hW⟩ := h9
    exact ⟨A9, B9, z, f0, f1, f2, hv9, (hW [(clB X ad pa pb qa qb ra rb ha hb (zI Z, zT Z, zB Z, zP Z, zS Z, zR Z, zQ Z, (B9), (A9), zG Z)).getD 0 [], (clB X ad pa pb qa qb ra rb ha hb (zI Z, zT Z, zB Z, zP Z, zS Z, zR Z, zQ Z, (B9), (A9), zG Z)).getD 29 [], (clB X ad pa pb qa qb ra rb ha hb (zI Z, zT Z, zB Z, zP Z, zS Z, zR Z, zQ Z, (B9), (A9), zG Z)).getD 28 [], (clB X ad pa pb qa qb ra rb ha hb (zI Z, zT Z, zB Z, zP Z, zS Z, zR Z, zQ Z, (B9), (A9), zG Z)).getD 2 [], (clB X ad pa pb qa qb ra rb ha hb (zI Z, zT Z, zB Z, zP Z, zS Z, zR Z, zQ Z, (B9), (A9), zG Z)).getD 3 []] rfl rfl).trans rfl⟩
  · obtain ⟨w1, ⟨f0, rfl⟩, hW⟩ := h9
    exact ⟨f0, (hW [(clB X ad pa pb qa qb ra rb ha hb Z).getD 0 [], (clB X ad pa pb qa qb ra rb ha hb Z).getD 29 [], (clB X ad pa pb qa qb ra rb ha hb Z).getD 28 [], (clB X ad pa pb qa qb ra rb ha hb Z).getD 2 [], (clB X ad pa pb qa qb ra rb ha hb Z).getD 3 []] rfl rfl).trans rfl⟩

set_option maxHeartbeats 1000000 in
set_option maxRecDepth 100000 in
theorem uX7_skipsWithin (l : Launch) (X : KX) (kS : Nat → Nat) (hst : l.stackTraces = false) (ad pa pb qa qb ra rb : Nat → Nat) (ha hb : Nat → Nat → Nat) (Z : CZ) (i : Int) (k : Int) (hPI : PI (zP Z)) (hi9 : i32 i) (hk9 : i32 k) : CT l X kS yX7_skipsWithin wsX7_skipsWithin ({ frames := 7, cells := 2, slots := 12, locals := 122 }) [.ref (ad 0), .int (iI i), .int (iI k)] (clB X ad pa pb qa qb ra rb ha hb Z).flatten (fun v9 w9 => ∃ B9 : Nat → Int, (0 ≤ i ∧ i < Pn (zP Z)) ∧ (1 ≤ k ∧ k ≤ 9999999) ∧ v9 = some (.int (iI (skpL 6 (PL (zP Z) i.toNat) k))) ∧ w9 = (clB X ad pa pb qa qb ra rb ha hb (zI Z, zT Z, zB Z, zP Z, zS Z, zR Z, zQ Z, (B9), zA Z, zG Z)).flatten) (fun E9 w9 => ∃ B9 : Nat → Int, ((E9 = "java/lang/IndexOutOfBoundsException" ∧ ¬ (0 ≤ i ∧ i < Pn (zP Z))) ∨ (E9 = "java/lang/IllegalArgumentException" ∧ (0 ≤ i ∧ i < Pn (zP Z)) ∧ ¬ (1 ≤ k ∧ k ≤ 9999999))) ∧ w9 = (clB X ad pa pb qa qb ra rb ha hb (zI Z, zT Z, zB Z, zP Z, zS Z, zR Z, zQ Z, (B9), zA Z, zG Z)).flatten) 2 12 := by
  refine ((kX7_skipsWithin l X kS hst (ad 0) (ad 1) (ad 2) (qa 0) (ad 3) (ra 0) (ad 4) (ad 5) (ad 6) (zI Z 0) (zI Z 1) (zL Z) pa pb (zP Z) i k (hPI) (hi9) (hk9)).blk (clB X ad pa pb qa qb ra rb ha hb Z) clL [0, 28, 2, 3] rfl (blt rfl) rfl (by decide +kernel)).weak (fun v9 w9 h9 => ?_) (fun E9 w9 h9 => ?_)
  · obtain ⟨w1, ⟨B9, f0, f1, hv9, rfl⟩, hW⟩ := h9
    exact ⟨B9, f0, f1, hv9, (hW [(clB X ad pa pb qa qb ra rb ha hb (zI Z, zT Z, zB Z, zP Z, zS Z, zR Z, zQ Z, (B9), zA Z, zG Z)).getD 0 [], (clB X ad pa pb qa qb ra rb ha hb (zI Z, zT Z, zB Z, zP Z, zS Z, zR Z, zQ Z, (B9), zA Z, zG Z)).getD 28 [], (clB X ad pa pb qa qb ra rb ha hb (zI Z, zT Z, zB Z, zP Z, zS Z, zR Z, zQ Z, (B9), zA Z, zG Z)).getD 2 [], (clB X ad pa pb qa qb ra rb ha hb (zI Z, zT Z, zB Z, zP Z, zS Z, zR Z, zQ Z, (B9), zA Z, zG Z)).getD 3 []] rfl rfl).trans rfl⟩
  · obtain ⟨w1, ⟨B9, f0, rfl⟩, hW⟩ := h9
    exact ⟨B9, f0, (hW [(clB X ad pa pb qa qb ra rb ha hb (zI Z, zT Z, zB Z, zP Z, zS Z, zR Z, zQ Z, (B9), zA Z, zG Z)).getD 0 [], (clB X ad pa pb qa qb ra rb ha hb (zI Z, zT Z, zB Z, zP Z, zS Z, zR Z, zQ Z, (B9), zA Z, zG Z)).getD 28 [], (clB X ad pa pb qa qb ra rb ha hb (zI Z, zT Z, zB Z, zP Z, zS Z, zR Z, zQ Z, (B9), zA Z, zG Z)).getD 2 [], (clB X ad pa pb qa qb ra rb ha hb (zI Z, zT Z, zB Z, zP Z, zS Z, zR Z, zQ Z, (B9), zA Z, zG Z)).getD 3 []] rfl rfl).trans rfl⟩

set_option maxHeartbeats 1000000 in
set_option maxRecDepth 100000 in
theorem uX7_totalInterestAhead (l : Launch) (X : KX) (ad pa pb qa qb ra rb : Nat → Nat) (ha hb : Nat → Nat → Nat) (Z : CZ) (hPI : PI (zP Z)) : CM l X yX7_totalInterestAhead wsX7_totalInterestAhead ({ frames := 4, cells := 0, slots := 0, locals := 88 }) [.ref (ad 0)] (clB X ad pa pb qa qb ra rb ha hb Z).flatten (fun v9 w9 => ∃ A9 : Nat → Int, (True) ∧ v9 = some (.int (iI (sumF (fun k => runL 120 (PL (zP Z) k) 6 - PL (zP Z) k 6) (Pn (zP Z)).toNat))) ∧ w9 = (clB X ad pa pb qa qb ra rb ha hb (zI Z, zT Z, zB Z, zP Z, zS Z, zR Z, zQ Z, zL Z, (A9), zG Z)).flatten) 0 0 := by
  refine ((kX7_totalInterestAhead l X (ad 0) (ad 1) (ad 2) (qa 0) (ad 3) (ra 0) (ad 4) (ad 5) (ad 6) (zI Z 0) (zI Z 1) (zA Z) pa pb (zP Z) (hPI)).blk (clB X ad pa pb qa qb ra rb ha hb Z) clL [0, 29, 2, 3] rfl (blt rfl) rfl (by decide +kernel)).weak (fun v9 w9 h9 => ?_)
  · obtain ⟨w1, ⟨A9, f0, hv9, rfl⟩, hW⟩ := h9
    exact ⟨A9, f0, hv9, (hW [(clB X ad pa pb qa qb ra rb ha hb (zI Z, zT Z, zB Z, zP Z, zS Z, zR Z, zQ Z, zL Z, (A9), zG Z)).getD 0 [], (clB X ad pa pb qa qb ra rb ha hb (zI Z, zT Z, zB Z, zP Z, zS Z, zR Z, zQ Z, zL Z, (A9), zG Z)).getD 29 [], (clB X ad pa pb qa qb ra rb ha hb (zI Z, zT Z, zB Z, zP Z, zS Z, zR Z, zQ Z, zL Z, (A9), zG Z)).getD 2 [], (clB X ad pa pb qa qb ra rb ha hb (zI Z, zT Z, zB Z, zP Z, zS Z, zR Z, zQ Z, zL Z, (A9), zG Z)).getD 3 []] rfl rfl).trans rfl⟩

set_option maxHeartbeats 1000000 in
set_option maxRecDepth 100000 in
theorem uX7_dearestLoan (l : Launch) (X : KX) (ad pa pb qa qb ra rb : Nat → Nat) (ha hb : Nat → Nat → Nat) (Z : CZ) (hPI : PI (zP Z)) : CM l X yX7_dearestLoan wsX7_dearestLoan ({ frames := 2, cells := 0, slots := 0, locals := 43 }) [.ref (ad 0)] (clB X ad pa pb qa qb ra rb ha hb Z).flatten (fun v9 w9 => v9 = some (.int (iI (dst (PL (zP Z)) (Pn (zP Z)).toNat))) ∧ w9 = (clB X ad pa pb qa qb ra rb ha hb Z).flatten) 0 0 := by
  refine ((kX7_dearestLoan l X (ad 0) (ad 1) (ad 2) (qa 0) (ad 3) (ra 0) (ad 4) (ad 5) (ad 6) (zI Z 0) (zI Z 1) pa pb (zP Z) (hPI)).blk (clB X ad pa pb qa qb ra rb ha hb Z) clL [0, 2, 3] rfl (blt rfl) rfl (by decide +kernel)).weak (fun v9 w9 h9 => ?_)
  · obtain ⟨w1, ⟨hv9, rfl⟩, hW⟩ := h9
    exact ⟨hv9, (hW [(clB X ad pa pb qa qb ra rb ha hb Z).getD 0 [], (clB X ad pa pb qa qb ra rb ha hb Z).getD 2 [], (clB X ad pa pb qa qb ra rb ha hb Z).getD 3 []] rfl rfl).trans rfl⟩

set_option maxHeartbeats 1000000 in
set_option maxRecDepth 100000 in
theorem uX7_smallestLoan (l : Launch) (X : KX) (ad pa pb qa qb ra rb : Nat → Nat) (ha hb : Nat → Nat → Nat) (Z : CZ) (hPI : PI (zP Z)) : CM l X yX7_smallestLoan wsX7_smallestLoan ({ frames := 2, cells := 0, slots := 0, locals := 43 }) [.ref (ad 0)] (clB X ad pa pb qa qb ra rb ha hb Z).flatten (fun v9 w9 => v9 = some (.int (iI (sml (PL (zP Z)) (Pn (zP Z)).toNat))) ∧ w9 = (clB X ad pa pb qa qb ra rb ha hb Z).flatten) 0 0 := by
  refine ((kX7_smallestLoan l X (ad 0) (ad 1) (ad 2) (qa 0) (ad 3) (ra 0) (ad 4) (ad 5) (ad 6) (zI Z 0) (zI Z 1) pa pb (zP Z) (hPI)).blk (clB X ad pa pb qa qb ra rb ha hb Z) clL [0, 2, 3] rfl (blt rfl) rfl (by decide +kernel)).weak (fun v9 w9 h9 => ?_)
  · obtain ⟨w1, ⟨hv9, rfl⟩, hW⟩ := h9
    exact ⟨hv9, (hW [(clB X ad pa pb qa qb ra rb ha hb Z).getD 0 [], (clB X ad pa pb qa qb ra rb ha hb Z).getD 2 [], (clB X ad pa pb qa qb ra rb ha hb Z).getD 3 []] rfl rfl).trans rfl⟩

set_option maxHeartbeats 1000000 in
set_option maxRecDepth 100000 in
theorem uX7_totalDue (l : Launch) (X : KX) (ad pa pb qa qb ra rb : Nat → Nat) (ha hb : Nat → Nat → Nat) (Z : CZ) (hPI : PI (zP Z)) : CM l X yX7_totalDue wsX7_totalDue ({ frames := 3, cells := 0, slots := 0, locals := 63 }) [.ref (ad 0)] (clB X ad pa pb qa qb ra rb ha hb Z).flatten (fun v9 w9 => v9 = some (.int (iI (dueS (zP Z)))) ∧ w9 = (clB X ad pa pb qa qb ra rb ha hb Z).flatten) 0 0 := by
  refine ((kX7_totalDue l X (ad 0) (ad 1) (ad 2) (qa 0) (ad 3) (ra 0) (ad 4) (ad 5) (ad 6) (zI Z 0) (zI Z 1) pa pb (zP Z) (hPI)).blk (clB X ad pa pb qa qb ra rb ha hb Z) clL [0, 2, 3] rfl (blt rfl) rfl (by decide +kernel)).weak (fun v9 w9 h9 => ?_)
  · obtain ⟨w1, ⟨hv9, rfl⟩, hW⟩ := h9
    exact ⟨hv9, (hW [(clB X ad pa pb qa qb ra rb ha hb Z).getD 0 [], (clB X ad pa pb qa qb ra rb ha hb Z).getD 2 [], (clB X ad pa pb qa qb ra rb ha hb Z).getD 3 []] rfl rfl).trans rfl⟩

set_option maxHeartbeats 1000000 in
set_option maxRecDepth 100000 in
theorem uX7_totalBalance (l : Launch) (X : KX) (ad pa pb qa qb ra rb : Nat → Nat) (ha hb : Nat → Nat → Nat) (Z : CZ) (hPI : PI (zP Z)) : CM l X yX7_totalBalance wsX7_totalBalance ({ frames := 1, cells := 0, slots := 0, locals := 22 }) [.ref (ad 0)] (clB X ad pa pb qa qb ra rb ha hb Z).flatten (fun v9 w9 => v9 = some (.int (iI (sumF (fun i => PL (zP Z) i 1) (Pn (zP Z)).toNat))) ∧ w9 = (clB X ad pa pb qa qb ra rb ha hb Z).flatten) 0 0 := by
  refine ((kX7_totalBalance l X (ad 0) (ad 1) (ad 2) (qa 0) (ad 3) (ra 0) (ad 4) (ad 5) (ad 6) (zI Z 0) (zI Z 1) pa pb (zP Z) (hPI)).blk (clB X ad pa pb qa qb ra rb ha hb Z) clL [0, 2, 3] rfl (blt rfl) rfl (by decide +kernel)).weak (fun v9 w9 h9 => ?_)
  · obtain ⟨w1, ⟨hv9, rfl⟩, hW⟩ := h9
    exact ⟨hv9, (hW [(clB X ad pa pb qa qb ra rb ha hb Z).getD 0 [], (clB X ad pa pb qa qb ra rb ha hb Z).getD 2 [], (clB X ad pa pb qa qb ra rb ha hb Z).getD 3 []] rfl rfl).trans rfl⟩

set_option maxHeartbeats 1000000 in
set_option maxRecDepth 100000 in
theorem uX7_monthsToFreedom (l : Launch) (X : KX) (ad pa pb qa qb ra rb : Nat → Nat) (ha hb : Nat → Nat → Nat) (Z : CZ) (hPI : PI (zP Z)) : CM l X yX7_monthsToFreedom wsX7_monthsToFreedom ({ frames := 3, cells := 0, slots := 0, locals := 67 }) [.ref (ad 0)] (clB X ad pa pb qa qb ra rb ha hb Z).flatten (fun v9 w9 => ∃ A9 : Nat → Int, (True) ∧ v9 = some (.int (iI (plMost (zP Z) (Pn (zP Z)).toNat))) ∧ w9 = (clB X ad pa pb qa qb ra rb ha hb (zI Z, zT Z, zB Z, zP Z, zS Z, zR Z, zQ Z, zL Z, (A9), zG Z)).flatten) 0 0 := by
  refine ((kX7_monthsToFreedom l X (ad 0) (ad 1) (ad 2) (qa 0) (ad 3) (ra 0) (ad 4) (ad 5) (ad 6) (zI Z 0) (zI Z 1) (zA Z) pa pb (zP Z) (hPI)).blk (clB X ad pa pb qa qb ra rb ha hb Z) clL [0, 29, 2, 3] rfl (blt rfl) rfl (by decide +kernel)).weak (fun v9 w9 h9 => ?_)
  · obtain ⟨w1, ⟨A9, f0, hv9, rfl⟩, hW⟩ := h9
    exact ⟨A9, f0, hv9, (hW [(clB X ad pa pb qa qb ra rb ha hb (zI Z, zT Z, zB Z, zP Z, zS Z, zR Z, zQ Z, zL Z, (A9), zG Z)).getD 0 [], (clB X ad pa pb qa qb ra rb ha hb (zI Z, zT Z, zB Z, zP Z, zS Z, zR Z, zQ Z, zL Z, (A9), zG Z)).getD 29 [], (clB X ad pa pb qa qb ra rb ha hb (zI Z, zT Z, zB Z, zP Z, zS Z, zR Z, zQ Z, zL Z, (A9), zG Z)).getD 2 [], (clB X ad pa pb qa qb ra rb ha hb (zI Z, zT Z, zB Z, zP Z, zS Z, zR Z, zQ Z, zL Z, (A9), zG Z)).getD 3 []] rfl rfl).trans rfl⟩

set_option maxHeartbeats 1000000 in
set_option maxRecDepth 100000 in
theorem uX7_budgetMonths (l : Launch) (X : KX) (kS : Nat → Nat) (hst : l.stackTraces = false) (ad pa pb qa qb ra rb : Nat → Nat) (ha hb : Nat → Nat → Nat) (Z : CZ) (xt : Nat) (k : Int) (y : Int) (hPI : PI (zP Z)) (hk9 : i32 k) (hy : y = 0 ∨ y = 1) : CT l X kS yX7_budgetMonths wsX7_budgetMonths ({ frames := 7, cells := 1, slots := 6, locals := 156 }) [.ref (ad 0), .int (iI k), .int (iI y)] (clB X ad pa pb qa qb ra rb ha hb Z).flatten (fun v9 w9 => (1 ≤ k ∧ k ≤ 9999999) ∧ v9 = some (.int (iI ((bgF k y 120 (cpP (zR Z) (zP Z)) 0).2))) ∧ w9 = (clB X ad pa pb qa qb ra rb ha hb (zI Z, zT Z, zB Z, zP Z, zS Z, (((bgF k y 120 (cpP (zR Z) (zP Z)) 0).1)), zQ Z, zL Z, zA Z, zG Z)).flatten) (fun E9 w9 => (E9 = "java/lang/IllegalArgumentException") ∧ (¬ (1 ≤ k ∧ k ≤ 9999999)) ∧ w9 = (clB X ad pa pb qa qb ra rb ha hb Z).flatten) 1 6 := by
  refine ((kX7_budgetMonths l X kS hst (ad 0) (ad 1) (ad 2) (qa 0) (ad 3) xt (ad 4) (ad 5) (ad 6) (zI Z 0) (zI Z 1) ra rb (zR Z) pa pb (zP Z) k y (hPI) (hk9) (hy)).blk (clB X ad pa pb qa qb ra rb ha hb Z) clL [0, 26, 2, 27, 3] rfl (blt rfl) rfl (by decide +kernel)).weak (fun v9 w9 h9 => ?_) (fun E9 w9 h9 => ?_)
  · obtain ⟨w1, ⟨f0, hv9, rfl⟩, hW⟩ := h9
    exact ⟨f0, hv9, (hW [(clB X ad pa pb qa qb ra rb ha hb (zI Z, zT Z, zB Z, zP Z, zS Z, (((bgF k y 120 (cpP (zR Z) (zP Z)) 0).1)), zQ Z, zL Z, zA Z, zG Z)).getD 0 [], (clB X ad pa pb qa qb ra rb ha hb (zI Z, zT Z, zB Z, zP Z, zS Z, (((bgF k y 120 (cpP (zR Z) (zP Z)) 0).1)), zQ Z, zL Z, zA Z, zG Z)).getD 26 [], (clB X ad pa pb qa qb ra rb ha hb (zI Z, zT Z, zB Z, zP Z, zS Z, (((bgF k y 120 (cpP (zR Z) (zP Z)) 0).1)), zQ Z, zL Z, zA Z, zG Z)).getD 2 [], (clB X ad pa pb qa qb ra rb ha hb (zI Z, zT Z, zB Z, zP Z, zS Z, (((bgF k y 120 (cpP (zR Z) (zP Z)) 0).1)), zQ Z, zL Z, zA Z, zG Z)).getD 27 [], (clB X ad pa pb qa qb ra rb ha hb (zI Z, zT Z, zB Z, zP Z, zS Z, (((bgF k y 120 (cpP (zR Z) (zP Z)) 0).1)), zQ Z, zL Z, zA Z, zG Z)).getD 3 []] rfl rfl).trans rfl⟩
  · obtain ⟨w1, ⟨f0, f1, rfl⟩, hW⟩ := h9
    exact ⟨f0, f1, (hW [(clB X ad pa pb qa qb ra rb ha hb Z).getD 0 [], (clB X ad pa pb qa qb ra rb ha hb Z).getD 26 [], (clB X ad pa pb qa qb ra rb ha hb Z).getD 2 [], (clB X ad pa pb qa qb ra rb ha hb Z).getD 27 [], (clB X ad pa pb qa qb ra rb ha hb Z).getD 3 []] rfl rfl).trans rfl⟩

set_option maxHeartbeats 1000000 in
set_option maxRecDepth 100000 in
theorem uX7_budgetInterest (l : Launch) (X : KX) (kS : Nat → Nat) (hst : l.stackTraces = false) (ad pa pb qa qb ra rb : Nat → Nat) (ha hb : Nat → Nat → Nat) (Z : CZ) (xt : Nat) (k : Int) (y : Int) (hPI : PI (zP Z)) (hk9 : i32 k) (hy : y = 0 ∨ y = 1) : CT l X kS yX7_budgetInterest wsX7_budgetInterest ({ frames := 7, cells := 1, slots := 6, locals := 156 }) [.ref (ad 0), .int (iI k), .int (iI y)] (clB X ad pa pb qa qb ra rb ha hb Z).flatten (fun v9 w9 => ∃ z : Int, (1 ≤ k ∧ k ≤ 9999999) ∧ (((bgF k y 120 (cpP (zR Z) (zP Z)) 0).2 = -1 ∧ z = -1) ∨ ((bgF k y 120 (cpP (zR Z) (zP Z)) 0).2 ≠ -1 ∧ z = sumF (fun j => PL (bgF k y 120 (cpP (zR Z) (zP Z)) 0).1 j 6) (Pn (bgF k y 120 (cpP (zR Z) (zP Z)) 0).1).toNat - sumF (fun j => PL (zP Z) j 6) (Pn (zP Z)).toNat)) ∧ v9 = some (.int (iI z)) ∧ w9 = (clB X ad pa pb qa qb ra rb ha hb (zI Z, zT Z, zB Z, zP Z, zS Z, (((bgF k y 120 (cpP (zR Z) (zP Z)) 0).1)), zQ Z, zL Z, zA Z, zG Z)).flatten) (fun E9 w9 => (E9 = "java/lang/IllegalArgumentException") ∧ (¬ (1 ≤ k ∧ k ≤ 9999999)) ∧ w9 = (clB X ad pa pb qa qb ra rb ha hb Z).flatten) 1 6 := by
  refine ((kX7_budgetInterest l X kS hst (ad 0) (ad 1) (ad 2) (qa 0) (ad 3) xt (ad 4) (ad 5) (ad 6) (zI Z 0) (zI Z 1) ra rb (zR Z) pa pb (zP Z) k y (hPI) (hk9) (hy)).blk (clB X ad pa pb qa qb ra rb ha hb Z) clL [0, 26, 2, 27, 3] rfl (blt rfl) rfl (by decide +kernel)).weak (fun v9 w9 h9 => ?_) (fun E9 w9 h9 => ?_)
  · obtain ⟨w1, ⟨z, f0, f1, hv9, rfl⟩, hW⟩ := h9
    exact ⟨z, f0, f1, hv9, (hW [(clB X ad pa pb qa qb ra rb ha hb (zI Z, zT Z, zB Z, zP Z, zS Z, (((bgF k y 120 (cpP (zR Z) (zP Z)) 0).1)), zQ Z, zL Z, zA Z, zG Z)).getD 0 [], (clB X ad pa pb qa qb ra rb ha hb (zI Z, zT Z, zB Z, zP Z, zS Z, (((bgF k y 120 (cpP (zR Z) (zP Z)) 0).1)), zQ Z, zL Z, zA Z, zG Z)).getD 26 [], (clB X ad pa pb qa qb ra rb ha hb (zI Z, zT Z, zB Z, zP Z, zS Z, (((bgF k y 120 (cpP (zR Z) (zP Z)) 0).1)), zQ Z, zL Z, zA Z, zG Z)).getD 2 [], (clB X ad pa pb qa qb ra rb ha hb (zI Z, zT Z, zB Z, zP Z, zS Z, (((bgF k y 120 (cpP (zR Z) (zP Z)) 0).1)), zQ Z, zL Z, zA Z, zG Z)).getD 27 [], (clB X ad pa pb qa qb ra rb ha hb (zI Z, zT Z, zB Z, zP Z, zS Z, (((bgF k y 120 (cpP (zR Z) (zP Z)) 0).1)), zQ Z, zL Z, zA Z, zG Z)).getD 3 []] rfl rfl).trans rfl⟩
  · obtain ⟨w1, ⟨f0, f1, rfl⟩, hW⟩ := h9
    exact ⟨f0, f1, (hW [(clB X ad pa pb qa qb ra rb ha hb Z).getD 0 [], (clB X ad pa pb qa qb ra rb ha hb Z).getD 26 [], (clB X ad pa pb qa qb ra rb ha hb Z).getD 2 [], (clB X ad pa pb qa qb ra rb ha hb Z).getD 27 [], (clB X ad pa pb qa qb ra rb ha hb Z).getD 3 []] rfl rfl).trans rfl⟩

set_option maxHeartbeats 1000000 in
set_option maxRecDepth 100000 in
theorem uX7_averageRate (l : Launch) (X : KX) (ad pa pb qa qb ra rb : Nat → Nat) (ha hb : Nat → Nat → Nat) (Z : CZ) (hPI : PI (zP Z)) : CM l X yX7_averageRate wsX7_averageRate ({ frames := 1, cells := 0, slots := 0, locals := 22 }) [.ref (ad 0)] (clB X ad pa pb qa qb ra rb ha hb Z).flatten (fun v9 w9 => ∃ z : UInt64, ((sumF (fun i => PL (zP Z) i 1) (Pn (zP Z)).toNat = 0 ∧ z = FP.dconst0) ∨ (sumF (fun i => PL (zP Z) i 1) (Pn (zP Z)).toNat ≠ 0 ∧ z = FP.ddiv (FP.l2d (iL (sumF (fun k => PL (zP Z) k 1 * PL (zP Z) k 2) (Pn (zP Z)).toNat))) (FP.i2d (iI (sumF (fun i => PL (zP Z) i 1) (Pn (zP Z)).toNat))))) ∧ v9 = some (.double z) ∧ w9 = (clB X ad pa pb qa qb ra rb ha hb Z).flatten) 0 0 := by
  refine ((kX7_averageRate l X (ad 0) (ad 1) (ad 2) (qa 0) (ad 3) (ra 0) (ad 4) (ad 5) (ad 6) (zI Z 0) (zI Z 1) pa pb (zP Z) (hPI)).blk (clB X ad pa pb qa qb ra rb ha hb Z) clL [0, 2, 3] rfl (blt rfl) rfl (by decide +kernel)).weak (fun v9 w9 h9 => ?_)
  · obtain ⟨w1, ⟨z, f0, hv9, rfl⟩, hW⟩ := h9
    exact ⟨z, f0, hv9, (hW [(clB X ad pa pb qa qb ra rb ha hb Z).getD 0 [], (clB X ad pa pb qa qb ra rb ha hb Z).getD 2 [], (clB X ad pa pb qa qb ra rb ha hb Z).getD 3 []] rfl rfl).trans rfl⟩

set_option maxHeartbeats 1000000 in
set_option maxRecDepth 100000 in
theorem uX7_closedShare (l : Launch) (X : KX) (ad pa pb qa qb ra rb : Nat → Nat) (ha hb : Nat → Nat → Nat) (Z : CZ) (hPI : PI (zP Z)) : CM l X yX7_closedShare wsX7_closedShare ({ frames := 2, cells := 0, slots := 0, locals := 42 }) [.ref (ad 0)] (clB X ad pa pb qa qb ra rb ha hb Z).flatten (fun v9 w9 => ∃ z : UInt32, ((Pn (zP Z) = 0 ∧ z = FP.fconst0) ∨ (Pn (zP Z) ≠ 0 ∧ z = FP.fdiv (FP.i2f (iI (Pn (zP Z) - cnt (PL (zP Z)) (Pn (zP Z)).toNat))) (FP.i2f (iI (Pn (zP Z)))))) ∧ v9 = some (.float z) ∧ w9 = (clB X ad pa pb qa qb ra rb ha hb Z).flatten) 0 0 := by
  refine ((kX7_closedShare l X (ad 0) (ad 1) (ad 2) (qa 0) (ad 3) (ra 0) (ad 4) (ad 5) (ad 6) (zI Z 0) (zI Z 1) pa pb (zP Z) (hPI)).blk (clB X ad pa pb qa qb ra rb ha hb Z) clL [0, 2, 3] rfl (blt rfl) rfl (by decide +kernel)).weak (fun v9 w9 h9 => ?_)
  · obtain ⟨w1, ⟨z, f0, hv9, rfl⟩, hW⟩ := h9
    exact ⟨z, f0, hv9, (hW [(clB X ad pa pb qa qb ra rb ha hb Z).getD 0 [], (clB X ad pa pb qa qb ra rb ha hb Z).getD 2 [], (clB X ad pa pb qa qb ra rb ha hb Z).getD 3 []] rfl rfl).trans rfl⟩

set_option maxHeartbeats 1000000 in
set_option maxRecDepth 100000 in
theorem uX7_violations (l : Launch) (X : KX) (ad pa pb qa qb ra rb : Nat → Nat) (ha hb : Nat → Nat → Nat) (Z : CZ) (hPI : PI (zP Z)) : CM l X yX7_violations wsX7_violations ({ frames := 4, cells := 0, slots := 0, locals := 88 }) [.ref (ad 0)] (clB X ad pa pb qa qb ra rb ha hb Z).flatten (fun v9 w9 => ∃ A9 : Nat → Int, (True) ∧ v9 = some (.int (iI (plBad (zP Z) (Pn (zP Z)).toNat))) ∧ w9 = (clB X ad pa pb qa qb ra rb ha hb (zI Z, zT Z, zB Z, zP Z, zS Z, zR Z, zQ Z, zL Z, (A9), zG Z)).flatten) 0 0 := by
  refine ((kX7_violations l X (ad 0) (ad 1) (ad 2) (qa 0) (ad 3) (ra 0) (ad 4) (ad 5) (ad 6) (zI Z 0) (zI Z 1) (zA Z) pa pb (zP Z) (hPI)).blk (clB X ad pa pb qa qb ra rb ha hb Z) clL [0, 29, 2, 3] rfl (blt rfl) rfl (by decide +kernel)).weak (fun v9 w9 h9 => ?_)
  · obtain ⟨w1, ⟨A9, f0, hv9, rfl⟩, hW⟩ := h9
    exact ⟨A9, f0, hv9, (hW [(clB X ad pa pb qa qb ra rb ha hb (zI Z, zT Z, zB Z, zP Z, zS Z, zR Z, zQ Z, zL Z, (A9), zG Z)).getD 0 [], (clB X ad pa pb qa qb ra rb ha hb (zI Z, zT Z, zB Z, zP Z, zS Z, zR Z, zQ Z, zL Z, (A9), zG Z)).getD 29 [], (clB X ad pa pb qa qb ra rb ha hb (zI Z, zT Z, zB Z, zP Z, zS Z, zR Z, zQ Z, zL Z, (A9), zG Z)).getD 2 [], (clB X ad pa pb qa qb ra rb ha hb (zI Z, zT Z, zB Z, zP Z, zS Z, zR Z, zQ Z, zL Z, (A9), zG Z)).getD 3 []] rfl rfl).trans rfl⟩

set_option maxHeartbeats 1000000 in
set_option maxRecDepth 100000 in
theorem uX7_writeSchedule (l : Launch) (X : KX) (kS : Nat → Nat) (hst : l.stackTraces = false) (ad pa pb qa qb ra rb : Nat → Nat) (ha hb : Nat → Nat → Nat) (Z : CZ) (i : Int) (hPI : PI (zP Z)) (hi9 : i32 i) : CT l X kS yX7_writeSchedule wsX7_writeSchedule ({ frames := 7, cells := 1, slots := 6, locals := 121 }) [.ref (ad 0), .int (iI i)] (clB X ad pa pb qa qb ra rb ha hb Z).flatten (fun v9 w9 => ∃ A9 : Nat → Int, (0 ≤ i ∧ i < Pn (zP Z)) ∧ v9 = some (.int (iI (repN (PL (zP Z) i.toNat)))) ∧ w9 = (clB X ad pa pb qa qb ra rb ha hb (uI (zI Z) 4 (repN (PL (zP Z) i.toNat)), zT Z, ((wrL (zB Z) 0 (repL (PL (zP Z) i.toNat)))), zP Z, zS Z, zR Z, zQ Z, zL Z, (A9), zG Z)).flatten) (fun E9 w9 => (E9 = "java/lang/IndexOutOfBoundsException") ∧ (¬ (0 ≤ i ∧ i < Pn (zP Z))) ∧ w9 = (clB X ad pa pb qa qb ra rb ha hb Z).flatten) 1 6 := by
  refine ((kX7_writeSchedule l X kS hst (ad 0) (ad 1) (ad 2) (qa 0) (ad 3) (ra 0) (ad 4) (ad 5) (ad 6) (zI Z 0) (zI Z 1) (zA Z) (ad 8) (zI Z 4) (zB Z) pa pb (zP Z) i (hPI) (hi9)).blk (clB X ad pa pb qa qb ra rb ha hb Z) clL [0, 29, 24, 25, 2, 3] rfl (blt rfl) rfl (by decide +kernel)).weak (fun v9 w9 h9 => ?_) (fun E9 w9 h9 => ?_)
  · obtain ⟨w1, ⟨A9, f0, hv9, rfl⟩, hW⟩ := h9
    exact ⟨A9, f0, hv9, (hW [(clB X ad pa pb qa qb ra rb ha hb (uI (zI Z) 4 (repN (PL (zP Z) i.toNat)), zT Z, ((wrL (zB Z) 0 (repL (PL (zP Z) i.toNat)))), zP Z, zS Z, zR Z, zQ Z, zL Z, (A9), zG Z)).getD 0 [], (clB X ad pa pb qa qb ra rb ha hb (uI (zI Z) 4 (repN (PL (zP Z) i.toNat)), zT Z, ((wrL (zB Z) 0 (repL (PL (zP Z) i.toNat)))), zP Z, zS Z, zR Z, zQ Z, zL Z, (A9), zG Z)).getD 29 [], (clB X ad pa pb qa qb ra rb ha hb (uI (zI Z) 4 (repN (PL (zP Z) i.toNat)), zT Z, ((wrL (zB Z) 0 (repL (PL (zP Z) i.toNat)))), zP Z, zS Z, zR Z, zQ Z, zL Z, (A9), zG Z)).getD 24 [], (clB X ad pa pb qa qb ra rb ha hb (uI (zI Z) 4 (repN (PL (zP Z) i.toNat)), zT Z, ((wrL (zB Z) 0 (repL (PL (zP Z) i.toNat)))), zP Z, zS Z, zR Z, zQ Z, zL Z, (A9), zG Z)).getD 25 [], (clB X ad pa pb qa qb ra rb ha hb (uI (zI Z) 4 (repN (PL (zP Z) i.toNat)), zT Z, ((wrL (zB Z) 0 (repL (PL (zP Z) i.toNat)))), zP Z, zS Z, zR Z, zQ Z, zL Z, (A9), zG Z)).getD 2 [], (clB X ad pa pb qa qb ra rb ha hb (uI (zI Z) 4 (repN (PL (zP Z) i.toNat)), zT Z, ((wrL (zB Z) 0 (repL (PL (zP Z) i.toNat)))), zP Z, zS Z, zR Z, zQ Z, zL Z, (A9), zG Z)).getD 3 []] rfl rfl).trans rfl⟩
  · obtain ⟨w1, ⟨f0, f1, rfl⟩, hW⟩ := h9
    exact ⟨f0, f1, (hW [(clB X ad pa pb qa qb ra rb ha hb Z).getD 0 [], (clB X ad pa pb qa qb ra rb ha hb Z).getD 29 [], (clB X ad pa pb qa qb ra rb ha hb Z).getD 24 [], (clB X ad pa pb qa qb ra rb ha hb Z).getD 25 [], (clB X ad pa pb qa qb ra rb ha hb Z).getD 2 [], (clB X ad pa pb qa qb ra rb ha hb Z).getD 3 []] rfl rfl).trans rfl⟩

set_option maxHeartbeats 1000000 in
set_option maxRecDepth 100000 in
theorem uX7_reportByte (l : Launch) (X : KX) (ad pa pb qa qb ra rb : Nat → Nat) (ha hb : Nat → Nat → Nat) (Z : CZ) (k : Int) (hk9 : i32 k) (hrs : 0 ≤ (zI Z 4) ∧ (zI Z 4) ≤ 256) : CM l X yX7_reportByte wsX7_reportByte ({ frames := 0, cells := 0, slots := 0, locals := 0 }) [.ref (ad 0), .int (iI k)] (clB X ad pa pb qa qb ra rb ha hb Z).flatten (fun v9 w9 => ∃ z : Int, ((0 ≤ k ∧ k < (zI Z 4) ∧ z = (zB Z) k.toNat) ∨ (¬ (0 ≤ k ∧ k < (zI Z 4)) ∧ z = -1)) ∧ v9 = some (.int (iI z)) ∧ w9 = (clB X ad pa pb qa qb ra rb ha hb Z).flatten) 0 0 := by
  refine ((kX7_reportByte l X (ad 0) (ad 1) (ad 2) (qa 0) (ad 3) (ra 0) (ad 4) (ad 5) (ad 6) (zI Z 0) (zI Z 1) (pa 0) (ad 8) (zI Z 4) (zB Z) k (hk9) (hrs)).blk (clB X ad pa pb qa qb ra rb ha hb Z) clL [0, 24, 25] rfl (blt rfl) rfl (by decide +kernel)).weak (fun v9 w9 h9 => ?_)
  · obtain ⟨w1, ⟨z, f0, hv9, rfl⟩, hW⟩ := h9
    exact ⟨z, f0, hv9, (hW [(clB X ad pa pb qa qb ra rb ha hb Z).getD 0 [], (clB X ad pa pb qa qb ra rb ha hb Z).getD 24 [], (clB X ad pa pb qa qb ra rb ha hb Z).getD 25 []] rfl rfl).trans rfl⟩

