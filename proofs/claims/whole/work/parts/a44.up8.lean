set_option maxHeartbeats 1000000 in
set_option maxRecDepth 100000 in
theorem uX8_append (l : Launch) (X : KX) (d rr : Nat → Nat) (Y : RZ) (x0 : Int) (x1 : Int) (x2 : Int) (x3 : Int) (x4 : Int) (ht : 0 ≤ (eM Y) 9 ∧ (eM Y) 9 ≤ 500) (hx0 : i32 x0) (hx1 : i32 x1) (hx2 : i32 x2) (hx3 : i32 x3) (hx4 : i32 x4) : CM l X yX8_append wsX8_append ({ frames := 1, cells := 0, slots := 0, locals := 22 }) [.ref (d 0), .int (iI x0), .int (iI x1), .int (iI x2), .int (iI x3), .int (iI x4)] (rfB X d rr Y).flatten (fun v9 w9 => ∃ n9 : Int, ∃ U : Nat → Int, ∃ z : Int, (((eM Y) 9 + 20 ≤ 500 ∧ z = (eM Y) 9 + 20 ∧ n9 = (eM Y) 9 + 20 ∧ U = ap5 (eT Y) ((eM Y) 9) x0 x1 x2 x3 x4) ∨ (500 < (eM Y) 9 + 20 ∧ z = -2 ∧ n9 = (eM Y) 9 ∧ U = (eT Y))) ∧ v9 = some (.int (iI z)) ∧ w9 = (rfB X d rr ((uI (uI (eM Y) 0 0) 9 n9), eW Y, eQ Y, eC Y, eS Y, eB Y, eA Y, (U), eR Y)).flatten) 0 0 := by
  refine ((kX8_append l X d (eM Y) (eT Y) x0 x1 x2 x3 x4 (ht) (hx0) (hx1) (hx2) (hx3) (hx4)).blk (rfB X d rr Y) rfL [0, 7] rfl (blt rfl) rfl (by decide +kernel)).weak (fun v9 w9 h9 => ?_)
  obtain ⟨w1, ⟨n9, U, z, f0, hv9, rfl⟩, hW⟩ := h9
  exact ⟨n9, U, z, f0, hv9, (hW [(rfB X d rr ((uI (uI (eM Y) 0 0) 9 n9), eW Y, eQ Y, eC Y, eS Y, eB Y, eA Y, (U), eR Y)).getD 0 [], (rfB X d rr ((uI (uI (eM Y) 0 0) 9 n9), eW Y, eQ Y, eC Y, eS Y, eB Y, eA Y, (U), eR Y)).getD 7 []] rfl rfl).trans rfl⟩

set_option maxHeartbeats 1000000 in
set_option maxRecDepth 100000 in
theorem uX8_truncateInput (l : Launch) (X : KX) (d rr : Nat → Nat) (Y : RZ) (x : Int) (hx : i32 x) (ht : 0 ≤ (eM Y) 9 ∧ (eM Y) 9 ≤ 500) : CM l X yX8_truncateInput wsX8_truncateInput ({ frames := 1, cells := 0, slots := 0, locals := 24 }) [.ref (d 0), .int (iI x)] (rfB X d rr Y).flatten (fun v9 w9 => ∃ t : Int, ∃ n : Int, ∃ r : Int, ((t = 0 ∧ 0 ≤ x ∧ x ≤ (eM Y) 9 ∧ n = x ∧ r = x) ∨ (t = 1 ∧ ¬ (0 ≤ x ∧ x ≤ (eM Y) 9) ∧ n = (eM Y) 9 ∧ r = 0)) ∧ v9 = some (.int (iI r)) ∧ w9 = (rfB X d rr ((uI (uI (eM Y) 0 t) 9 n), eW Y, eQ Y, eC Y, eS Y, eB Y, eA Y, eT Y, eR Y)).flatten) 0 0 := by
  refine ((kX8_truncateInput l X d (eM Y) x (hx) (ht)).blk (rfB X d rr Y) rfL [0] rfl (blt rfl) rfl (by decide +kernel)).weak (fun v9 w9 h9 => ?_)
  obtain ⟨w1, ⟨t, n, r, f0, hv9, rfl⟩, hW⟩ := h9
  exact ⟨t, n, r, f0, hv9, (hW [(rfB X d rr ((uI (uI (eM Y) 0 t) 9 n), eW Y, eQ Y, eC Y, eS Y, eB Y, eA Y, eT Y, eR Y)).getD 0 []] rfl rfl).trans rfl⟩

set_option maxHeartbeats 1000000 in
set_option maxRecDepth 100000 in
theorem uX8_inputLength (l : Launch) (X : KX) (d rr : Nat → Nat) (Y : RZ) : CM l X yX8_inputLength wsX8_inputLength ({ frames := 0, cells := 0, slots := 0, locals := 0 }) [.ref (d 0)] (rfB X d rr Y).flatten (fun v9 w9 => v9 = some (.int (iI ((eM Y) 9))) ∧ w9 = (rfB X d rr ((uI (eM Y) 0 0), eW Y, eQ Y, eC Y, eS Y, eB Y, eA Y, eT Y, eR Y)).flatten) 0 0 := by
  refine ((kX8_inputLength l X d (eM Y) ).blk (rfB X d rr Y) rfL [0] rfl (blt rfl) rfl (by decide +kernel)).weak (fun v9 w9 h9 => ?_)
  obtain ⟨w1, ⟨hv9, rfl⟩, hW⟩ := h9
  exact ⟨hv9, (hW [(rfB X d rr ((uI (eM Y) 0 0), eW Y, eQ Y, eC Y, eS Y, eB Y, eA Y, eT Y, eR Y)).getD 0 []] rfl rfl).trans rfl⟩

set_option maxHeartbeats 1000000 in
set_option maxRecDepth 100000 in
theorem uX8_runScript (l : Launch) (X : KX) (kS : Nat → Nat) (d rr : Nat → Nat) (Y : RZ) (ht : 0 ≤ (eM Y) 9 ∧ (eM Y) 9 ≤ 500) (hT : ∀ k : Nat, 0 ≤ (eT Y) k ∧ (eT Y) k ≤ 255) (hpc : 0 ≤ (eM Y) 3 ∧ (eM Y) 3 ≤ 8) (hq : ∀ j, j < 8 → (eQ Y) j < 8) (hWI : WI (eW Y)) (hg : 0 ≤ (eM Y) 23 ∧ (eM Y) 23 ≤ 9999999) : CE l X kS yX8_runScript wsX8_runScript ({ frames := 21, cells := 0, slots := 0, locals := 425 }) [.ref (d 0)] (rfB X d rr Y).flatten (fun v9 w9 => ∃ N : Nat → Int, ∃ u : Nat → Int, ∃ y : Nat → Int, ∃ p : Nat → Nat, ∃ K : Nat → Nat → Int, ∃ z : Int, (∃ u9, SRO (eT Y) ((eM Y) 9) (N 26) (N 27) u9 ∧ (N 26 = 0 → u9 = u)) ∧ ((N 26 = 0 ∧ z = u 0 ∧ p = rmQ (eQ Y) ((eM Y) 3) ∧ K = rmC (eC Y) (eQ Y) ((eM Y) 3) (eW Y) ∧ N 3 = min ((eM Y) 3 + 1) 8) ∨ (N 26 ≠ 0 ∧ u = (eW Y) ∧ z = -1 ∧ p = (eQ Y) ∧ K = (eC Y) ∧ N 3 = (eM Y) 3)) ∧ (N 0 = 0 ∧ N 9 = 0 ∧ N 5 = (eM Y) 5 ∧ N 11 = (eM Y) 11) ∧ ((0 ≤ N 23 ∧ N 23 ≤ 9999999) ∧ 0 ≤ N 26 ∧ N 26 ≤ 9) ∧ (WI u) ∧ (EN (N 26) (N 27)) ∧ v9 = some (.int (iI z)) ∧ w9 = (rfB X d rr ((N), (u), (p), (K), eS Y, (y), eA Y, eT Y, eR Y)).flatten) 0 0 := by
  refine ((kX8_runScript l X kS d rr (eQ Y) (eM Y) (eC Y) (eW Y) (eB Y) (eT Y) (ht) (hT) (hpc) (hq) (hWI) (hg)).blk (rfB X d rr Y) rfL [0, 1, 5, 7, 2, 3] rfl (blt rfl) rfl (by decide +kernel)).weak (fun v9 w9 h9 => ?_)
  obtain ⟨w1, ⟨N, u, y, p, K, z, f0, f1, f2, f3, f4, f5, hv9, rfl⟩, hW⟩ := h9
  exact ⟨N, u, y, p, K, z, f0, f1, f2, f3, f4, f5, hv9, (hW [(rfB X d rr ((N), (u), (p), (K), eS Y, (y), eA Y, eT Y, eR Y)).getD 0 [], (rfB X d rr ((N), (u), (p), (K), eS Y, (y), eA Y, eT Y, eR Y)).getD 1 [], (rfB X d rr ((N), (u), (p), (K), eS Y, (y), eA Y, eT Y, eR Y)).getD 5 [], (rfB X d rr ((N), (u), (p), (K), eS Y, (y), eA Y, eT Y, eR Y)).getD 7 [], (rfB X d rr ((N), (u), (p), (K), eS Y, (y), eA Y, eT Y, eR Y)).getD 2 [], (rfB X d rr ((N), (u), (p), (K), eS Y, (y), eA Y, eT Y, eR Y)).getD 3 []] rfl rfl).trans rfl⟩

set_option maxHeartbeats 1000000 in
set_option maxRecDepth 100000 in
theorem uX8_openLoan (l : Launch) (X : KX) (kS : Nat → Nat) (d rr : Nat → Nat) (Y : RZ) (a : Int) (b : Int) (m : Int) (hpc : 0 ≤ (eM Y) 3 ∧ (eM Y) 3 ≤ 8) (hq : ∀ j, j < 8 → (eQ Y) j < 8) (hWI : WI (eW Y)) (ha9 : i32 a) (hb9 : i32 b) (hm32 : i32 m) : CE l X kS yX8_openLoan wsX8_openLoan ({ frames := 6, cells := 0, slots := 0, locals := 153 }) [.ref (d 0), .int (iI a), .int (iI b), .int (iI m)] (rfB X d rr Y).flatten (fun v9 w9 => ∃ N : Nat → Int, ∃ u : Nat → Int, ∃ p : Nat → Nat, ∃ K : Nat → Nat → Int, ∃ z : Int, (sameQ (eM Y) N) ∧ ((N 0 = 0 ∧ (((1 ≤ a ∧ a ≤ 9999999) ∧ (0 ≤ b ∧ b ≤ 3000) ∧ (1 ≤ m ∧ m ≤ 120)) ∧ (eW Y) 0 < 6) ∧ u = wNew (eW Y) a b m ∧ z = (eW Y) 0 ∧ N 3 = min ((eM Y) 3 + 1) 8 ∧ p = rmQ (eQ Y) ((eM Y) 3) ∧ K = rmC (eC Y) (eQ Y) ((eM Y) 3) (eW Y)) ∨ (N 0 = 1 ∧ (¬ ((1 ≤ a ∧ a ≤ 9999999) ∧ (0 ≤ b ∧ b ≤ 3000) ∧ (1 ≤ m ∧ m ≤ 120))) ∧ u = (eW Y) ∧ z = 0 ∧ N 3 = (eM Y) 3 ∧ p = (eQ Y) ∧ K = (eC Y)) ∨ (N 0 = 2 ∧ (((1 ≤ a ∧ a ≤ 9999999) ∧ (0 ≤ b ∧ b ≤ 3000) ∧ (1 ≤ m ∧ m ≤ 120)) ∧ (eW Y) 0 = 6) ∧ u = (eW Y) ∧ z = 0 ∧ N 3 = (eM Y) 3 ∧ p = (eQ Y) ∧ K = (eC Y))) ∧ v9 = some (.int (iI z)) ∧ w9 = (rfB X d rr ((N), (u), (p), (K), eS Y, eB Y, eA Y, eT Y, eR Y)).flatten) 0 0 := by
  refine ((kX8_openLoan l X kS d rr (eQ Y) (eM Y) (eC Y) (eW Y) a b m (hpc) (hq) (hWI) (ha9) (hb9) (hm32)).blk (rfB X d rr Y) rfL [0, 1, 2, 3] rfl (blt rfl) rfl (by decide +kernel)).weak (fun v9 w9 h9 => ?_)
  obtain ⟨w1, ⟨N, u, p, K, z, f0, f1, hv9, rfl⟩, hW⟩ := h9
  exact ⟨N, u, p, K, z, f0, f1, hv9, (hW [(rfB X d rr ((N), (u), (p), (K), eS Y, eB Y, eA Y, eT Y, eR Y)).getD 0 [], (rfB X d rr ((N), (u), (p), (K), eS Y, eB Y, eA Y, eT Y, eR Y)).getD 1 [], (rfB X d rr ((N), (u), (p), (K), eS Y, eB Y, eA Y, eT Y, eR Y)).getD 2 [], (rfB X d rr ((N), (u), (p), (K), eS Y, eB Y, eA Y, eT Y, eR Y)).getD 3 []] rfl rfl).trans rfl⟩

set_option maxHeartbeats 1000000 in
set_option maxRecDepth 100000 in
theorem uX8_pay (l : Launch) (X : KX) (kS : Nat → Nat) (d rr : Nat → Nat) (Y : RZ) (i : Int) (hpc : 0 ≤ (eM Y) 3 ∧ (eM Y) 3 ≤ 8) (hq : ∀ j, j < 8 → (eQ Y) j < 8) (hWI : WI (eW Y)) (hi9 : i32 i) : CE l X kS yX8_pay wsX8_pay ({ frames := 4, cells := 0, slots := 0, locals := 88 }) [.ref (d 0), .int (iI i)] (rfB X d rr Y).flatten (fun v9 w9 => ∃ N : Nat → Int, ∃ u : Nat → Int, ∃ p : Nat → Nat, ∃ K : Nat → Nat → Int, ∃ z : Int, (sameQ (eM Y) N) ∧ ((N 0 = 0 ∧ ((0 ≤ i ∧ i < (eW Y) 0) ∧ 0 < wOf (eW Y) i 1) ∧ u = wPay (eW Y) i ∧ z = dueL (WL (eW Y) i) ∧ N 3 = min ((eM Y) 3 + 1) 8 ∧ p = rmQ (eQ Y) ((eM Y) 3) ∧ K = rmC (eC Y) (eQ Y) ((eM Y) 3) (eW Y)) ∨ (N 0 = 1 ∧ (¬ (0 ≤ i ∧ i < (eW Y) 0)) ∧ u = (eW Y) ∧ z = 0 ∧ N 3 = (eM Y) 3 ∧ p = (eQ Y) ∧ K = (eC Y)) ∨ (N 0 = 2 ∧ ((0 ≤ i ∧ i < (eW Y) 0) ∧ wOf (eW Y) i 1 ≤ 0) ∧ u = (eW Y) ∧ z = 0 ∧ N 3 = (eM Y) 3 ∧ p = (eQ Y) ∧ K = (eC Y))) ∧ v9 = some (.int (iI z)) ∧ w9 = (rfB X d rr ((N), (u), (p), (K), eS Y, eB Y, eA Y, eT Y, eR Y)).flatten) 0 0 := by
  refine ((kX8_pay l X kS d rr (eQ Y) (eM Y) (eC Y) (eW Y) i (hpc) (hq) (hWI) (hi9)).blk (rfB X d rr Y) rfL [0, 1, 2, 3] rfl (blt rfl) rfl (by decide +kernel)).weak (fun v9 w9 h9 => ?_)
  obtain ⟨w1, ⟨N, u, p, K, z, f0, f1, hv9, rfl⟩, hW⟩ := h9
  exact ⟨N, u, p, K, z, f0, f1, hv9, (hW [(rfB X d rr ((N), (u), (p), (K), eS Y, eB Y, eA Y, eT Y, eR Y)).getD 0 [], (rfB X d rr ((N), (u), (p), (K), eS Y, eB Y, eA Y, eT Y, eR Y)).getD 1 [], (rfB X d rr ((N), (u), (p), (K), eS Y, eB Y, eA Y, eT Y, eR Y)).getD 2 [], (rfB X d rr ((N), (u), (p), (K), eS Y, eB Y, eA Y, eT Y, eR Y)).getD 3 []] rfl rfl).trans rfl⟩

set_option maxHeartbeats 1000000 in
set_option maxRecDepth 100000 in
theorem uX8_payAll (l : Launch) (X : KX) (kS : Nat → Nat) (d rr : Nat → Nat) (Y : RZ) (hpc : 0 ≤ (eM Y) 3 ∧ (eM Y) 3 ≤ 8) (hq : ∀ j, j < 8 → (eQ Y) j < 8) (hWI : WI (eW Y)) : CE l X kS yX8_payAll wsX8_payAll ({ frames := 5, cells := 0, slots := 0, locals := 110 }) [.ref (d 0)] (rfB X d rr Y).flatten (fun v9 w9 => ∃ N : Nat → Int, ∃ u : Nat → Int, ∃ p : Nat → Nat, ∃ K : Nat → Nat → Int, ∃ z : Int, (sameQ (eM Y) N) ∧ ((N 0 = 0 ∧ (True) ∧ u = wAll (eW Y) ((eW Y) 0).toNat ∧ z = wSum (eW Y) ((eW Y) 0).toNat ∧ N 3 = min ((eM Y) 3 + 1) 8 ∧ p = rmQ (eQ Y) ((eM Y) 3) ∧ K = rmC (eC Y) (eQ Y) ((eM Y) 3) (eW Y))) ∧ v9 = some (.int (iI z)) ∧ w9 = (rfB X d rr ((N), (u), (p), (K), eS Y, eB Y, eA Y, eT Y, eR Y)).flatten) 0 0 := by
  refine ((kX8_payAll l X kS d rr (eQ Y) (eM Y) (eC Y) (eW Y) (hpc) (hq) (hWI)).blk (rfB X d rr Y) rfL [0, 1, 2, 3] rfl (blt rfl) rfl (by decide +kernel)).weak (fun v9 w9 h9 => ?_)
  obtain ⟨w1, ⟨N, u, p, K, z, f0, f1, hv9, rfl⟩, hW⟩ := h9
  exact ⟨N, u, p, K, z, f0, f1, hv9, (hW [(rfB X d rr ((N), (u), (p), (K), eS Y, eB Y, eA Y, eT Y, eR Y)).getD 0 [], (rfB X d rr ((N), (u), (p), (K), eS Y, eB Y, eA Y, eT Y, eR Y)).getD 1 [], (rfB X d rr ((N), (u), (p), (K), eS Y, eB Y, eA Y, eT Y, eR Y)).getD 2 [], (rfB X d rr ((N), (u), (p), (K), eS Y, eB Y, eA Y, eT Y, eR Y)).getD 3 []] rfl rfl).trans rfl⟩

set_option maxHeartbeats 1000000 in
set_option maxRecDepth 100000 in
theorem uX8_payExtra (l : Launch) (X : KX) (kS : Nat → Nat) (d rr : Nat → Nat) (Y : RZ) (i : Int) (a : Int) (y : Int) (hpc : 0 ≤ (eM Y) 3 ∧ (eM Y) 3 ≤ 8) (hq : ∀ j, j < 8 → (eQ Y) j < 8) (hWI : WI (eW Y)) (hi9 : i32 i) (ha9 : i32 a) (hy : y = 0 ∨ y = 1) : CE l X kS yX8_payExtra wsX8_payExtra ({ frames := 6, cells := 0, slots := 0, locals := 151 }) [.ref (d 0), .int (iI i), .int (iI a), .int (iI y)] (rfB X d rr Y).flatten (fun v9 w9 => ∃ N : Nat → Int, ∃ u : Nat → Int, ∃ p : Nat → Nat, ∃ K : Nat → Nat → Int, ∃ z : Int, (sameQ (eM Y) N) ∧ ((N 0 = 0 ∧ ((0 ≤ i ∧ i < (eW Y) 0) ∧ 1 ≤ a ∧ 0 < wOf (eW Y) i 1 ∧ a ≤ wOf (eW Y) i 1) ∧ u = wRed (eW Y) i a y ∧ z = wOf (wRed (eW Y) i a y) i 1 ∧ N 3 = min ((eM Y) 3 + 1) 8 ∧ p = rmQ (eQ Y) ((eM Y) 3) ∧ K = rmC (eC Y) (eQ Y) ((eM Y) 3) (eW Y)) ∨ (N 0 = 1 ∧ (¬ (0 ≤ i ∧ i < (eW Y) 0)) ∧ u = (eW Y) ∧ z = 0 ∧ N 3 = (eM Y) 3 ∧ p = (eQ Y) ∧ K = (eC Y)) ∨ (N 0 = 2 ∧ ((0 ≤ i ∧ i < (eW Y) 0) ∧ ¬ (1 ≤ a ∧ a ≤ 9999999)) ∧ u = (eW Y) ∧ z = 0 ∧ N 3 = (eM Y) 3 ∧ p = (eQ Y) ∧ K = (eC Y)) ∨ (N 0 = 3 ∧ ((0 ≤ i ∧ i < (eW Y) 0) ∧ (1 ≤ a ∧ a ≤ 9999999) ∧ ¬ (0 < wOf (eW Y) i 1 ∧ a ≤ wOf (eW Y) i 1)) ∧ u = (eW Y) ∧ z = 0 ∧ N 3 = (eM Y) 3 ∧ p = (eQ Y) ∧ K = (eC Y))) ∧ v9 = some (.int (iI z)) ∧ w9 = (rfB X d rr ((N), (u), (p), (K), eS Y, eB Y, eA Y, eT Y, eR Y)).flatten) 0 0 := by
  refine ((kX8_payExtra l X kS d rr (eQ Y) (eM Y) (eC Y) (eW Y) i a y (hpc) (hq) (hWI) (hi9) (ha9) (hy)).blk (rfB X d rr Y) rfL [0, 1, 2, 3] rfl (blt rfl) rfl (by decide +kernel)).weak (fun v9 w9 h9 => ?_)
  obtain ⟨w1, ⟨N, u, p, K, z, f0, f1, hv9, rfl⟩, hW⟩ := h9
  exact ⟨N, u, p, K, z, f0, f1, hv9, (hW [(rfB X d rr ((N), (u), (p), (K), eS Y, eB Y, eA Y, eT Y, eR Y)).getD 0 [], (rfB X d rr ((N), (u), (p), (K), eS Y, eB Y, eA Y, eT Y, eR Y)).getD 1 [], (rfB X d rr ((N), (u), (p), (K), eS Y, eB Y, eA Y, eT Y, eR Y)).getD 2 [], (rfB X d rr ((N), (u), (p), (K), eS Y, eB Y, eA Y, eT Y, eR Y)).getD 3 []] rfl rfl).trans rfl⟩

set_option maxHeartbeats 1000000 in
set_option maxRecDepth 100000 in
theorem uX8_skipMonth (l : Launch) (X : KX) (kS : Nat → Nat) (d rr : Nat → Nat) (Y : RZ) (i : Int) (hpc : 0 ≤ (eM Y) 3 ∧ (eM Y) 3 ≤ 8) (hq : ∀ j, j < 8 → (eQ Y) j < 8) (hWI : WI (eW Y)) (hi9 : i32 i) : CE l X kS yX8_skipMonth wsX8_skipMonth ({ frames := 6, cells := 0, slots := 0, locals := 150 }) [.ref (d 0), .int (iI i)] (rfB X d rr Y).flatten (fun v9 w9 => ∃ N : Nat → Int, ∃ u : Nat → Int, ∃ p : Nat → Nat, ∃ K : Nat → Nat → Int, ∃ z : Int, (sameQ (eM Y) N) ∧ ((N 0 = 0 ∧ ((0 ≤ i ∧ i < (eW Y) 0) ∧ 0 < wOf (eW Y) i 1 ∧ wOf (eW Y) i 9 < 6 ∧ fW (wOf (eW Y) i 1) (wOf (eW Y) i 2) (wOf (eW Y) i 5) ≤ 9999999) ∧ u = wDef (eW Y) i ∧ z = fI (wOf (eW Y) i 1) (wOf (eW Y) i 2) (wOf (eW Y) i 5) ∧ N 3 = min ((eM Y) 3 + 1) 8 ∧ p = rmQ (eQ Y) ((eM Y) 3) ∧ K = rmC (eC Y) (eQ Y) ((eM Y) 3) (eW Y)) ∨ (N 0 = 1 ∧ (¬ (0 ≤ i ∧ i < (eW Y) 0)) ∧ u = (eW Y) ∧ z = 0 ∧ N 3 = (eM Y) 3 ∧ p = (eQ Y) ∧ K = (eC Y)) ∨ (N 0 = 2 ∧ ((0 ≤ i ∧ i < (eW Y) 0) ∧ ¬ (0 < wOf (eW Y) i 1 ∧ wOf (eW Y) i 9 < 6 ∧ fW (wOf (eW Y) i 1) (wOf (eW Y) i 2) (wOf (eW Y) i 5) ≤ 9999999)) ∧ u = (eW Y) ∧ z = 0 ∧ N 3 = (eM Y) 3 ∧ p = (eQ Y) ∧ K = (eC Y))) ∧ v9 = some (.int (iI z)) ∧ w9 = (rfB X d rr ((N), (u), (p), (K), eS Y, eB Y, eA Y, eT Y, eR Y)).flatten) 0 0 := by
  refine ((kX8_skipMonth l X kS d rr (eQ Y) (eM Y) (eC Y) (eW Y) i (hpc) (hq) (hWI) (hi9)).blk (rfB X d rr Y) rfL [0, 1, 2, 3] rfl (blt rfl) rfl (by decide +kernel)).weak (fun v9 w9 h9 => ?_)
  obtain ⟨w1, ⟨N, u, p, K, z, f0, f1, hv9, rfl⟩, hW⟩ := h9
  exact ⟨N, u, p, K, z, f0, f1, hv9, (hW [(rfB X d rr ((N), (u), (p), (K), eS Y, eB Y, eA Y, eT Y, eR Y)).getD 0 [], (rfB X d rr ((N), (u), (p), (K), eS Y, eB Y, eA Y, eT Y, eR Y)).getD 1 [], (rfB X d rr ((N), (u), (p), (K), eS Y, eB Y, eA Y, eT Y, eR Y)).getD 2 [], (rfB X d rr ((N), (u), (p), (K), eS Y, eB Y, eA Y, eT Y, eR Y)).getD 3 []] rfl rfl).trans rfl⟩

set_option maxHeartbeats 1000000 in
set_option maxRecDepth 100000 in
theorem uX8_changeRate (l : Launch) (X : KX) (kS : Nat → Nat) (d rr : Nat → Nat) (Y : RZ) (i : Int) (a : Int) (hpc : 0 ≤ (eM Y) 3 ∧ (eM Y) 3 ≤ 8) (hq : ∀ j, j < 8 → (eQ Y) j < 8) (hWI : WI (eW Y)) (hi9 : i32 i) (ha9 : i32 a) : CE l X kS yX8_changeRate wsX8_changeRate ({ frames := 6, cells := 0, slots := 0, locals := 150 }) [.ref (d 0), .int (iI i), .int (iI a)] (rfB X d rr Y).flatten (fun v9 w9 => ∃ N : Nat → Int, ∃ u : Nat → Int, ∃ p : Nat → Nat, ∃ K : Nat → Nat → Int, ∃ z : Int, (sameQ (eM Y) N) ∧ ((N 0 = 0 ∧ ((0 ≤ i ∧ i < (eW Y) 0) ∧ (0 ≤ a ∧ a ≤ 3000) ∧ 0 < wOf (eW Y) i 1) ∧ u = wRate (eW Y) i a ∧ z = wOf (wRate (eW Y) i a) i 4 ∧ N 3 = min ((eM Y) 3 + 1) 8 ∧ p = rmQ (eQ Y) ((eM Y) 3) ∧ K = rmC (eC Y) (eQ Y) ((eM Y) 3) (eW Y)) ∨ (N 0 = 1 ∧ (¬ (0 ≤ i ∧ i < (eW Y) 0)) ∧ u = (eW Y) ∧ z = 0 ∧ N 3 = (eM Y) 3 ∧ p = (eQ Y) ∧ K = (eC Y)) ∨ (N 0 = 2 ∧ ((0 ≤ i ∧ i < (eW Y) 0) ∧ ¬ (0 ≤ a ∧ a ≤ 3000)) ∧ u = (eW Y) ∧ z = 0 ∧ N 3 = (eM Y) 3 ∧ p = (eQ Y) ∧ K = (eC Y)) ∨ (N 0 = 3 ∧ ((0 ≤ i ∧ i < (eW Y) 0) ∧ (0 ≤ a ∧ a ≤ 3000) ∧ wOf (eW Y) i 1 ≤ 0) ∧ u = (eW Y) ∧ z = 0 ∧ N 3 = (eM Y) 3 ∧ p = (eQ Y) ∧ K = (eC Y))) ∧ v9 = some (.int (iI z)) ∧ w9 = (rfB X d rr ((N), (u), (p), (K), eS Y, eB Y, eA Y, eT Y, eR Y)).flatten) 0 0 := by
  refine ((kX8_changeRate l X kS d rr (eQ Y) (eM Y) (eC Y) (eW Y) i a (hpc) (hq) (hWI) (hi9) (ha9)).blk (rfB X d rr Y) rfL [0, 1, 2, 3] rfl (blt rfl) rfl (by decide +kernel)).weak (fun v9 w9 h9 => ?_)
  obtain ⟨w1, ⟨N, u, p, K, z, f0, f1, hv9, rfl⟩, hW⟩ := h9
  exact ⟨N, u, p, K, z, f0, f1, hv9, (hW [(rfB X d rr ((N), (u), (p), (K), eS Y, eB Y, eA Y, eT Y, eR Y)).getD 0 [], (rfB X d rr ((N), (u), (p), (K), eS Y, eB Y, eA Y, eT Y, eR Y)).getD 1 [], (rfB X d rr ((N), (u), (p), (K), eS Y, eB Y, eA Y, eT Y, eR Y)).getD 2 [], (rfB X d rr ((N), (u), (p), (K), eS Y, eB Y, eA Y, eT Y, eR Y)).getD 3 []] rfl rfl).trans rfl⟩

set_option maxHeartbeats 1000000 in
set_option maxRecDepth 100000 in
theorem uX8_extendTerm (l : Launch) (X : KX) (kS : Nat → Nat) (d rr : Nat → Nat) (Y : RZ) (i : Int) (a : Int) (hpc : 0 ≤ (eM Y) 3 ∧ (eM Y) 3 ≤ 8) (hq : ∀ j, j < 8 → (eQ Y) j < 8) (hWI : WI (eW Y)) (hi9 : i32 i) (ha9 : i32 a) : CE l X kS yX8_extendTerm wsX8_extendTerm ({ frames := 6, cells := 0, slots := 0, locals := 150 }) [.ref (d 0), .int (iI i), .int (iI a)] (rfB X d rr Y).flatten (fun v9 w9 => ∃ N : Nat → Int, ∃ u : Nat → Int, ∃ p : Nat → Nat, ∃ K : Nat → Nat → Int, ∃ z : Int, (sameQ (eM Y) N) ∧ ((N 0 = 0 ∧ ((0 ≤ i ∧ i < (eW Y) 0) ∧ (1 ≤ a ∧ a ≤ 60) ∧ 0 < wOf (eW Y) i 1 ∧ wOf (eW Y) i 3 + a ≤ 120) ∧ u = wLong (eW Y) i a ∧ z = wOf (wLong (eW Y) i a) i 4 ∧ N 3 = min ((eM Y) 3 + 1) 8 ∧ p = rmQ (eQ Y) ((eM Y) 3) ∧ K = rmC (eC Y) (eQ Y) ((eM Y) 3) (eW Y)) ∨ (N 0 = 1 ∧ (¬ (0 ≤ i ∧ i < (eW Y) 0)) ∧ u = (eW Y) ∧ z = 0 ∧ N 3 = (eM Y) 3 ∧ p = (eQ Y) ∧ K = (eC Y)) ∨ (N 0 = 2 ∧ ((0 ≤ i ∧ i < (eW Y) 0) ∧ ¬ (1 ≤ a ∧ a ≤ 60)) ∧ u = (eW Y) ∧ z = 0 ∧ N 3 = (eM Y) 3 ∧ p = (eQ Y) ∧ K = (eC Y)) ∨ (N 0 = 3 ∧ ((0 ≤ i ∧ i < (eW Y) 0) ∧ (1 ≤ a ∧ a ≤ 60) ∧ ¬ (0 < wOf (eW Y) i 1 ∧ wOf (eW Y) i 3 + a ≤ 120)) ∧ u = (eW Y) ∧ z = 0 ∧ N 3 = (eM Y) 3 ∧ p = (eQ Y) ∧ K = (eC Y))) ∧ v9 = some (.int (iI z)) ∧ w9 = (rfB X d rr ((N), (u), (p), (K), eS Y, eB Y, eA Y, eT Y, eR Y)).flatten) 0 0 := by
  refine ((kX8_extendTerm l X kS d rr (eQ Y) (eM Y) (eC Y) (eW Y) i a (hpc) (hq) (hWI) (hi9) (ha9)).blk (rfB X d rr Y) rfL [0, 1, 2, 3] rfl (blt rfl) rfl (by decide +kernel)).weak (fun v9 w9 h9 => ?_)
  obtain ⟨w1, ⟨N, u, p, K, z, f0, f1, hv9, rfl⟩, hW⟩ := h9
  exact ⟨N, u, p, K, z, f0, f1, hv9, (hW [(rfB X d rr ((N), (u), (p), (K), eS Y, eB Y, eA Y, eT Y, eR Y)).getD 0 [], (rfB X d rr ((N), (u), (p), (K), eS Y, eB Y, eA Y, eT Y, eR Y)).getD 1 [], (rfB X d rr ((N), (u), (p), (K), eS Y, eB Y, eA Y, eT Y, eR Y)).getD 2 [], (rfB X d rr ((N), (u), (p), (K), eS Y, eB Y, eA Y, eT Y, eR Y)).getD 3 []] rfl rfl).trans rfl⟩

set_option maxHeartbeats 1000000 in
set_option maxRecDepth 100000 in
theorem uX8_refinance (l : Launch) (X : KX) (kS : Nat → Nat) (d rr : Nat → Nat) (Y : RZ) (i : Int) (a : Int) (m : Int) (hpc : 0 ≤ (eM Y) 3 ∧ (eM Y) 3 ≤ 8) (hq : ∀ j, j < 8 → (eQ Y) j < 8) (hWI : WI (eW Y)) (hi9 : i32 i) (ha9 : i32 a) (hm32 : i32 m) : CE l X kS yX8_refinance wsX8_refinance ({ frames := 6, cells := 0, slots := 0, locals := 151 }) [.ref (d 0), .int (iI i), .int (iI a), .int (iI m)] (rfB X d rr Y).flatten (fun v9 w9 => ∃ N : Nat → Int, ∃ u : Nat → Int, ∃ p : Nat → Nat, ∃ K : Nat → Nat → Int, ∃ z : Int, (sameQ (eM Y) N) ∧ ((N 0 = 0 ∧ ((0 ≤ i ∧ i < (eW Y) 0) ∧ ((0 ≤ a ∧ a ≤ 3000) ∧ (1 ≤ m ∧ m ≤ 120)) ∧ 0 < wOf (eW Y) i 1) ∧ u = wSet (eW Y) i a m ∧ z = wOf (wSet (eW Y) i a m) i 4 ∧ N 3 = min ((eM Y) 3 + 1) 8 ∧ p = rmQ (eQ Y) ((eM Y) 3) ∧ K = rmC (eC Y) (eQ Y) ((eM Y) 3) (eW Y)) ∨ (N 0 = 1 ∧ (¬ (0 ≤ i ∧ i < (eW Y) 0)) ∧ u = (eW Y) ∧ z = 0 ∧ N 3 = (eM Y) 3 ∧ p = (eQ Y) ∧ K = (eC Y)) ∨ (N 0 = 2 ∧ ((0 ≤ i ∧ i < (eW Y) 0) ∧ ¬ ((0 ≤ a ∧ a ≤ 3000) ∧ (1 ≤ m ∧ m ≤ 120))) ∧ u = (eW Y) ∧ z = 0 ∧ N 3 = (eM Y) 3 ∧ p = (eQ Y) ∧ K = (eC Y)) ∨ (N 0 = 3 ∧ ((0 ≤ i ∧ i < (eW Y) 0) ∧ ((0 ≤ a ∧ a ≤ 3000) ∧ (1 ≤ m ∧ m ≤ 120)) ∧ wOf (eW Y) i 1 ≤ 0) ∧ u = (eW Y) ∧ z = 0 ∧ N 3 = (eM Y) 3 ∧ p = (eQ Y) ∧ K = (eC Y))) ∧ v9 = some (.int (iI z)) ∧ w9 = (rfB X d rr ((N), (u), (p), (K), eS Y, eB Y, eA Y, eT Y, eR Y)).flatten) 0 0 := by
  refine ((kX8_refinance l X kS d rr (eQ Y) (eM Y) (eC Y) (eW Y) i a m (hpc) (hq) (hWI) (hi9) (ha9) (hm32)).blk (rfB X d rr Y) rfL [0, 1, 2, 3] rfl (blt rfl) rfl (by decide +kernel)).weak (fun v9 w9 h9 => ?_)
  obtain ⟨w1, ⟨N, u, p, K, z, f0, f1, hv9, rfl⟩, hW⟩ := h9
  exact ⟨N, u, p, K, z, f0, f1, hv9, (hW [(rfB X d rr ((N), (u), (p), (K), eS Y, eB Y, eA Y, eT Y, eR Y)).getD 0 [], (rfB X d rr ((N), (u), (p), (K), eS Y, eB Y, eA Y, eT Y, eR Y)).getD 1 [], (rfB X d rr ((N), (u), (p), (K), eS Y, eB Y, eA Y, eT Y, eR Y)).getD 2 [], (rfB X d rr ((N), (u), (p), (K), eS Y, eB Y, eA Y, eT Y, eR Y)).getD 3 []] rfl rfl).trans rfl⟩

set_option maxHeartbeats 1000000 in
set_option maxRecDepth 100000 in
theorem uX8_spendExtra (l : Launch) (X : KX) (kS : Nat → Nat) (d rr : Nat → Nat) (Y : RZ) (a : Int) (hpc : 0 ≤ (eM Y) 3 ∧ (eM Y) 3 ≤ 8) (hq : ∀ j, j < 8 → (eQ Y) j < 8) (hWI : WI (eW Y)) (ha9 : i32 a) : CE l X kS yX8_spendExtra wsX8_spendExtra ({ frames := 6, cells := 0, slots := 0, locals := 151 }) [.ref (d 0), .int (iI a)] (rfB X d rr Y).flatten (fun v9 w9 => ∃ N : Nat → Int, ∃ u : Nat → Int, ∃ p : Nat → Nat, ∃ K : Nat → Nat → Int, ∃ z : Int, (sameQ (eM Y) N) ∧ ((N 0 = 0 ∧ (1 ≤ a ∧ a ≤ 9999999) ∧ u = wspF 1 6 (eW Y) a ∧ z = a - wlfF 1 6 (eW Y) a ∧ N 3 = min ((eM Y) 3 + 1) 8 ∧ p = rmQ (eQ Y) ((eM Y) 3) ∧ K = rmC (eC Y) (eQ Y) ((eM Y) 3) (eW Y)) ∨ (N 0 = 1 ∧ ¬ (1 ≤ a ∧ a ≤ 9999999) ∧ u = (eW Y) ∧ z = 0 ∧ N 3 = (eM Y) 3 ∧ p = (eQ Y) ∧ K = (eC Y))) ∧ v9 = some (.int (iI z)) ∧ w9 = (rfB X d rr ((N), (u), (p), (K), eS Y, eB Y, eA Y, eT Y, eR Y)).flatten) 0 0 := by
  refine ((kX8_spendExtra l X kS d rr (eQ Y) (eM Y) (eC Y) (eW Y) a (hpc) (hq) (hWI) (ha9)).blk (rfB X d rr Y) rfL [0, 1, 2, 3] rfl (blt rfl) rfl (by decide +kernel)).weak (fun v9 w9 h9 => ?_)
  obtain ⟨w1, ⟨N, u, p, K, z, f0, f1, hv9, rfl⟩, hW⟩ := h9
  exact ⟨N, u, p, K, z, f0, f1, hv9, (hW [(rfB X d rr ((N), (u), (p), (K), eS Y, eB Y, eA Y, eT Y, eR Y)).getD 0 [], (rfB X d rr ((N), (u), (p), (K), eS Y, eB Y, eA Y, eT Y, eR Y)).getD 1 [], (rfB X d rr ((N), (u), (p), (K), eS Y, eB Y, eA Y, eT Y, eR Y)).getD 2 [], (rfB X d rr ((N), (u), (p), (K), eS Y, eB Y, eA Y, eT Y, eR Y)).getD 3 []] rfl rfl).trans rfl⟩

set_option maxHeartbeats 1000000 in
set_option maxRecDepth 100000 in
theorem uX8_undo (l : Launch) (X : KX) (kS : Nat → Nat) (d rr : Nat → Nat) (Y : RZ) (hpc : 0 ≤ (eM Y) 3 ∧ (eM Y) 3 ≤ 8) (hq : ∀ j, j < 8 → (eQ Y) j < 8) : CE l X kS yX8_undo wsX8_undo ({ frames := 1, cells := 0, slots := 0, locals := 22 }) [.ref (d 0)] (rfB X d rr Y).flatten (fun v9 w9 => ∃ u : Nat → Int, ∃ m : Int, ∃ z : Int, (((eM Y) 3 = 0 ∧ z = -1 ∧ m = 0 ∧ u = (eW Y)) ∨ (1 ≤ (eM Y) 3 ∧ z = (eM Y) 3 - 1 ∧ m = (eM Y) 3 - 1 ∧ u = (eC Y) ((eQ Y) ((eM Y) 3 - 1).toNat))) ∧ v9 = some (.int (iI z)) ∧ w9 = (rfB X d rr ((uI (uI (eM Y) 0 0) 3 m), (u), eQ Y, eC Y, eS Y, eB Y, eA Y, eT Y, eR Y)).flatten) 0 0 := by
  refine ((kX8_undo l X kS d rr (eQ Y) (eM Y) (eC Y) (eW Y) (hpc) (hq)).blk (rfB X d rr Y) rfL [0, 1, 2, 3] rfl (blt rfl) rfl (by decide +kernel)).weak (fun v9 w9 h9 => ?_)
  obtain ⟨w1, ⟨u, m, z, f0, hv9, rfl⟩, hW⟩ := h9
  exact ⟨u, m, z, f0, hv9, (hW [(rfB X d rr ((uI (uI (eM Y) 0 0) 3 m), (u), eQ Y, eC Y, eS Y, eB Y, eA Y, eT Y, eR Y)).getD 0 [], (rfB X d rr ((uI (uI (eM Y) 0 0) 3 m), (u), eQ Y, eC Y, eS Y, eB Y, eA Y, eT Y, eR Y)).getD 1 [], (rfB X d rr ((uI (uI (eM Y) 0 0) 3 m), (u), eQ Y, eC Y, eS Y, eB Y, eA Y, eT Y, eR Y)).getD 2 [], (rfB X d rr ((uI (uI (eM Y) 0 0) 3 m), (u), eQ Y, eC Y, eS Y, eB Y, eA Y, eT Y, eR Y)).getD 3 []] rfl rfl).trans rfl⟩

set_option maxHeartbeats 1000000 in
set_option maxRecDepth 100000 in
theorem uX8_undoCount (l : Launch) (X : KX) (d rr : Nat → Nat) (Y : RZ) : CM l X yX8_undoCount wsX8_undoCount ({ frames := 0, cells := 0, slots := 0, locals := 0 }) [.ref (d 0)] (rfB X d rr Y).flatten (fun v9 w9 => v9 = some (.int (iI ((eM Y) 3))) ∧ w9 = (rfB X d rr ((uI (eM Y) 0 0), eW Y, eQ Y, eC Y, eS Y, eB Y, eA Y, eT Y, eR Y)).flatten) 0 0 := by
  refine ((kX8_undoCount l X d (eM Y) ).blk (rfB X d rr Y) rfL [0] rfl (blt rfl) rfl (by decide +kernel)).weak (fun v9 w9 h9 => ?_)
  obtain ⟨w1, ⟨hv9, rfl⟩, hW⟩ := h9
  exact ⟨hv9, (hW [(rfB X d rr ((uI (eM Y) 0 0), eW Y, eQ Y, eC Y, eS Y, eB Y, eA Y, eT Y, eR Y)).getD 0 []] rfl rfl).trans rfl⟩

set_option maxHeartbeats 1000000 in
set_option maxRecDepth 100000 in
theorem uX8_saveSnapshot (l : Launch) (X : KX) (d rr : Nat → Nat) (Y : RZ) : CM l X yX8_saveSnapshot wsX8_saveSnapshot ({ frames := 1, cells := 0, slots := 0, locals := 22 }) [.ref (d 0)] (rfB X d rr Y).flatten (fun v9 w9 => v9 = some (.int (iI ((eW Y) 0))) ∧ w9 = (rfB X d rr ((uI (uI (eM Y) 0 0) 5 1), eW Y, eQ Y, eC Y, ((eW Y)), eB Y, eA Y, eT Y, eR Y)).flatten) 0 0 := by
  refine ((kX8_saveSnapshot l X d (eM Y) (eW Y) (eS Y) ).blk (rfB X d rr Y) rfL [0, 1, 4] rfl (blt rfl) rfl (by decide +kernel)).weak (fun v9 w9 h9 => ?_)
  obtain ⟨w1, ⟨hv9, rfl⟩, hW⟩ := h9
  exact ⟨hv9, (hW [(rfB X d rr ((uI (uI (eM Y) 0 0) 5 1), eW Y, eQ Y, eC Y, ((eW Y)), eB Y, eA Y, eT Y, eR Y)).getD 0 [], (rfB X d rr ((uI (uI (eM Y) 0 0) 5 1), eW Y, eQ Y, eC Y, ((eW Y)), eB Y, eA Y, eT Y, eR Y)).getD 1 [], (rfB X d rr ((uI (uI (eM Y) 0 0) 5 1), eW Y, eQ Y, eC Y, ((eW Y)), eB Y, eA Y, eT Y, eR Y)).getD 4 []] rfl rfl).trans rfl⟩

set_option maxHeartbeats 1000000 in
set_option maxRecDepth 100000 in
theorem uX8_restoreSnapshot (l : Launch) (X : KX) (d rr : Nat → Nat) (Y : RZ) (hs : (eM Y) 5 = 0 ∨ (eM Y) 5 = 1) : CM l X yX8_restoreSnapshot wsX8_restoreSnapshot ({ frames := 1, cells := 0, slots := 0, locals := 22 }) [.ref (d 0)] (rfB X d rr Y).flatten (fun v9 w9 => ∃ u : Nat → Int, ∃ t : Int, ∃ m : Int, ∃ z : Int, (((eM Y) 5 = 1 ∧ t = 0 ∧ m = 0 ∧ u = (eS Y) ∧ z = (eS Y) 0) ∨ ((eM Y) 5 = 0 ∧ t = 1 ∧ m = (eM Y) 3 ∧ u = (eW Y) ∧ z = 0)) ∧ v9 = some (.int (iI z)) ∧ w9 = (rfB X d rr ((uI (uI (eM Y) 0 t) 3 m), (u), eQ Y, eC Y, eS Y, eB Y, eA Y, eT Y, eR Y)).flatten) 0 0 := by
  refine ((kX8_restoreSnapshot l X d (eM Y) (eW Y) (eS Y) (hs)).blk (rfB X d rr Y) rfL [0, 1, 4] rfl (blt rfl) rfl (by decide +kernel)).weak (fun v9 w9 h9 => ?_)
  obtain ⟨w1, ⟨u, t, m, z, f0, hv9, rfl⟩, hW⟩ := h9
  exact ⟨u, t, m, z, f0, hv9, (hW [(rfB X d rr ((uI (uI (eM Y) 0 t) 3 m), (u), eQ Y, eC Y, eS Y, eB Y, eA Y, eT Y, eR Y)).getD 0 [], (rfB X d rr ((uI (uI (eM Y) 0 t) 3 m), (u), eQ Y, eC Y, eS Y, eB Y, eA Y, eT Y, eR Y)).getD 1 [], (rfB X d rr ((uI (uI (eM Y) 0 t) 3 m), (u), eQ Y, eC Y, eS Y, eB Y, eA Y, eT Y, eR Y)).getD 4 []] rfl rfl).trans rfl⟩

set_option maxHeartbeats 1000000 in
set_option maxRecDepth 100000 in
theorem uX8_scriptErrorKind (l : Launch) (X : KX) (d rr : Nat → Nat) (Y : RZ) : CM l X yX8_scriptErrorKind wsX8_scriptErrorKind ({ frames := 0, cells := 0, slots := 0, locals := 0 }) [.ref (d 0)] (rfB X d rr Y).flatten (fun v9 w9 => v9 = some (.int (iI ((eM Y) 26))) ∧ w9 = (rfB X d rr ((uI (eM Y) 0 0), eW Y, eQ Y, eC Y, eS Y, eB Y, eA Y, eT Y, eR Y)).flatten) 0 0 := by
  refine ((kX8_scriptErrorKind l X d (eM Y) ).blk (rfB X d rr Y) rfL [0] rfl (blt rfl) rfl (by decide +kernel)).weak (fun v9 w9 h9 => ?_)
  obtain ⟨w1, ⟨hv9, rfl⟩, hW⟩ := h9
  exact ⟨hv9, (hW [(rfB X d rr ((uI (eM Y) 0 0), eW Y, eQ Y, eC Y, eS Y, eB Y, eA Y, eT Y, eR Y)).getD 0 []] rfl rfl).trans rfl⟩

set_option maxHeartbeats 1000000 in
set_option maxRecDepth 100000 in
theorem uX8_scriptErrorOffset (l : Launch) (X : KX) (d rr : Nat → Nat) (Y : RZ) : CM l X yX8_scriptErrorOffset wsX8_scriptErrorOffset ({ frames := 0, cells := 0, slots := 0, locals := 0 }) [.ref (d 0)] (rfB X d rr Y).flatten (fun v9 w9 => v9 = some (.int (iI ((eM Y) 27))) ∧ w9 = (rfB X d rr ((uI (eM Y) 0 0), eW Y, eQ Y, eC Y, eS Y, eB Y, eA Y, eT Y, eR Y)).flatten) 0 0 := by
  refine ((kX8_scriptErrorOffset l X d (eM Y) ).blk (rfB X d rr Y) rfL [0] rfl (blt rfl) rfl (by decide +kernel)).weak (fun v9 w9 h9 => ?_)
  obtain ⟨w1, ⟨hv9, rfl⟩, hW⟩ := h9
  exact ⟨hv9, (hW [(rfB X d rr ((uI (eM Y) 0 0), eW Y, eQ Y, eC Y, eS Y, eB Y, eA Y, eT Y, eR Y)).getD 0 []] rfl rfl).trans rfl⟩

set_option maxHeartbeats 1000000 in
set_option maxRecDepth 100000 in
theorem uX8_loanCount (l : Launch) (X : KX) (d rr : Nat → Nat) (Y : RZ) : CM l X yX8_loanCount wsX8_loanCount ({ frames := 0, cells := 0, slots := 0, locals := 0 }) [.ref (d 0)] (rfB X d rr Y).flatten (fun v9 w9 => v9 = some (.int (iI ((eW Y) 0))) ∧ w9 = (rfB X d rr ((uI (eM Y) 0 0), eW Y, eQ Y, eC Y, eS Y, eB Y, eA Y, eT Y, eR Y)).flatten) 0 0 := by
  refine ((kX8_loanCount l X d (eM Y) (eW Y) ).blk (rfB X d rr Y) rfL [0, 1] rfl (blt rfl) rfl (by decide +kernel)).weak (fun v9 w9 h9 => ?_)
  obtain ⟨w1, ⟨hv9, rfl⟩, hW⟩ := h9
  exact ⟨hv9, (hW [(rfB X d rr ((uI (eM Y) 0 0), eW Y, eQ Y, eC Y, eS Y, eB Y, eA Y, eT Y, eR Y)).getD 0 [], (rfB X d rr ((uI (eM Y) 0 0), eW Y, eQ Y, eC Y, eS Y, eB Y, eA Y, eT Y, eR Y)).getD 1 []] rfl rfl).trans rfl⟩

set_option maxHeartbeats 1000000 in
set_option maxRecDepth 100000 in
theorem uX8_openCount (l : Launch) (X : KX) (d rr : Nat → Nat) (Y : RZ) (hWI : WI (eW Y)) : CM l X yX8_openCount wsX8_openCount ({ frames := 3, cells := 0, slots := 0, locals := 65 }) [.ref (d 0)] (rfB X d rr Y).flatten (fun v9 w9 => v9 = some (.int (iI (cnt (LWf (eW Y)) ((eW Y) 0).toNat))) ∧ w9 = (rfB X d rr ((uI (eM Y) 0 0), eW Y, eQ Y, eC Y, eS Y, eB Y, eA Y, eT Y, eR Y)).flatten) 0 0 := by
  refine ((kX8_openCount l X d (eM Y) (eW Y) (hWI)).blk (rfB X d rr Y) rfL [0, 1] rfl (blt rfl) rfl (by decide +kernel)).weak (fun v9 w9 h9 => ?_)
  obtain ⟨w1, ⟨hv9, rfl⟩, hW⟩ := h9
  exact ⟨hv9, (hW [(rfB X d rr ((uI (eM Y) 0 0), eW Y, eQ Y, eC Y, eS Y, eB Y, eA Y, eT Y, eR Y)).getD 0 [], (rfB X d rr ((uI (eM Y) 0 0), eW Y, eQ Y, eC Y, eS Y, eB Y, eA Y, eT Y, eR Y)).getD 1 []] rfl rfl).trans rfl⟩

set_option maxHeartbeats 1000000 in
set_option maxRecDepth 100000 in
theorem uX8_isOpen (l : Launch) (X : KX) (d rr : Nat → Nat) (Y : RZ) (i : Int) (hWI : WI (eW Y)) (hi : i32 i) : CM l X yX8_isOpen wsX8_isOpen ({ frames := 2, cells := 0, slots := 0, locals := 45 }) [.ref (d 0), .int (iI i)] (rfB X d rr Y).flatten (fun v9 w9 => ∃ z : Int, ∃ t : Int, ((z = 1 ∧ t = 0 ∧ (0 ≤ i ∧ i < (eW Y) 0) ∧ 0 < wOf (eW Y) i 1) ∨ (z = 0 ∧ t = 0 ∧ (0 ≤ i ∧ i < (eW Y) 0) ∧ wOf (eW Y) i 1 ≤ 0) ∨ (z = 0 ∧ t = 1 ∧ ¬ (0 ≤ i ∧ i < (eW Y) 0))) ∧ v9 = some (.int (iI z)) ∧ w9 = (rfB X d rr ((uI (eM Y) 0 t), eW Y, eQ Y, eC Y, eS Y, eB Y, eA Y, eT Y, eR Y)).flatten) 0 0 := by
  refine ((kX8_isOpen l X d (eM Y) (eW Y) i (hWI) (hi)).blk (rfB X d rr Y) rfL [0, 1] rfl (blt rfl) rfl (by decide +kernel)).weak (fun v9 w9 h9 => ?_)
  obtain ⟨w1, ⟨z, t, f0, hv9, rfl⟩, hW⟩ := h9
  exact ⟨z, t, f0, hv9, (hW [(rfB X d rr ((uI (eM Y) 0 t), eW Y, eQ Y, eC Y, eS Y, eB Y, eA Y, eT Y, eR Y)).getD 0 [], (rfB X d rr ((uI (eM Y) 0 t), eW Y, eQ Y, eC Y, eS Y, eB Y, eA Y, eT Y, eR Y)).getD 1 []] rfl rfl).trans rfl⟩

set_option maxHeartbeats 1000000 in
set_option maxRecDepth 100000 in
theorem uX8_principal (l : Launch) (X : KX) (d rr : Nat → Nat) (Y : RZ) (i : Int) (hWI : WI (eW Y)) (hi : i32 i) : CM l X yX8_principal wsX8_principal ({ frames := 3, cells := 0, slots := 0, locals := 67 }) [.ref (d 0), .int (iI i)] (rfB X d rr Y).flatten (fun v9 w9 => ∃ N : Nat → Int, ∃ r : Int, (sameP (eM Y) N) ∧ ((N 0 = 0 ∧ 0 ≤ i ∧ i < (eW Y) 0 ∧ r = wOf (eW Y) i 0) ∨ (N 0 = 1 ∧ ¬ (0 ≤ i ∧ i < (eW Y) 0))) ∧ v9 = some (.int (iI r)) ∧ w9 = (rfB X d rr ((N), eW Y, eQ Y, eC Y, eS Y, eB Y, eA Y, eT Y, eR Y)).flatten) 0 0 := by
  refine ((kX8_principal l X d (eM Y) (eW Y) i (hWI) (hi)).blk (rfB X d rr Y) rfL [0, 1] rfl (blt rfl) rfl (by decide +kernel)).weak (fun v9 w9 h9 => ?_)
  obtain ⟨w1, ⟨N, r, f0, f1, hv9, rfl⟩, hW⟩ := h9
  exact ⟨N, r, f0, f1, hv9, (hW [(rfB X d rr ((N), eW Y, eQ Y, eC Y, eS Y, eB Y, eA Y, eT Y, eR Y)).getD 0 [], (rfB X d rr ((N), eW Y, eQ Y, eC Y, eS Y, eB Y, eA Y, eT Y, eR Y)).getD 1 []] rfl rfl).trans rfl⟩

set_option maxHeartbeats 1000000 in
set_option maxRecDepth 100000 in
theorem uX8_balance (l : Launch) (X : KX) (d rr : Nat → Nat) (Y : RZ) (i : Int) (hWI : WI (eW Y)) (hi : i32 i) : CM l X yX8_balance wsX8_balance ({ frames := 3, cells := 0, slots := 0, locals := 67 }) [.ref (d 0), .int (iI i)] (rfB X d rr Y).flatten (fun v9 w9 => ∃ N : Nat → Int, ∃ r : Int, (sameP (eM Y) N) ∧ ((N 0 = 0 ∧ 0 ≤ i ∧ i < (eW Y) 0 ∧ r = wOf (eW Y) i 1) ∨ (N 0 = 1 ∧ ¬ (0 ≤ i ∧ i < (eW Y) 0))) ∧ v9 = some (.int (iI r)) ∧ w9 = (rfB X d rr ((N), eW Y, eQ Y, eC Y, eS Y, eB Y, eA Y, eT Y, eR Y)).flatten) 0 0 := by
  refine ((kX8_balance l X d (eM Y) (eW Y) i (hWI) (hi)).blk (rfB X d rr Y) rfL [0, 1] rfl (blt rfl) rfl (by decide +kernel)).weak (fun v9 w9 h9 => ?_)
  obtain ⟨w1, ⟨N, r, f0, f1, hv9, rfl⟩, hW⟩ := h9
  exact ⟨N, r, f0, f1, hv9, (hW [(rfB X d rr ((N), eW Y, eQ Y, eC Y, eS Y, eB Y, eA Y, eT Y, eR Y)).getD 0 [], (rfB X d rr ((N), eW Y, eQ Y, eC Y, eS Y, eB Y, eA Y, eT Y, eR Y)).getD 1 []] rfl rfl).trans rfl⟩

set_option maxHeartbeats 1000000 in
set_option maxRecDepth 100000 in
theorem uX8_rate (l : Launch) (X : KX) (d rr : Nat → Nat) (Y : RZ) (i : Int) (hWI : WI (eW Y)) (hi : i32 i) : CM l X yX8_rate wsX8_rate ({ frames := 3, cells := 0, slots := 0, locals := 67 }) [.ref (d 0), .int (iI i)] (rfB X d rr Y).flatten (fun v9 w9 => ∃ N : Nat → Int, ∃ r : Int, (sameP (eM Y) N) ∧ ((N 0 = 0 ∧ 0 ≤ i ∧ i < (eW Y) 0 ∧ r = wOf (eW Y) i 2) ∨ (N 0 = 1 ∧ ¬ (0 ≤ i ∧ i < (eW Y) 0))) ∧ v9 = some (.int (iI r)) ∧ w9 = (rfB X d rr ((N), eW Y, eQ Y, eC Y, eS Y, eB Y, eA Y, eT Y, eR Y)).flatten) 0 0 := by
  refine ((kX8_rate l X d (eM Y) (eW Y) i (hWI) (hi)).blk (rfB X d rr Y) rfL [0, 1] rfl (blt rfl) rfl (by decide +kernel)).weak (fun v9 w9 h9 => ?_)
  obtain ⟨w1, ⟨N, r, f0, f1, hv9, rfl⟩, hW⟩ := h9
  exact ⟨N, r, f0, f1, hv9, (hW [(rfB X d rr ((N), eW Y, eQ Y, eC Y, eS Y, eB Y, eA Y, eT Y, eR Y)).getD 0 [], (rfB X d rr ((N), eW Y, eQ Y, eC Y, eS Y, eB Y, eA Y, eT Y, eR Y)).getD 1 []] rfl rfl).trans rfl⟩

set_option maxHeartbeats 1000000 in
set_option maxRecDepth 100000 in
theorem uX8_monthsLeft (l : Launch) (X : KX) (d rr : Nat → Nat) (Y : RZ) (i : Int) (hWI : WI (eW Y)) (hi : i32 i) : CM l X yX8_monthsLeft wsX8_monthsLeft ({ frames := 3, cells := 0, slots := 0, locals := 67 }) [.ref (d 0), .int (iI i)] (rfB X d rr Y).flatten (fun v9 w9 => ∃ N : Nat → Int, ∃ r : Int, (sameP (eM Y) N) ∧ ((N 0 = 0 ∧ 0 ≤ i ∧ i < (eW Y) 0 ∧ r = wOf (eW Y) i 3) ∨ (N 0 = 1 ∧ ¬ (0 ≤ i ∧ i < (eW Y) 0))) ∧ v9 = some (.int (iI r)) ∧ w9 = (rfB X d rr ((N), eW Y, eQ Y, eC Y, eS Y, eB Y, eA Y, eT Y, eR Y)).flatten) 0 0 := by
  refine ((kX8_monthsLeft l X d (eM Y) (eW Y) i (hWI) (hi)).blk (rfB X d rr Y) rfL [0, 1] rfl (blt rfl) rfl (by decide +kernel)).weak (fun v9 w9 h9 => ?_)
  obtain ⟨w1, ⟨N, r, f0, f1, hv9, rfl⟩, hW⟩ := h9
  exact ⟨N, r, f0, f1, hv9, (hW [(rfB X d rr ((N), eW Y, eQ Y, eC Y, eS Y, eB Y, eA Y, eT Y, eR Y)).getD 0 [], (rfB X d rr ((N), eW Y, eQ Y, eC Y, eS Y, eB Y, eA Y, eT Y, eR Y)).getD 1 []] rfl rfl).trans rfl⟩

set_option maxHeartbeats 1000000 in
set_option maxRecDepth 100000 in
theorem uX8_installment (l : Launch) (X : KX) (d rr : Nat → Nat) (Y : RZ) (i : Int) (hWI : WI (eW Y)) (hi : i32 i) : CM l X yX8_installment wsX8_installment ({ frames := 3, cells := 0, slots := 0, locals := 67 }) [.ref (d 0), .int (iI i)] (rfB X d rr Y).flatten (fun v9 w9 => ∃ N : Nat → Int, ∃ r : Int, (sameP (eM Y) N) ∧ ((N 0 = 0 ∧ 0 ≤ i ∧ i < (eW Y) 0 ∧ r = wOf (eW Y) i 4) ∨ (N 0 = 1 ∧ ¬ (0 ≤ i ∧ i < (eW Y) 0))) ∧ v9 = some (.int (iI r)) ∧ w9 = (rfB X d rr ((N), eW Y, eQ Y, eC Y, eS Y, eB Y, eA Y, eT Y, eR Y)).flatten) 0 0 := by
  refine ((kX8_installment l X d (eM Y) (eW Y) i (hWI) (hi)).blk (rfB X d rr Y) rfL [0, 1] rfl (blt rfl) rfl (by decide +kernel)).weak (fun v9 w9 h9 => ?_)
  obtain ⟨w1, ⟨N, r, f0, f1, hv9, rfl⟩, hW⟩ := h9
  exact ⟨N, r, f0, f1, hv9, (hW [(rfB X d rr ((N), eW Y, eQ Y, eC Y, eS Y, eB Y, eA Y, eT Y, eR Y)).getD 0 [], (rfB X d rr ((N), eW Y, eQ Y, eC Y, eS Y, eB Y, eA Y, eT Y, eR Y)).getD 1 []] rfl rfl).trans rfl⟩

set_option maxHeartbeats 1000000 in
set_option maxRecDepth 100000 in
theorem uX8_carry (l : Launch) (X : KX) (d rr : Nat → Nat) (Y : RZ) (i : Int) (hWI : WI (eW Y)) (hi : i32 i) : CM l X yX8_carry wsX8_carry ({ frames := 3, cells := 0, slots := 0, locals := 67 }) [.ref (d 0), .int (iI i)] (rfB X d rr Y).flatten (fun v9 w9 => ∃ N : Nat → Int, ∃ r : Int, (sameP (eM Y) N) ∧ ((N 0 = 0 ∧ 0 ≤ i ∧ i < (eW Y) 0 ∧ r = wOf (eW Y) i 5) ∨ (N 0 = 1 ∧ ¬ (0 ≤ i ∧ i < (eW Y) 0))) ∧ v9 = some (.int (iI r)) ∧ w9 = (rfB X d rr ((N), eW Y, eQ Y, eC Y, eS Y, eB Y, eA Y, eT Y, eR Y)).flatten) 0 0 := by
  refine ((kX8_carry l X d (eM Y) (eW Y) i (hWI) (hi)).blk (rfB X d rr Y) rfL [0, 1] rfl (blt rfl) rfl (by decide +kernel)).weak (fun v9 w9 h9 => ?_)
  obtain ⟨w1, ⟨N, r, f0, f1, hv9, rfl⟩, hW⟩ := h9
  exact ⟨N, r, f0, f1, hv9, (hW [(rfB X d rr ((N), eW Y, eQ Y, eC Y, eS Y, eB Y, eA Y, eT Y, eR Y)).getD 0 [], (rfB X d rr ((N), eW Y, eQ Y, eC Y, eS Y, eB Y, eA Y, eT Y, eR Y)).getD 1 []] rfl rfl).trans rfl⟩

set_option maxHeartbeats 1000000 in
set_option maxRecDepth 100000 in
theorem uX8_interestDue (l : Launch) (X : KX) (d rr : Nat → Nat) (Y : RZ) (i : Int) (hWI : WI (eW Y)) (hi : i32 i) : CM l X yX8_interestDue wsX8_interestDue ({ frames := 3, cells := 0, slots := 0, locals := 66 }) [.ref (d 0), .int (iI i)] (rfB X d rr Y).flatten (fun v9 w9 => ∃ N : Nat → Int, ∃ r : Int, (sameP (eM Y) N) ∧ ((N 0 = 0 ∧ 0 ≤ i ∧ i < (eW Y) 0 ∧ r = fI (wOf (eW Y) i 1) (wOf (eW Y) i 2) (wOf (eW Y) i 5)) ∨ (N 0 = 1 ∧ ¬ (0 ≤ i ∧ i < (eW Y) 0))) ∧ v9 = some (.int (iI r)) ∧ w9 = (rfB X d rr ((N), eW Y, eQ Y, eC Y, eS Y, eB Y, eA Y, eT Y, eR Y)).flatten) 0 0 := by
  refine ((kX8_interestDue l X d (eM Y) (eW Y) i (hWI) (hi)).blk (rfB X d rr Y) rfL [0, 1] rfl (blt rfl) rfl (by decide +kernel)).weak (fun v9 w9 h9 => ?_)
  obtain ⟨w1, ⟨N, r, f0, f1, hv9, rfl⟩, hW⟩ := h9
  exact ⟨N, r, f0, f1, hv9, (hW [(rfB X d rr ((N), eW Y, eQ Y, eC Y, eS Y, eB Y, eA Y, eT Y, eR Y)).getD 0 [], (rfB X d rr ((N), eW Y, eQ Y, eC Y, eS Y, eB Y, eA Y, eT Y, eR Y)).getD 1 []] rfl rfl).trans rfl⟩

set_option maxHeartbeats 1000000 in
set_option maxRecDepth 100000 in
theorem uX8_amountDue (l : Launch) (X : KX) (d rr : Nat → Nat) (Y : RZ) (i : Int) (hWI : WI (eW Y)) (hi : i32 i) : CM l X yX8_amountDue wsX8_amountDue ({ frames := 3, cells := 0, slots := 0, locals := 66 }) [.ref (d 0), .int (iI i)] (rfB X d rr Y).flatten (fun v9 w9 => ∃ N : Nat → Int, ∃ r : Int, (sameP (eM Y) N) ∧ ((N 0 = 0 ∧ 0 ≤ i ∧ i < (eW Y) 0 ∧ r = dueL (WL (eW Y) i)) ∨ (N 0 = 1 ∧ ¬ (0 ≤ i ∧ i < (eW Y) 0))) ∧ v9 = some (.int (iI r)) ∧ w9 = (rfB X d rr ((N), eW Y, eQ Y, eC Y, eS Y, eB Y, eA Y, eT Y, eR Y)).flatten) 0 0 := by
  refine ((kX8_amountDue l X d (eM Y) (eW Y) i (hWI) (hi)).blk (rfB X d rr Y) rfL [0, 1] rfl (blt rfl) rfl (by decide +kernel)).weak (fun v9 w9 h9 => ?_)
  obtain ⟨w1, ⟨N, r, f0, f1, hv9, rfl⟩, hW⟩ := h9
  exact ⟨N, r, f0, f1, hv9, (hW [(rfB X d rr ((N), eW Y, eQ Y, eC Y, eS Y, eB Y, eA Y, eT Y, eR Y)).getD 0 [], (rfB X d rr ((N), eW Y, eQ Y, eC Y, eS Y, eB Y, eA Y, eT Y, eR Y)).getD 1 []] rfl rfl).trans rfl⟩

set_option maxHeartbeats 1000000 in
set_option maxRecDepth 100000 in
theorem uX8_interestSoFar (l : Launch) (X : KX) (d rr : Nat → Nat) (Y : RZ) (i : Int) (hWI : WI (eW Y)) (hi : i32 i) : CM l X yX8_interestSoFar wsX8_interestSoFar ({ frames := 3, cells := 0, slots := 0, locals := 67 }) [.ref (d 0), .int (iI i)] (rfB X d rr Y).flatten (fun v9 w9 => ∃ N : Nat → Int, ∃ r : Int, (sameP (eM Y) N) ∧ ((N 0 = 0 ∧ 0 ≤ i ∧ i < (eW Y) 0 ∧ r = wOf (eW Y) i 6) ∨ (N 0 = 1 ∧ ¬ (0 ≤ i ∧ i < (eW Y) 0))) ∧ v9 = some (.int (iI r)) ∧ w9 = (rfB X d rr ((N), eW Y, eQ Y, eC Y, eS Y, eB Y, eA Y, eT Y, eR Y)).flatten) 0 0 := by
  refine ((kX8_interestSoFar l X d (eM Y) (eW Y) i (hWI) (hi)).blk (rfB X d rr Y) rfL [0, 1] rfl (blt rfl) rfl (by decide +kernel)).weak (fun v9 w9 h9 => ?_)
  obtain ⟨w1, ⟨N, r, f0, f1, hv9, rfl⟩, hW⟩ := h9
  exact ⟨N, r, f0, f1, hv9, (hW [(rfB X d rr ((N), eW Y, eQ Y, eC Y, eS Y, eB Y, eA Y, eT Y, eR Y)).getD 0 [], (rfB X d rr ((N), eW Y, eQ Y, eC Y, eS Y, eB Y, eA Y, eT Y, eR Y)).getD 1 []] rfl rfl).trans rfl⟩

set_option maxHeartbeats 1000000 in
set_option maxRecDepth 100000 in
theorem uX8_paidSoFar (l : Launch) (X : KX) (d rr : Nat → Nat) (Y : RZ) (i : Int) (hWI : WI (eW Y)) (hi : i32 i) : CM l X yX8_paidSoFar wsX8_paidSoFar ({ frames := 3, cells := 0, slots := 0, locals := 67 }) [.ref (d 0), .int (iI i)] (rfB X d rr Y).flatten (fun v9 w9 => ∃ N : Nat → Int, ∃ r : Int, (sameP (eM Y) N) ∧ ((N 0 = 0 ∧ 0 ≤ i ∧ i < (eW Y) 0 ∧ r = wOf (eW Y) i 7) ∨ (N 0 = 1 ∧ ¬ (0 ≤ i ∧ i < (eW Y) 0))) ∧ v9 = some (.int (iI r)) ∧ w9 = (rfB X d rr ((N), eW Y, eQ Y, eC Y, eS Y, eB Y, eA Y, eT Y, eR Y)).flatten) 0 0 := by
  refine ((kX8_paidSoFar l X d (eM Y) (eW Y) i (hWI) (hi)).blk (rfB X d rr Y) rfL [0, 1] rfl (blt rfl) rfl (by decide +kernel)).weak (fun v9 w9 h9 => ?_)
  obtain ⟨w1, ⟨N, r, f0, f1, hv9, rfl⟩, hW⟩ := h9
  exact ⟨N, r, f0, f1, hv9, (hW [(rfB X d rr ((N), eW Y, eQ Y, eC Y, eS Y, eB Y, eA Y, eT Y, eR Y)).getD 0 [], (rfB X d rr ((N), eW Y, eQ Y, eC Y, eS Y, eB Y, eA Y, eT Y, eR Y)).getD 1 []] rfl rfl).trans rfl⟩

set_option maxHeartbeats 1000000 in
set_option maxRecDepth 100000 in
theorem uX8_paidMonths (l : Launch) (X : KX) (d rr : Nat → Nat) (Y : RZ) (i : Int) (hWI : WI (eW Y)) (hi : i32 i) : CM l X yX8_paidMonths wsX8_paidMonths ({ frames := 3, cells := 0, slots := 0, locals := 67 }) [.ref (d 0), .int (iI i)] (rfB X d rr Y).flatten (fun v9 w9 => ∃ N : Nat → Int, ∃ r : Int, (sameP (eM Y) N) ∧ ((N 0 = 0 ∧ 0 ≤ i ∧ i < (eW Y) 0 ∧ r = wOf (eW Y) i 8) ∨ (N 0 = 1 ∧ ¬ (0 ≤ i ∧ i < (eW Y) 0))) ∧ v9 = some (.int (iI r)) ∧ w9 = (rfB X d rr ((N), eW Y, eQ Y, eC Y, eS Y, eB Y, eA Y, eT Y, eR Y)).flatten) 0 0 := by
  refine ((kX8_paidMonths l X d (eM Y) (eW Y) i (hWI) (hi)).blk (rfB X d rr Y) rfL [0, 1] rfl (blt rfl) rfl (by decide +kernel)).weak (fun v9 w9 h9 => ?_)
  obtain ⟨w1, ⟨N, r, f0, f1, hv9, rfl⟩, hW⟩ := h9
  exact ⟨N, r, f0, f1, hv9, (hW [(rfB X d rr ((N), eW Y, eQ Y, eC Y, eS Y, eB Y, eA Y, eT Y, eR Y)).getD 0 [], (rfB X d rr ((N), eW Y, eQ Y, eC Y, eS Y, eB Y, eA Y, eT Y, eR Y)).getD 1 []] rfl rfl).trans rfl⟩

set_option maxHeartbeats 1000000 in
set_option maxRecDepth 100000 in
theorem uX8_skippedMonths (l : Launch) (X : KX) (d rr : Nat → Nat) (Y : RZ) (i : Int) (hWI : WI (eW Y)) (hi : i32 i) : CM l X yX8_skippedMonths wsX8_skippedMonths ({ frames := 3, cells := 0, slots := 0, locals := 67 }) [.ref (d 0), .int (iI i)] (rfB X d rr Y).flatten (fun v9 w9 => ∃ N : Nat → Int, ∃ r : Int, (sameP (eM Y) N) ∧ ((N 0 = 0 ∧ 0 ≤ i ∧ i < (eW Y) 0 ∧ r = wOf (eW Y) i 9) ∨ (N 0 = 1 ∧ ¬ (0 ≤ i ∧ i < (eW Y) 0))) ∧ v9 = some (.int (iI r)) ∧ w9 = (rfB X d rr ((N), eW Y, eQ Y, eC Y, eS Y, eB Y, eA Y, eT Y, eR Y)).flatten) 0 0 := by
  refine ((kX8_skippedMonths l X d (eM Y) (eW Y) i (hWI) (hi)).blk (rfB X d rr Y) rfL [0, 1] rfl (blt rfl) rfl (by decide +kernel)).weak (fun v9 w9 h9 => ?_)
  obtain ⟨w1, ⟨N, r, f0, f1, hv9, rfl⟩, hW⟩ := h9
  exact ⟨N, r, f0, f1, hv9, (hW [(rfB X d rr ((N), eW Y, eQ Y, eC Y, eS Y, eB Y, eA Y, eT Y, eR Y)).getD 0 [], (rfB X d rr ((N), eW Y, eQ Y, eC Y, eS Y, eB Y, eA Y, eT Y, eR Y)).getD 1 []] rfl rfl).trans rfl⟩

set_option maxHeartbeats 1000000 in
set_option maxRecDepth 100000 in
theorem uX8_entryCount (l : Launch) (X : KX) (d rr : Nat → Nat) (Y : RZ) : CM l X yX8_entryCount wsX8_entryCount ({ frames := 0, cells := 0, slots := 0, locals := 0 }) [.ref (d 0)] (rfB X d rr Y).flatten (fun v9 w9 => v9 = some (.int (iI ((eW Y) 1))) ∧ w9 = (rfB X d rr ((uI (eM Y) 0 0), eW Y, eQ Y, eC Y, eS Y, eB Y, eA Y, eT Y, eR Y)).flatten) 0 0 := by
  refine ((kX8_entryCount l X d (eM Y) (eW Y) ).blk (rfB X d rr Y) rfL [0, 1] rfl (blt rfl) rfl (by decide +kernel)).weak (fun v9 w9 h9 => ?_)
  obtain ⟨w1, ⟨hv9, rfl⟩, hW⟩ := h9
  exact ⟨hv9, (hW [(rfB X d rr ((uI (eM Y) 0 0), eW Y, eQ Y, eC Y, eS Y, eB Y, eA Y, eT Y, eR Y)).getD 0 [], (rfB X d rr ((uI (eM Y) 0 0), eW Y, eQ Y, eC Y, eS Y, eB Y, eA Y, eT Y, eR Y)).getD 1 []] rfl rfl).trans rfl⟩

set_option maxHeartbeats 1000000 in
set_option maxRecDepth 100000 in
theorem uX8_entryLoan (l : Launch) (X : KX) (d rr : Nat → Nat) (Y : RZ) (b : Int) (hWI : WI (eW Y)) (hb9 : i32 b) : CM l X yX8_entryLoan wsX8_entryLoan ({ frames := 1, cells := 0, slots := 0, locals := 22 }) [.ref (d 0), .int (iI b)] (rfB X d rr Y).flatten (fun v9 w9 => ∃ r : Int, ((0 ≤ b ∧ b < (eW Y) 1 ∧ r = (eW Y) (2 + 3 * b + 0).toNat) ∨ (¬ (0 ≤ b ∧ b < (eW Y) 1) ∧ r = -1)) ∧ v9 = some (.int (iI r)) ∧ w9 = (rfB X d rr ((uI (eM Y) 0 0), eW Y, eQ Y, eC Y, eS Y, eB Y, eA Y, eT Y, eR Y)).flatten) 0 0 := by
  refine ((kX8_entryLoan l X d (eM Y) (eW Y) b (hWI) (hb9)).blk (rfB X d rr Y) rfL [0, 1] rfl (blt rfl) rfl (by decide +kernel)).weak (fun v9 w9 h9 => ?_)
  obtain ⟨w1, ⟨r, f0, hv9, rfl⟩, hW⟩ := h9
  exact ⟨r, f0, hv9, (hW [(rfB X d rr ((uI (eM Y) 0 0), eW Y, eQ Y, eC Y, eS Y, eB Y, eA Y, eT Y, eR Y)).getD 0 [], (rfB X d rr ((uI (eM Y) 0 0), eW Y, eQ Y, eC Y, eS Y, eB Y, eA Y, eT Y, eR Y)).getD 1 []] rfl rfl).trans rfl⟩

set_option maxHeartbeats 1000000 in
set_option maxRecDepth 100000 in
theorem uX8_entryAmount (l : Launch) (X : KX) (d rr : Nat → Nat) (Y : RZ) (b : Int) (hWI : WI (eW Y)) (hb9 : i32 b) : CM l X yX8_entryAmount wsX8_entryAmount ({ frames := 1, cells := 0, slots := 0, locals := 22 }) [.ref (d 0), .int (iI b)] (rfB X d rr Y).flatten (fun v9 w9 => ∃ r : Int, ((0 ≤ b ∧ b < (eW Y) 1 ∧ r = (eW Y) (2 + 3 * b + 1).toNat) ∨ (¬ (0 ≤ b ∧ b < (eW Y) 1) ∧ r = -1)) ∧ v9 = some (.int (iI r)) ∧ w9 = (rfB X d rr ((uI (eM Y) 0 0), eW Y, eQ Y, eC Y, eS Y, eB Y, eA Y, eT Y, eR Y)).flatten) 0 0 := by
  refine ((kX8_entryAmount l X d (eM Y) (eW Y) b (hWI) (hb9)).blk (rfB X d rr Y) rfL [0, 1] rfl (blt rfl) rfl (by decide +kernel)).weak (fun v9 w9 h9 => ?_)
  obtain ⟨w1, ⟨r, f0, hv9, rfl⟩, hW⟩ := h9
  exact ⟨r, f0, hv9, (hW [(rfB X d rr ((uI (eM Y) 0 0), eW Y, eQ Y, eC Y, eS Y, eB Y, eA Y, eT Y, eR Y)).getD 0 [], (rfB X d rr ((uI (eM Y) 0 0), eW Y, eQ Y, eC Y, eS Y, eB Y, eA Y, eT Y, eR Y)).getD 1 []] rfl rfl).trans rfl⟩

set_option maxHeartbeats 1000000 in
set_option maxRecDepth 100000 in
theorem uX8_entryInterest (l : Launch) (X : KX) (d rr : Nat → Nat) (Y : RZ) (b : Int) (hWI : WI (eW Y)) (hb9 : i32 b) : CM l X yX8_entryInterest wsX8_entryInterest ({ frames := 1, cells := 0, slots := 0, locals := 22 }) [.ref (d 0), .int (iI b)] (rfB X d rr Y).flatten (fun v9 w9 => ∃ r : Int, ((0 ≤ b ∧ b < (eW Y) 1 ∧ r = (eW Y) (2 + 3 * b + 2).toNat) ∨ (¬ (0 ≤ b ∧ b < (eW Y) 1) ∧ r = -1)) ∧ v9 = some (.int (iI r)) ∧ w9 = (rfB X d rr ((uI (eM Y) 0 0), eW Y, eQ Y, eC Y, eS Y, eB Y, eA Y, eT Y, eR Y)).flatten) 0 0 := by
  refine ((kX8_entryInterest l X d (eM Y) (eW Y) b (hWI) (hb9)).blk (rfB X d rr Y) rfL [0, 1] rfl (blt rfl) rfl (by decide +kernel)).weak (fun v9 w9 h9 => ?_)
  obtain ⟨w1, ⟨r, f0, hv9, rfl⟩, hW⟩ := h9
  exact ⟨r, f0, hv9, (hW [(rfB X d rr ((uI (eM Y) 0 0), eW Y, eQ Y, eC Y, eS Y, eB Y, eA Y, eT Y, eR Y)).getD 0 [], (rfB X d rr ((uI (eM Y) 0 0), eW Y, eQ Y, eC Y, eS Y, eB Y, eA Y, eT Y, eR Y)).getD 1 []] rfl rfl).trans rfl⟩

set_option maxHeartbeats 1000000 in
set_option maxRecDepth 100000 in
theorem uX8_interestOfPayment (l : Launch) (X : KX) (d rr : Nat → Nat) (Y : RZ) (i : Int) (a : Int) (hWI : WI (eW Y)) (hi : i32 i) (ha : i32 a) : CM l X yX8_interestOfPayment wsX8_interestOfPayment ({ frames := 3, cells := 0, slots := 0, locals := 70 }) [.ref (d 0), .int (iI i), .int (iI a)] (rfB X d rr Y).flatten (fun v9 w9 => ∃ N : Nat → Int, ∃ r : Int, (sameP (eM Y) N) ∧ ((N 0 = 0 ∧ (0 ≤ i ∧ i < (eW Y) 0) ∧ (1 ≤ a ∧ a ≤ 120) ∧ ((0 < runL (a - 1).toNat (WL (eW Y) i) 1 ∧ r = fI (runL (a - 1).toNat (WL (eW Y) i) 1) (runL (a - 1).toNat (WL (eW Y) i) 2) (runL (a - 1).toNat (WL (eW Y) i) 5)) ∨ (runL (a - 1).toNat (WL (eW Y) i) 1 ≤ 0 ∧ r = -1))) ∨ (N 0 = 1 ∧ ¬ (0 ≤ i ∧ i < (eW Y) 0)) ∨ (N 0 = 2 ∧ (0 ≤ i ∧ i < (eW Y) 0) ∧ ¬ (1 ≤ a ∧ a ≤ 120))) ∧ v9 = some (.int (iI r)) ∧ w9 = (rfB X d rr ((N), eW Y, eQ Y, eC Y, eS Y, eB Y, eA Y, eT Y, eR Y)).flatten) 0 0 := by
  refine ((kX8_interestOfPayment l X d (eM Y) (eW Y) i a (hWI) (hi) (ha)).blk (rfB X d rr Y) rfL [0, 1] rfl (blt rfl) rfl (by decide +kernel)).weak (fun v9 w9 h9 => ?_)
  obtain ⟨w1, ⟨N, r, f0, f1, hv9, rfl⟩, hW⟩ := h9
  exact ⟨N, r, f0, f1, hv9, (hW [(rfB X d rr ((N), eW Y, eQ Y, eC Y, eS Y, eB Y, eA Y, eT Y, eR Y)).getD 0 [], (rfB X d rr ((N), eW Y, eQ Y, eC Y, eS Y, eB Y, eA Y, eT Y, eR Y)).getD 1 []] rfl rfl).trans rfl⟩

set_option maxHeartbeats 1000000 in
set_option maxRecDepth 100000 in
theorem uX8_amountOfPayment (l : Launch) (X : KX) (d rr : Nat → Nat) (Y : RZ) (i : Int) (a : Int) (hWI : WI (eW Y)) (hi : i32 i) (ha : i32 a) : CM l X yX8_amountOfPayment wsX8_amountOfPayment ({ frames := 3, cells := 0, slots := 0, locals := 70 }) [.ref (d 0), .int (iI i), .int (iI a)] (rfB X d rr Y).flatten (fun v9 w9 => ∃ N : Nat → Int, ∃ r : Int, (sameP (eM Y) N) ∧ ((N 0 = 0 ∧ (0 ≤ i ∧ i < (eW Y) 0) ∧ (1 ≤ a ∧ a ≤ 120) ∧ ((0 < runL (a - 1).toNat (WL (eW Y) i) 1 ∧ r = dueL (runL (a - 1).toNat (WL (eW Y) i))) ∨ (runL (a - 1).toNat (WL (eW Y) i) 1 ≤ 0 ∧ r = -1))) ∨ (N 0 = 1 ∧ ¬ (0 ≤ i ∧ i < (eW Y) 0)) ∨ (N 0 = 2 ∧ (0 ≤ i ∧ i < (eW Y) 0) ∧ ¬ (1 ≤ a ∧ a ≤ 120))) ∧ v9 = some (.int (iI r)) ∧ w9 = (rfB X d rr ((N), eW Y, eQ Y, eC Y, eS Y, eB Y, eA Y, eT Y, eR Y)).flatten) 0 0 := by
  refine ((kX8_amountOfPayment l X d (eM Y) (eW Y) i a (hWI) (hi) (ha)).blk (rfB X d rr Y) rfL [0, 1] rfl (blt rfl) rfl (by decide +kernel)).weak (fun v9 w9 h9 => ?_)
  obtain ⟨w1, ⟨N, r, f0, f1, hv9, rfl⟩, hW⟩ := h9
  exact ⟨N, r, f0, f1, hv9, (hW [(rfB X d rr ((N), eW Y, eQ Y, eC Y, eS Y, eB Y, eA Y, eT Y, eR Y)).getD 0 [], (rfB X d rr ((N), eW Y, eQ Y, eC Y, eS Y, eB Y, eA Y, eT Y, eR Y)).getD 1 []] rfl rfl).trans rfl⟩

set_option maxHeartbeats 1000000 in
set_option maxRecDepth 100000 in
theorem uX8_paymentsTo (l : Launch) (X : KX) (d rr : Nat → Nat) (Y : RZ) (i : Int) (a : Int) (hWI : WI (eW Y)) (hi : i32 i) (ha : i32 a) : CM l X yX8_paymentsTo wsX8_paymentsTo ({ frames := 2, cells := 0, slots := 0, locals := 45 }) [.ref (d 0), .int (iI i), .int (iI a)] (rfB X d rr Y).flatten (fun v9 w9 => ∃ N : Nat → Int, ∃ r : Int, (sameP (eM Y) N) ∧ ((N 0 = 0 ∧ (0 ≤ i ∧ i < (eW Y) 0) ∧ (0 ≤ a ∧ a ≤ 9999999) ∧ r = untL 120 (WL (eW Y) i) a) ∨ (N 0 = 1 ∧ ¬ (0 ≤ i ∧ i < (eW Y) 0)) ∨ (N 0 = 2 ∧ (0 ≤ i ∧ i < (eW Y) 0) ∧ ¬ (0 ≤ a ∧ a ≤ 9999999))) ∧ v9 = some (.int (iI r)) ∧ w9 = (rfB X d rr ((N), eW Y, eQ Y, eC Y, eS Y, eB Y, eA Y, eT Y, eR Y)).flatten) 0 0 := by
  refine ((kX8_paymentsTo l X d (eM Y) (eW Y) i a (hWI) (hi) (ha)).blk (rfB X d rr Y) rfL [0, 1] rfl (blt rfl) rfl (by decide +kernel)).weak (fun v9 w9 h9 => ?_)
  obtain ⟨w1, ⟨N, r, f0, f1, hv9, rfl⟩, hW⟩ := h9
  exact ⟨N, r, f0, f1, hv9, (hW [(rfB X d rr ((N), eW Y, eQ Y, eC Y, eS Y, eB Y, eA Y, eT Y, eR Y)).getD 0 [], (rfB X d rr ((N), eW Y, eQ Y, eC Y, eS Y, eB Y, eA Y, eT Y, eR Y)).getD 1 []] rfl rfl).trans rfl⟩

set_option maxHeartbeats 1000000 in
set_option maxRecDepth 100000 in
theorem uX8_balanceAfter (l : Launch) (X : KX) (d rr : Nat → Nat) (Y : RZ) (i : Int) (a : Int) (hWI : WI (eW Y)) (hi : i32 i) (ha : i32 a) : CM l X yX8_balanceAfter wsX8_balanceAfter ({ frames := 2, cells := 0, slots := 0, locals := 45 }) [.ref (d 0), .int (iI i), .int (iI a)] (rfB X d rr Y).flatten (fun v9 w9 => ∃ N : Nat → Int, ∃ r : Int, (sameP (eM Y) N) ∧ ((N 0 = 0 ∧ (0 ≤ i ∧ i < (eW Y) 0) ∧ (0 ≤ a ∧ a ≤ 120) ∧ r = runL a.toNat (WL (eW Y) i) 1) ∨ (N 0 = 1 ∧ ¬ (0 ≤ i ∧ i < (eW Y) 0)) ∨ (N 0 = 2 ∧ (0 ≤ i ∧ i < (eW Y) 0) ∧ ¬ (0 ≤ a ∧ a ≤ 120))) ∧ v9 = some (.int (iI r)) ∧ w9 = (rfB X d rr ((N), eW Y, eQ Y, eC Y, eS Y, eB Y, eA Y, eT Y, eR Y)).flatten) 0 0 := by
  refine ((kX8_balanceAfter l X d (eM Y) (eW Y) i a (hWI) (hi) (ha)).blk (rfB X d rr Y) rfL [0, 1] rfl (blt rfl) rfl (by decide +kernel)).weak (fun v9 w9 h9 => ?_)
  obtain ⟨w1, ⟨N, r, f0, f1, hv9, rfl⟩, hW⟩ := h9
  exact ⟨N, r, f0, f1, hv9, (hW [(rfB X d rr ((N), eW Y, eQ Y, eC Y, eS Y, eB Y, eA Y, eT Y, eR Y)).getD 0 [], (rfB X d rr ((N), eW Y, eQ Y, eC Y, eS Y, eB Y, eA Y, eT Y, eR Y)).getD 1 []] rfl rfl).trans rfl⟩

set_option maxHeartbeats 1000000 in
set_option maxRecDepth 100000 in
theorem uX8_interestAhead (l : Launch) (X : KX) (d rr : Nat → Nat) (Y : RZ) (i : Int) (hWI : WI (eW Y)) (hi : i32 i) : CM l X yX8_interestAhead wsX8_interestAhead ({ frames := 4, cells := 0, slots := 0, locals := 96 }) [.ref (d 0), .int (iI i)] (rfB X d rr Y).flatten (fun v9 w9 => ∃ N : Nat → Int, ∃ r : Int, (sameP (eM Y) N) ∧ ((N 0 = 0 ∧ 0 ≤ i ∧ i < (eW Y) 0 ∧ r = runL 120 (WL (eW Y) i) 6 - WL (eW Y) i 6) ∨ (N 0 = 1 ∧ ¬ (0 ≤ i ∧ i < (eW Y) 0))) ∧ v9 = some (.int (iI r)) ∧ w9 = (rfB X d rr ((N), eW Y, eQ Y, eC Y, eS Y, eB Y, eA Y, eT Y, eR Y)).flatten) 0 0 := by
  refine ((kX8_interestAhead l X d (eM Y) (eW Y) i (hWI) (hi)).blk (rfB X d rr Y) rfL [0, 1] rfl (blt rfl) rfl (by decide +kernel)).weak (fun v9 w9 h9 => ?_)
  obtain ⟨w1, ⟨N, r, f0, f1, hv9, rfl⟩, hW⟩ := h9
  exact ⟨N, r, f0, f1, hv9, (hW [(rfB X d rr ((N), eW Y, eQ Y, eC Y, eS Y, eB Y, eA Y, eT Y, eR Y)).getD 0 [], (rfB X d rr ((N), eW Y, eQ Y, eC Y, eS Y, eB Y, eA Y, eT Y, eR Y)).getD 1 []] rfl rfl).trans rfl⟩

set_option maxHeartbeats 1000000 in
set_option maxRecDepth 100000 in
theorem uX8_lastDue (l : Launch) (X : KX) (d rr : Nat → Nat) (Y : RZ) (i : Int) (hWI : WI (eW Y)) (hi : i32 i) : CM l X yX8_lastDue wsX8_lastDue ({ frames := 3, cells := 0, slots := 0, locals := 74 }) [.ref (d 0), .int (iI i)] (rfB X d rr Y).flatten (fun v9 w9 => ∃ N : Nat → Int, ∃ r : Int, (sameP (eM Y) N) ∧ ((N 0 = 0 ∧ 0 ≤ i ∧ i < (eW Y) 0 ∧ r = lastL 120 (WL (eW Y) i) 0) ∨ (N 0 = 1 ∧ ¬ (0 ≤ i ∧ i < (eW Y) 0))) ∧ v9 = some (.int (iI r)) ∧ w9 = (rfB X d rr ((N), eW Y, eQ Y, eC Y, eS Y, eB Y, eA Y, eT Y, eR Y)).flatten) 0 0 := by
  refine ((kX8_lastDue l X d (eM Y) (eW Y) i (hWI) (hi)).blk (rfB X d rr Y) rfL [0, 1] rfl (blt rfl) rfl (by decide +kernel)).weak (fun v9 w9 h9 => ?_)
  obtain ⟨w1, ⟨N, r, f0, f1, hv9, rfl⟩, hW⟩ := h9
  exact ⟨N, r, f0, f1, hv9, (hW [(rfB X d rr ((N), eW Y, eQ Y, eC Y, eS Y, eB Y, eA Y, eT Y, eR Y)).getD 0 [], (rfB X d rr ((N), eW Y, eQ Y, eC Y, eS Y, eB Y, eA Y, eT Y, eR Y)).getD 1 []] rfl rfl).trans rfl⟩

set_option maxHeartbeats 1000000 in
set_option maxRecDepth 100000 in
theorem uX8_monthsToHalf (l : Launch) (X : KX) (d rr : Nat → Nat) (Y : RZ) (i : Int) (hWI : WI (eW Y)) (hpr : ∀ i : Int, 0 ≤ i → i < (eW Y) 0 → 0 ≤ wOf (eW Y) i 0 ∧ wOf (eW Y) i 0 ≤ 9999999) (hi : i32 i) : CM l X yX8_monthsToHalf wsX8_monthsToHalf ({ frames := 3, cells := 0, slots := 0, locals := 66 }) [.ref (d 0), .int (iI i)] (rfB X d rr Y).flatten (fun v9 w9 => ∃ N : Nat → Int, ∃ r : Int, (sameP (eM Y) N) ∧ ((N 0 = 0 ∧ 0 ≤ i ∧ i < (eW Y) 0 ∧ r = untL 120 (WL (eW Y) i) (wOf (eW Y) i 0 / 2)) ∨ (N 0 = 1 ∧ ¬ (0 ≤ i ∧ i < (eW Y) 0))) ∧ v9 = some (.int (iI r)) ∧ w9 = (rfB X d rr ((N), eW Y, eQ Y, eC Y, eS Y, eB Y, eA Y, eT Y, eR Y)).flatten) 0 0 := by
  refine ((kX8_monthsToHalf l X d (eM Y) (eW Y) i (hWI) (hpr) (hi)).blk (rfB X d rr Y) rfL [0, 1] rfl (blt rfl) rfl (by decide +kernel)).weak (fun v9 w9 h9 => ?_)
  obtain ⟨w1, ⟨N, r, f0, f1, hv9, rfl⟩, hW⟩ := h9
  exact ⟨N, r, f0, f1, hv9, (hW [(rfB X d rr ((N), eW Y, eQ Y, eC Y, eS Y, eB Y, eA Y, eT Y, eR Y)).getD 0 [], (rfB X d rr ((N), eW Y, eQ Y, eC Y, eS Y, eB Y, eA Y, eT Y, eR Y)).getD 1 []] rfl rfl).trans rfl⟩

set_option maxHeartbeats 1000000 in
set_option maxRecDepth 100000 in
theorem uX8_installmentFor (l : Launch) (X : KX) (d rr : Nat → Nat) (Y : RZ) (i : Int) (a : Int) (hWI : WI (eW Y)) (hi : i32 i) (ha : i32 a) : CM l X yX8_installmentFor wsX8_installmentFor ({ frames := 4, cells := 0, slots := 0, locals := 107 }) [.ref (d 0), .int (iI i), .int (iI a)] (rfB X d rr Y).flatten (fun v9 w9 => ∃ N : Nat → Int, ∃ r : Int, (sameP (eM Y) N) ∧ ((N 0 = 0 ∧ (0 ≤ i ∧ i < (eW Y) 0) ∧ (1 ≤ a ∧ a ≤ 120) ∧ ((0 < wOf (eW Y) i 1 ∧ r = lvl (wOf (eW Y) i 1) (wOf (eW Y) i 2) (wOf (eW Y) i 5) a) ∨ (wOf (eW Y) i 1 ≤ 0 ∧ r = 0))) ∨ (N 0 = 1 ∧ ¬ (0 ≤ i ∧ i < (eW Y) 0)) ∨ (N 0 = 2 ∧ (0 ≤ i ∧ i < (eW Y) 0) ∧ ¬ (1 ≤ a ∧ a ≤ 120))) ∧ v9 = some (.int (iI r)) ∧ w9 = (rfB X d rr ((N), eW Y, eQ Y, eC Y, eS Y, eB Y, eA Y, eT Y, eR Y)).flatten) 0 0 := by
  refine ((kX8_installmentFor l X d (eM Y) (eW Y) i a (hWI) (hi) (ha)).blk (rfB X d rr Y) rfL [0, 1] rfl (blt rfl) rfl (by decide +kernel)).weak (fun v9 w9 h9 => ?_)
  obtain ⟨w1, ⟨N, r, f0, f1, hv9, rfl⟩, hW⟩ := h9
  exact ⟨N, r, f0, f1, hv9, (hW [(rfB X d rr ((N), eW Y, eQ Y, eC Y, eS Y, eB Y, eA Y, eT Y, eR Y)).getD 0 [], (rfB X d rr ((N), eW Y, eQ Y, eC Y, eS Y, eB Y, eA Y, eT Y, eR Y)).getD 1 []] rfl rfl).trans rfl⟩

set_option maxHeartbeats 1000000 in
set_option maxRecDepth 100000 in
theorem uX8_monthsFor (l : Launch) (X : KX) (d rr : Nat → Nat) (Y : RZ) (i : Int) (a : Int) (hWI : WI (eW Y)) (hi : i32 i) (ha : i32 a) : CM l X yX8_monthsFor wsX8_monthsFor ({ frames := 4, cells := 0, slots := 0, locals := 102 }) [.ref (d 0), .int (iI i), .int (iI a)] (rfB X d rr Y).flatten (fun v9 w9 => ∃ N : Nat → Int, ∃ r : Int, (sameP (eM Y) N) ∧ ((N 0 = 0 ∧ (0 ≤ i ∧ i < (eW Y) 0) ∧ (1 ≤ a ∧ a ≤ 9999999) ∧ ((0 < wOf (eW Y) i 1 ∧ r = trm (wOf (eW Y) i 2) a 120 1 (wOf (eW Y) i 1) (wOf (eW Y) i 5)) ∨ (wOf (eW Y) i 1 ≤ 0 ∧ r = 0))) ∨ (N 0 = 1 ∧ ¬ (0 ≤ i ∧ i < (eW Y) 0)) ∨ (N 0 = 2 ∧ (0 ≤ i ∧ i < (eW Y) 0) ∧ ¬ (1 ≤ a ∧ a ≤ 9999999))) ∧ v9 = some (.int (iI r)) ∧ w9 = (rfB X d rr ((N), eW Y, eQ Y, eC Y, eS Y, eB Y, eA Y, eT Y, eR Y)).flatten) 0 0 := by
  refine ((kX8_monthsFor l X d (eM Y) (eW Y) i a (hWI) (hi) (ha)).blk (rfB X d rr Y) rfL [0, 1] rfl (blt rfl) rfl (by decide +kernel)).weak (fun v9 w9 h9 => ?_)
  obtain ⟨w1, ⟨N, r, f0, f1, hv9, rfl⟩, hW⟩ := h9
  exact ⟨N, r, f0, f1, hv9, (hW [(rfB X d rr ((N), eW Y, eQ Y, eC Y, eS Y, eB Y, eA Y, eT Y, eR Y)).getD 0 [], (rfB X d rr ((N), eW Y, eQ Y, eC Y, eS Y, eB Y, eA Y, eT Y, eR Y)).getD 1 []] rfl rfl).trans rfl⟩

set_option maxHeartbeats 1000000 in
set_option maxRecDepth 100000 in
theorem uX8_savingOfExtra (l : Launch) (X : KX) (d rr : Nat → Nat) (Y : RZ) (i : Int) (a : Int) (kp : Int) (hWI : WI (eW Y)) (hi : i32 i) (ha : i32 a) (hkp : kp = 0 ∨ kp = 1) : CM l X yX8_savingOfExtra wsX8_savingOfExtra ({ frames := 6, cells := 0, slots := 0, locals := 151 }) [.ref (d 0), .int (iI i), .int (iI a), .int (iI kp)] (rfB X d rr Y).flatten (fun v9 w9 => ∃ N : Nat → Int, ∃ g9 : Nat → Int, ∃ r : Int, (sameP (eM Y) N) ∧ ((N 0 = 0 ∧ (0 ≤ i ∧ i < (eW Y) 0) ∧ (1 ≤ a ∧ a ≤ 9999999) ∧ ((0 < wOf (eW Y) i 1 ∧ a ≤ wOf (eW Y) i 1 ∧ r = (runL 120 (WL (eW Y) i) 6 - wOf (eW Y) i 6) - (runL 120 (WL (wRed (eW Y) i a kp) i) 6 - wOf (wRed (eW Y) i a kp) i 6)) ∨ (¬ (0 < wOf (eW Y) i 1 ∧ a ≤ wOf (eW Y) i 1) ∧ r = 0))) ∨ (N 0 = 1 ∧ ¬ (0 ≤ i ∧ i < (eW Y) 0)) ∨ (N 0 = 2 ∧ (0 ≤ i ∧ i < (eW Y) 0) ∧ ¬ (1 ≤ a ∧ a ≤ 9999999))) ∧ v9 = some (.int (iI r)) ∧ w9 = (rfB X d rr ((N), eW Y, eQ Y, eC Y, eS Y, eB Y, (g9), eT Y, eR Y)).flatten) 0 0 := by
  refine ((kX8_savingOfExtra l X d (eM Y) (eW Y) (eA Y) i a kp (hWI) (hi) (ha) (hkp)).blk (rfB X d rr Y) rfL [0, 1, 6] rfl (blt rfl) rfl (by decide +kernel)).weak (fun v9 w9 h9 => ?_)
  obtain ⟨w1, ⟨N, g9, r, f0, f1, hv9, rfl⟩, hW⟩ := h9
  exact ⟨N, g9, r, f0, f1, hv9, (hW [(rfB X d rr ((N), eW Y, eQ Y, eC Y, eS Y, eB Y, (g9), eT Y, eR Y)).getD 0 [], (rfB X d rr ((N), eW Y, eQ Y, eC Y, eS Y, eB Y, (g9), eT Y, eR Y)).getD 1 [], (rfB X d rr ((N), eW Y, eQ Y, eC Y, eS Y, eB Y, (g9), eT Y, eR Y)).getD 6 []] rfl rfl).trans rfl⟩

set_option maxHeartbeats 1000000 in
set_option maxRecDepth 100000 in
theorem uX8_interestIfRate (l : Launch) (X : KX) (d rr : Nat → Nat) (Y : RZ) (i : Int) (a : Int) (hWI : WI (eW Y)) (hi : i32 i) (ha : i32 a) : CM l X yX8_interestIfRate wsX8_interestIfRate ({ frames := 6, cells := 0, slots := 0, locals := 150 }) [.ref (d 0), .int (iI i), .int (iI a)] (rfB X d rr Y).flatten (fun v9 w9 => ∃ N : Nat → Int, ∃ g9 : Nat → Int, ∃ r : Int, (sameP (eM Y) N) ∧ ((N 0 = 0 ∧ (0 ≤ i ∧ i < (eW Y) 0) ∧ (0 ≤ a ∧ a ≤ 3000) ∧ ((0 < wOf (eW Y) i 1 ∧ r = (runL 120 (WL (wRate (eW Y) i a) i) 6 - wOf (wRate (eW Y) i a) i 6)) ∨ (wOf (eW Y) i 1 ≤ 0 ∧ r = 0))) ∨ (N 0 = 1 ∧ ¬ (0 ≤ i ∧ i < (eW Y) 0)) ∨ (N 0 = 2 ∧ (0 ≤ i ∧ i < (eW Y) 0) ∧ ¬ (0 ≤ a ∧ a ≤ 3000))) ∧ v9 = some (.int (iI r)) ∧ w9 = (rfB X d rr ((N), eW Y, eQ Y, eC Y, eS Y, eB Y, (g9), eT Y, eR Y)).flatten) 0 0 := by
  refine ((kX8_interestIfRate l X d (eM Y) (eW Y) (eA Y) i a (hWI) (hi) (ha)).blk (rfB X d rr Y) rfL [0, 1, 6] rfl (blt rfl) rfl (by decide +kernel)).weak (fun v9 w9 h9 => ?_)
  obtain ⟨w1, ⟨N, g9, r, f0, f1, hv9, rfl⟩, hW⟩ := h9
  exact ⟨N, g9, r, f0, f1, hv9, (hW [(rfB X d rr ((N), eW Y, eQ Y, eC Y, eS Y, eB Y, (g9), eT Y, eR Y)).getD 0 [], (rfB X d rr ((N), eW Y, eQ Y, eC Y, eS Y, eB Y, (g9), eT Y, eR Y)).getD 1 [], (rfB X d rr ((N), eW Y, eQ Y, eC Y, eS Y, eB Y, (g9), eT Y, eR Y)).getD 6 []] rfl rfl).trans rfl⟩

set_option maxHeartbeats 1000000 in
set_option maxRecDepth 100000 in
theorem uX8_isCheaper (l : Launch) (X : KX) (d rr : Nat → Nat) (Y : RZ) (i : Int) (q : Int) (a : Int) (hWI : WI (eW Y)) (hi : i32 i) (ha : i32 a) (hq9 : i32 q) : CM l X yX8_isCheaper wsX8_isCheaper ({ frames := 6, cells := 0, slots := 0, locals := 151 }) [.ref (d 0), .int (iI i), .int (iI q), .int (iI a)] (rfB X d rr Y).flatten (fun v9 w9 => ∃ N : Nat → Int, ∃ g9 : Nat → Int, ∃ r : Int, (sameP (eM Y) N) ∧ ((N 0 = 0 ∧ (0 ≤ i ∧ i < (eW Y) 0) ∧ ((0 ≤ q ∧ q ≤ 3000) ∧ 1 ≤ a ∧ a ≤ 120) ∧ ((0 < wOf (eW Y) i 1 ∧ ((r = 1 ∧ (runL 120 (WL (wSet (eW Y) i q a) i) 6 - wOf (wSet (eW Y) i q a) i 6) < (runL 120 (WL (eW Y) i) 6 - wOf (eW Y) i 6)) ∨ (r = 0 ∧ ¬ ((runL 120 (WL (wSet (eW Y) i q a) i) 6 - wOf (wSet (eW Y) i q a) i 6) < (runL 120 (WL (eW Y) i) 6 - wOf (eW Y) i 6))))) ∨ (wOf (eW Y) i 1 ≤ 0 ∧ r = 0))) ∨ (N 0 = 1 ∧ ¬ (0 ≤ i ∧ i < (eW Y) 0)) ∨ (N 0 = 2 ∧ (0 ≤ i ∧ i < (eW Y) 0) ∧ ¬ ((0 ≤ q ∧ q ≤ 3000) ∧ 1 ≤ a ∧ a ≤ 120))) ∧ v9 = some (.int (iI r)) ∧ w9 = (rfB X d rr ((N), eW Y, eQ Y, eC Y, eS Y, eB Y, (g9), eT Y, eR Y)).flatten) 0 0 := by
  refine ((kX8_isCheaper l X d (eM Y) (eW Y) (eA Y) i q a (hWI) (hi) (ha) (hq9)).blk (rfB X d rr Y) rfL [0, 1, 6] rfl (blt rfl) rfl (by decide +kernel)).weak (fun v9 w9 h9 => ?_)
  obtain ⟨w1, ⟨N, g9, r, f0, f1, hv9, rfl⟩, hW⟩ := h9
  exact ⟨N, g9, r, f0, f1, hv9, (hW [(rfB X d rr ((N), eW Y, eQ Y, eC Y, eS Y, eB Y, (g9), eT Y, eR Y)).getD 0 [], (rfB X d rr ((N), eW Y, eQ Y, eC Y, eS Y, eB Y, (g9), eT Y, eR Y)).getD 1 [], (rfB X d rr ((N), eW Y, eQ Y, eC Y, eS Y, eB Y, (g9), eT Y, eR Y)).getD 6 []] rfl rfl).trans rfl⟩

set_option maxHeartbeats 1000000 in
set_option maxRecDepth 100000 in
theorem uX8_skipsWithin (l : Launch) (X : KX) (d rr : Nat → Nat) (Y : RZ) (i : Int) (a : Int) (hWI : WI (eW Y)) (hi : i32 i) (ha : i32 a) : CM l X yX8_skipsWithin wsX8_skipsWithin ({ frames := 6, cells := 0, slots := 0, locals := 150 }) [.ref (d 0), .int (iI i), .int (iI a)] (rfB X d rr Y).flatten (fun v9 w9 => ∃ N : Nat → Int, ∃ g9 : Nat → Int, ∃ r : Int, (sameP (eM Y) N) ∧ ((N 0 = 0 ∧ (0 ≤ i ∧ i < (eW Y) 0) ∧ (1 ≤ a ∧ a ≤ 9999999) ∧ r = skpL 6 (WL (eW Y) i) a) ∨ (N 0 = 1 ∧ ¬ (0 ≤ i ∧ i < (eW Y) 0)) ∨ (N 0 = 2 ∧ (0 ≤ i ∧ i < (eW Y) 0) ∧ ¬ (1 ≤ a ∧ a ≤ 9999999))) ∧ v9 = some (.int (iI r)) ∧ w9 = (rfB X d rr ((N), eW Y, eQ Y, eC Y, eS Y, eB Y, (g9), eT Y, eR Y)).flatten) 0 0 := by
  refine ((kX8_skipsWithin l X d (eM Y) (eW Y) (eA Y) i a (hWI) (hi) (ha)).blk (rfB X d rr Y) rfL [0, 1, 6] rfl (blt rfl) rfl (by decide +kernel)).weak (fun v9 w9 h9 => ?_)
  obtain ⟨w1, ⟨N, g9, r, f0, f1, hv9, rfl⟩, hW⟩ := h9
  exact ⟨N, g9, r, f0, f1, hv9, (hW [(rfB X d rr ((N), eW Y, eQ Y, eC Y, eS Y, eB Y, (g9), eT Y, eR Y)).getD 0 [], (rfB X d rr ((N), eW Y, eQ Y, eC Y, eS Y, eB Y, (g9), eT Y, eR Y)).getD 1 [], (rfB X d rr ((N), eW Y, eQ Y, eC Y, eS Y, eB Y, (g9), eT Y, eR Y)).getD 6 []] rfl rfl).trans rfl⟩

set_option maxHeartbeats 1000000 in
set_option maxRecDepth 100000 in
theorem uX8_totalInterestAhead (l : Launch) (X : KX) (d rr : Nat → Nat) (Y : RZ) (hWI : WI (eW Y)) : CM l X yX8_totalInterestAhead wsX8_totalInterestAhead ({ frames := 4, cells := 0, slots := 0, locals := 96 }) [.ref (d 0)] (rfB X d rr Y).flatten (fun v9 w9 => ∃ N : Nat → Int, (sameP (eM Y) N) ∧ (N 0 = 0) ∧ v9 = some (.int (iI (wCost (eW Y) ((eW Y) 0).toNat))) ∧ w9 = (rfB X d rr ((N), eW Y, eQ Y, eC Y, eS Y, eB Y, eA Y, eT Y, eR Y)).flatten) 0 0 := by
  refine ((kX8_totalInterestAhead l X d (eM Y) (eW Y) (hWI)).blk (rfB X d rr Y) rfL [0, 1] rfl (blt rfl) rfl (by decide +kernel)).weak (fun v9 w9 h9 => ?_)
  obtain ⟨w1, ⟨N, f0, f1, hv9, rfl⟩, hW⟩ := h9
  exact ⟨N, f0, f1, hv9, (hW [(rfB X d rr ((N), eW Y, eQ Y, eC Y, eS Y, eB Y, eA Y, eT Y, eR Y)).getD 0 [], (rfB X d rr ((N), eW Y, eQ Y, eC Y, eS Y, eB Y, eA Y, eT Y, eR Y)).getD 1 []] rfl rfl).trans rfl⟩

set_option maxHeartbeats 1000000 in
set_option maxRecDepth 100000 in
theorem uX8_dearestLoan (l : Launch) (X : KX) (d rr : Nat → Nat) (Y : RZ) (hWI : WI (eW Y)) : CM l X yX8_dearestLoan wsX8_dearestLoan ({ frames := 3, cells := 0, slots := 0, locals := 65 }) [.ref (d 0)] (rfB X d rr Y).flatten (fun v9 w9 => v9 = some (.int (iI (dst (LWf (eW Y)) ((eW Y) 0).toNat))) ∧ w9 = (rfB X d rr ((uI (eM Y) 0 0), eW Y, eQ Y, eC Y, eS Y, eB Y, eA Y, eT Y, eR Y)).flatten) 0 0 := by
  refine ((kX8_dearestLoan l X d (eM Y) (eW Y) (hWI)).blk (rfB X d rr Y) rfL [0, 1] rfl (blt rfl) rfl (by decide +kernel)).weak (fun v9 w9 h9 => ?_)
  obtain ⟨w1, ⟨hv9, rfl⟩, hW⟩ := h9
  exact ⟨hv9, (hW [(rfB X d rr ((uI (eM Y) 0 0), eW Y, eQ Y, eC Y, eS Y, eB Y, eA Y, eT Y, eR Y)).getD 0 [], (rfB X d rr ((uI (eM Y) 0 0), eW Y, eQ Y, eC Y, eS Y, eB Y, eA Y, eT Y, eR Y)).getD 1 []] rfl rfl).trans rfl⟩

set_option maxHeartbeats 1000000 in
set_option maxRecDepth 100000 in
theorem uX8_smallestLoan (l : Launch) (X : KX) (d rr : Nat → Nat) (Y : RZ) (hWI : WI (eW Y)) : CM l X yX8_smallestLoan wsX8_smallestLoan ({ frames := 3, cells := 0, slots := 0, locals := 65 }) [.ref (d 0)] (rfB X d rr Y).flatten (fun v9 w9 => v9 = some (.int (iI (sml (LWf (eW Y)) ((eW Y) 0).toNat))) ∧ w9 = (rfB X d rr ((uI (eM Y) 0 0), eW Y, eQ Y, eC Y, eS Y, eB Y, eA Y, eT Y, eR Y)).flatten) 0 0 := by
  refine ((kX8_smallestLoan l X d (eM Y) (eW Y) (hWI)).blk (rfB X d rr Y) rfL [0, 1] rfl (blt rfl) rfl (by decide +kernel)).weak (fun v9 w9 h9 => ?_)
  obtain ⟨w1, ⟨hv9, rfl⟩, hW⟩ := h9
  exact ⟨hv9, (hW [(rfB X d rr ((uI (eM Y) 0 0), eW Y, eQ Y, eC Y, eS Y, eB Y, eA Y, eT Y, eR Y)).getD 0 [], (rfB X d rr ((uI (eM Y) 0 0), eW Y, eQ Y, eC Y, eS Y, eB Y, eA Y, eT Y, eR Y)).getD 1 []] rfl rfl).trans rfl⟩

set_option maxHeartbeats 1000000 in
set_option maxRecDepth 100000 in
theorem uX8_totalDue (l : Launch) (X : KX) (d rr : Nat → Nat) (Y : RZ) (hWI : WI (eW Y)) : CM l X yX8_totalDue wsX8_totalDue ({ frames := 4, cells := 0, slots := 0, locals := 88 }) [.ref (d 0)] (rfB X d rr Y).flatten (fun v9 w9 => ∃ N : Nat → Int, (sameP (eM Y) N) ∧ (N 0 = 0) ∧ v9 = some (.int (iI (wDue (eW Y) ((eW Y) 0).toNat))) ∧ w9 = (rfB X d rr ((N), eW Y, eQ Y, eC Y, eS Y, eB Y, eA Y, eT Y, eR Y)).flatten) 0 0 := by
  refine ((kX8_totalDue l X d (eM Y) (eW Y) (hWI)).blk (rfB X d rr Y) rfL [0, 1] rfl (blt rfl) rfl (by decide +kernel)).weak (fun v9 w9 h9 => ?_)
  obtain ⟨w1, ⟨N, f0, f1, hv9, rfl⟩, hW⟩ := h9
  exact ⟨N, f0, f1, hv9, (hW [(rfB X d rr ((N), eW Y, eQ Y, eC Y, eS Y, eB Y, eA Y, eT Y, eR Y)).getD 0 [], (rfB X d rr ((N), eW Y, eQ Y, eC Y, eS Y, eB Y, eA Y, eT Y, eR Y)).getD 1 []] rfl rfl).trans rfl⟩

set_option maxHeartbeats 1000000 in
set_option maxRecDepth 100000 in
theorem uX8_totalBalance (l : Launch) (X : KX) (d rr : Nat → Nat) (Y : RZ) (hWI : WI (eW Y)) : CM l X yX8_totalBalance wsX8_totalBalance ({ frames := 2, cells := 0, slots := 0, locals := 44 }) [.ref (d 0)] (rfB X d rr Y).flatten (fun v9 w9 => v9 = some (.int (iI (wFld (eW Y) 1 ((eW Y) 0).toNat))) ∧ w9 = (rfB X d rr ((uI (eM Y) 0 0), eW Y, eQ Y, eC Y, eS Y, eB Y, eA Y, eT Y, eR Y)).flatten) 0 0 := by
  refine ((kX8_totalBalance l X d (eM Y) (eW Y) (hWI)).blk (rfB X d rr Y) rfL [0, 1] rfl (blt rfl) rfl (by decide +kernel)).weak (fun v9 w9 h9 => ?_)
  obtain ⟨w1, ⟨hv9, rfl⟩, hW⟩ := h9
  exact ⟨hv9, (hW [(rfB X d rr ((uI (eM Y) 0 0), eW Y, eQ Y, eC Y, eS Y, eB Y, eA Y, eT Y, eR Y)).getD 0 [], (rfB X d rr ((uI (eM Y) 0 0), eW Y, eQ Y, eC Y, eS Y, eB Y, eA Y, eT Y, eR Y)).getD 1 []] rfl rfl).trans rfl⟩

set_option maxHeartbeats 1000000 in
set_option maxRecDepth 100000 in
theorem uX8_monthsToFreedom (l : Launch) (X : KX) (d rr : Nat → Nat) (Y : RZ) (hWI : WI (eW Y)) : CM l X yX8_monthsToFreedom wsX8_monthsToFreedom ({ frames := 3, cells := 0, slots := 0, locals := 74 }) [.ref (d 0)] (rfB X d rr Y).flatten (fun v9 w9 => ∃ N : Nat → Int, (sameP (eM Y) N) ∧ (N 0 = 0) ∧ v9 = some (.int (iI (wMost (eW Y) ((eW Y) 0).toNat))) ∧ w9 = (rfB X d rr ((N), eW Y, eQ Y, eC Y, eS Y, eB Y, eA Y, eT Y, eR Y)).flatten) 0 0 := by
  refine ((kX8_monthsToFreedom l X d (eM Y) (eW Y) (hWI)).blk (rfB X d rr Y) rfL [0, 1] rfl (blt rfl) rfl (by decide +kernel)).weak (fun v9 w9 h9 => ?_)
  obtain ⟨w1, ⟨N, f0, f1, hv9, rfl⟩, hW⟩ := h9
  exact ⟨N, f0, f1, hv9, (hW [(rfB X d rr ((N), eW Y, eQ Y, eC Y, eS Y, eB Y, eA Y, eT Y, eR Y)).getD 0 [], (rfB X d rr ((N), eW Y, eQ Y, eC Y, eS Y, eB Y, eA Y, eT Y, eR Y)).getD 1 []] rfl rfl).trans rfl⟩

set_option maxHeartbeats 1000000 in
set_option maxRecDepth 100000 in
theorem uX8_budgetMonths (l : Launch) (X : KX) (d rr : Nat → Nat) (Y : RZ) (bu : Int) (y : Int) (hWI : WI (eW Y)) (hb9 : i32 bu) (hy : y = 0 ∨ y = 1) : CM l X yX8_budgetMonths wsX8_budgetMonths ({ frames := 8, cells := 0, slots := 0, locals := 201 }) [.ref (d 0), .int (iI bu), .int (iI y)] (rfB X d rr Y).flatten (fun v9 w9 => ∃ N : Nat → Int, ∃ g9 : Nat → Int, ∃ r : Int, (sameP (eM Y) N) ∧ ((N 0 = 0 ∧ (1 ≤ bu ∧ bu ≤ 9999999) ∧ r = (wbF bu y 120 (eW Y) 0).2) ∨ (N 0 = 1 ∧ ¬ (1 ≤ bu ∧ bu ≤ 9999999))) ∧ v9 = some (.int (iI r)) ∧ w9 = (rfB X d rr ((N), eW Y, eQ Y, eC Y, eS Y, eB Y, (g9), eT Y, eR Y)).flatten) 0 0 := by
  refine ((kX8_budgetMonths l X d (eM Y) (eW Y) (eA Y) bu y (hWI) (hb9) (hy)).blk (rfB X d rr Y) rfL [0, 1, 6] rfl (blt rfl) rfl (by decide +kernel)).weak (fun v9 w9 h9 => ?_)
  obtain ⟨w1, ⟨N, g9, r, f0, f1, hv9, rfl⟩, hW⟩ := h9
  exact ⟨N, g9, r, f0, f1, hv9, (hW [(rfB X d rr ((N), eW Y, eQ Y, eC Y, eS Y, eB Y, (g9), eT Y, eR Y)).getD 0 [], (rfB X d rr ((N), eW Y, eQ Y, eC Y, eS Y, eB Y, (g9), eT Y, eR Y)).getD 1 [], (rfB X d rr ((N), eW Y, eQ Y, eC Y, eS Y, eB Y, (g9), eT Y, eR Y)).getD 6 []] rfl rfl).trans rfl⟩

set_option maxHeartbeats 1000000 in
set_option maxRecDepth 100000 in
theorem uX8_budgetInterest (l : Launch) (X : KX) (d rr : Nat → Nat) (Y : RZ) (bu : Int) (y : Int) (hWI : WI (eW Y)) (hb9 : i32 bu) (hy : y = 0 ∨ y = 1) : CM l X yX8_budgetInterest wsX8_budgetInterest ({ frames := 8, cells := 0, slots := 0, locals := 201 }) [.ref (d 0), .int (iI bu), .int (iI y)] (rfB X d rr Y).flatten (fun v9 w9 => ∃ N : Nat → Int, ∃ g9 : Nat → Int, ∃ r : Int, (sameP (eM Y) N) ∧ ((N 0 = 0 ∧ (1 ≤ bu ∧ bu ≤ 9999999) ∧ (((wbF bu y 120 (eW Y) 0).2 = -1 ∧ r = -1) ∨ ((wbF bu y 120 (eW Y) 0).2 ≠ -1 ∧ r = wFld (wbF bu y 120 (eW Y) 0).1 6 ((eW Y) 0).toNat - wFld (eW Y) 6 ((eW Y) 0).toNat))) ∨ (N 0 = 1 ∧ ¬ (1 ≤ bu ∧ bu ≤ 9999999))) ∧ v9 = some (.int (iI r)) ∧ w9 = (rfB X d rr ((N), eW Y, eQ Y, eC Y, eS Y, eB Y, (g9), eT Y, eR Y)).flatten) 0 0 := by
  refine ((kX8_budgetInterest l X d (eM Y) (eW Y) (eA Y) bu y (hWI) (hb9) (hy)).blk (rfB X d rr Y) rfL [0, 1, 6] rfl (blt rfl) rfl (by decide +kernel)).weak (fun v9 w9 h9 => ?_)
  obtain ⟨w1, ⟨N, g9, r, f0, f1, hv9, rfl⟩, hW⟩ := h9
  exact ⟨N, g9, r, f0, f1, hv9, (hW [(rfB X d rr ((N), eW Y, eQ Y, eC Y, eS Y, eB Y, (g9), eT Y, eR Y)).getD 0 [], (rfB X d rr ((N), eW Y, eQ Y, eC Y, eS Y, eB Y, (g9), eT Y, eR Y)).getD 1 [], (rfB X d rr ((N), eW Y, eQ Y, eC Y, eS Y, eB Y, (g9), eT Y, eR Y)).getD 6 []] rfl rfl).trans rfl⟩

set_option maxHeartbeats 1000000 in
set_option maxRecDepth 100000 in
theorem uX8_averageRate (l : Launch) (X : KX) (d rr : Nat → Nat) (Y : RZ) (hWI : WI (eW Y)) : CM l X yX8_averageRate wsX8_averageRate ({ frames := 2, cells := 0, slots := 0, locals := 44 }) [.ref (d 0)] (rfB X d rr Y).flatten (fun v9 w9 => ∃ z : UInt64, ((wFld (eW Y) 1 ((eW Y) 0).toNat = 0 ∧ z = FP.dconst0) ∨ (wFld (eW Y) 1 ((eW Y) 0).toNat ≠ 0 ∧ z = FP.ddiv (FP.l2d (iL (wWgt (eW Y) ((eW Y) 0).toNat))) (FP.i2d (iI (wFld (eW Y) 1 ((eW Y) 0).toNat))))) ∧ v9 = some (.double z) ∧ w9 = (rfB X d rr ((uI (eM Y) 0 0), eW Y, eQ Y, eC Y, eS Y, eB Y, eA Y, eT Y, eR Y)).flatten) 0 0 := by
  refine ((kX8_averageRate l X d (eM Y) (eW Y) (hWI)).blk (rfB X d rr Y) rfL [0, 1] rfl (blt rfl) rfl (by decide +kernel)).weak (fun v9 w9 h9 => ?_)
  obtain ⟨w1, ⟨z, f0, hv9, rfl⟩, hW⟩ := h9
  exact ⟨z, f0, hv9, (hW [(rfB X d rr ((uI (eM Y) 0 0), eW Y, eQ Y, eC Y, eS Y, eB Y, eA Y, eT Y, eR Y)).getD 0 [], (rfB X d rr ((uI (eM Y) 0 0), eW Y, eQ Y, eC Y, eS Y, eB Y, eA Y, eT Y, eR Y)).getD 1 []] rfl rfl).trans rfl⟩

set_option maxHeartbeats 1000000 in
set_option maxRecDepth 100000 in
theorem uX8_closedShare (l : Launch) (X : KX) (d rr : Nat → Nat) (Y : RZ) (hWI : WI (eW Y)) : CM l X yX8_closedShare wsX8_closedShare ({ frames := 3, cells := 0, slots := 0, locals := 65 }) [.ref (d 0)] (rfB X d rr Y).flatten (fun v9 w9 => ∃ z : UInt32, (((eW Y) 0 = 0 ∧ z = FP.fconst0) ∨ ((eW Y) 0 ≠ 0 ∧ z = FP.fdiv (FP.i2f (iI ((eW Y) 0 - cnt (LWf (eW Y)) ((eW Y) 0).toNat))) (FP.i2f (iI ((eW Y) 0))))) ∧ v9 = some (.float z) ∧ w9 = (rfB X d rr ((uI (eM Y) 0 0), eW Y, eQ Y, eC Y, eS Y, eB Y, eA Y, eT Y, eR Y)).flatten) 0 0 := by
  refine ((kX8_closedShare l X d (eM Y) (eW Y) (hWI)).blk (rfB X d rr Y) rfL [0, 1] rfl (blt rfl) rfl (by decide +kernel)).weak (fun v9 w9 h9 => ?_)
  obtain ⟨w1, ⟨z, f0, hv9, rfl⟩, hW⟩ := h9
  exact ⟨z, f0, hv9, (hW [(rfB X d rr ((uI (eM Y) 0 0), eW Y, eQ Y, eC Y, eS Y, eB Y, eA Y, eT Y, eR Y)).getD 0 [], (rfB X d rr ((uI (eM Y) 0 0), eW Y, eQ Y, eC Y, eS Y, eB Y, eA Y, eT Y, eR Y)).getD 1 []] rfl rfl).trans rfl⟩

set_option maxHeartbeats 1000000 in
set_option maxRecDepth 100000 in
theorem uX8_violations (l : Launch) (X : KX) (d rr : Nat → Nat) (Y : RZ) (hWI : WI (eW Y)) : CM l X yX8_violations wsX8_violations ({ frames := 3, cells := 0, slots := 0, locals := 74 }) [.ref (d 0)] (rfB X d rr Y).flatten (fun v9 w9 => ∃ N : Nat → Int, (sameP (eM Y) N) ∧ (N 0 = 0) ∧ v9 = some (.int (iI (wBad (eW Y) ((eW Y) 0).toNat))) ∧ w9 = (rfB X d rr ((N), eW Y, eQ Y, eC Y, eS Y, eB Y, eA Y, eT Y, eR Y)).flatten) 0 0 := by
  refine ((kX8_violations l X d (eM Y) (eW Y) (hWI)).blk (rfB X d rr Y) rfL [0, 1] rfl (blt rfl) rfl (by decide +kernel)).weak (fun v9 w9 h9 => ?_)
  obtain ⟨w1, ⟨N, f0, f1, hv9, rfl⟩, hW⟩ := h9
  exact ⟨N, f0, f1, hv9, (hW [(rfB X d rr ((N), eW Y, eQ Y, eC Y, eS Y, eB Y, eA Y, eT Y, eR Y)).getD 0 [], (rfB X d rr ((N), eW Y, eQ Y, eC Y, eS Y, eB Y, eA Y, eT Y, eR Y)).getD 1 []] rfl rfl).trans rfl⟩

set_option maxHeartbeats 1000000 in
set_option maxRecDepth 100000 in
theorem uX8_writeSchedule (l : Launch) (X : KX) (d rr : Nat → Nat) (Y : RZ) (i : Int) (hWI : WI (eW Y)) (hi9 : i32 i) : CM l X yX8_writeSchedule wsX8_writeSchedule ({ frames := 2, cells := 0, slots := 0, locals := 45 }) [.ref (d 0), .int (iI i)] (rfB X d rr Y).flatten (fun v9 w9 => ∃ N : Nat → Int, ∃ C9 : Nat → Int, ∃ z : Int, (∀ k, k ≠ 0 → k ≠ 11 → (k < 12 ∨ 17 < k) → N k = (eM Y) k) ∧ ((N 0 = 0 ∧ (0 ≤ i ∧ i < (eW Y) 0) ∧ N 11 = repN (WL (eW Y) i) ∧ C9 = wrL (eR Y) 0 (repL (WL (eW Y) i)) ∧ z = repN (WL (eW Y) i)) ∨ (N 0 = 1 ∧ ¬ (0 ≤ i ∧ i < (eW Y) 0) ∧ N 11 = (eM Y) 11 ∧ C9 = (eR Y) ∧ z = 0)) ∧ v9 = some (.int (iI z)) ∧ w9 = (rfB X d rr ((N), eW Y, eQ Y, eC Y, eS Y, eB Y, eA Y, eT Y, (C9))).flatten) 0 0 := by
  refine ((kX8_writeSchedule l X d (eM Y) (eW Y) (eR Y) i (hWI) (hi9)).blk (rfB X d rr Y) rfL [0, 1, 8] rfl (blt rfl) rfl (by decide +kernel)).weak (fun v9 w9 h9 => ?_)
  obtain ⟨w1, ⟨N, C9, z, f0, f1, hv9, rfl⟩, hW⟩ := h9
  exact ⟨N, C9, z, f0, f1, hv9, (hW [(rfB X d rr ((N), eW Y, eQ Y, eC Y, eS Y, eB Y, eA Y, eT Y, (C9))).getD 0 [], (rfB X d rr ((N), eW Y, eQ Y, eC Y, eS Y, eB Y, eA Y, eT Y, (C9))).getD 1 [], (rfB X d rr ((N), eW Y, eQ Y, eC Y, eS Y, eB Y, eA Y, eT Y, (C9))).getD 8 []] rfl rfl).trans rfl⟩

set_option maxHeartbeats 1000000 in
set_option maxRecDepth 100000 in
theorem uX8_reportByte (l : Launch) (X : KX) (d rr : Nat → Nat) (Y : RZ) (k : Int) (hk9 : i32 k) (hrs : 0 ≤ (eM Y) 11 ∧ (eM Y) 11 ≤ 300) : CM l X yX8_reportByte wsX8_reportByte ({ frames := 0, cells := 0, slots := 0, locals := 0 }) [.ref (d 0), .int (iI k)] (rfB X d rr Y).flatten (fun v9 w9 => ∃ z : Int, ((0 ≤ k ∧ k < (eM Y) 11 ∧ z = (eR Y) k.toNat) ∨ (¬ (0 ≤ k ∧ k < (eM Y) 11) ∧ z = -1)) ∧ v9 = some (.int (iI z)) ∧ w9 = (rfB X d rr ((uI (eM Y) 0 0), eW Y, eQ Y, eC Y, eS Y, eB Y, eA Y, eT Y, eR Y)).flatten) 0 0 := by
  refine ((kX8_reportByte l X d (eM Y) (eR Y) k (hk9) (hrs)).blk (rfB X d rr Y) rfL [0, 8] rfl (blt rfl) rfl (by decide +kernel)).weak (fun v9 w9 h9 => ?_)
  obtain ⟨w1, ⟨z, f0, hv9, rfl⟩, hW⟩ := h9
  exact ⟨z, f0, hv9, (hW [(rfB X d rr ((uI (eM Y) 0 0), eW Y, eQ Y, eC Y, eS Y, eB Y, eA Y, eT Y, eR Y)).getD 0 [], (rfB X d rr ((uI (eM Y) 0 0), eW Y, eQ Y, eC Y, eS Y, eB Y, eA Y, eT Y, eR Y)).getD 8 []] rfl rfl).trans rfl⟩

set_option maxHeartbeats 1000000 in
set_option maxRecDepth 100000 in
theorem uX8_thrown (l : Launch) (X : KX) (d rr : Nat → Nat) (Y : RZ) : CM l X yX8_thrown wsX8_thrown ({ frames := 0, cells := 0, slots := 0, locals := 0 }) [.ref (d 0)] (rfB X d rr Y).flatten (fun v9 w9 => v9 = some (.int (iI ((eM Y) 0))) ∧ w9 = (rfB X d rr Y).flatten) 0 0 := by
  refine ((kX8_thrown l X d (eM Y) ).blk (rfB X d rr Y) rfL [0] rfl (blt rfl) rfl (by decide +kernel)).weak (fun v9 w9 h9 => ?_)
  obtain ⟨w1, ⟨hv9, rfl⟩, hW⟩ := h9
  exact ⟨hv9, (hW [(rfB X d rr Y).getD 0 []] rfl rfl).trans rfl⟩

