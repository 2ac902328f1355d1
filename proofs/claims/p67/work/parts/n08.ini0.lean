/-! what holds at the law's entry -/
abbrev flN : List Cond := flatC (Jvm.Cond.and given_1 narrow_1)
theorem lz_st {args : Array Value} {s : State} {own tx : String} {k : Nat} {t : List Int} {A : Nat → Prop} (hr : (Cond.stringRef own k tx).before args s = true) (hex : (Cond.exactly (.string own k) "java/lang/String").before args s = true) (hco : (Cond.eq (.field (.string own k) "java/lang/String" "coder" "B") (.int (iI 0))).before args s = true) (har : (Cond.arrayOf (.field (.string own k) "java/lang/String" "value" "[B") .byte).before args s = true)
    (hle : (Cond.eq (.length (.field (.string own k) "java/lang/String" "value" "[B")) (.int (Int32.ofNat t.length))).before args s = true) (hn : t.length < 2 ^ 31) (hel : ∀ j : Nat, j < t.length → (Cond.eq (.elem (.field (.string own k) "java/lang/String" "value" "[B") (.int (Int32.ofNat j))) (.int (iI (t.getD j 0)))).before args s = true) (hA : ∀ a : Nat, a < s.heap.size → ¬ A a) : ∃ a : Nat, lo_St a t A s s.heap ∧ vk_R own k tx a s := by
  obtain ⟨a, c, cA, kA, q1, q2, q3, q4, q5, q6, -⟩ := Cond.exactly_spec (args := args) (first := s) (o := none) (s := s) (idx := []) (t := .string own k) (cls := "java/lang/String") hex
  obtain ⟨v, hv, hT⟩ := va_Tof (f := fun j => .int (iI (t.getD j 0))) (A := A) hn har (va_eqt hle) (fun j hj => va_eqt (hel j hj)) hA
  exact ⟨a, ⟨va_Oof hex q1 hA, vk_OFof q1 (va_eqt hco) hA, v, vk_OFof q1 hv hA, hT⟩, vk_R.of hr q1⟩
set_option maxRecDepth 20000 in
theorem fl_e0 : ∀ j : Nat, j < (lo_tx 0).length → flN[160 + j]? = some (Cond.eq (.elem (.field (.string (lo_own 0).1 (lo_own 0).2.1) "java/lang/String" "value" "[B") (.int (Int32.ofNat j))) (.int (iI ((lo_tx 0).getD j 0)))) := by decide +kernel
set_option maxRecDepth 20000 in
theorem ini_s0 {args : Array Value} {s : State} {A : Nat → Prop} (hts : ∀ w ∈ lw_tbl, w.before args s = true) (hs : ∀ w ∈ flN, w.before args s = true) (hA : ∀ a : Nat, a < s.heap.size → ¬ A a) : ∃ a : Nat, lo_St a (lo_tx 0) A s s.heap ∧ vk_R (lo_own 0).1 (lo_own 0).2.1 (lo_own 0).2.2 a s :=
  lz_st (hts _ (by decide +kernel)) (hs _ (List.mem_of_getElem? (i := 156) (by decide +kernel))) (hs _ (List.mem_of_getElem? (i := 157) (by decide +kernel))) (hs _ (List.mem_of_getElem? (i := 158) (by decide +kernel))) (hs _ (List.mem_of_getElem? (i := 159) (by decide +kernel))) (by decide +kernel) (fun j hj => hs _ (List.mem_of_getElem? (fl_e0 j hj))) hA
set_option maxRecDepth 20000 in
theorem fl_e1 : ∀ j : Nat, j < (lo_tx 1).length → flN[170 + j]? = some (Cond.eq (.elem (.field (.string (lo_own 1).1 (lo_own 1).2.1) "java/lang/String" "value" "[B") (.int (Int32.ofNat j))) (.int (iI ((lo_tx 1).getD j 0)))) := by decide +kernel
set_option maxRecDepth 20000 in
theorem ini_s1 {args : Array Value} {s : State} {A : Nat → Prop} (hts : ∀ w ∈ lw_tbl, w.before args s = true) (hs : ∀ w ∈ flN, w.before args s = true) (hA : ∀ a : Nat, a < s.heap.size → ¬ A a) : ∃ a : Nat, lo_St a (lo_tx 1) A s s.heap ∧ vk_R (lo_own 1).1 (lo_own 1).2.1 (lo_own 1).2.2 a s :=
  lz_st (hts _ (by decide +kernel)) (hs _ (List.mem_of_getElem? (i := 166) (by decide +kernel))) (hs _ (List.mem_of_getElem? (i := 167) (by decide +kernel))) (hs _ (List.mem_of_getElem? (i := 168) (by decide +kernel))) (hs _ (List.mem_of_getElem? (i := 169) (by decide +kernel))) (by decide +kernel) (fun j hj => hs _ (List.mem_of_getElem? (fl_e1 j hj))) hA
set_option maxRecDepth 20000 in
theorem fl_e2 : ∀ j : Nat, j < (lo_tx 2).length → flN[180 + j]? = some (Cond.eq (.elem (.field (.string (lo_own 2).1 (lo_own 2).2.1) "java/lang/String" "value" "[B") (.int (Int32.ofNat j))) (.int (iI ((lo_tx 2).getD j 0)))) := by decide +kernel
set_option maxRecDepth 20000 in
theorem ini_s2 {args : Array Value} {s : State} {A : Nat → Prop} (hts : ∀ w ∈ lw_tbl, w.before args s = true) (hs : ∀ w ∈ flN, w.before args s = true) (hA : ∀ a : Nat, a < s.heap.size → ¬ A a) : ∃ a : Nat, lo_St a (lo_tx 2) A s s.heap ∧ vk_R (lo_own 2).1 (lo_own 2).2.1 (lo_own 2).2.2 a s :=
  lz_st (hts _ (by decide +kernel)) (hs _ (List.mem_of_getElem? (i := 176) (by decide +kernel))) (hs _ (List.mem_of_getElem? (i := 177) (by decide +kernel))) (hs _ (List.mem_of_getElem? (i := 178) (by decide +kernel))) (hs _ (List.mem_of_getElem? (i := 179) (by decide +kernel))) (by decide +kernel) (fun j hj => hs _ (List.mem_of_getElem? (fl_e2 j hj))) hA
set_option maxRecDepth 20000 in
theorem fl_e3 : ∀ j : Nat, j < (lo_tx 3).length → flN[190 + j]? = some (Cond.eq (.elem (.field (.string (lo_own 3).1 (lo_own 3).2.1) "java/lang/String" "value" "[B") (.int (Int32.ofNat j))) (.int (iI ((lo_tx 3).getD j 0)))) := by decide +kernel
set_option maxRecDepth 20000 in
theorem ini_s3 {args : Array Value} {s : State} {A : Nat → Prop} (hts : ∀ w ∈ lw_tbl, w.before args s = true) (hs : ∀ w ∈ flN, w.before args s = true) (hA : ∀ a : Nat, a < s.heap.size → ¬ A a) : ∃ a : Nat, lo_St a (lo_tx 3) A s s.heap ∧ vk_R (lo_own 3).1 (lo_own 3).2.1 (lo_own 3).2.2 a s :=
  lz_st (hts _ (by decide +kernel)) (hs _ (List.mem_of_getElem? (i := 186) (by decide +kernel))) (hs _ (List.mem_of_getElem? (i := 187) (by decide +kernel))) (hs _ (List.mem_of_getElem? (i := 188) (by decide +kernel))) (hs _ (List.mem_of_getElem? (i := 189) (by decide +kernel))) (by decide +kernel) (fun j hj => hs _ (List.mem_of_getElem? (fl_e3 j hj))) hA
set_option maxRecDepth 20000 in
theorem fl_e4 : ∀ j : Nat, j < (lo_tx 4).length → flN[201 + j]? = some (Cond.eq (.elem (.field (.string (lo_own 4).1 (lo_own 4).2.1) "java/lang/String" "value" "[B") (.int (Int32.ofNat j))) (.int (iI ((lo_tx 4).getD j 0)))) := by decide +kernel
set_option maxRecDepth 20000 in
theorem ini_s4 {args : Array Value} {s : State} {A : Nat → Prop} (hts : ∀ w ∈ lw_tbl, w.before args s = true) (hs : ∀ w ∈ flN, w.before args s = true) (hA : ∀ a : Nat, a < s.heap.size → ¬ A a) : ∃ a : Nat, lo_St a (lo_tx 4) A s s.heap ∧ vk_R (lo_own 4).1 (lo_own 4).2.1 (lo_own 4).2.2 a s :=
  lz_st (hts _ (by decide +kernel)) (hs _ (List.mem_of_getElem? (i := 197) (by decide +kernel))) (hs _ (List.mem_of_getElem? (i := 198) (by decide +kernel))) (hs _ (List.mem_of_getElem? (i := 199) (by decide +kernel))) (hs _ (List.mem_of_getElem? (i := 200) (by decide +kernel))) (by decide +kernel) (fun j hj => hs _ (List.mem_of_getElem? (fl_e4 j hj))) hA
set_option maxRecDepth 20000 in
theorem fl_e5 : ∀ j : Nat, j < (lo_tx 5).length → flN[215 + j]? = some (Cond.eq (.elem (.field (.string (lo_own 5).1 (lo_own 5).2.1) "java/lang/String" "value" "[B") (.int (Int32.ofNat j))) (.int (iI ((lo_tx 5).getD j 0)))) := by decide +kernel
set_option maxRecDepth 20000 in
theorem ini_s5 {args : Array Value} {s : State} {A : Nat → Prop} (hts : ∀ w ∈ lw_tbl, w.before args s = true) (hs : ∀ w ∈ flN, w.before args s = true) (hA : ∀ a : Nat, a < s.heap.size → ¬ A a) : ∃ a : Nat, lo_St a (lo_tx 5) A s s.heap ∧ vk_R (lo_own 5).1 (lo_own 5).2.1 (lo_own 5).2.2 a s :=
  lz_st (hts _ (by decide +kernel)) (hs _ (List.mem_of_getElem? (i := 211) (by decide +kernel))) (hs _ (List.mem_of_getElem? (i := 212) (by decide +kernel))) (hs _ (List.mem_of_getElem? (i := 213) (by decide +kernel))) (hs _ (List.mem_of_getElem? (i := 214) (by decide +kernel))) (by decide +kernel) (fun j hj => hs _ (List.mem_of_getElem? (fl_e5 j hj))) hA
set_option maxRecDepth 20000 in
theorem fl_e6 : ∀ j : Nat, j < (lo_tx 6).length → flN[229 + j]? = some (Cond.eq (.elem (.field (.string (lo_own 6).1 (lo_own 6).2.1) "java/lang/String" "value" "[B") (.int (Int32.ofNat j))) (.int (iI ((lo_tx 6).getD j 0)))) := by decide +kernel
set_option maxRecDepth 20000 in
theorem ini_s6 {args : Array Value} {s : State} {A : Nat → Prop} (hts : ∀ w ∈ lw_tbl, w.before args s = true) (hs : ∀ w ∈ flN, w.before args s = true) (hA : ∀ a : Nat, a < s.heap.size → ¬ A a) : ∃ a : Nat, lo_St a (lo_tx 6) A s s.heap ∧ vk_R (lo_own 6).1 (lo_own 6).2.1 (lo_own 6).2.2 a s :=
  lz_st (hts _ (by decide +kernel)) (hs _ (List.mem_of_getElem? (i := 225) (by decide +kernel))) (hs _ (List.mem_of_getElem? (i := 226) (by decide +kernel))) (hs _ (List.mem_of_getElem? (i := 227) (by decide +kernel))) (hs _ (List.mem_of_getElem? (i := 228) (by decide +kernel))) (by decide +kernel) (fun j hj => hs _ (List.mem_of_getElem? (fl_e6 j hj))) hA
set_option maxRecDepth 20000 in
theorem fl_e7 : ∀ j : Nat, j < (lo_tx 7).length → flN[244 + j]? = some (Cond.eq (.elem (.field (.string (lo_own 7).1 (lo_own 7).2.1) "java/lang/String" "value" "[B") (.int (Int32.ofNat j))) (.int (iI ((lo_tx 7).getD j 0)))) := by decide +kernel
set_option maxRecDepth 20000 in
theorem ini_s7 {args : Array Value} {s : State} {A : Nat → Prop} (hts : ∀ w ∈ lw_tbl, w.before args s = true) (hs : ∀ w ∈ flN, w.before args s = true) (hA : ∀ a : Nat, a < s.heap.size → ¬ A a) : ∃ a : Nat, lo_St a (lo_tx 7) A s s.heap ∧ vk_R (lo_own 7).1 (lo_own 7).2.1 (lo_own 7).2.2 a s :=
  lz_st (hts _ (by decide +kernel)) (hs _ (List.mem_of_getElem? (i := 240) (by decide +kernel))) (hs _ (List.mem_of_getElem? (i := 241) (by decide +kernel))) (hs _ (List.mem_of_getElem? (i := 242) (by decide +kernel))) (hs _ (List.mem_of_getElem? (i := 243) (by decide +kernel))) (by decide +kernel) (fun j hj => hs _ (List.mem_of_getElem? (fl_e7 j hj))) hA
set_option maxRecDepth 20000 in
theorem fl_e8 : ∀ j : Nat, j < (lo_tx 8).length → flN[262 + j]? = some (Cond.eq (.elem (.field (.string (lo_own 8).1 (lo_own 8).2.1) "java/lang/String" "value" "[B") (.int (Int32.ofNat j))) (.int (iI ((lo_tx 8).getD j 0)))) := by decide +kernel
set_option maxRecDepth 20000 in
theorem ini_s8 {args : Array Value} {s : State} {A : Nat → Prop} (hts : ∀ w ∈ lw_tbl, w.before args s = true) (hs : ∀ w ∈ flN, w.before args s = true) (hA : ∀ a : Nat, a < s.heap.size → ¬ A a) : ∃ a : Nat, lo_St a (lo_tx 8) A s s.heap ∧ vk_R (lo_own 8).1 (lo_own 8).2.1 (lo_own 8).2.2 a s :=
  lz_st (hts _ (by decide +kernel)) (hs _ (List.mem_of_getElem? (i := 258) (by decide +kernel))) (hs _ (List.mem_of_getElem? (i := 259) (by decide +kernel))) (hs _ (List.mem_of_getElem? (i := 260) (by decide +kernel))) (hs _ (List.mem_of_getElem? (i := 261) (by decide +kernel))) (by decide +kernel) (fun j hj => hs _ (List.mem_of_getElem? (fl_e8 j hj))) hA
set_option maxRecDepth 20000 in
theorem fl_e9 : ∀ j : Nat, j < (lo_tx 9).length → flN[281 + j]? = some (Cond.eq (.elem (.field (.string (lo_own 9).1 (lo_own 9).2.1) "java/lang/String" "value" "[B") (.int (Int32.ofNat j))) (.int (iI ((lo_tx 9).getD j 0)))) := by decide +kernel
set_option maxRecDepth 20000 in
theorem ini_s9 {args : Array Value} {s : State} {A : Nat → Prop} (hts : ∀ w ∈ lw_tbl, w.before args s = true) (hs : ∀ w ∈ flN, w.before args s = true) (hA : ∀ a : Nat, a < s.heap.size → ¬ A a) : ∃ a : Nat, lo_St a (lo_tx 9) A s s.heap ∧ vk_R (lo_own 9).1 (lo_own 9).2.1 (lo_own 9).2.2 a s :=
  lz_st (hts _ (by decide +kernel)) (hs _ (List.mem_of_getElem? (i := 277) (by decide +kernel))) (hs _ (List.mem_of_getElem? (i := 278) (by decide +kernel))) (hs _ (List.mem_of_getElem? (i := 279) (by decide +kernel))) (hs _ (List.mem_of_getElem? (i := 280) (by decide +kernel))) (by decide +kernel) (fun j hj => hs _ (List.mem_of_getElem? (fl_e9 j hj))) hA
set_option maxRecDepth 20000 in
theorem fl_e19 : ∀ j : Nat, j < (lo_tx 19).length → flN[299 + j]? = some (Cond.eq (.elem (.field (.string (lo_own 19).1 (lo_own 19).2.1) "java/lang/String" "value" "[B") (.int (Int32.ofNat j))) (.int (iI ((lo_tx 19).getD j 0)))) := by decide +kernel
set_option maxRecDepth 20000 in
theorem ini_s19 {args : Array Value} {s : State} {A : Nat → Prop} (hts : ∀ w ∈ lw_tbl, w.before args s = true) (hs : ∀ w ∈ flN, w.before args s = true) (hA : ∀ a : Nat, a < s.heap.size → ¬ A a) : ∃ a : Nat, lo_St a (lo_tx 19) A s s.heap ∧ vk_R (lo_own 19).1 (lo_own 19).2.1 (lo_own 19).2.2 a s :=
  lz_st (hts _ (by decide +kernel)) (hs _ (List.mem_of_getElem? (i := 295) (by decide +kernel))) (hs _ (List.mem_of_getElem? (i := 296) (by decide +kernel))) (hs _ (List.mem_of_getElem? (i := 297) (by decide +kernel))) (hs _ (List.mem_of_getElem? (i := 298) (by decide +kernel))) (by decide +kernel) (fun j hj => hs _ (List.mem_of_getElem? (fl_e19 j hj))) hA
set_option maxRecDepth 20000 in
theorem fl_e20 : ∀ j : Nat, j < (lo_tx 20).length → flN[69 + j]? = some (Cond.eq (.elem (.field (.string (lo_own 20).1 (lo_own 20).2.1) "java/lang/String" "value" "[B") (.int (Int32.ofNat j))) (.int (iI ((lo_tx 20).getD j 0)))) := by decide +kernel
set_option maxRecDepth 20000 in
theorem ini_s20 {args : Array Value} {s : State} {A : Nat → Prop} (hts : ∀ w ∈ lw_tbl, w.before args s = true) (hs : ∀ w ∈ flN, w.before args s = true) (hA : ∀ a : Nat, a < s.heap.size → ¬ A a) : ∃ a : Nat, lo_St a (lo_tx 20) A s s.heap ∧ vk_R (lo_own 20).1 (lo_own 20).2.1 (lo_own 20).2.2 a s :=
  lz_st (hts _ (by decide +kernel)) (hs _ (List.mem_of_getElem? (i := 65) (by decide +kernel))) (hs _ (List.mem_of_getElem? (i := 66) (by decide +kernel))) (hs _ (List.mem_of_getElem? (i := 67) (by decide +kernel))) (hs _ (List.mem_of_getElem? (i := 68) (by decide +kernel))) (by decide +kernel) (fun j hj => hs _ (List.mem_of_getElem? (fl_e20 j hj))) hA
