set_option maxRecDepth 20000 in
theorem fl_e10 : ∀ j : Nat, j < (lo_tx 10).length → flN[321 + j]? = some (Cond.eq (.elem (.field (.string (lo_own 10).1 (lo_own 10).2.1) "java/lang/String" "value" "[B") (.int (Int32.ofNat j))) (.int (iI ((lo_tx 10).getD j 0)))) := by decide +kernel
set_option maxRecDepth 20000 in
theorem ini_s10 {args : Array Value} {s : State} {A : Nat → Prop} (hts : ∀ w ∈ lw_tbl, w.before args s = true) (hs : ∀ w ∈ flN, w.before args s = true) (hA : ∀ a : Nat, a < s.heap.size → ¬ A a) : ∃ a : Nat, lo_St a (lo_tx 10) A s s.heap ∧ vk_R (lo_own 10).1 (lo_own 10).2.1 (lo_own 10).2.2 a s :=
  lz_st (hts _ (by decide +kernel)) (hs _ (List.mem_of_getElem? (i := 317) (by decide +kernel))) (hs _ (List.mem_of_getElem? (i := 318) (by decide +kernel))) (hs _ (List.mem_of_getElem? (i := 319) (by decide +kernel))) (hs _ (List.mem_of_getElem? (i := 320) (by decide +kernel))) (by decide +kernel) (fun j hj => hs _ (List.mem_of_getElem? (fl_e10 j hj))) hA
set_option maxRecDepth 20000 in
theorem fl_e11 : ∀ j : Nat, j < (lo_tx 11).length → flN[363 + j]? = some (Cond.eq (.elem (.field (.string (lo_own 11).1 (lo_own 11).2.1) "java/lang/String" "value" "[B") (.int (Int32.ofNat j))) (.int (iI ((lo_tx 11).getD j 0)))) := by decide +kernel
set_option maxRecDepth 20000 in
theorem ini_s11 {args : Array Value} {s : State} {A : Nat → Prop} (hts : ∀ w ∈ lw_tbl, w.before args s = true) (hs : ∀ w ∈ flN, w.before args s = true) (hA : ∀ a : Nat, a < s.heap.size → ¬ A a) : ∃ a : Nat, lo_St a (lo_tx 11) A s s.heap ∧ vk_R (lo_own 11).1 (lo_own 11).2.1 (lo_own 11).2.2 a s :=
  lz_st (hts _ (by decide +kernel)) (hs _ (List.mem_of_getElem? (i := 359) (by decide +kernel))) (hs _ (List.mem_of_getElem? (i := 360) (by decide +kernel))) (hs _ (List.mem_of_getElem? (i := 361) (by decide +kernel))) (hs _ (List.mem_of_getElem? (i := 362) (by decide +kernel))) (by decide +kernel) (fun j hj => hs _ (List.mem_of_getElem? (fl_e11 j hj))) hA
set_option maxRecDepth 20000 in
theorem fl_e12 : ∀ j : Nat, j < (lo_tx 12).length → flN[384 + j]? = some (Cond.eq (.elem (.field (.string (lo_own 12).1 (lo_own 12).2.1) "java/lang/String" "value" "[B") (.int (Int32.ofNat j))) (.int (iI ((lo_tx 12).getD j 0)))) := by decide +kernel
set_option maxRecDepth 20000 in
theorem ini_s12 {args : Array Value} {s : State} {A : Nat → Prop} (hts : ∀ w ∈ lw_tbl, w.before args s = true) (hs : ∀ w ∈ flN, w.before args s = true) (hA : ∀ a : Nat, a < s.heap.size → ¬ A a) : ∃ a : Nat, lo_St a (lo_tx 12) A s s.heap ∧ vk_R (lo_own 12).1 (lo_own 12).2.1 (lo_own 12).2.2 a s :=
  lz_st (hts _ (by decide +kernel)) (hs _ (List.mem_of_getElem? (i := 380) (by decide +kernel))) (hs _ (List.mem_of_getElem? (i := 381) (by decide +kernel))) (hs _ (List.mem_of_getElem? (i := 382) (by decide +kernel))) (hs _ (List.mem_of_getElem? (i := 383) (by decide +kernel))) (by decide +kernel) (fun j hj => hs _ (List.mem_of_getElem? (fl_e12 j hj))) hA
set_option maxRecDepth 20000 in
theorem fl_e13 : ∀ j : Nat, j < (lo_tx 13).length → flN[405 + j]? = some (Cond.eq (.elem (.field (.string (lo_own 13).1 (lo_own 13).2.1) "java/lang/String" "value" "[B") (.int (Int32.ofNat j))) (.int (iI ((lo_tx 13).getD j 0)))) := by decide +kernel
set_option maxRecDepth 20000 in
theorem ini_s13 {args : Array Value} {s : State} {A : Nat → Prop} (hts : ∀ w ∈ lw_tbl, w.before args s = true) (hs : ∀ w ∈ flN, w.before args s = true) (hA : ∀ a : Nat, a < s.heap.size → ¬ A a) : ∃ a : Nat, lo_St a (lo_tx 13) A s s.heap ∧ vk_R (lo_own 13).1 (lo_own 13).2.1 (lo_own 13).2.2 a s :=
  lz_st (hts _ (by decide +kernel)) (hs _ (List.mem_of_getElem? (i := 401) (by decide +kernel))) (hs _ (List.mem_of_getElem? (i := 402) (by decide +kernel))) (hs _ (List.mem_of_getElem? (i := 403) (by decide +kernel))) (hs _ (List.mem_of_getElem? (i := 404) (by decide +kernel))) (by decide +kernel) (fun j hj => hs _ (List.mem_of_getElem? (fl_e13 j hj))) hA
set_option maxRecDepth 20000 in
theorem fl_e14 : ∀ j : Nat, j < (lo_tx 14).length → flN[427 + j]? = some (Cond.eq (.elem (.field (.string (lo_own 14).1 (lo_own 14).2.1) "java/lang/String" "value" "[B") (.int (Int32.ofNat j))) (.int (iI ((lo_tx 14).getD j 0)))) := by decide +kernel
set_option maxRecDepth 20000 in
theorem ini_s14 {args : Array Value} {s : State} {A : Nat → Prop} (hts : ∀ w ∈ lw_tbl, w.before args s = true) (hs : ∀ w ∈ flN, w.before args s = true) (hA : ∀ a : Nat, a < s.heap.size → ¬ A a) : ∃ a : Nat, lo_St a (lo_tx 14) A s s.heap ∧ vk_R (lo_own 14).1 (lo_own 14).2.1 (lo_own 14).2.2 a s :=
  lz_st (hts _ (by decide +kernel)) (hs _ (List.mem_of_getElem? (i := 423) (by decide +kernel))) (hs _ (List.mem_of_getElem? (i := 424) (by decide +kernel))) (hs _ (List.mem_of_getElem? (i := 425) (by decide +kernel))) (hs _ (List.mem_of_getElem? (i := 426) (by decide +kernel))) (by decide +kernel) (fun j hj => hs _ (List.mem_of_getElem? (fl_e14 j hj))) hA
set_option maxRecDepth 20000 in
theorem fl_e15 : ∀ j : Nat, j < (lo_tx 15).length → flN[452 + j]? = some (Cond.eq (.elem (.field (.string (lo_own 15).1 (lo_own 15).2.1) "java/lang/String" "value" "[B") (.int (Int32.ofNat j))) (.int (iI ((lo_tx 15).getD j 0)))) := by decide +kernel
set_option maxRecDepth 20000 in
theorem ini_s15 {args : Array Value} {s : State} {A : Nat → Prop} (hts : ∀ w ∈ lw_tbl, w.before args s = true) (hs : ∀ w ∈ flN, w.before args s = true) (hA : ∀ a : Nat, a < s.heap.size → ¬ A a) : ∃ a : Nat, lo_St a (lo_tx 15) A s s.heap ∧ vk_R (lo_own 15).1 (lo_own 15).2.1 (lo_own 15).2.2 a s :=
  lz_st (hts _ (by decide +kernel)) (hs _ (List.mem_of_getElem? (i := 448) (by decide +kernel))) (hs _ (List.mem_of_getElem? (i := 449) (by decide +kernel))) (hs _ (List.mem_of_getElem? (i := 450) (by decide +kernel))) (hs _ (List.mem_of_getElem? (i := 451) (by decide +kernel))) (by decide +kernel) (fun j hj => hs _ (List.mem_of_getElem? (fl_e15 j hj))) hA
set_option maxRecDepth 20000 in
theorem fl_e16 : ∀ j : Nat, j < (lo_tx 16).length → flN[477 + j]? = some (Cond.eq (.elem (.field (.string (lo_own 16).1 (lo_own 16).2.1) "java/lang/String" "value" "[B") (.int (Int32.ofNat j))) (.int (iI ((lo_tx 16).getD j 0)))) := by decide +kernel
set_option maxRecDepth 20000 in
theorem ini_s16 {args : Array Value} {s : State} {A : Nat → Prop} (hts : ∀ w ∈ lw_tbl, w.before args s = true) (hs : ∀ w ∈ flN, w.before args s = true) (hA : ∀ a : Nat, a < s.heap.size → ¬ A a) : ∃ a : Nat, lo_St a (lo_tx 16) A s s.heap ∧ vk_R (lo_own 16).1 (lo_own 16).2.1 (lo_own 16).2.2 a s :=
  lz_st (hts _ (by decide +kernel)) (hs _ (List.mem_of_getElem? (i := 473) (by decide +kernel))) (hs _ (List.mem_of_getElem? (i := 474) (by decide +kernel))) (hs _ (List.mem_of_getElem? (i := 475) (by decide +kernel))) (hs _ (List.mem_of_getElem? (i := 476) (by decide +kernel))) (by decide +kernel) (fun j hj => hs _ (List.mem_of_getElem? (fl_e16 j hj))) hA
set_option maxRecDepth 20000 in
theorem fl_e17 : ∀ j : Nat, j < (lo_tx 17).length → flN[503 + j]? = some (Cond.eq (.elem (.field (.string (lo_own 17).1 (lo_own 17).2.1) "java/lang/String" "value" "[B") (.int (Int32.ofNat j))) (.int (iI ((lo_tx 17).getD j 0)))) := by decide +kernel
set_option maxRecDepth 20000 in
theorem ini_s17 {args : Array Value} {s : State} {A : Nat → Prop} (hts : ∀ w ∈ lw_tbl, w.before args s = true) (hs : ∀ w ∈ flN, w.before args s = true) (hA : ∀ a : Nat, a < s.heap.size → ¬ A a) : ∃ a : Nat, lo_St a (lo_tx 17) A s s.heap ∧ vk_R (lo_own 17).1 (lo_own 17).2.1 (lo_own 17).2.2 a s :=
  lz_st (hts _ (by decide +kernel)) (hs _ (List.mem_of_getElem? (i := 499) (by decide +kernel))) (hs _ (List.mem_of_getElem? (i := 500) (by decide +kernel))) (hs _ (List.mem_of_getElem? (i := 501) (by decide +kernel))) (hs _ (List.mem_of_getElem? (i := 502) (by decide +kernel))) (by decide +kernel) (fun j hj => hs _ (List.mem_of_getElem? (fl_e17 j hj))) hA
set_option maxRecDepth 20000 in
theorem fl_e18 : ∀ j : Nat, j < (lo_tx 18).length → flN[341 + j]? = some (Cond.eq (.elem (.field (.string (lo_own 18).1 (lo_own 18).2.1) "java/lang/String" "value" "[B") (.int (Int32.ofNat j))) (.int (iI ((lo_tx 18).getD j 0)))) := by decide +kernel
set_option maxRecDepth 20000 in
theorem ini_s18 {args : Array Value} {s : State} {A : Nat → Prop} (hts : ∀ w ∈ lw_tbl, w.before args s = true) (hs : ∀ w ∈ flN, w.before args s = true) (hA : ∀ a : Nat, a < s.heap.size → ¬ A a) : ∃ a : Nat, lo_St a (lo_tx 18) A s s.heap ∧ vk_R (lo_own 18).1 (lo_own 18).2.1 (lo_own 18).2.2 a s :=
  lz_st (hts _ (by decide +kernel)) (hs _ (List.mem_of_getElem? (i := 337) (by decide +kernel))) (hs _ (List.mem_of_getElem? (i := 338) (by decide +kernel))) (hs _ (List.mem_of_getElem? (i := 339) (by decide +kernel))) (hs _ (List.mem_of_getElem? (i := 340) (by decide +kernel))) (by decide +kernel) (fun j hj => hs _ (List.mem_of_getElem? (fl_e18 j hj))) hA
set_option maxRecDepth 20000 in
theorem fl_e19 : ∀ j : Nat, j < (lo_tx 19).length → flN[532 + j]? = some (Cond.eq (.elem (.field (.string (lo_own 19).1 (lo_own 19).2.1) "java/lang/String" "value" "[B") (.int (Int32.ofNat j))) (.int (iI ((lo_tx 19).getD j 0)))) := by decide +kernel
set_option maxRecDepth 20000 in
theorem ini_s19 {args : Array Value} {s : State} {A : Nat → Prop} (hts : ∀ w ∈ lw_tbl, w.before args s = true) (hs : ∀ w ∈ flN, w.before args s = true) (hA : ∀ a : Nat, a < s.heap.size → ¬ A a) : ∃ a : Nat, lo_St a (lo_tx 19) A s s.heap ∧ vk_R (lo_own 19).1 (lo_own 19).2.1 (lo_own 19).2.2 a s :=
  lz_st (hts _ (by decide +kernel)) (hs _ (List.mem_of_getElem? (i := 528) (by decide +kernel))) (hs _ (List.mem_of_getElem? (i := 529) (by decide +kernel))) (hs _ (List.mem_of_getElem? (i := 530) (by decide +kernel))) (hs _ (List.mem_of_getElem? (i := 531) (by decide +kernel))) (by decide +kernel) (fun j hj => hs _ (List.mem_of_getElem? (fl_e19 j hj))) hA
set_option maxRecDepth 20000 in
theorem fl_e20 : ∀ j : Nat, j < (lo_tx 20).length → flN[91 + j]? = some (Cond.eq (.elem (.field (.string (lo_own 20).1 (lo_own 20).2.1) "java/lang/String" "value" "[B") (.int (Int32.ofNat j))) (.int (iI ((lo_tx 20).getD j 0)))) := by decide +kernel
set_option maxRecDepth 20000 in
theorem ini_s20 {args : Array Value} {s : State} {A : Nat → Prop} (hts : ∀ w ∈ lw_tbl, w.before args s = true) (hs : ∀ w ∈ flN, w.before args s = true) (hA : ∀ a : Nat, a < s.heap.size → ¬ A a) : ∃ a : Nat, lo_St a (lo_tx 20) A s s.heap ∧ vk_R (lo_own 20).1 (lo_own 20).2.1 (lo_own 20).2.2 a s :=
  lz_st (hts _ (by decide +kernel)) (hs _ (List.mem_of_getElem? (i := 87) (by decide +kernel))) (hs _ (List.mem_of_getElem? (i := 88) (by decide +kernel))) (hs _ (List.mem_of_getElem? (i := 89) (by decide +kernel))) (hs _ (List.mem_of_getElem? (i := 90) (by decide +kernel))) (by decide +kernel) (fun j hj => hs _ (List.mem_of_getElem? (fl_e20 j hj))) hA
