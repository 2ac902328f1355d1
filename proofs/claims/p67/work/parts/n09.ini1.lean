/-! classes, arrays, statics at the law's entry -/
theorem lz_arr {args : Array Value} {s : State} {ty : FieldType} (h : (Cond.arrayClass ty).before args s = true) : ∃ cA : ClassId, ArrOfT s cA ty ∧ s.vm.findClass ("[" ++ ty.toString) = some cA := by
  obtain ⟨c, k, comp, h1, h2, h3⟩ := Cond.arrayClass_spec h
  exact ⟨c, fun n z => ⟨fun k h => (by cases h), k, h2, comp, h3⟩, h1⟩
theorem lz_arrO {args : Array Value} {s : State} {C : String} (h : (Cond.arrayOver (.object C)).before args s = true) : ∃ cA : ClassId, ArrOfT s cA (.object C) ∧ va_RA s cA (.object C) := by
  obtain ⟨comp, c, k, h1, h2, h3, h4, h5⟩ := Cond.arrayOver_spec h
  exact ⟨c, fun n z => ⟨fun k h => (by cases h), k, h3, comp, h4⟩, k, comp, h3, h4, h1, h5⟩
theorem ini_K {args : Array Value} {s : State} (hts : ∀ w ∈ lw_tbl, w.before args s = true) (hs : ∀ w ∈ flN, w.before args s = true) : ∃ X : KX, lo_K X s := by
  obtain ⟨c0, i0, k0⟩ := u_known (C := RX0) (T := TX0) (N := 5) (n := 5) hts inX0 (hts (.instantiable RX0 5) (by decide +kernel))
  obtain ⟨c1, i1, k1⟩ := u_known (C := RX1) (T := TX1) (N := 3) (n := 3) hts inX1 (hts (.instantiable RX1 3) (by decide +kernel))
  obtain ⟨c2, i2, k2⟩ := u_known (C := RX2) (T := TX2) (N := 10) (n := 10) hts inX2 (hts (.instantiable RX2 10) (by decide +kernel))
  obtain ⟨c3, i3, k3⟩ := u_known (C := RX3) (T := TX3) (N := 3) (n := 3) hts inX3 (hts (.instantiable RX3 3) (by decide +kernel))
  obtain ⟨c4, i4, k4⟩ := u_known (C := RX4) (T := TX4) (N := 2) (n := 2) hts inX4 (hts (.instantiable RX4 2) (by decide +kernel))
  obtain ⟨c5, i5, k5⟩ := u_known (C := RX5) (T := TX5) (N := 14) (n := 14) hts inX5 (hts (.instantiable RX5 14) (by decide +kernel))
  obtain ⟨c6, i6, k6⟩ := u_known (C := RX6) (T := TX6) (N := 6) (n := 6) hts inX6 (hts (.instantiable RX6 6) (by decide +kernel))
  obtain ⟨c7, i7, k7⟩ := u_known (C := RX7) (T := TX7) (N := 11) (n := 11) hts inX7 (hts (.instantiable RX7 11) (by decide +kernel))
  obtain ⟨cB, hB, nB⟩ := lz_arr (hts (.arrayClass .byte) (by decide +kernel))
  obtain ⟨cI, hI, nI⟩ := lz_arr (hts (.arrayClass .int) (by decide +kernel))
  obtain ⟨cN, hN⟩ := lz_arrO (hts (.arrayOver (.object RX2)) (by decide +kernel))
  obtain ⟨cP, hP⟩ := lz_arrO (hts (.arrayOver (.object RX3)) (by decide +kernel))
  let dC : Nat → ClassId := fun k => match k with | 0 => c0 | 1 => c1 | 2 => c2 | 3 => c3 | 4 => c4 | 5 => c5 | 6 => c6 | _ => c7
  let dI : Nat → Nat → Nat := fun k => match k with | 0 => i0 | 1 => i1 | 2 => i2 | 3 => i3 | 4 => i4 | 5 => i5 | 6 => i6 | _ => i7
  have hcl : ∀ (c : Nat) (q : vw_C), vwCl[c]? = some q → u_Kn s q.1 q.2.1 q.2.2 (dC c) (dI c) := fun c q hq => match c, hq with
    | 0, hq => by cases hq; exact k0
    | 1, hq => by cases hq; exact k1
    | 2, hq => by cases hq; exact k2
    | 3, hq => by cases hq; exact k3
    | 4, hq => by cases hq; exact k4
    | 5, hq => by cases hq; exact k5
    | 6, hq => by cases hq; exact k6
    | 7, hq => by cases hq; exact k7
    | c + 8, hq => by simp [vwCl] at hq
  refine ⟨((dC, dI), cB, cI, cN, cP, cB), hcl, fun k q hq => ?_⟩
  have hq : [(cB, FieldType.byte), (cI, FieldType.int), (cN, FieldType.object RX2), (cP, FieldType.object RX3)][k]? = some q := hq
  match k, hq with
  | 0, hq => cases hq; exact ⟨hB, nB⟩
  | 1, hq => cases hq; exact ⟨hI, nI⟩
  | 2, hq => cases hq; exact hN
  | 3, hq => cases hq; exact hP
  | k + 4, hq => simp at hq
theorem ini_bad : ∀ w ∈ lo_bad, w ∈ lw_tbl := by decide +kernel
theorem ini_nest : ∀ w ∈ lo_nest, w ∈ lw_tbl := by decide +kernel
theorem ini_Ev {args : Array Value} {s : State} {b L : Nat} {xs : Nat → Int32} (hL : L ≤ 260) (hX : va_X b L xs s s.heap) (hbl : b < s.heap.size) (hts : ∀ w ∈ lw_tbl, w.before args s = true) (hs : ∀ w ∈ flN, w.before args s = true) : ∃ kS : Nat → Nat, kS 21 = b ∧ lo_EvI kS (fun q => s.heap.size ≤ q) s s.heap := by
  have hA : ∀ a : Nat, a < s.heap.size → ¬ (fun q : Nat => s.heap.size ≤ q) a := fun a h => Nat.not_le.mpr h
  have h0 : ∀ i : Nat, ∃ a : Nat, (i < 21 → lo_St a (lo_tx i) (fun q => s.heap.size ≤ q) s s.heap ∧ vk_R (lo_own i).1 (lo_own i).2.1 (lo_own i).2.2 a s) ∧ (i = 21 → a = b) := by
    intro i
    match i with
    | 0 => obtain ⟨a, h⟩ := ini_s0 (A := fun q => s.heap.size ≤ q) hts hs hA; exact ⟨a, fun _ => h, fun q => absurd q (by omega)⟩
    | 1 => obtain ⟨a, h⟩ := ini_s1 (A := fun q => s.heap.size ≤ q) hts hs hA; exact ⟨a, fun _ => h, fun q => absurd q (by omega)⟩
    | 2 => obtain ⟨a, h⟩ := ini_s2 (A := fun q => s.heap.size ≤ q) hts hs hA; exact ⟨a, fun _ => h, fun q => absurd q (by omega)⟩
    | 3 => obtain ⟨a, h⟩ := ini_s3 (A := fun q => s.heap.size ≤ q) hts hs hA; exact ⟨a, fun _ => h, fun q => absurd q (by omega)⟩
    | 4 => obtain ⟨a, h⟩ := ini_s4 (A := fun q => s.heap.size ≤ q) hts hs hA; exact ⟨a, fun _ => h, fun q => absurd q (by omega)⟩
    | 5 => obtain ⟨a, h⟩ := ini_s5 (A := fun q => s.heap.size ≤ q) hts hs hA; exact ⟨a, fun _ => h, fun q => absurd q (by omega)⟩
    | 6 => obtain ⟨a, h⟩ := ini_s6 (A := fun q => s.heap.size ≤ q) hts hs hA; exact ⟨a, fun _ => h, fun q => absurd q (by omega)⟩
    | 7 => obtain ⟨a, h⟩ := ini_s7 (A := fun q => s.heap.size ≤ q) hts hs hA; exact ⟨a, fun _ => h, fun q => absurd q (by omega)⟩
    | 8 => obtain ⟨a, h⟩ := ini_s8 (A := fun q => s.heap.size ≤ q) hts hs hA; exact ⟨a, fun _ => h, fun q => absurd q (by omega)⟩
    | 9 => obtain ⟨a, h⟩ := ini_s9 (A := fun q => s.heap.size ≤ q) hts hs hA; exact ⟨a, fun _ => h, fun q => absurd q (by omega)⟩
    | 10 => obtain ⟨a, h⟩ := ini_s0 (A := fun q => s.heap.size ≤ q) hts hs hA; exact ⟨a, fun _ => h, fun q => absurd q (by omega)⟩
    | 11 => obtain ⟨a, h⟩ := ini_s0 (A := fun q => s.heap.size ≤ q) hts hs hA; exact ⟨a, fun _ => h, fun q => absurd q (by omega)⟩
    | 12 => obtain ⟨a, h⟩ := ini_s0 (A := fun q => s.heap.size ≤ q) hts hs hA; exact ⟨a, fun _ => h, fun q => absurd q (by omega)⟩
    | 13 => obtain ⟨a, h⟩ := ini_s0 (A := fun q => s.heap.size ≤ q) hts hs hA; exact ⟨a, fun _ => h, fun q => absurd q (by omega)⟩
    | 14 => obtain ⟨a, h⟩ := ini_s0 (A := fun q => s.heap.size ≤ q) hts hs hA; exact ⟨a, fun _ => h, fun q => absurd q (by omega)⟩
    | 15 => obtain ⟨a, h⟩ := ini_s0 (A := fun q => s.heap.size ≤ q) hts hs hA; exact ⟨a, fun _ => h, fun q => absurd q (by omega)⟩
    | 16 => obtain ⟨a, h⟩ := ini_s0 (A := fun q => s.heap.size ≤ q) hts hs hA; exact ⟨a, fun _ => h, fun q => absurd q (by omega)⟩
    | 17 => obtain ⟨a, h⟩ := ini_s0 (A := fun q => s.heap.size ≤ q) hts hs hA; exact ⟨a, fun _ => h, fun q => absurd q (by omega)⟩
    | 18 => obtain ⟨a, h⟩ := ini_s0 (A := fun q => s.heap.size ≤ q) hts hs hA; exact ⟨a, fun _ => h, fun q => absurd q (by omega)⟩
    | 19 => obtain ⟨a, h⟩ := ini_s19 (A := fun q => s.heap.size ≤ q) hts hs hA; exact ⟨a, fun _ => h, fun q => absurd q (by omega)⟩
    | 20 => obtain ⟨a, h⟩ := ini_s20 (A := fun q => s.heap.size ≤ q) hts hs hA; exact ⟨a, fun _ => h, fun q => absurd q (by omega)⟩
    | 21 => exact ⟨b, fun h => absurd h (by omega), fun _ => rfl⟩
    | i + 22 => exact ⟨0, fun h => absurd h (by omega), fun h => absurd h (by omega)⟩
  obtain ⟨kS, hk⟩ := Classical.axiomOfChoice h0
  have hb : kS 21 = b := (hk 21).2 rfl
  obtain ⟨scr, x1, x2, x3, x4, x5⟩ := hX
  have hS : lo_Sc (kS 21) (fun q => s.heap.size ≤ q) s s.heap := by
    rw [hb]
    exact ⟨L, xs, hL, scr, x1, x2, x3, by omega, by rw [x4], x5, Nat.not_le.mpr hbl⟩
  have a1 : lo_Fx (kS 21) (fun q => s.heap.size ≤ q) s s.heap := ⟨hS, va_Nc.of (hs _ (by decide +kernel)), va_Nc.of (hs _ (by decide +kernel)), va_Nc.of (hs _ (by decide +kernel))⟩
  refine ⟨kS, hb, ⟨a1, vx_Zqof (hts _ (by decide +kernel)) (hts _ (by decide +kernel)) (hs _ (by decide +kernel)) hA, vx_Zqof (hts _ (by decide +kernel)) (hts _ (by decide +kernel)) (hs _ (by decide +kernel)) hA, va_Zof (hts _ (by decide +kernel)) (hts _ (by decide +kernel)) (va_eqi (hs _ (by decide +kernel))) hA, va_Zqof (hts _ (by decide +kernel)) (hts _ (by decide +kernel)) (hs _ (by decide +kernel)) hA, fun i hi => ((hk i).1 hi).1, fun i hi => ((hk i).1 hi).2, fun w hw => va_Nw.of (lo_bad_tab w hw) (hts w (ini_bad w hw))⟩, va_AO.of (hts (.arrayOver (.object RX2)) (by decide +kernel)), va_AO.of (hts (.arrayOver (.object RX3)) (by decide +kernel)), fun w hw => ?_⟩
  have q := hts w (ini_nest w hw)
  simp only [lo_nest, List.mem_cons, List.not_mem_nil, or_false] at hw
  rcases hw with rfl | rfl | rfl | rfl <;> exact va_Nw.of rfl q
