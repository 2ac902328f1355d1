/-! the reference's fields behind a public call: all but thrown, the walk, and the budget's cost stay -/
def sameP (M N : Nat → Int) : Prop := ∀ k, k ≠ 0 → (k < 12 ∨ 17 < k) → k ≠ 28 → N k = M k
theorem sameP.rf {M : Nat → Int} : sameP M M := fun _ _ _ _ => rfl
theorem sameP.tr {M N K : Nat → Int} (h : sameP M N) (h2 : sameP N K) : sameP M K := fun k h0 hk h8 => (h2 k h0 hk h8).trans (h k h0 hk h8)
theorem sameP_t {M : Nat → Int} {t : Int} : sameP M (uI M 0 t) := fun k h0 _ _ => uI_n h0
theorem sameP_b {M : Nat → Int} {t : Int} : sameP M (uI M 28 t) := fun k _ _ h8 => uI_n h8
theorem sameP_s {M N : Nat → Int} (h : sameW M N) : sameP M N := fun k _ hk _ => h k hk
theorem sameP_w {M N : Nat → Int} {t : Int} (h : sameW (uI M 0 t) N) : sameP M N := sameP_t.tr (sameP_s h)
theorem sameW_0 {M N : Nat → Int} (h : sameW M N) : N 0 = M 0 := h 0 (Or.inl (by omega))
theorem nmM_same (M w : Nat → Int) (i : Int) : sameW M (nmM M w i) := (bgM_same _ _ _).tr (stM_same _ _ _ _)
theorem ahM_same (M w : Nat → Int) (i : Int) : sameW M (ahM M w i) := (bgM_same _ _ _).tr (waM_same _ _ _ _)
theorem fI_c {w : Nat → Int} {i : Int} (h : LI (WL w i)) (ho : wOf w i 1 ≤ 0) : fI (wOf w i 1) (wOf w i 2) (wOf w i 5) = 0 := by
  have h1 : 0 ≤ wOf w i 1 := h.1.1
  have z := h.2.2.2.2.2.2.2 (show wOf w i 1 = 0 by omega)
  have z5 : wOf w i 5 = 0 := z.2.2
  unfold fI
  rw [show wOf w i 1 = 0 by omega, z5, Int.zero_mul]
  rfl
