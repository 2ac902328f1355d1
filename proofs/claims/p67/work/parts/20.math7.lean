/-! the reference's row over several loans -/
theorem WR_LI {v u : Nat → Int} {i : Int} {f : Nat → Int} (h : WR v u i f) (hf : LI f) : LI (WL u i) := LI_ext hf (fun k hk => (h.1 k hk).symm)
theorem WR_o {v u : Nat → Int} {i j : Int} {f : Nat → Int} (h : WR v u i f) (hj : 0 ≤ j) (hne : j ≠ i) (hv : LI (WL v j)) : LI (WL u j) := LI_ext hv (fun k hk => (h.2.1 j hj hne k hk).symm)
theorem WL_b (w : Nat → Int) (lo am it : Int) {j : Int} (hj : 0 ≤ j) : ∀ k : Nat, k < 10 → WL (wBook w lo am it) j k = WL w j k := fun k _ => wOf_b hj (by omega)
theorem WI_b {w u : Nat → Int} {i lo am it : Int} {f : Nat → Int} (h : WI w) (hr : WR (wBook w lo am it) u i f) (hf : LI f) : WI u ∧ u 0 = w 0 ∧ u 1 = min (w 1 + 1) 20 := by
  have e0 : u 0 = w 0 := (hr.2.2 0 (by omega)).trans (wBook_0 w lo am it)
  have e1 : u 1 = min (w 1 + 1) 20 := (hr.2.2 1 (by omega)).trans (wBook_1 w lo am it)
  obtain ⟨h0, h1, hL⟩ := h
  refine ⟨⟨by omega, by omega, fun j hj hj2 => ?_⟩, e0, e1⟩
  by_cases e : j = i
  · rw [e]; exact WR_LI hr hf
  · exact WR_o hr hj e (LI_ext (hL j hj (by omega)) (fun k hk => (WL_b w lo am it hj k hk).symm))
theorem WI_n {w u : Nat → Int} {i : Int} {f : Nat → Int} (h : WI w) (hr : WR w u i f) (hf : LI f) : WI u ∧ u 0 = w 0 ∧ u 1 = w 1 := by
  have e0 : u 0 = w 0 := hr.2.2 0 (by omega)
  have e1 : u 1 = w 1 := hr.2.2 1 (by omega)
  obtain ⟨h0, h1, hL⟩ := h
  refine ⟨⟨by omega, by omega, fun j hj hj2 => ?_⟩, e0, e1⟩
  by_cases e : j = i
  · rw [e]; exact WR_LI hr hf
  · exact WR_o hr hj e (hL j hj (by omega))
theorem wPay_WI {w : Nat → Int} {i : Int} (h : WI w) (hi : 0 ≤ i) (hi2 : i < w 0) (ho : 0 < wOf w i 1) : WI (wPay w i) ∧ wPay w i 0 = w 0 := by
  have hL := h.2.2 i hi hi2
  have := WI_b h (wPay_R hi hL ho) (payL_LI hL ho)
  exact ⟨this.1, this.2.1⟩
theorem wRed_WI {w : Nat → Int} {i a kp : Int} (h : WI w) (hi : 0 ≤ i) (hi2 : i < w 0) (ho : 0 < wOf w i 1) (ha : 1 ≤ a) (ha1 : a ≤ wOf w i 1) : WI (wRed w i a kp) ∧ wRed w i a kp 0 = w 0 := by
  have hL := h.2.2 i hi hi2
  have := WI_b h (wRed_R (kp := kp) hi hL ho ha ha1) (redL_LI hL ho ha ha1)
  exact ⟨this.1, this.2.1⟩
def wAll (w : Nat → Int) : Nat → (Nat → Int)
  | 0 => w
  | k + 1 => if 0 < wOf (wAll w k) k 1 then wPay (wAll w k) k else wAll w k
def wSum (w : Nat → Int) : Nat → Int
  | 0 => 0
  | k + 1 => if 0 < wOf (wAll w k) k 1 then wSum w k + dueL (WL (wAll w k) k) else wSum w k
