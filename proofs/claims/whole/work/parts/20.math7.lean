/-! the reference's row over several loans -/
theorem WR_LI {v u : Nat → Int} {i : Int} {f : Nat → Int} (h : WR v u i f) (hf : LI f) : LI (WL u i) := LI_ext hf (fun k hk => (h.1 k hk).symm)
theorem WR_o {v u : Nat → Int} {i j : Int} {f : Nat → Int} (h : WR v u i f) (hj : 0 ≤ j) (hne : j ≠ i) (hv : LI (WL v j)) : LI (WL u j) := LI_ext hv (fun k hk => (h.2.1 j hj hne k hk).symm)
theorem WL_b (w : Nat → Int) (lo am it : Int) {j : Int} (hj : 0 ≤ j) : ∀ k : Nat, k < 10 → WL (wBook w lo am it) j k = WL w j k := fun k _ => wOf_b hj (by omega)
theorem WI_b {w u : Nat → Int} {i lo am it : Int} {f : Nat → Int} (h : WI w) (hr : WR (wBook w lo am it) u i f) (hf : LI f) : WI u ∧ u 0 = w 0 ∧ u 1 = min (w 1 + 1) 20 := by
  have e0 : u 0 = w 0 := (hr.2.2 0 (by omega)).trans (wBook_0 w lo am it)
  have e1 : u 1 = min (w 1 + 1) 20 := (hr.2.2 1 (by omega)).trans (wBook_1 w lo am it)
  obtain ⟨h0, h1, hL⟩ := h
  refine ⟨⟨by omega, by omega, fun j hj hj2 => ?_⟩, e0, e1⟩
  by_cases e : j = i
  · rw [e]; exact WR_LI hr hf
  · exact WR_o hr hj e (LI_ext (hL j hj (by omega)) (fun k hk => (WL_b w lo am it hj k hk).symm))
theorem WI_n {w u : Nat → Int} {i : Int} {f : Nat → Int} (h : WI w) (hr : WR w u i f) (hf : LI f) : WI u ∧ u 0 = w 0 ∧ u 1 = w 1 := by
  have e0 : u 0 = w 0 := hr.2.2 0 (by omega)
  have e1 : u 1 = w 1 := hr.2.2 1 (by omega)
  obtain ⟨h0, h1, hL⟩ := h
  refine ⟨⟨by omega, by omega, fun j hj hj2 => ?_⟩, e0, e1⟩
  by_cases e : j = i
  · rw [e]; exact WR_LI hr hf
  · exact WR_o hr hj e (hL j hj (by omega))
theorem wPay_WI {w : Nat → Int} {i : Int} (h : WI w) (hi : 0 ≤ i) (hi2 : i < w 0) (ho : 0 < wOf w i 1) : WI (wPay w i) ∧ wPay w i 0 = w 0 := by
  have hL := h.2.2 i hi hi2
  have := WI_b h (wPay_R hi hL ho) (payL_LI hL ho)
  exact ⟨this.1, this.2.1⟩
theorem wRed_WI {w : Nat → Int} {i a kp : Int} (h : WI w) (hi : 0 ≤ i) (hi2 : i < w 0) (ho : 0 < wOf w i 1) (ha : 1 ≤ a) (ha1 : a ≤ wOf w i 1) : WI (wRed w i a kp) ∧ wRed w i a kp 0 = w 0 := by
  have hL := h.2.2 i hi hi2
  have := WI_b h (wRed_R (kp := kp) hi hL ho ha ha1) (redL_LI hL ho ha ha1)
  exact ⟨this.1, this.2.1⟩
/-- all loans of the row, as a plan's loans -/
def LWf (w : Nat → Int) : Nat → Nat → Int := fun i k => wOf w i k
def wAll (w : Nat → Int) : Nat → (Nat → Int)
  | 0 => w
  | k + 1 => if 0 < wOf (wAll w k) k 1 then wPay (wAll w k) k else wAll w k
def wSum (w : Nat → Int) : Nat → Int
  | 0 => 0
  | k + 1 => if 0 < wOf (wAll w k) k 1 then wSum w k + dueL (WL (wAll w k) k) else wSum w k
theorem wAll_WI {w : Nat → Int} (h : WI w) : ∀ k : Nat, (k : Int) ≤ w 0 → WI (wAll w k) ∧ wAll w k 0 = w 0
  | 0, _ => ⟨h, rfl⟩
  | k + 1, hk => by
    have ih := wAll_WI h k (by omega)
    by_cases c : 0 < wOf (wAll w k) k 1
    · rw [show wAll w (k + 1) = wPay (wAll w k) k from if_pos c]
      have := wPay_WI ih.1 (by omega) (by omega) c
      exact ⟨this.1, this.2.trans ih.2⟩
    · rw [show wAll w (k + 1) = wAll w k from if_neg c]
      exact ih
theorem wAll_y {w u : Nat → Int} {i : Int} (h0 : 0 ≤ i) (h : u = wAll w i.toNat) (ho : 0 < wOf u i 1) : wPay u i = wAll w (i + 1).toNat := by
  subst h
  rw [show (i + 1).toNat = i.toNat + 1 by omega]
  have e : ((i.toNat : Nat) : Int) = i := by omega
  rw [show wAll w (i.toNat + 1) = wPay (wAll w i.toNat) (i.toNat : Int) from if_pos (by rw [e]; exact ho), e]
theorem wAll_no {w u : Nat → Int} {i : Int} (h0 : 0 ≤ i) (h : u = wAll w i.toNat) (ho : wOf u i 1 ≤ 0) : u = wAll w (i + 1).toNat := by
  subst h
  rw [show (i + 1).toNat = i.toNat + 1 by omega]
  have e : ((i.toNat : Nat) : Int) = i := by omega
  exact (show wAll w (i.toNat + 1) = wAll w i.toNat from if_neg (by rw [e]; omega)).symm
theorem wSum_y {w u : Nat → Int} {i x : Int} (h0 : 0 ≤ i) (h : u = wAll w i.toNat) (hx : x = wSum w i.toNat) (ho : 0 < wOf u i 1) : x + dueL (WL u i) = wSum w (i + 1).toNat := by
  subst h
  subst hx
  rw [show (i + 1).toNat = i.toNat + 1 by omega]
  have e : ((i.toNat : Nat) : Int) = i := by omega
  rw [show wSum w (i.toNat + 1) = wSum w i.toNat + dueL (WL (wAll w i.toNat) (i.toNat : Int)) from if_pos (by rw [e]; exact ho), e]
theorem wSum_no {w u : Nat → Int} {i x : Int} (h0 : 0 ≤ i) (h : u = wAll w i.toNat) (hx : x = wSum w i.toNat) (ho : wOf u i 1 ≤ 0) : x + 0 = wSum w (i + 1).toNat := by
  subst h
  subst hx
  rw [show (i + 1).toNat = i.toNat + 1 by omega]
  have e : ((i.toNat : Nat) : Int) = i := by omega
  rw [show wSum w (i.toNat + 1) = wSum w i.toNat from if_neg (by rw [e]; omega)]
  omega
theorem WI_1 {w : Nat → Int} (h : WI w) {i : Int} (h0 : 0 ≤ i) (hi : i < w 0) : (0 ≤ wOf w i 1 ∧ wOf w i 1 ≤ 9999999) ∧ (0 ≤ wOf w i 2 ∧ wOf w i 2 ≤ 3000) := ⟨(h.2.2 i h0 hi).1, (h.2.2 i h0 hi).2.1⟩
theorem LWf_i (w : Nat → Int) {i : Int} (h0 : 0 ≤ i) (k : Nat) : LWf w i.toNat k = wOf w i k := by
  unfold LWf
  rw [show ((i.toNat : Nat) : Int) = i by omega]
