theorem runL_st : ∀ {b a : Nat} {L : Nat → Int}, runL a L 1 ≤ 0 → a ≤ b → runL b L = runL a L
  | 0, a, L, _, h2 => by rw [show a = 0 by omega]
  | b + 1, a, L, h, h2 => by
    by_cases e : a = b + 1
    · rw [e]
    · have ih := runL_st (b := b) h (by omega)
      rw [runL_r, ih]
      exact if_neg (by omega)
theorem runL_6 : ∀ (n : Nat) (L : Nat → Int), LI L → 0 ≤ runL n L 6 - L 6 ∧ runL n L 6 - L 6 ≤ 250001 * n
  | 0, L, _ => by show 0 ≤ L 6 - L 6 ∧ L 6 - L 6 ≤ 250001 * 0; omega
  | n + 1, L, h => by
    by_cases ho : 0 < L 1
    · rw [runL_s ho]
      have ih := runL_6 n (payL L) (payL_LI h ho)
      have hf := fI_r h.1.1 h.2.1.1 h.2.1.2 h.2.2.1.1 h.2.2.1.2
      have h1 := h.1.2
      have e : payL L 6 = L 6 + fI (L 1) (L 2) (L 5) := rfl
      omega
    · rw [runL_e (by omega)]; omega
/-! the budget in the row -/
def wTg (y : Int) (w : Nat → Int) : Int := if y = 0 then sml (LWf w) (w 0).toNat else dst (LWf w) (w 0).toNat
theorem wTg_r (y : Int) {w : Nat → Int} (h : WI w) : wTg y w = -1 ∨ (0 ≤ wTg y w ∧ wTg y w < w 0 ∧ 0 < wOf w (wTg y w) 1) := by
  have h0 := h.1.1
  have h1 := sml_r (LWf w) (w 0).toNat
  have h2 := dst_r (LWf w) (w 0).toNat
  unfold wTg
  by_cases c : y = 0
  · rw [if_pos c]
    rcases h1 with h1 | ⟨h1, h3, h4⟩
    · exact Or.inl h1
    · rw [LWf_i w h1] at h4
      exact Or.inr ⟨h1, by omega, h4⟩
  · rw [if_neg c]
    rcases h2 with h2 | ⟨h1, h3, h4⟩
    · exact Or.inl h2
    · rw [LWf_i w h1] at h4
      exact Or.inr ⟨h1, by omega, h4⟩
theorem wTg_e {y r : Int} {w : Nat → Int} (h : (y = 1 ∧ r = dst (LWf w) (w 0).toNat) ∨ (y = 0 ∧ r = sml (LWf w) (w 0).toNat)) : r = wTg y w := by
  unfold wTg
  rcases h with ⟨h, e⟩ | ⟨h, e⟩
  · rw [if_neg (by omega)]; exact e
  · rw [if_pos h]; exact e
noncomputable def wspF (y : Int) : Nat → (Nat → Int) → Int → (Nat → Int)
  | 0, w, _ => w
  | n + 1, w, x => if 0 < x then (if wTg y w = -1 then w else wspF y n (wRed w (wTg y w) (min x (wOf w (wTg y w) 1)) 0) (x - min x (wOf w (wTg y w) 1))) else w
theorem wspF_e {y : Int} {n : Nat} {w : Nat → Int} {x : Int} (h : x ≤ 0) : wspF y n w x = w := by
  cases n with
  | zero => rfl
  | succ n => exact if_neg (by omega)
theorem wspF_n {y : Int} {n : Nat} {w : Nat → Int} {x : Int} (h : wTg y w = -1) : wspF y n w x = w := by
  cases n with
  | zero => rfl
  | succ n =>
    by_cases c : 0 < x
    · exact (if_pos c).trans (if_pos h)
    · exact if_neg c
theorem wspF_s {y : Int} {n : Nat} {w : Nat → Int} {x a t : Int} (h : 0 < x) (ht : t = wTg y w) (h2 : t ≠ -1) (ha : a = min x (wOf w t 1)) (hn : 1 ≤ n) : wspF y n w x = wspF y (n - 1) (wRed w t a 0) (x - a) := by
  subst ht
  subst ha
  obtain ⟨k, rfl⟩ : ∃ k, n = k + 1 := ⟨n - 1, by omega⟩
  exact (if_pos h).trans (if_neg h2)
theorem wSum_r {w : Nat → Int} (h : WI w) : ∀ k : Nat, (k : Int) ≤ w 0 → 0 ≤ wSum w k ∧ wSum w k ≤ 10249999 * k
  | 0, _ => by show (0:Int) ≤ 0 ∧ (0:Int) ≤ 10249999 * 0; omega
  | k + 1, hk => by
    have ih := wSum_r h k (by omega)
    have hW := wAll_WI h k (by omega)
    have hd := dueL_r (hW.1.2.2 k (by omega) (by omega))
    show 0 ≤ (if 0 < wOf (wAll w k) k 1 then wSum w k + dueL (WL (wAll w k) k) else wSum w k) ∧ (if 0 < wOf (wAll w k) k 1 then wSum w k + dueL (WL (wAll w k) k) else wSum w k) ≤ 10249999 * ((k + 1 : Nat) : Int)
    by_cases c : 0 < wOf (wAll w k) k 1
    · rw [if_pos c]; omega
    · rw [if_neg c]; omega
