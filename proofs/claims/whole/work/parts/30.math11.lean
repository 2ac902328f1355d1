/-! what reads ten numbers only -/
theorem dueL_x {f g : Nat → Int} (e : ∀ k, k < 10 → f k = g k) : dueL f = dueL g := by
  unfold dueL
  rw [e 1 (by omega), e 2 (by omega), e 5 (by omega), e 4 (by omega), e 3 (by omega)]
theorem payL_x {f g : Nat → Int} (e : ∀ k, k < 10 → f k = g k) : payL f = payL g := by
  unfold payL
  rw [dueL_x e, e 0 (by omega), e 1 (by omega), e 2 (by omega), e 5 (by omega), e 4 (by omega), e 3 (by omega), e 6 (by omega), e 7 (by omega), e 8 (by omega), e 9 (by omega)]
theorem defL_x {f g : Nat → Int} (e : ∀ k, k < 10 → f k = g k) : defL f = defL g := by
  unfold defL
  rw [e 0 (by omega), e 1 (by omega), e 2 (by omega), e 5 (by omega), e 3 (by omega), e 6 (by omega), e 7 (by omega), e 8 (by omega), e 9 (by omega)]
theorem runL_x : ∀ (n : Nat) {f g : Nat → Int}, (∀ k, k < 10 → f k = g k) → ∀ k, k < 10 → runL n f k = runL n g k
  | 0, _, _, e => e
  | n + 1, f, g, e => by
    by_cases h : 0 < f 1
    · rw [runL_s h, runL_s (by rw [← e 1 (by omega)]; exact h), payL_x e]; exact fun _ _ => rfl
    · rw [runL_e (by omega), runL_e (by rw [← e 1 (by omega)]; omega)]; exact e
theorem lastL_x : ∀ (n : Nat) {f g : Nat → Int} {d : Int}, (∀ k, k < 10 → f k = g k) → lastL n f d = lastL n g d
  | 0, _, _, _, _ => rfl
  | n + 1, f, g, d, e => by
    by_cases h : 0 < f 1
    · rw [lastL_s h, lastL_s (by rw [← e 1 (by omega)]; exact h), payL_x e, dueL_x e]
    · rw [lastL_e (by omega), lastL_e (by rw [← e 1 (by omega)]; omega)]
theorem untL_x : ∀ (n : Nat) {f g : Nat → Int} {a : Int}, (∀ k, k < 10 → f k = g k) → untL n f a = untL n g a
  | 0, _, _, _, _ => rfl
  | n + 1, f, g, a, e => by
    by_cases h : a < f 1
    · rw [untL_s h, untL_s (by rw [← e 1 (by omega)]; exact h), payL_x e]
    · rw [untL_e (by omega), untL_e (by rw [← e 1 (by omega)]; omega)]
theorem skpL_x : ∀ (n : Nat) {f g : Nat → Int} {a : Int}, (∀ k, k < 10 → f k = g k) → skpL n f a = skpL n g a
  | 0, _, _, _, _ => rfl
  | n + 1, f, g, a, e => by
    have e1 := e 1 (by omega)
    have e2 := e 2 (by omega)
    have e5 := e 5 (by omega)
    have e9 := e 9 (by omega)
    by_cases h : 0 < f 1 ∧ f 9 < 6 ∧ fW (f 1) (f 2) (f 5) ≤ 9999999
    · have h' : 0 < g 1 ∧ g 9 < 6 ∧ fW (g 1) (g 2) (g 5) ≤ 9999999 := by rw [← e1, ← e2, ← e5, ← e9]; exact h
      by_cases h2 : defL f 4 ≤ a
      · rw [skpL_y h h2, skpL_y h' (by rw [← defL_x e]; exact h2), defL_x e]
      · rw [skpL_m h2, skpL_m (by rw [← defL_x e]; exact h2)]
    · rw [skpL_n h, skpL_n (by rw [← e1, ← e2, ← e5, ← e9]; exact h)]
/-! how many are open -/
theorem cnt_0 (f : Nat → Nat → Int) : ∀ n, 0 ≤ cnt f n
  | 0 => by show (0:Int) ≤ 0; omega
  | n + 1 => by
    have := cnt_0 f n
    show 0 ≤ (if 0 < f n 1 then cnt f n + 1 else cnt f n)
    by_cases h : 0 < f n 1
    · rw [if_pos h]; omega
    · rw [if_neg h]; exact this
theorem cnt_m (f : Nat → Nat → Int) : ∀ n, cnt f n ≤ n
  | 0 => by show (0:Int) ≤ 0; omega
  | n + 1 => by
    have := cnt_m f n
    show (if 0 < f n 1 then cnt f n + 1 else cnt f n) ≤ _
    by_cases h : 0 < f n 1
    · rw [if_pos h]; omega
    · rw [if_neg h]; omega
theorem cnt_1 (f : Nat → Nat → Int) (t : Nat) (ho : 0 < f t 1) : ∀ n, t < n → 1 ≤ cnt f n
  | 0, h => absurd h (Nat.not_lt_zero t)
  | n + 1, h => by
    have h0 := cnt_0 f n
    show 1 ≤ (if 0 < f n 1 then cnt f n + 1 else cnt f n)
    by_cases c : 0 < f n 1
    · rw [if_pos c]; omega
    · rw [if_neg c]
      have hne : t ≠ n := fun e => c (e ▸ ho)
      exact cnt_1 f t ho n (by omega)
theorem cnt_x (f g : Nat → Nat → Int) : ∀ n, (∀ j, j < n → (0 < f j 1 ↔ 0 < g j 1)) → cnt g n = cnt f n
  | 0, _ => rfl
  | n + 1, h => by
    have ih := cnt_x f g n (fun j hj => h j (by omega))
    have hn := h n (by omega)
    show (if 0 < g n 1 then cnt g n + 1 else cnt g n) = (if 0 < f n 1 then cnt f n + 1 else cnt f n)
    rw [ih]
    by_cases c : 0 < f n 1
    · rw [if_pos c, if_pos (hn.mp c)]
    · rw [if_neg c, if_neg (fun q => c (hn.mpr q))]
theorem cnt_d (f g : Nat → Nat → Int) (t : Nat) (ho : 0 < f t 1) (hc : ¬ 0 < g t 1) : ∀ n, t < n → (∀ j, j < n → j ≠ t → (0 < f j 1 ↔ 0 < g j 1)) → cnt g n + 1 = cnt f n
  | 0, h, _ => absurd h (Nat.not_lt_zero t)
  | n + 1, h, hx => by
    show (if 0 < g n 1 then cnt g n + 1 else cnt g n) + 1 = (if 0 < f n 1 then cnt f n + 1 else cnt f n)
    by_cases e : t = n
    · subst e
      rw [if_pos ho, if_neg hc, cnt_x f g t (fun j hj => hx j (by omega) (by omega))]
    · have ih := cnt_d f g t ho hc n (by omega) (fun j hj hne => hx j (by omega) hne)
      have hn := hx n (by omega) (fun q => e q.symm)
      by_cases c : 0 < f n 1
      · rw [if_pos c, if_pos (hn.mp c)]; omega
      · rw [if_neg c, if_neg (fun q => c (hn.mpr q))]; exact ih
/-! the row's extra payments -/
theorem redL_1 (L : Nat → Int) (a kp : Int) : redL L a kp 1 = L 1 - a := by
  have c := redL_cases L a kp
  by_cases z : L 1 - a = 0
  · rw [c.1 z, z]; rfl
  · by_cases k : kp = 0
    · rw [c.2.1 z k]; rfl
    · rw [c.2.2 z k]; rfl
theorem wRed_o {w : Nat → Int} {i a kp j : Int} {k : Nat} (hi : 0 ≤ i) (h : LI (WL w i)) (ho : 0 < WL w i 1) (ha : 1 ≤ a) (ha1 : a ≤ WL w i 1) (hj : 0 ≤ j) (hne : j ≠ i) (hk : k < 10) : wOf (wRed w i a kp) j k = wOf w j k :=
  ((wRed_R (kp := kp) hi h ho ha ha1).2.1 j hj hne k hk).trans (wOf_b hj (by omega))
theorem wRed_1 {w : Nat → Int} {i a kp : Int} (hi : 0 ≤ i) (h : LI (WL w i)) (ho : 0 < WL w i 1) (ha : 1 ≤ a) (ha1 : a ≤ WL w i 1) : wOf (wRed w i a kp) i 1 = wOf w i 1 - a :=
  ((wRed_R (kp := kp) hi h ho ha ha1).1 1 (by omega)).trans (redL_1 _ _ _)
theorem wRed_cnt {w : Nat → Int} {i a kp : Int} (hW : WI w) (hi : 0 ≤ i) (hi2 : i < w 0) (ho : 0 < wOf w i 1) (ha : 1 ≤ a) (ha1 : a ≤ wOf w i 1) : (a = wOf w i 1 → cnt (LWf (wRed w i a kp)) (w 0).toNat + 1 = cnt (LWf w) (w 0).toNat) := by
  intro he
  have hL := hW.2.2 i hi hi2
  have h1 := wRed_1 (kp := kp) hi hL ho ha ha1
  refine cnt_d (LWf w) (LWf (wRed w i a kp)) i.toNat ?_ ?_ (w 0).toNat (by omega) (fun j hj hne => ?_)
  · rw [LWf_i w hi]; exact ho
  · rw [LWf_i (wRed w i a kp) hi]
    show ¬ 0 < wOf (wRed w i a kp) i 1
    omega
  · have e : LWf (wRed w i a kp) j 1 = LWf w j 1 := wRed_o (kp := kp) (j := (j : Int)) (k := 1) hi hL ho ha ha1 (by omega) (by omega) (by omega)
    rw [e]
