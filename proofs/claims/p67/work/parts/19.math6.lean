/-! what the reference's changes do to a loan of its row -/
theorem lo_ten {P : Nat → Prop} (h0 : P 0) (h1 : P 1) (h2 : P 2) (h3 : P 3) (h4 : P 4) (h5 : P 5) (h6 : P 6) (h7 : P 7) (h8 : P 8) (h9 : P 9) : ∀ k, k < 10 → P k := by
  intro k hk
  match k, hk with
  | 0, _ => exact h0
  | 1, _ => exact h1
  | 2, _ => exact h2
  | 3, _ => exact h3
  | 4, _ => exact h4
  | 5, _ => exact h5
  | 6, _ => exact h6
  | 7, _ => exact h7
  | 8, _ => exact h8
  | 9, _ => exact h9
theorem LI_ext {f g : Nat → Int} (h : LI f) (e : ∀ k, k < 10 → f k = g k) : LI g := by
  unfold LI
  rw [← e 0 (by omega), ← e 1 (by omega), ← e 2 (by omega), ← e 3 (by omega), ← e 4 (by omega), ← e 5 (by omega), ← e 6 (by omega), ← e 7 (by omega), ← e 9 (by omega)]
  exact h
theorem wBook_lo {u w : Nat → Int} (lo am it : Int) (h : ∀ j : Nat, j < 62 → u j = w j) : ∀ j : Nat, j < 62 → wBook u lo am it j = wBook w lo am it j := by
  intro j hj
  unfold wBook
  rw [h 1 (by omega)]
  by_cases e1 : j = 1
  · rw [e1, uI_s, uI_s]
  · rw [uI_n e1, uI_n e1]
    by_cases e4 : j = 4
    · rw [e4, uI_s, uI_s]
    · rw [uI_n e4, uI_n e4]
      by_cases e3 : j = 3
      · rw [e3, uI_s, uI_s]
      · rw [uI_n e3, uI_n e3]
        by_cases e2 : j = 2
        · rw [e2, uI_s, uI_s]
        · rw [uI_n e2, uI_n e2]
          unfold wSh
          by_cases c : 2 + (2:Int) < (j : Int) ∧ j < 62
          · rw [if_pos c, if_pos c, h (j - 3) (by omega)]
          · rw [if_neg c, if_neg c, h j hj]
theorem WR.book {v w : Nat → Int} {i : Int} {f : Nat → Int} (h : WR v w i f) (hi : 0 ≤ i) (lo am it : Int) : WR (wBook v lo am it) (wBook w lo am it) i f :=
  ⟨fun k hk => by rw [wOf_b hi (by omega)]; exact h.1 k hk, fun j hj hne k hk => by rw [wOf_b hj (by omega), wOf_b hj (by omega)]; exact h.2.1 j hj hne k hk, wBook_lo lo am it h.2.2⟩
/-- closed when paid -/
def fCl (f : Nat → Int) : Nat → Int := if f 1 ≤ 0 then uI (uI (uI f 3 0) 4 0) 5 0 else f
theorem fCl_0 {f : Nat → Int} (h : f 1 ≤ 0) : fCl f = uI (uI (uI f 3 0) 4 0) 5 0 := if_pos h
theorem fCl_n {f : Nat → Int} (h : ¬ f 1 ≤ 0) : fCl f = f := if_neg h
theorem WR.close {v w : Nat → Int} {i : Int} {f : Nat → Int} (h : WR v w i f) (hi : 0 ≤ i) : WR v (wClose w i) i (fCl f) := by
  have e : wOf w i 1 = f 1 := h.1 1 (by omega)
  unfold wClose fCl
  rw [e]
  by_cases c : f 1 ≤ 0
  · rw [if_pos c, if_pos c]
    exact ((h.put hi (k := 3) (by omega) (by omega)).put hi (k := 4) (by omega) (by omega)).put hi (k := 5) (by omega) (by omega)
  · rw [if_neg c, if_neg c]
    exact h
theorem WR.calc {v w : Nat → Int} {i : Int} {f : Nat → Int} (h : WR v w i f) (hi : 0 ≤ i) : WR v (wCalc w i) i (uI f 4 (lvl (f 1) (f 2) (f 5) (f 3))) := by
  have e1 : wOf w i 1 = f 1 := h.1 1 (by omega)
  have e2 : wOf w i 2 = f 2 := h.1 2 (by omega)
  have e3 : wOf w i 3 = f 3 := h.1 3 (by omega)
  have e5 : wOf w i 5 = f 5 := h.1 5 (by omega)
  unfold wCalc
  rw [e1, e2, e3, e5]
  exact h.put hi (k := 4) (by omega) (by omega)
theorem WR.grow {v w : Nat → Int} {i k x : Int} {f : Nat → Int} (h : WR v w i f) (hi : 0 ≤ i) (hk : 0 ≤ k) (hk2 : k < 10) : WR v (wPut w i k (wOf w i k + x)) i (uI f k.toNat (f k.toNat + x)) := by
  have e := h.1 k.toNat (by omega)
  rw [show ((k.toNat : Nat) : Int) = k by omega] at e
  rw [e]
  exact h.put hi hk hk2
theorem wPay_R {w : Nat → Int} {i : Int} (hi : 0 ≤ i) (h : LI (WL w i)) (ho : 0 < WL w i 1) : WR (wBook w i (dueL (WL w i)) (fI (WL w i 1) (WL w i 2) (WL w i 5))) (wPay w i) i (payL (WL w i)) := by
  have hLI := payL_LI h ho
  have r8 := ((((((((WR.rf w i).put hi (k := 1) (x := fW (WL w i 1) (WL w i 2) (WL w i 5) - dueL (WL w i)) (by omega) (by omega)).put hi (k := 5) (x := fC (WL w i 1) (WL w i 2) (WL w i 5)) (by omega) (by omega)).grow hi (k := 6) (x := fI (WL w i 1) (WL w i 2) (WL w i 5)) (by omega) (by omega)).grow hi (k := 7) (x := dueL (WL w i)) (by omega) (by omega)).grow hi (k := 8) (x := 1) (by omega) (by omega)).grow hi (k := 3) (x := -1) (by omega) (by omega)).book hi i (dueL (WL w i)) (fI (WL w i 1) (WL w i 2) (WL w i 5))).close hi
  have b1 : payL (WL w i) 1 = fW (WL w i 1) (WL w i 2) (WL w i 5) - dueL (WL w i) := rfl
  have b0 := hLI.1.1
  by_cases z : fW (WL w i 1) (WL w i 2) (WL w i 5) - dueL (WL w i) = 0
  · rw [fCl_0] at r8
    · exact WR.ext r8 (lo_ten rfl rfl rfl (fz_0 z).symm (fz_0 z).symm (fz_0 z).symm rfl rfl rfl rfl)
    · show fW (WL w i 1) (WL w i 2) (WL w i 5) - dueL (WL w i) ≤ 0
      omega
  · rw [fCl_n] at r8
    · exact WR.ext r8 (lo_ten rfl rfl rfl (fz_n z).symm (fz_n z).symm (fz_n z).symm rfl rfl rfl rfl)
    · show ¬ fW (WL w i 1) (WL w i 2) (WL w i 5) - dueL (WL w i) ≤ 0
      omega
/-- an extra payment in the row -/
def wExt (w : Nat → Int) (i a : Int) : Nat → Int :=
  let w1 := wPut w i 1 (wOf w i 1 + (-a))
  let w2 := wPut w1 i 7 (wOf w1 i 7 + a)
  wClose (wBook w2 i a 0) i
noncomputable def wRed (w : Nat → Int) (i a kp : Int) : Nat → Int :=
  if 0 < wOf (wExt w i a) i 1 then (if kp = 0 then wPut (wExt w i a) i 3 (trm (wOf (wExt w i a) i 2) (wOf (wExt w i a) i 4) 120 1 (wOf (wExt w i a) i 1) (wOf (wExt w i a) i 5)) else wCalc (wExt w i a) i) else wExt w i a
theorem wExt_R {w : Nat → Int} {i a : Int} (hi : 0 ≤ i) : WR (wBook w i a 0) (wExt w i a) i (fCl (uI (uI (WL w i) 1 (WL w i 1 + (-a))) 7 (WL w i 7 + a))) :=
  ((((WR.rf w i).grow hi (k := 1) (x := -a) (by omega) (by omega)).grow hi (k := 7) (x := a) (by omega) (by omega)).book hi i a 0).close hi
theorem wExt_o {w : Nat → Int} {i a : Int} (hi : 0 ≤ i) (h : 0 < wOf w i 1 - a) : wOf (wExt w i a) i 1 = wOf w i 1 - a ∧ wOf (wExt w i a) i 2 = wOf w i 2 ∧ wOf (wExt w i a) i 3 = wOf w i 3 ∧ wOf (wExt w i a) i 4 = wOf w i 4 ∧ wOf (wExt w i a) i 5 = wOf w i 5 := by
  have hr := (wExt_R (w := w) (a := a) hi).1
  have e : fCl (uI (uI (WL w i) 1 (WL w i 1 + (-a))) 7 (WL w i 7 + a)) = uI (uI (WL w i) 1 (WL w i 1 + (-a))) 7 (WL w i 7 + a) := fCl_n (by
    show ¬ (wOf w i 1 + (-a) ≤ 0)
    omega)
  rw [e] at hr
  exact ⟨hr 1 (by omega), hr 2 (by omega), hr 3 (by omega), hr 4 (by omega), hr 5 (by omega)⟩
theorem wExt_1 {w : Nat → Int} {i a : Int} (hi : 0 ≤ i) : wOf (wExt w i a) i 1 = wOf w i 1 - a := by
  have hr := (wExt_R (w := w) (a := a) hi).1 1 (by omega)
  refine hr.trans ?_
  by_cases c : uI (uI (WL w i) 1 (WL w i 1 + (-a))) 7 (WL w i 7 + a) 1 ≤ 0
  · rw [fCl_0 c]; rfl
  · rw [fCl_n c]; rfl
theorem wRed_R {w : Nat → Int} {i a kp : Int} (hi : 0 ≤ i) (h : LI (WL w i)) (ho : 0 < WL w i 1) (ha : 1 ≤ a) (ha1 : a ≤ WL w i 1) : WR (wBook w i a 0) (wRed w i a kp) i (redL (WL w i) a kp) := by
  have hE := wExt_R (w := w) (a := a) hi
  have h1 := wExt_1 (w := w) (a := a) hi
  have c := redL_cases (WL w i) a kp
  have e1 : wOf w i 1 = WL w i 1 := rfl
  have e2 : wOf w i 2 = WL w i 2 := rfl
  have e3 : wOf w i 3 = WL w i 3 := rfl
  have e4 : wOf w i 4 = WL w i 4 := rfl
  have e5 : wOf w i 5 = WL w i 5 := rfl
  have es : WL w i 1 + (-a) = WL w i 1 - a := by omega
  rw [es] at hE
  unfold wRed
  by_cases z : WL w i 1 - a = 0
  · rw [if_neg (by omega), c.1 z]
    rw [fCl_0 (show WL w i 1 - a ≤ 0 by omega)] at hE
    exact WR.ext hE (lo_ten rfl z rfl rfl rfl rfl rfl rfl rfl rfl)
  · have hop := wExt_o (w := w) (i := i) (a := a) hi (by omega)
    rw [if_pos (by omega)]
    rw [fCl_n (show ¬ (WL w i 1 - a ≤ 0) by omega)] at hE
    by_cases k0 : kp = 0
    · rw [if_pos k0, c.2.1 z k0]
      obtain ⟨b1, b2, b5, b3, b4, b9, bo, bc⟩ := h
      have hm := trm_mono (WL w i 2) (WL w i 4) (WL w i 3).toNat 1 (WL w i 1) (WL w i 5) (WL w i 1 - a) (WL w i 5) b2.1 (by omega) b5.1 b5.2 b5.1 b5.2 (by omega) (by omega) (bo ho).2.2
      have hmm := trm_more (WL w i 2) (WL w i 4) (WL w i 3).toNat (120 - (WL w i 3).toNat) 1 (WL w i 1 - a) (WL w i 5) hm.1
      rw [show (WL w i 3).toNat + (120 - (WL w i 3).toNat) = 120 by omega] at hmm
      rw [hop.1, hop.2.1, hop.2.2.2.1, hop.2.2.2.2, e1, e2, e4, e5, hmm]
      generalize trm (WL w i 2) (WL w i 4) (WL w i 3).toNat 1 (WL w i 1 - a) (WL w i 5) = t
      exact WR.ext (hE.put hi (k := 3) (x := t) (by omega) (by omega)) (lo_ten rfl rfl rfl rfl rfl rfl rfl rfl rfl rfl)
    · rw [if_neg k0, c.2.2 z k0]
      have hc := hE.calc hi
      generalize hl : lvl (WL w i 1 - a) (WL w i 2) (WL w i 5) (WL w i 3) = t
      change WR _ _ _ (uI (uI (uI (WL w i) 1 (WL w i 1 - a)) 7 (WL w i 7 + a)) 4 (lvl (WL w i 1 - a) (WL w i 2) (WL w i 5) (WL w i 3))) at hc
      rw [hl] at hc
      exact WR.ext hc (lo_ten rfl rfl rfl rfl rfl rfl rfl rfl rfl rfl)
/-- a month skipped, in the row -/
def wDf (w : Nat → Int) (i : Int) : Nat → Int :=
  let w1 := wPut w i 5 (fC (wOf w i 1) (wOf w i 2) (wOf w i 5))
  let w2 := wPut w1 i 1 (wOf w1 i 1 + fI (wOf w i 1) (wOf w i 2) (wOf w i 5))
  let w3 := wPut w2 i 6 (wOf w2 i 6 + fI (wOf w i 1) (wOf w i 2) (wOf w i 5))
  wPut w3 i 9 (wOf w3 i 9 + 1)
noncomputable def wDef (w : Nat → Int) (i : Int) : Nat → Int := wCalc (wDf w i) i
theorem wDef_R {w : Nat → Int} {i : Int} (hi : 0 ≤ i) : WR w (wDef w i) i (defL (WL w i)) := by
  have r := (((((WR.rf w i).put hi (k := 5) (x := fC (WL w i 1) (WL w i 2) (WL w i 5)) (by omega) (by omega)).grow hi (k := 1) (x := fI (WL w i 1) (WL w i 2) (WL w i 5)) (by omega) (by omega)).grow hi (k := 6) (x := fI (WL w i 1) (WL w i 2) (WL w i 5)) (by omega) (by omega)).grow hi (k := 9) (x := 1) (by omega) (by omega)).calc hi
  exact WR.ext r (lo_ten rfl rfl rfl rfl rfl rfl rfl rfl rfl rfl)
noncomputable def wRate (w : Nat → Int) (i r : Int) : Nat → Int := wCalc (wPut w i 2 r) i
theorem wRate_R {w : Nat → Int} {i r : Int} (hi : 0 ≤ i) : WR w (wRate w i r) i (setL (WL w i) r (WL w i 3)) := by
  have q := ((WR.rf w i).put hi (k := 2) (x := r) (by omega) (by omega)).calc hi
  exact WR.ext q (lo_ten rfl rfl rfl rfl rfl rfl rfl rfl rfl rfl)
noncomputable def wLong (w : Nat → Int) (i m : Int) : Nat → Int := wCalc (wPut w i 3 (wOf w i 3 + m)) i
theorem wLong_R {w : Nat → Int} {i m : Int} (hi : 0 ≤ i) : WR w (wLong w i m) i (setL (WL w i) (WL w i 2) (WL w i 3 + m)) := by
  have q := ((WR.rf w i).grow hi (k := 3) (x := m) (by omega) (by omega)).calc hi
  exact WR.ext q (lo_ten rfl rfl rfl rfl rfl rfl rfl rfl rfl rfl)
