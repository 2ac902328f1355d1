/-! a loan's months, one after the other: what the property says of them -/
theorem opz_c (L : Nat → Int) : (opz L = 1 ∧ 0 < L 1) ∨ (opz L = 0 ∧ L 1 ≤ 0) := by
  unfold opz
  by_cases h : 0 < L 1
  · rw [if_pos h]; exact Or.inl ⟨rfl, h⟩
  · rw [if_neg h]; exact Or.inr ⟨rfl, by omega⟩
theorem dueL_c (L : Nat → Int) : (dueL L = L 1 + fI (L 1) (L 2) (L 5) ∧ (L 1 + fI (L 1) (L 2) (L 5) ≤ L 4 ∨ L 3 = 1)) ∨ (dueL L = L 4 ∧ L 4 < L 1 + fI (L 1) (L 2) (L 5) ∧ L 3 ≠ 1) := by
  have e : fW (L 1) (L 2) (L 5) = L 1 + fI (L 1) (L 2) (L 5) := rfl
  by_cases h : fW (L 1) (L 2) (L 5) ≤ L 4 ∨ L 3 = 1
  · exact Or.inl ⟨(fD_w h).trans e, by omega⟩
  · exact Or.inr ⟨fD_i (by omega) (by omega), by omega, by omega⟩
/-- a closed loan owes nothing -/
theorem shut_0 {L : Nat → Int} (h : LI L) (h1 : L 1 ≤ 0) : dueL L = 0 ∧ fI (L 1) (L 2) (L 5) = 0 ∧ runL 120 L 6 - L 6 = 0 ∧ lastL 120 L 0 = 0 := by
  obtain ⟨hb, hr, hc, hm, hi, hs, ho, hcl⟩ := h
  have hz := hcl (by omega)
  have hf : fI (L 1) (L 2) (L 5) = 0 := by
    unfold fI
    rw [show L 1 = 0 by omega, hz.2.2, Int.zero_mul]
    rfl
  have hd := dueL_c L
  refine ⟨by omega, hf, ?_, lastL_e h1⟩
  rw [runL_e h1]
  omega
/-- the last amount of an open loan: more than nothing, no more than its installment -/
theorem payL_4 {L : Nat → Int} (h : 0 < payL L 1) : payL L 4 = L 4 := by
  have e : payL L 1 = fW (L 1) (L 2) (L 5) - dueL L := rfl
  have e4 : payL L 4 = fz (fW (L 1) (L 2) (L 5) - dueL L) (L 4) := rfl
  rw [e4, fz_n (by omega)]
theorem payL_3 {L : Nat → Int} (h : 0 < payL L 1) : payL L 3 = L 3 + (-1) := by
  have e : payL L 1 = fW (L 1) (L 2) (L 5) - dueL L := rfl
  have e3 : payL L 3 = fz (fW (L 1) (L 2) (L 5) - dueL L) (L 3 + (-1)) := rfl
  rw [e3, fz_n (by omega)]
theorem payL_5 {L : Nat → Int} (h : 0 < payL L 1) : payL L 5 = fC (L 1) (L 2) (L 5) := by
  have e : payL L 1 = fW (L 1) (L 2) (L 5) - dueL L := rfl
  have e5 : payL L 5 = fz (fW (L 1) (L 2) (L 5) - dueL L) (fC (L 1) (L 2) (L 5)) := rfl
  rw [e5, fz_n (by omega)]
theorem dueL_o {L : Nat → Int} (h : LI L) (ho : 0 < L 1) : 1 ≤ dueL L ∧ dueL L ≤ L 4 := by
  have hc := payL_cases h ho
  obtain ⟨hb, hr, hcc, hm, hi, hs, hop, hcl⟩ := h
  have hf := fI_r hb.1 hr.1 hr.2 hcc.1 hcc.2
  have e : fW (L 1) (L 2) (L 5) = L 1 + fI (L 1) (L 2) (L 5) := rfl
  have := (hop ho).2.1
  omega
theorem lastL_in : ∀ (n : Nat) (L : Nat → Int) (d i : Int), LI L → (0 < L 1 → L 4 = i) → (1 ≤ d ∧ d ≤ i) → 1 ≤ lastL n L d ∧ lastL n L d ≤ i
  | 0, L, d, i, _, _, h => h
  | n + 1, L, d, i, hL, h4, h => by
    by_cases ho : 0 < L 1
    · rw [lastL_s ho]
      have hd := dueL_o hL ho
      have := h4 ho
      exact lastL_in n (payL L) (dueL L) i (payL_LI hL ho) (fun q => by rw [payL_4 q]; exact this) (by omega)
    · rw [lastL_e (by omega)]
      exact h
theorem lastL_o {L : Nat → Int} (h : LI L) (ho : 0 < L 1) : 1 ≤ lastL 120 L 0 ∧ lastL 120 L 0 ≤ L 4 := by
  have hd := dueL_o h ho
  rw [lastL_s ho]
  exact lastL_in 119 (payL L) (dueL L) (L 4) (payL_LI h ho) (fun q => payL_4 q) hd
/-- n payments and one more -/
theorem runL_up : ∀ (n : Nat) (L : Nat → Int), runL (n + 1) L = if 0 < runL n L 1 then payL (runL n L) else runL n L
  | 0, L => rfl
  | n + 1, L => by
    by_cases h : 0 < L 1
    · rw [runL_s (n := n + 1) h, runL_s (n := n) h]
      exact runL_up n (payL L)
    · rw [runL_e (by omega), runL_e (by omega), if_neg h]
theorem runL_y {n : Nat} {L : Nat → Int} (h : 0 < runL n L 1) : runL (n + 1) L = payL (runL n L) := by rw [runL_up, if_pos h]
theorem runL_st {n : Nat} {L : Nat → Int} (h : runL n L 1 ≤ 0) : ∀ k : Nat, runL (n + k) L = runL n L
  | 0 => rfl
  | k + 1 => by
    have ih := runL_st h k
    show runL (n + k + 1) L = _
    rw [runL_up, ih, if_neg (by omega)]
theorem runL_2 : ∀ (n : Nat) (L : Nat → Int), runL n L 2 = L 2
  | 0, L => rfl
  | n + 1, L => by
    rw [runL_up]
    have ih := runL_2 n L
    split
    · show runL n L 2 = L 2
      exact ih
    · exact ih
theorem runL_34 : ∀ (n : Nat) (L : Nat → Int), 0 < runL n L 1 → runL n L 4 = L 4 ∧ runL n L 3 = L 3 - n
  | 0, L, _ => ⟨rfl, by show L 3 = L 3 - 0; omega⟩
  | n + 1, L, h => by
    rw [runL_up] at h ⊢
    by_cases c : 0 < runL n L 1
    · rw [if_pos c] at h ⊢
      have ih := runL_34 n L c
      rw [payL_4 h, payL_3 h]
      omega
    · rw [if_neg c] at h
      exact absurd h c
/-- what a payment to come is, and its interest, where the loan is still open, and where it is closed -/
theorem apz_y {L : Nat → Int} {k : Int} (h0 : 0 ≤ k) (h : 0 < runL k.toNat L 1) : apz L (k + 1) = dueL (runL k.toNat L) := by
  unfold apz
  rw [show (k + 1 - 1).toNat = k.toNat by omega]
  exact if_pos h
theorem ipz_y {L : Nat → Int} {k : Int} (h0 : 0 ≤ k) (h : 0 < runL k.toNat L 1) : ipz L (k + 1) = fI (runL k.toNat L 1) (runL k.toNat L 2) (runL k.toNat L 5) := by
  unfold ipz
  rw [show (k + 1 - 1).toNat = k.toNat by omega]
  exact if_pos h
theorem apz_n {L : Nat → Int} {k : Int} (h0 : 0 ≤ k) (h : runL k.toNat L 1 ≤ 0) : apz L (k + 1) = -1 := by
  unfold apz
  rw [show (k + 1 - 1).toNat = k.toNat by omega]
  exact if_neg (by omega)
theorem ipz_n {L : Nat → Int} {k : Int} (h0 : 0 ≤ k) (h : runL k.toNat L 1 ≤ 0) : ipz L (k + 1) = -1 := by
  unfold ipz
  rw [show (k + 1 - 1).toNat = k.toNat by omega]
  exact if_neg (by omega)
/-- the walk aside: b balance, c carry, t interest behind k payments -/
def WK (L : Nat → Int) (k b c t : Int) : Prop := b = runL k.toNat L 1 ∧ (0 < b → c = runL k.toNat L 5) ∧ (0 ≤ c ∧ c < 120000) ∧ t = runL k.toNat L 6 - L 6
theorem WK_0 {L : Nat → Int} (h : LI L) : WK L 0 (L 1) (L 5) 0 := ⟨rfl, fun _ => rfl, h.2.2.1, by show (0:Int) = L 6 - L 6; omega⟩
theorem WK_s {L : Nat → Int} {k b c t : Int} (hL : LI L) (h0 : 0 ≤ k) (hk : k < L 3) (hb : 0 < b) (h : WK L k b c t) :
    (0 ≤ b * L 2 ∧ b * L 2 ≤ b * 3000 ∧ b ≤ 9999999) ∧ LI (runL k.toNat L) ∧ (b * L 2 + c) / 120000 = ipz L (k + 1) ∧ (apz L (k + 1) = dueL (runL k.toNat L)) ∧
    ((dueL (runL k.toNat L) = b + ipz L (k + 1) ∧ (b + ipz L (k + 1) ≤ L 4 ∨ k + 1 = L 3)) ∨ (dueL (runL k.toNat L) = L 4 ∧ L 4 < b + ipz L (k + 1) ∧ k + 1 ≠ L 3)) ∧ (1 ≤ dueL (runL k.toNat L) ∧ dueL (runL k.toNat L) ≤ L 4) ∧ (0 ≤ ipz L (k + 1) ∧ ipz L (k + 1) ≤ 250001) ∧
    runL (k + 1).toNat L 1 = b + ipz L (k + 1) - dueL (runL k.toNat L) ∧ WK L (k + 1) (b + ipz L (k + 1) - dueL (runL k.toNat L)) ((b * L 2 + c) % 120000) (t + ipz L (k + 1)) := by
  obtain ⟨w1, w2, w3, w4⟩ := h
  have ho : 0 < runL k.toNat L 1 := by omega
  have hM := runL_LI k.toNat L hL
  have h34 := runL_34 k.toNat L ho
  have hr2 := runL_2 k.toNat L
  have hi := ipz_y h0 ho
  have ha := apz_y h0 ho
  have hu := runL_y ho
  rw [show k.toNat + 1 = (k + 1).toNat by omega] at hu
  have w5 := w2 hb
  generalize hMe : runL k.toNat L = M at *
  have hdc := dueL_c M
  have hdo := dueL_o hM ho
  have hfr := fI_r (b := M 1) (r := M 2) (c := M 5) (by omega) hM.2.1.1 hM.2.1.2 hM.2.2.1.1 hM.2.2.1.2
  have hmb := lo_mb (b := b) (r := L 2) (by omega) hL.2.1.1 hL.2.1.2
  have hM1 := hM.1
  have e1 : runL (k + 1).toNat L 1 = M 1 + fI (M 1) (M 2) (M 5) - dueL M := by rw [hu]; rfl
  have e6 : runL (k + 1).toNat L 6 = M 6 + fI (M 1) (M 2) (M 5) := by rw [hu]; rfl
  have ef : (b * L 2 + c) / 120000 = fI (M 1) (M 2) (M 5) := by
    unfold fI
    rw [w1, hr2, w5]
  have ec : (b * L 2 + c) % 120000 = fC (M 1) (M 2) (M 5) := by
    unfold fC
    rw [w1, hr2, w5]
  have hC := fC_r (M 1) (M 2) (M 5)
  refine ⟨by omega, hM, by rw [hi]; exact ef, ha, by omega, by omega, by omega, by omega, by omega, fun q => ?_, by omega, by omega⟩
  rw [ec, hu, payL_5 (by rw [← hu]; omega)]
/-- .. and at its end -/
theorem WK_e {L : Nat → Int} {k b c t : Int} (hL : LI L) (h0 : 0 ≤ k) (hk : k ≤ L 3) (h : WK L k b c t) (he : b ≤ 0 ∨ L 3 ≤ k) : b = 0 ∧ apz L (k + 1) = -1 ∧ ipz L (k + 1) = -1 ∧ runL 120 L 6 - L 6 = t ∧ (0 ≤ t ∧ t ≤ 250001 * 120) := by
  obtain ⟨w1, w2, w3, w4⟩ := h
  have hM := runL_LI k.toNat L hL
  have h6 := runL_6 k.toNat L hL
  have h3 := hL.2.2.2.1
  have hz : runL k.toNat L 1 ≤ 0 := by
    rcases Int.lt_or_le 0 (runL k.toNat L 1) with q | q
    · have h34 := runL_34 k.toNat L q
      have := (hM.2.2.2.2.2.2.1 q).1
      omega
    · exact q
  have hs := runL_st hz (120 - k.toNat)
  rw [show k.toNat + (120 - k.toNat) = 120 by omega] at hs
  have hM1 := hM.1
  refine ⟨by omega, apz_n h0 hz, ipz_n h0 hz, by rw [hs]; omega, by omega, by omega⟩
/-- no violations -/
theorem plBad_0 {P : PT} (h : PI P) : ∀ k : Nat, (k : Int) ≤ Pn P → plBad P k = 0
  | 0, _ => rfl
  | k + 1, hk => by
    have ih := plBad_0 h k (by omega)
    have e := plBad_n (P := P) (i := (k : Int)) (by omega) (by
      rw [Int.toNat_natCast]
      intro q
      have := lastL_o (h.2.2.2 k (by omega)) q.1
      omega)
    rw [show ((k : Int) + 1).toNat = k + 1 by omega, Int.toNat_natCast] at e
    rw [e]; exact ih
theorem sum_b {P : PT} (h : PI P) : 0 ≤ sumF (fun i => PL P i 1) (Pn P).toNat ∧ sumF (fun i => PL P i 1) (Pn P).toNat ≤ 60000000 := by
  have := sumF_r (f := fun i => PL P i 1) (B := 9999999) (Pn P).toNat (fun i hi => (h.2.2.2 i (by omega)).1)
  have h1 := h.1
  omega
theorem sum_a {P : PT} (h : PI P) : 0 ≤ sumF (fun k => runL 120 (PL P k) 6 - PL P k 6) (Pn P).toNat ∧ sumF (fun k => runL 120 (PL P k) 6 - PL P k 6) (Pn P).toNat ≤ 200000000 := by
  have := sumF_r (f := fun k => runL 120 (PL P k) 6 - PL P k 6) (B := 30000120) (Pn P).toNat (fun i hi => by have := runL_6 120 _ (h.2.2.2 i (by omega)); exact ⟨this.1, by have := this.2; omega⟩)
  have h1 := h.1
  omega
