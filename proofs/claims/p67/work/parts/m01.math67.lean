/-! what a run keeps of the class: its plan, the places of its history, how many payments each loan has had -/
def PC (n : Int) (P : PT) : Prop := ∀ i : Nat, (i : Int) < Pn P → 0 ≤ PL P i 8 ∧ PL P i 8 ≤ n
def CV (n : Int) (Z : CZ) : Prop := PI (zP Z) ∧ (0 ≤ zI Z 2 ∧ zI Z 2 < 8) ∧ (0 ≤ zI Z 3 ∧ zI Z 3 ≤ 8) ∧ 0 ≤ n ∧ PC n (zP Z)
theorem PC.mono {n k : Int} {P : PT} (h : PC n P) (hk : n ≤ k) : PC k P := fun i hi => by have := h i hi; omega
theorem CV.mono {n k : Int} {Z : CZ} (h : CV n Z) (hk : n ≤ k) : CV k Z := ⟨h.1, h.2.1, h.2.2.1, by have := h.2.2.2.1; omega, h.2.2.2.2.mono hk⟩
theorem CV.ahead {n : Int} {Z : CZ} (A : Nat → Int) (h : CV n Z) : CV n (zUA Z A) := h
theorem PC_book {n : Int} {P : PT} {lo am it : Int} (h : PC n P) : PC n (plBook P lo am it) := h
theorem PC_L {n : Int} {P : PT} {i : Nat} {f : Nat → Int} (h : PC n P) (hf : (i : Int) < Pn P → 0 ≤ f 8 ∧ f 8 ≤ n) : PC n (plL P i f) := fun j hj => by
  show 0 ≤ uF (PL P) i f j 8 ∧ uF (PL P) i f j 8 ≤ n
  by_cases e : j = i
  · subst e
    rw [uF_s]
    exact hf hj
  · rw [uF_n e]
    exact h j hj
theorem PC_pay {n : Int} {P : PT} {i : Int} (h : PC n P) : PC (n + 1) (plPay P i) := PC_book (PC_L (h.mono (by omega)) (fun hi => by
  have := h i.toNat hi
  show 0 ≤ PL P i.toNat 8 + 1 ∧ PL P i.toNat 8 + 1 ≤ n + 1
  omega))
theorem redL_8 (L : Nat → Int) (a kp : Int) : redL L a kp 8 = L 8 := by
  unfold redL
  split
  · rfl
  · split <;> rfl
theorem PC_red {n : Int} {P : PT} {i a kp : Int} (h : PC n P) : PC n (plRed P i a kp) := PC_book (PC_L h (fun hi => by rw [redL_8]; exact h _ hi))
theorem PC_def {n : Int} {P : PT} {i : Nat} (h : PC n P) : PC n (plL P i (defL (PL P i))) := PC_L h (fun hi => h i hi)
theorem PC_set {n : Int} {P : PT} {i : Nat} {r m : Int} (h : PC n P) : PC n (plL P i (setL (PL P i) r m)) := PC_L h (fun hi => h i hi)
theorem plPay_ne {P : PT} {k j : Nat} (h : j ≠ k) : PL (plPay P k) j = PL P j := by
  show uF (PL P) (k : Int).toNat _ j = PL P j
  exact uF_n (by rw [Int.toNat_natCast]; exact h)
theorem plPay_eq {P : PT} {k : Nat} : PL (plPay P k) k 8 = PL P k 8 + 1 := by
  show uF (PL P) (k : Int).toNat _ k 8 = PL P k 8 + 1
  rw [Int.toNat_natCast, uF_s]
  rfl
theorem plAll_8 (P : PT) : ∀ (k j : Nat), (k ≤ j → PL (plAll P k) j = PL P j) ∧ (PL (plAll P k) j 8 = PL P j 8 ∨ PL (plAll P k) j 8 = PL P j 8 + 1)
  | 0, j => ⟨fun _ => rfl, Or.inl rfl⟩
  | k + 1, j => by
    have ih := plAll_8 P k j
    show (k + 1 ≤ j → PL (if 0 < PL (plAll P k) k 1 then plPay (plAll P k) k else plAll P k) j = PL P j) ∧ (PL (if 0 < PL (plAll P k) k 1 then plPay (plAll P k) k else plAll P k) j 8 = PL P j 8 ∨ PL (if 0 < PL (plAll P k) k 1 then plPay (plAll P k) k else plAll P k) j 8 = PL P j 8 + 1)
    by_cases h : 0 < PL (plAll P k) k 1
    · rw [if_pos h]
      by_cases e : j = k
      · subst e
        refine ⟨fun q => absurd q (by omega), Or.inr ?_⟩
        rw [plPay_eq, (plAll_8 P j j).1 (Nat.le_refl j)]
      · rw [plPay_ne e]
        exact ⟨fun q => ih.1 (by omega), ih.2⟩
    · rw [if_neg h]
      exact ⟨fun q => ih.1 (by omega), ih.2⟩
theorem PC_all {n : Int} {P : PT} (h : PC n P) (k : Nat) : PC (n + 1) (plAll P k) := fun j hj => by
  rw [plAll_n] at hj
  have h1 := h j hj
  have h2 := (plAll_8 P k j).2
  omega
theorem PC_sp {n : Int} (y : Int) : ∀ (k : Nat) (P : PT) (x : Int), PC n P → PC n (spF y k P x).1
  | 0, P, x, h => h
  | k + 1, P, x, h => by
    show PC n (if 0 < x then (if pickL y P = -1 then (P, x) else spF y k (plRed P (pickL y P) (min x (PL P (pickL y P).toNat 1)) 0) (x - min x (PL P (pickL y P).toNat 1))) else (P, x)).1
    split
    · split
      · exact h
      · exact PC_sp y k _ _ (PC_red h)
    · exact h
theorem PC_new {n : Int} {P : PT} {a r m : Int} (h : PC n P) (hn : 0 ≤ Pn P) (h0 : 0 ≤ n) : PC n (plNew P a r m) := fun j hj => by
  have hj : (j : Int) < Pn P + 1 := hj
  show 0 ≤ uF (PL P) (Pn P).toNat (newL a r m) j 8 ∧ uF (PL P) (Pn P).toNat (newL a r m) j 8 ≤ n
  by_cases e : j = (Pn P).toNat
  · rw [e, uF_s]
    exact ⟨Int.le_refl 0, h0⟩
  · rw [uF_n e]
    exact h j (by omega)
theorem plNew_PI {P : PT} {a r m : Int} (h : PI P) (hn : Pn P < 6) (ha : 1 ≤ a ∧ a ≤ 9999999) (hr : 0 ≤ r ∧ r ≤ 3000) (hm : 1 ≤ m ∧ m ≤ 120) : PI (plNew P a r m) := by
  obtain ⟨h1, h2, h3, h4⟩ := h
  refine ⟨by show 0 ≤ Pn P + 1 ∧ Pn P + 1 ≤ 6; omega, h2, h3, fun i hi => ?_⟩
  have hi : (i : Int) < Pn P + 1 := hi
  show LI (uF (PL P) (Pn P).toNat (newL a r m) i)
  by_cases e : i = (Pn P).toNat
  · rw [e, uF_s]
    exact newL_LI ha.1 ha.2 hr.1 hr.2 hm.1 hm.2
  · rw [uF_n e]
    exact h4 i (by omega)
/-- the history's places behind a change -/
theorem CV_up {n : Int} {Z : CZ} {P : PT} {Q : Nat → PT} (h : CV n Z) (hP : PI P) (hc : PC (n + 1) P) : CV (n + 1) (uI (uI (zI Z) 2 ((zI Z 2 + 1) % 8)) 3 (min (zI Z 3 + 1) 8), zT Z, zB Z, P, zS Z, zR Z, Q, zL Z, zA Z, zG Z) := by
  obtain ⟨h1, h2, h3, h4, h5⟩ := h
  refine ⟨hP, ?_, ?_, by omega, hc⟩
  · show 0 ≤ uI (uI (zI Z) 2 ((zI Z 2 + 1) % 8)) 3 (min (zI Z 3 + 1) 8) 2 ∧ uI (uI (zI Z) 2 ((zI Z 2 + 1) % 8)) 3 (min (zI Z 3 + 1) 8) 2 < 8
    rw [uI_n (by omega), uI_s]
    omega
  · show 0 ≤ uI (uI (zI Z) 2 ((zI Z 2 + 1) % 8)) 3 (min (zI Z 3 + 1) 8) 3 ∧ uI (uI (zI Z) 2 ((zI Z 2 + 1) % 8)) 3 (min (zI Z 3 + 1) 8) 3 ≤ 8
    rw [uI_s]
    omega
/-- 1 where a loan is open; what a payment to come is; its interest -/
def opz (L : Nat → Int) : Int := if 0 < L 1 then 1 else 0
def apz (L : Nat → Int) (k : Int) : Int := if 0 < runL (k - 1).toNat L 1 then dueL (runL (k - 1).toNat L) else -1
def ipz (L : Nat → Int) (k : Int) : Int := if 0 < runL (k - 1).toNat L 1 then fI (runL (k - 1).toNat L 1) (runL (k - 1).toNat L 2) (runL (k - 1).toNat L 5) else -1
theorem opz_e {L : Nat → Int} {z : Int} (h : (z = 1 ∧ 0 < L 1) ∨ (z = 0 ∧ L 1 ≤ 0)) : z = opz L := by
  unfold opz
  rcases h with ⟨a, b⟩ | ⟨a, b⟩
  · rw [if_pos b]; exact a
  · rw [if_neg (by omega)]; exact a
theorem apz_e {L : Nat → Int} {k z : Int} (h : (0 < (runL (k - 1).toNat L) 1 ∧ z = dueL (runL (k - 1).toNat L)) ∨ ((runL (k - 1).toNat L) 1 ≤ 0 ∧ z = -1)) : z = apz L k := by
  unfold apz
  rcases h with ⟨a, b⟩ | ⟨a, b⟩
  · rw [if_pos a]; exact b
  · rw [if_neg (by omega)]; exact b
theorem ipz_e {L : Nat → Int} {k z : Int} (h : (0 < (runL (k - 1).toNat L) 1 ∧ z = fI ((runL (k - 1).toNat L) 1) ((runL (k - 1).toNat L) 2) ((runL (k - 1).toNat L) 5)) ∨ ((runL (k - 1).toNat L) 1 ≤ 0 ∧ z = -1)) : z = ipz L k := by
  unfold ipz
  rcases h with ⟨a, b⟩ | ⟨a, b⟩
  · rw [if_pos a]; exact b
  · rw [if_neg (by omega)]; exact b
