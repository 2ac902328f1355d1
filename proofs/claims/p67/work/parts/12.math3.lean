/-! a plan: count, loans, the book's ring (next, kept, loans, amounts, interests) -/
abbrev PT : Type := Int × (Nat → Nat → Int) × Int × Int × (Nat → Int) × (Nat → Int) × (Nat → Int)
abbrev Pn (P : PT) : Int := P.1
abbrev PL (P : PT) : Nat → Nat → Int := P.2.1
abbrev Px (P : PT) : Int := P.2.2.1
abbrev Pk (P : PT) : Int := P.2.2.2.1
abbrev Pa (P : PT) : Nat → Int := P.2.2.2.2.1
abbrev Pb (P : PT) : Nat → Int := P.2.2.2.2.2.1
abbrev Pd (P : PT) : Nat → Int := P.2.2.2.2.2.2
def PI (P : PT) : Prop := (0 ≤ Pn P ∧ Pn P ≤ 6) ∧ (0 ≤ Px P ∧ Px P < 20) ∧ (0 ≤ Pk P ∧ Pk P ≤ 20) ∧ ∀ i : Nat, (i : Int) < Pn P → LI (PL P i)
def plBook (P : PT) (lo am it : Int) : PT := (Pn P, PL P, (Px P + 1) % 20, min (Pk P + 1) 20, uI (Pa P) (Px P).toNat lo, uI (Pb P) (Px P).toNat am, uI (Pd P) (Px P).toNat it)
def plL (P : PT) (i : Nat) (f : Nat → Int) : PT := (Pn P, uF (PL P) i f, Px P, Pk P, Pa P, Pb P, Pd P)
theorem plBook_PI {P : PT} {lo am it : Int} (h : PI P) : PI (plBook P lo am it) := by
  obtain ⟨h1, h2, h3, h4⟩ := h
  exact ⟨h1, by show 0 ≤ (Px P + 1) % 20 ∧ (Px P + 1) % 20 < 20; omega, by show 0 ≤ min (Pk P + 1) 20 ∧ min (Pk P + 1) 20 ≤ 20; omega, h4⟩
theorem plL_PI {P : PT} {i : Nat} {f : Nat → Int} (h : PI P) (hf : LI f) : PI (plL P i f) := by
  obtain ⟨h1, h2, h3, h4⟩ := h
  refine ⟨h1, h2, h3, fun j hj => ?_⟩
  show LI (uF (PL P) i f j)
  by_cases e : j = i
  · rw [e, uF_s]; exact hf
  · rw [uF_n e]; exact h4 j hj
/-- a payment of the loan i -/
def plPay (P : PT) (i : Int) : PT := plBook (plL P i.toNat (payL (PL P i.toNat))) i (dueL (PL P i.toNat)) (fI (PL P i.toNat 1) (PL P i.toNat 2) (PL P i.toNat 5))
theorem plPay_PI {P : PT} {i : Int} (h : PI P) (h0 : 0 ≤ i) (hi : i < Pn P) (ho : 0 < PL P i.toNat 1) : PI (plPay P i) := plBook_PI (plL_PI h (payL_LI (h.2.2.2 _ (by omega)) ho))
/-- payments of the first k loans, and their sum -/
def plAll (P : PT) : Nat → PT
  | 0 => P
  | k + 1 => if 0 < PL (plAll P k) k 1 then plPay (plAll P k) k else plAll P k
def plSum (P : PT) : Nat → Int
  | 0 => 0
  | k + 1 => if 0 < PL (plAll P k) k 1 then plSum P k + dueL (PL (plAll P k) k) else plSum P k
theorem plAll_n (P : PT) : ∀ k, Pn (plAll P k) = Pn P
  | 0 => rfl
  | k + 1 => by
    show Pn (if _ then _ else _) = _
    by_cases h : 0 < PL (plAll P k) k 1
    · rw [if_pos h]; exact plAll_n P k
    · rw [if_neg h]; exact plAll_n P k
theorem plAll_PI {P : PT} (h : PI P) : ∀ k : Nat, (k : Int) ≤ Pn P → PI (plAll P k)
  | 0, _ => h
  | k + 1, hk => by
    have ih := plAll_PI h k (by omega)
    have hn := plAll_n P k
    show PI (if _ then _ else _)
    by_cases h1 : 0 < PL (plAll P k) k 1
    · rw [if_pos h1]; exact plPay_PI ih (by omega) (by omega) (by rw [Int.toNat_natCast]; exact h1)
    · rw [if_neg h1]; exact ih
noncomputable def plRed (P : PT) (i a kp : Int) : PT := plBook (plL P i.toNat (redL (PL P i.toNat) a kp)) i a 0
noncomputable def plNew (P : PT) (a r m : Int) : PT := (Pn P + 1, uF (PL P) (Pn P).toNat (newL a r m), Px P, Pk P, Pa P, Pb P, Pd P)
/-- the dearest and the smallest open loan of the first k -/
def dst (L : Nat → Nat → Int) : Nat → Int
  | 0 => -1
  | k + 1 => if 0 < L k 1 ∧ (dst L k = -1 ∨ L (dst L k).toNat 2 < L k 2) then k else dst L k
def sml (L : Nat → Nat → Int) : Nat → Int
  | 0 => -1
  | k + 1 => if 0 < L k 1 ∧ (sml L k = -1 ∨ L k 1 < L (sml L k).toNat 1) then k else sml L k
def cnt (L : Nat → Nat → Int) : Nat → Int
  | 0 => 0
  | k + 1 => if 0 < L k 1 then cnt L k + 1 else cnt L k
/-- the amount due, 0 of a closed loan -/
def sumF (f : Nat → Int) : Nat → Int
  | 0 => 0
  | k + 1 => sumF f k + f k
theorem dst_r (L : Nat → Nat → Int) : ∀ k, (dst L k = -1 ∨ (0 ≤ dst L k ∧ dst L k < k ∧ 0 < L (dst L k).toNat 1))
  | 0 => Or.inl rfl
  | k + 1 => by
    have ih := dst_r L k
    by_cases h : 0 < L k 1 ∧ (dst L k = -1 ∨ L (dst L k).toNat 2 < L k 2)
    · have e : dst L (k + 1) = k := if_pos h
      rw [e, Int.toNat_natCast]
      exact Or.inr ⟨by omega, by omega, h.1⟩
    · have e : dst L (k + 1) = dst L k := if_neg h
      rw [e]
      rcases ih with h | h
      · exact Or.inl h
      · exact Or.inr ⟨h.1, by omega, h.2.2⟩
theorem sml_r (L : Nat → Nat → Int) : ∀ k, (sml L k = -1 ∨ (0 ≤ sml L k ∧ sml L k < k ∧ 0 < L (sml L k).toNat 1))
  | 0 => Or.inl rfl
  | k + 1 => by
    have ih := sml_r L k
    by_cases h : 0 < L k 1 ∧ (sml L k = -1 ∨ L k 1 < L (sml L k).toNat 1)
    · have e : sml L (k + 1) = k := if_pos h
      rw [e, Int.toNat_natCast]
      exact Or.inr ⟨by omega, by omega, h.1⟩
    · have e : sml L (k + 1) = sml L k := if_neg h
      rw [e]
      rcases ih with h | h
      · exact Or.inl h
      · exact Or.inr ⟨h.1, by omega, h.2.2⟩
theorem dst_y {L : Nat → Nat → Int} {k : Nat} {f : Int} (hf : f = dst L k) (h : 0 < L k 1) (h2 : f = -1 ∨ L f.toNat 2 < L k 2) : dst L (k + 1) = k := by
  subst hf
  exact if_pos ⟨h, h2⟩
theorem dst_n {L : Nat → Nat → Int} {k : Nat} {f : Int} (hf : f = dst L k) (h : ¬ (0 < L k 1 ∧ (f = -1 ∨ L f.toNat 2 < L k 2))) : dst L (k + 1) = f := by
  subst hf
  exact if_neg h
theorem sml_y {L : Nat → Nat → Int} {k : Nat} {f : Int} (hf : f = sml L k) (h : 0 < L k 1) (h2 : f = -1 ∨ L k 1 < L f.toNat 1) : sml L (k + 1) = k := by
  subst hf
  exact if_pos ⟨h, h2⟩
theorem sml_n {L : Nat → Nat → Int} {k : Nat} {f : Int} (hf : f = sml L k) (h : ¬ (0 < L k 1 ∧ (f = -1 ∨ L k 1 < L f.toNat 1))) : sml L (k + 1) = f := by
  subst hf
  exact if_neg h
theorem cnt_y {L : Nat → Nat → Int} {i : Int} (h0 : 0 ≤ i) (h : 0 < L i.toNat 1) : cnt L (i + 1).toNat = cnt L i.toNat + 1 := by
  rw [show (i + 1).toNat = i.toNat + 1 by omega]
  exact if_pos h
theorem cnt_n {L : Nat → Nat → Int} {i : Int} (h0 : 0 ≤ i) (h : L i.toNat 1 ≤ 0) : cnt L (i + 1).toNat = cnt L i.toNat := by
  rw [show (i + 1).toNat = i.toNat + 1 by omega]
  exact if_neg (by omega)
theorem cnt_r (L : Nat → Nat → Int) : ∀ k, 0 ≤ cnt L k ∧ cnt L k ≤ k
  | 0 => ⟨Int.le_refl 0, Int.le_refl 0⟩
  | k + 1 => by
    have ih := cnt_r L k
    by_cases h : 0 < L k 1
    · rw [show cnt L (k + 1) = cnt L k + 1 from if_pos h]; omega
    · rw [show cnt L (k + 1) = cnt L k from if_neg h]; omega
theorem sumF_s {f : Nat → Int} {i : Int} (h0 : 0 ≤ i) : sumF f (i + 1).toNat = sumF f i.toNat + f i.toNat := by
  rw [show (i + 1).toNat = i.toNat + 1 by omega]; rfl
theorem sumF_r {f : Nat → Int} {B : Int} : ∀ k : Nat, (∀ i : Nat, i < k → 0 ≤ f i ∧ f i ≤ B) → 0 ≤ sumF f k ∧ sumF f k ≤ B * k
  | 0, _ => by show (0:Int) ≤ 0 ∧ (0:Int) ≤ B * 0; omega
  | k + 1, h => by
    have ih := sumF_r k (fun i hi => h i (by omega))
    have := h k (by omega)
    show 0 ≤ sumF f k + f k ∧ sumF f k + f k ≤ B * ((k : Int) + 1)
    rw [Int.mul_add]
    omega
theorem dueL_r {L : Nat → Int} (h : LI L) : 0 ≤ dueL L ∧ dueL L ≤ 10249999 ∧ fW (L 1) (L 2) (L 5) ≤ 10249999 := by
  have hc := @payL_cases L h
  obtain ⟨h1, h2, h5, h3, h4, h9, ho1, hcl⟩ := h
  have hf := fI_r h1.1 h2.1 h2.2 h5.1 h5.2
  have e : fW (L 1) (L 2) (L 5) = L 1 + fI (L 1) (L 2) (L 5) := rfl
  by_cases ho : 0 < L 1
  · rcases hc ho with h | h <;> omega
  · have z := hcl (by omega)
    have : fI (L 1) (L 2) (L 5) = 0 := by
      unfold fI
      rw [show L 1 = 0 by omega, z.2.2, Int.zero_mul]
      rfl
    have : dueL L = fW (L 1) (L 2) (L 5) := fD_w (Or.inl (by omega))
    omega
theorem plAll_y {P Q : PT} {i : Int} (h0 : 0 ≤ i) (h : Q = plAll P i.toNat) (ho : 0 < PL Q i.toNat 1) : plPay Q i = plAll P (i + 1).toNat := by
  subst h
  rw [show (i + 1).toNat = i.toNat + 1 by omega]
  show _ = (if _ then _ else _)
  rw [if_pos ho, Int.toNat_of_nonneg h0]
theorem plAll_no {P Q : PT} {i : Int} (h0 : 0 ≤ i) (h : Q = plAll P i.toNat) (ho : PL Q i.toNat 1 ≤ 0) : Q = plAll P (i + 1).toNat := by
  subst h
  rw [show (i + 1).toNat = i.toNat + 1 by omega]
  show _ = (if _ then _ else _)
  rw [if_neg (by omega)]
theorem plSum_y {P Q : PT} {i x : Int} (h0 : 0 ≤ i) (h : Q = plAll P i.toNat) (hx : x = plSum P i.toNat) (ho : 0 < PL Q i.toNat 1) : x + dueL (PL Q i.toNat) = plSum P (i + 1).toNat := by
  subst h
  subst hx
  rw [show (i + 1).toNat = i.toNat + 1 by omega]
  exact (if_pos ho).symm
theorem plSum_no {P Q : PT} {i x : Int} (h0 : 0 ≤ i) (h : Q = plAll P i.toNat) (hx : x = plSum P i.toNat) (ho : PL Q i.toNat 1 ≤ 0) : x = plSum P (i + 1).toNat := by
  subst h
  subst hx
  rw [show (i + 1).toNat = i.toNat + 1 by omega]
  exact (if_neg (by omega)).symm
theorem plRed_PI {P : PT} {i a kp : Int} (h : PI P) (h0 : 0 ≤ i) (hi : i < Pn P) (ho : 0 < PL P i.toNat 1) (ha : 1 ≤ a) (ha1 : a ≤ PL P i.toNat 1) : PI (plRed P i a kp) := plBook_PI (plL_PI h (redL_LI (h.2.2.2 _ (by omega)) ho ha ha1))
/-- the loan that an extra payment goes to, and what is spent: n times at most -/
def pickL (y : Int) (P : PT) : Int := if y = 0 then sml (PL P) (Pn P).toNat else dst (PL P) (Pn P).toNat
theorem pickL_r (y : Int) {P : PT} (h : PI P) : pickL y P = -1 ∨ (0 ≤ pickL y P ∧ pickL y P < Pn P ∧ 0 < PL P (pickL y P).toNat 1) := by
  have h1 := sml_r (PL P) (Pn P).toNat
  have h2 := dst_r (PL P) (Pn P).toNat
  have := h.1.1
  unfold pickL
  by_cases e : y = 0
  · rw [if_pos e]; omega
  · rw [if_neg e]; omega
noncomputable def spF (y : Int) : Nat → PT → Int → PT × Int
  | 0, P, x => (P, x)
  | k + 1, P, x => if 0 < x then (if pickL y P = -1 then (P, x) else spF y k (plRed P (pickL y P) (min x (PL P (pickL y P).toNat 1)) 0) (x - min x (PL P (pickL y P).toNat 1))) else (P, x)
theorem spF_e {y : Int} {k : Nat} {P : PT} {x : Int} (h : x ≤ 0) : spF y k P x = (P, x) := by
  cases k with
  | zero => rfl
  | succ k => exact if_neg (by omega)
theorem spF_n {y : Int} {k : Nat} {P : PT} {x : Int} (h : 0 < x) (h2 : pickL y P = -1) : spF y (k + 1) P x = (P, x) := by
  show (if _ then (if _ then _ else _) else _) = _
  rw [if_pos h, if_pos h2]
theorem spF_s {y : Int} {k : Nat} {P : PT} {x : Int} (h : 0 < x) (h2 : pickL y P ≠ -1) : spF y (k + 1) P x = spF y k (plRed P (pickL y P) (min x (PL P (pickL y P).toNat 1)) 0) (x - min x (PL P (pickL y P).toNat 1)) := by
  show (if _ then (if _ then _ else _) else _) = _
  rw [if_pos h, if_neg h2]
theorem spF_PI {y : Int} : ∀ (k : Nat) (P : PT) (x : Int), PI P → PI (spF y k P x).1 ∧ Pn (spF y k P x).1 = Pn P
  | 0, P, x, h => ⟨h, rfl⟩
  | k + 1, P, x, h => by
    by_cases h1 : 0 < x
    · by_cases h2 : pickL y P = -1
      · rw [spF_n h1 h2]; exact ⟨h, rfl⟩
      · rw [spF_s h1 h2]
        have hp := pickL_r y h
        exact spF_PI k _ _ (plRed_PI h (by omega) (by omega) (by omega) (by omega) (by omega))
    · rw [spF_e (by omega)]; exact ⟨h, rfl⟩
/-- the sum of the amounts due -/
def dueS (P : PT) : Int := sumF (fun i => dueL (PL P i)) (Pn P).toNat
theorem dueS_r {P : PT} (h : PI P) : 0 ≤ dueS P ∧ dueS P ≤ 61499994 := by
  have := sumF_r (f := fun i => dueL (PL P i)) (B := 10249999) (Pn P).toNat (fun i hi => ⟨(dueL_r (h.2.2.2 i (by omega))).1, (dueL_r (h.2.2.2 i (by omega))).2.1⟩)
  have h1 := h.1
  unfold dueS
  omega
noncomputable def bgF (bu y : Int) : Nat → PT → Int → PT × Int
  | 0, P, mo => (P, mo)
  | k + 1, P, mo => if 0 < cnt (PL P) (Pn P).toNat then (if bu < dueS P then (P, -1) else bgF bu y k (spF y 6 (plAll P (Pn P).toNat) (bu - dueS P)).1 (mo + 1)) else (P, mo)
theorem bgF_e {bu y : Int} {k : Nat} {P : PT} {mo : Int} (h : cnt (PL P) (Pn P).toNat ≤ 0) : bgF bu y k P mo = (P, mo) := by
  cases k with
  | zero => rfl
  | succ k => exact if_neg (by omega)
theorem bgF_n {bu y : Int} {k : Nat} {P : PT} {mo : Int} (h : 0 < cnt (PL P) (Pn P).toNat) (h2 : bu < dueS P) : bgF bu y (k + 1) P mo = (P, -1) := by
  show (if _ then (if _ then _ else _) else _) = _
  rw [if_pos h, if_pos h2]
theorem bgF_s {bu y : Int} {k : Nat} {P : PT} {mo : Int} (h : 0 < cnt (PL P) (Pn P).toNat) (h2 : dueS P ≤ bu) : bgF bu y (k + 1) P mo = bgF bu y k (spF y 6 (plAll P (Pn P).toNat) (bu - dueS P)).1 (mo + 1) := by
  show (if _ then (if _ then _ else _) else _) = _
  rw [if_pos h, if_neg (by omega)]
/-- n loans of M, the others as they were -/
def mixL (M L : Nat → Nat → Int) (n : Nat) : Nat → Nat → Int := fun i => if i < n then M i else L i
theorem mixL_0 (M L : Nat → Nat → Int) : mixL M L 0 = L := by funext i; exact if_neg (by omega)
theorem mixL_s (M L : Nat → Nat → Int) (n : Nat) : uF (mixL M L n) n (M n) = mixL M L (n + 1) := by
  funext i
  by_cases h : i = n
  · rw [h, uF_s]; exact (if_pos (by omega)).symm
  · rw [uF_n h]
    unfold mixL
    by_cases h2 : i < n
    · rw [if_pos h2, if_pos (by omega)]
    · rw [if_neg h2, if_neg (by omega)]
/-- a plan copied over another -/
def cpP (P Q : PT) : PT := (Pn Q, mixL (PL Q) (PL P) (Pn Q).toNat, Px Q, Pk Q, Pa Q, Pb Q, Pd Q)
theorem cpP_PI {P Q : PT} (h : PI Q) : PI (cpP P Q) := by
  obtain ⟨h1, h2, h3, h4⟩ := h
  refine ⟨h1, h2, h3, fun i hi => ?_⟩
  have hi : (i : Int) < Pn Q := hi
  show LI (mixL (PL Q) (PL P) (Pn Q).toNat i)
  rw [show mixL (PL Q) (PL P) (Pn Q).toNat i = PL Q i from if_pos (by omega)]
  exact h4 i hi
