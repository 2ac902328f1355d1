/-! the class's plan and the reference's row: one and the same, and so after every change -/
theorem redL_x {f g : Nat → Int} {a kp : Int} (e : ∀ k, k < 10 → f k = g k) : redL f a kp = redL g a kp := by
  unfold redL
  rw [e 0 (by omega), e 1 (by omega), e 2 (by omega), e 3 (by omega), e 4 (by omega), e 5 (by omega), e 6 (by omega), e 7 (by omega), e 8 (by omega), e 9 (by omega)]
theorem setL_x {f g : Nat → Int} {r m : Int} (e : ∀ k, k < 10 → f k = g k) : setL f r m = setL g r m := by
  unfold setL
  rw [e 0 (by omega), e 1 (by omega), e 5 (by omega), e 6 (by omega), e 7 (by omega), e 8 (by omega), e 9 (by omega)]
/-- the book -/
def BK (P : PT) (w : Nat → Int) : Prop := (0 ≤ Px P ∧ Px P < 20) ∧ (w 1 = Pk P ∧ 0 ≤ Pk P ∧ Pk P ≤ 20) ∧ ∀ k : Nat, (k : Int) < Pk P → Pa P ((Px P - 1 - k) % 20).toNat = w (2 + 3 * k) ∧ Pb P ((Px P - 1 - k) % 20).toNat = w (3 + 3 * k) ∧ Pd P ((Px P - 1 - k) % 20).toNat = w (4 + 3 * k)
/-- the loans -/
def LN (P : PT) (w : Nat → Int) : Prop := w 0 = Pn P ∧ ∀ i : Nat, (i : Int) < Pn P → ∀ k : Nat, k < 10 → PL P i k = wOf w i k
def PW (P : PT) (w : Nat → Int) : Prop := PI P ∧ WI w ∧ LN P w ∧ BK P w
theorem BK_book {P : PT} {w u : Nat → Int} {lo am it : Int} (h : BK P w) (hu : ∀ j : Nat, j < 62 → u j = wBook w lo am it j) : BK (plBook P lo am it) u := by
  obtain ⟨⟨hx0, hx1⟩, ⟨h1, hk0, hk1⟩, hb⟩ := h
  have hx : Px (plBook P lo am it) = (Px P + 1) % 20 := rfl
  have hk : Pk (plBook P lo am it) = min (Pk P + 1) 20 := rfl
  refine ⟨by rw [hx]; omega, by rw [hu 1 (by omega), hk, wBook_1, h1]; omega, fun k hkk => ?_⟩
  rw [hk] at hkk
  rw [hx]
  show uI (Pa P) (Px P).toNat lo _ = _ ∧ uI (Pb P) (Px P).toNat am _ = _ ∧ uI (Pd P) (Px P).toNat it _ = _
  rw [hu (2 + 3 * k) (by omega), hu (3 + 3 * k) (by omega), hu (4 + 3 * k) (by omega)]
  by_cases hz : k = 0
  · subst hz
    have e : (((Px P + 1) % 20 - 1 - ((0 : Nat) : Int)) % 20).toNat = (Px P).toNat := by omega
    rw [e, uI_s, uI_s, uI_s]
    refine ⟨?_, ?_, ?_⟩
    · show lo = uI (uI (uI (uI (wSh w 2) 2 lo) 3 am) 4 it) 1 _ 2
      rw [uI_n (by omega), uI_n (by omega), uI_n (by omega), uI_s]
    · show am = uI (uI (uI (uI (wSh w 2) 2 lo) 3 am) 4 it) 1 _ 3
      rw [uI_n (by omega), uI_n (by omega), uI_s]
    · show it = uI (uI (uI (uI (wSh w 2) 2 lo) 3 am) 4 it) 1 _ 4
      rw [uI_n (by omega), uI_s]
  · have e : ((Px P + 1) % 20 - 1 - (k : Int)) % 20 = (Px P - 1 - ((k - 1 : Nat) : Int)) % 20 := by omega
    rw [e]
    obtain ⟨b1, b2, b3⟩ := hb (k - 1) (by omega)
    have hne : ((Px P - 1 - ((k - 1 : Nat) : Int)) % 20).toNat ≠ (Px P).toNat := by omega
    rw [uI_n hne, uI_n hne, uI_n hne, b1, b2, b3]
    have hs : ∀ j : Nat, 5 ≤ j → j < 62 → wBook w lo am it j = w (j - 3) := by
      intro j h5 h62
      show uI (uI (uI (uI (wSh w 2) 2 lo) 3 am) 4 it) 1 _ j = _
      rw [uI_n (by omega), uI_n (by omega), uI_n (by omega), uI_n (by omega)]
      exact if_pos (by omega)
    rw [hs _ (by omega) (by omega), hs _ (by omega) (by omega), hs _ (by omega) (by omega)]
    refine ⟨?_, ?_, ?_⟩
    · rw [show 2 + 3 * k - 3 = 2 + 3 * (k - 1) by omega]
    · rw [show 3 + 3 * k - 3 = 3 + 3 * (k - 1) by omega]
    · rw [show 4 + 3 * k - 3 = 4 + 3 * (k - 1) by omega]
theorem BK_n {P : PT} {w u : Nat → Int} (h : BK P w) (hu : ∀ j : Nat, 0 < j → j < 62 → u j = w j) : BK P u := by
  obtain ⟨hx, ⟨h1, hk0, hk1⟩, hb⟩ := h
  refine ⟨hx, ⟨by rw [hu 1 (by omega) (by omega)]; exact h1, hk0, hk1⟩, fun k hk => ?_⟩
  rw [hu _ (by omega) (by omega), hu _ (by omega) (by omega), hu _ (by omega) (by omega)]
  exact hb k hk
theorem LN_one {P : PT} {w v u : Nat → Int} {i : Int} {f g : Nat → Int} (h : LN P w) (hi : 0 ≤ i) (hr : WR v u i f) (hv : ∀ j : Int, 0 ≤ j → ∀ k : Nat, k < 10 → wOf v j k = wOf w j k) (hv0 : v 0 = w 0) (e : ∀ k, k < 10 → g k = f k) : LN (plL P i.toNat g) u := by
  refine ⟨by rw [hr.2.2 0 (by omega), hv0]; exact h.1, fun j hj k hk => ?_⟩
  show uF (PL P) i.toNat g j k = _
  by_cases hji : j = i.toNat
  · subst hji
    rw [uF_s, e k hk, ← hr.1 k hk, show ((i.toNat : Nat) : Int) = i by omega]
  · rw [uF_n hji, hr.2.1 j (by omega) (by omega) k hk, hv j (by omega) k hk]
    exact h.2 j hj k hk
theorem PW_L {P : PT} {w : Nat → Int} (h : PW P w) {i : Int} (h0 : 0 ≤ i) (hi : i < Pn P) : ∀ k, k < 10 → PL P i.toNat k = WL w i k := by
  intro k hk
  have := h.2.2.1.2 i.toNat (by omega) k hk
  rw [this, show ((i.toNat : Nat) : Int) = i by omega]
  rfl
theorem PW_Li {P : PT} {w : Nat → Int} (h : PW P w) {i : Nat} (hi : (i : Int) < Pn P) : ∀ k, k < 10 → PL P i k = WL w i k := h.2.2.1.2 i hi
theorem PW_n {P : PT} {w : Nat → Int} (h : PW P w) : w 0 = Pn P := h.2.2.1.1
theorem PW_pay {P : PT} {w : Nat → Int} {i : Int} (h : PW P w) (h0 : 0 ≤ i) (hi : i < Pn P) (ho : 0 < PL P i.toNat 1) : PW (plPay P i) (wPay w i) := by
  have hL := PW_L h h0 hi
  have hn := PW_n h
  have hLI := h.2.1.2.2 i h0 (by omega)
  have ho2 : 0 < WL w i 1 := by rw [← hL 1 (by omega)]; exact ho
  have hR := wPay_R h0 hLI ho2
  refine ⟨plPay_PI h.1 h0 hi ho, (wPay_WI h.2.1 h0 (by omega) ho2).1, LN_one h.2.2.1 h0 hR (fun j hj k hk => wOf_b hj (by omega)) (wBook_0 _ _ _ _) (fun k _ => by rw [payL_x hL]), ?_⟩
  have hb := BK_book (P := plL P i.toNat (payL (PL P i.toNat))) (lo := i) (am := dueL (WL w i)) (it := fI (WL w i 1) (WL w i 2) (WL w i 5)) h.2.2.2 hR.2.2
  unfold plPay
  rw [dueL_x hL, hL 1 (by omega), hL 2 (by omega), hL 5 (by omega)]
  exact hb
theorem PW_all {P : PT} {w : Nat → Int} (h : PW P w) : ∀ k : Nat, (k : Int) ≤ Pn P → PW (plAll P k) (wAll w k) ∧ plSum P k = wSum w k
  | 0, _ => ⟨h, rfl⟩
  | k + 1, hk => by
    obtain ⟨ih, hs⟩ := PW_all h k (by omega)
    have hn := plAll_n P k
    have e := PW_Li ih (i := k) (by omega)
    have e1 : PL (plAll P k) k 1 = wOf (wAll w k) k 1 := e 1 (by omega)
    show PW (if 0 < PL (plAll P k) k 1 then plPay (plAll P k) k else plAll P k) (if 0 < wOf (wAll w k) k 1 then wPay (wAll w k) k else wAll w k) ∧ (if 0 < PL (plAll P k) k 1 then plSum P k + dueL (PL (plAll P k) k) else plSum P k) = (if 0 < wOf (wAll w k) k 1 then wSum w k + dueL (WL (wAll w k) k) else wSum w k)
    rw [e1]
    by_cases ho : 0 < wOf (wAll w k) k 1
    · rw [if_pos ho, if_pos ho, if_pos ho, if_pos ho, hs, dueL_x e]
      exact ⟨PW_pay ih (by omega) (by omega) (by rw [show ((k : Nat) : Int).toNat = k by omega, e1]; exact ho), rfl⟩
    · rw [if_neg ho, if_neg ho, if_neg ho, if_neg ho]
      exact ⟨ih, hs⟩
theorem PW_red {P : PT} {w : Nat → Int} {i a kp : Int} (h : PW P w) (h0 : 0 ≤ i) (hi : i < Pn P) (ho : 0 < PL P i.toNat 1) (ha : 1 ≤ a) (ha1 : a ≤ PL P i.toNat 1) : PW (plRed P i a kp) (wRed w i a kp) := by
  have hL := PW_L h h0 hi
  have hn := PW_n h
  have hLI := h.2.1.2.2 i h0 (by omega)
  have ho2 : 0 < WL w i 1 := by rw [← hL 1 (by omega)]; exact ho
  have ha2 : a ≤ WL w i 1 := by rw [← hL 1 (by omega)]; exact ha1
  have hR := wRed_R (kp := kp) h0 hLI ho2 ha ha2
  refine ⟨plRed_PI h.1 h0 hi ho ha ha1, (wRed_WI h.2.1 h0 (by omega) ho2 ha ha2).1, LN_one h.2.2.1 h0 hR (fun j hj k hk => wOf_b hj (by omega)) (wBook_0 _ _ _ _) (fun k _ => by rw [redL_x hL]), ?_⟩
  exact BK_book (P := plL P i.toNat (redL (PL P i.toNat) a kp)) h.2.2.2 hR.2.2
theorem PW_one {P : PT} {w u : Nat → Int} {i : Int} {f : Nat → Int} (h : PW P w) (h0 : 0 ≤ i) (hi : i < Pn P) (hR : WR w u i f) (hf : LI f) : PW (plL P i.toNat f) u := by
  have hn := PW_n h
  exact ⟨plL_PI h.1 hf, (WI_n h.2.1 hR hf).1, LN_one h.2.2.1 h0 hR (fun _ _ _ _ => rfl) rfl (fun _ _ => rfl), BK_n h.2.2.2 (fun j _ hj => hR.2.2 j hj)⟩
theorem PW_def {P : PT} {w : Nat → Int} {i : Int} (h : PW P w) (h0 : 0 ≤ i) (hi : i < Pn P) (ho : 0 < PL P i.toNat 1) (hk : PL P i.toNat 9 < 6) (hw : fW (PL P i.toNat 1) (PL P i.toNat 2) (PL P i.toNat 5) ≤ 9999999) : PW (plL P i.toNat (defL (PL P i.toNat))) (wDef w i) := by
  have hR := wDef_R (w := w) (i := i) h0
  rw [← defL_x (PW_L h h0 hi)] at hR
  exact PW_one h h0 hi hR (defL_LI (h.1.2.2.2 _ (by omega)) ho hk hw)
theorem PW_rate {P : PT} {w : Nat → Int} {i r : Int} (h : PW P w) (h0 : 0 ≤ i) (hi : i < Pn P) (ho : 0 < PL P i.toNat 1) (hr : 0 ≤ r ∧ r ≤ 3000) : PW (plL P i.toNat (setL (PL P i.toNat) r (PL P i.toNat 3))) (wRate w i r) := by
  have hR := wRate_R (w := w) (i := i) (r := r) h0
  have hL := PW_L h h0 hi
  have hLI := h.1.2.2.2 i.toNat (by omega)
  rw [← setL_x hL, ← hL 3 (by omega)] at hR
  exact PW_one h h0 hi hR (setL_LI hLI ho hr.1 hr.2 (hLI.2.2.2.2.2.2.1 ho).1 hLI.2.2.2.1.2)
theorem PW_long {P : PT} {w : Nat → Int} {i m : Int} (h : PW P w) (h0 : 0 ≤ i) (hi : i < Pn P) (ho : 0 < PL P i.toNat 1) (hm : 1 ≤ m) (hm1 : PL P i.toNat 3 + m ≤ 120) : PW (plL P i.toNat (setL (PL P i.toNat) (PL P i.toNat 2) (PL P i.toNat 3 + m))) (wLong w i m) := by
  have hR := wLong_R (w := w) (i := i) (m := m) h0
  have hL := PW_L h h0 hi
  have hLI := h.1.2.2.2 i.toNat (by omega)
  rw [← setL_x hL, ← hL 3 (by omega), ← hL 2 (by omega)] at hR
  exact PW_one h h0 hi hR (setL_LI hLI ho hLI.2.1.1 hLI.2.1.2 (by have := hLI.2.2.2.1.1; omega) hm1)
theorem PW_new {P : PT} {w : Nat → Int} {a r m : Int} (h : PW P w) (hn : Pn P < 6) (ha : 1 ≤ a ∧ a ≤ 9999999) (hr : 0 ≤ r ∧ r ≤ 3000) (hm : 1 ≤ m ∧ m ≤ 120) : PW (plNew P a r m) (wNew w a r m) := by
  have hw0 := PW_n h
  have h0 := h.1.1.1
  obtain ⟨c1, c2, c3, c4⟩ := wNw_R (w := w) (a := a) (r := r) (m := m) (by omega)
  have hc : WR (wNw w a r m) (wNew w a r m) (w 0) (uI (WL (wNw w a r m) (w 0)) 4 (lvl (WL (wNw w a r m) (w 0) 1) (WL (wNw w a r m) (w 0) 2) (WL (wNw w a r m) (w 0) 5) (WL (wNw w a r m) (w 0) 3))) := by
    have q := (WR.rf (wNw w a r m) (w 0)).calc (by omega)
    exact q
  have e1 : ∀ k : Nat, k < 10 → WL (wNw w a r m) (w 0) k = lf a a r m 0 0 0 0 0 0 k := c1
  have hf : ∀ k : Nat, k < 10 → wOf (wNew w a r m) (w 0) k = newL a r m k := by
    intro k hk
    rw [hc.1 k hk, e1 1 (by omega), e1 2 (by omega), e1 5 (by omega), e1 3 (by omega)]
    by_cases h4 : k = 4
    · subst h4; rw [uI_s]; rfl
    · rw [uI_n h4, e1 k hk]
      match k, hk with
      | 0, _ => rfl
      | 1, _ => rfl
      | 2, _ => rfl
      | 3, _ => rfl
      | 4, _ => exact absurd rfl h4
      | 5, _ => rfl
      | 6, _ => rfl
      | 7, _ => rfl
      | 8, _ => rfl
      | 9, _ => rfl
  have hN := newL_LI ha.1 ha.2 hr.1 hr.2 hm.1 hm.2
  have u0 : wNew w a r m 0 = w 0 + 1 := (hc.2.2 0 (by omega)).trans c4
  have uj : ∀ j : Nat, 0 < j → j < 62 → wNew w a r m j = w j := fun j h1 h2 => (hc.2.2 j h2).trans (c3 j h1 h2)
  have uo : ∀ j : Int, 0 ≤ j → j ≠ w 0 → ∀ k : Nat, k < 10 → wOf (wNew w a r m) j k = wOf w j k := fun j h1 h2 k hk => (hc.2.1 j h1 h2 k hk).trans (c2 j h1 h2 k hk)
  refine ⟨?_, ?_, ⟨by rw [u0, hw0]; rfl, fun i hi k hk => ?_⟩, ?_⟩
  · obtain ⟨⟨g0, g1⟩, g2, g3, g4⟩ := h.1
    refine ⟨⟨by show 0 ≤ Pn P + 1; omega, by show Pn P + 1 ≤ 6; omega⟩, g2, g3, fun i hi => ?_⟩
    have hi2 : (i : Int) < Pn P + 1 := hi
    show LI (uF (PL P) (Pn P).toNat (newL a r m) i)
    by_cases e : i = (Pn P).toNat
    · rw [e, uF_s]; exact hN
    · rw [uF_n e]; exact g4 i (by omega)
  · obtain ⟨g0, g1, g2⟩ := h.2.1
    refine ⟨by rw [u0]; omega, by rw [uj 1 (by omega) (by omega)]; exact g1, fun i hi0 hi => ?_⟩
    rw [u0] at hi
    by_cases e : i = w 0
    · subst e; exact LI_ext hN (fun k hk => (hf k hk).symm)
    · exact LI_ext (g2 i hi0 (by omega)) (fun k hk => (uo i hi0 e k hk).symm)
  · have hi2 : (i : Int) < Pn P + 1 := hi
    show uF (PL P) (Pn P).toNat (newL a r m) i k = _
    by_cases e : i = (Pn P).toNat
    · rw [e, uF_s, show (((Pn P).toNat : Nat) : Int) = w 0 by omega]; exact (hf k hk).symm
    · rw [uF_n e, uo i (by omega) (by omega) k hk]
      exact h.2.2.1.2 i (by omega) k hk
  · exact BK_n (P := P) h.2.2.2 uj
