/-! the class's plan and the reference's row: one and the same, and so after every change -/
theorem redL_x {f g : Nat → Int} {a kp : Int} (e : ∀ k, k < 10 → f k = g k) : redL f a kp = redL g a kp := by
  unfold redL
  rw [e 0 (by omega), e 1 (by omega), e 2 (by omega), e 3 (by omega), e 4 (by omega), e 5 (by omega), e 6 (by omega), e 7 (by omega), e 8 (by omega), e 9 (by omega)]
theorem setL_x {f g : Nat → Int} {r m : Int} (e : ∀ k, k < 10 → f k = g k) : setL f r m = setL g r m := by
  unfold setL
  rw [e 0 (by omega), e 1 (by omega), e 5 (by omega), e 6 (by omega), e 7 (by omega), e 8 (by omega), e 9 (by omega)]
/-- the book -/
def BK (P : PT) (w : Nat → Int) : Prop := (0 ≤ Px P ∧ Px P < 20) ∧ (w 1 = Pk P ∧ 0 ≤ Pk P ∧ Pk P ≤ 20) ∧ ∀ k : Nat, (k : Int) < Pk P → Pa P ((Px P - 1 - k) % 20).toNat = w (2 + 3 * k) ∧ Pb P ((Px P - 1 - k) % 20).toNat = w (3 + 3 * k) ∧ Pd P ((Px P - 1 - k) % 20).toNat = w (4 + 3 * k)
/-- the loans -/
def LN (P : PT) (w : Nat → Int) : Prop := w 0 = Pn P ∧ ∀ i : Nat, (i : Int) < Pn P → ∀ k : Nat, k < 10 → PL P i k = wOf w i k
def PW (P : PT) (w : Nat → Int) : Prop := PI P ∧ WI w ∧ LN P w ∧ BK P w
theorem BK_book {P : PT} {w u : Nat → Int} {lo am it : Int} (h : BK P w) (hu : ∀ j : Nat, j < 62 → u j = wBook w lo am it j) : BK (plBook P lo am it) u := by
  obtain ⟨⟨hx0, hx1⟩, ⟨h1, hk0, hk1⟩, hb⟩ := h
  have hx : Px (plBook P lo am it) = (Px P + 1) % 20 := rfl
  have hk : Pk (plBook P lo am it) = min (Pk P + 1) 20 := rfl
  refine ⟨by rw [hx]; omega, by rw [hu 1 (by omega), hk, wBook_1, h1]; omega, fun k hkk => ?_⟩
  rw [hk] at hkk
  rw [hx]
  show uI (Pa P) (Px P).toNat lo _ = _ ∧ uI (Pb P) (Px P).toNat am _ = _ ∧ uI (Pd P) (Px P).toNat it _ = _
  rw [hu (2 + 3 * k) (by omega), hu (3 + 3 * k) (by omega), hu (4 + 3 * k) (by omega)]
  by_cases hz : k = 0
  · subst hz
    have e : (((Px P + 1) % 20 - 1 - ((0 : Nat) : Int)) % 20).toNat = (Px P).toNat := by omega
    rw [e, uI_s, uI_s, uI_s]
    refine ⟨?_, ?_, ?_⟩
    · show lo = uI (uI (uI (uI (wSh w 2) 2 lo) 3 am) 4 it) 1 _ 2
      rw [uI_n (by omega), uI_n (by omega), uI_n (by omega), uI_s]
    · show am = uI (uI (uI (uI (wSh w 2) 2 lo) 3 am) 4 it) 1 _ 3
      rw [uI_n (by omega), uI_n (by omega), uI_s]
    · show it = uI (uI (uI (uI (wSh w 2) 2 lo) 3 am) 4 it) 1 _ 4
      rw [uI_n (by omega), uI_s]
  · have e : ((Px P + 1) % 20 - 1 - (k : Int)) % 20 = (Px P - 1 - ((k - 1 : Nat) : Int)) % 20 := by omega
    rw [e]
    obtain ⟨b1, b2, b3⟩ := hb (k - 1) (by omega)
    have hne : ((Px P - 1 - ((k - 1 : Nat) : Int)) % 20).toNat ≠ (Px P).toNat := by omega
    rw [uI_n hne, uI_n hne, uI_n hne, b1, b2, b3]
    have hs : ∀ j : Nat, 5 ≤ j → j < 62 → wBook w lo am it j = w (j - 3) := by
      intro j h5 h62
      show uI (uI (uI (uI (wSh w 2) 2 lo) 3 am) 4 it) 1 _ j = _
      rw [uI_n (by omega), uI_n (by omega), uI_n (by omega), uI_n (by omega)]
      exact if_pos (by omega)
    rw [hs _ (by omega) (by omega), hs _ (by omega) (by omega), hs _ (by omega) (by omega)]
    refine ⟨?_, ?_, ?_⟩
    · rw [show 2 + 3 * k - 3 = 2 + 3 * (k - 1) by omega]
    · rw [show 3 + 3 * k - 3 = 3 + 3 * (k - 1) by omega]
    · rw [show 4 + 3 * k - 3 = 4 + 3 * (k - 1) by omega]
theorem BK_n {P : PT} {w u : Nat → Int} (h : BK P w) (hu : ∀ j : Nat, 0 < j → j < 62 → u j = w j) : BK P u := by
  obtain ⟨hx, ⟨h1, hk0, hk1⟩, hb⟩ := h
  refine ⟨hx, ⟨by rw [hu 1 (by omega) (by omega)]; exact h1, hk0, hk1⟩, fun k hk => ?_⟩
  rw [hu _ (by omega) (by omega), hu _ (by omega) (by omega), hu _ (by omega) (by omega)]
  exact hb k hk
theorem LN_one {P : PT} {w v u : Nat → Int} {i : Int} {f g : Nat → Int} (h : LN P w) (hi : 0 ≤ i) (hr : WR v u i f) (hv : ∀ j : Int, 0 ≤ j → ∀ k : Nat, k < 10 → wOf v j k = wOf w j k) (hv0 : v 0 = w 0) (e : ∀ k, k < 10 → g k = f k) : LN (plL P i.toNat g) u := by
  refine ⟨by rw [hr.2.2 0 (by omega), hv0]; exact h.1, fun j hj k hk => ?_⟩
  show uF (PL P) i.toNat g j k = _
  by_cases hji : j = i.toNat
  · subst hji
    rw [uF_s, e k hk, ← hr.1 k hk, show ((i.toNat : Nat) : Int) = i by omega]
  · rw [uF_n hji, hr.2.1 j (by omega) (by omega) k hk, hv j (by omega) k hk]
    exact h.2 j hj k hk
theorem PW_L {P : PT} {w : Nat → Int} (h : PW P w) {i : Int} (h0 : 0 ≤ i) (hi : i < Pn P) : ∀ k, k < 10 → PL P i.toNat k = WL w i k := by
  intro k hk
  have := h.2.2.1.2 i.toNat (by omega) k hk
  rw [this, show ((i.toNat : Nat) : Int) = i by omega]
  rfl
theorem PW_Li {P : PT} {w : Nat → Int} (h : PW P w) {i : Nat} (hi : (i : Int) < Pn P) : ∀ k, k < 10 → PL P i k = WL w i k := h.2.2.1.2 i hi
theorem PW_n {P : PT} {w : Nat → Int} (h : PW P w) : w 0 = Pn P := h.2.2.1.1
theorem PW_pay {P : PT} {w : Nat → Int} {i : Int} (h : PW P w) (h0 : 0 ≤ i) (hi : i < Pn P) (ho : 0 < PL P i.toNat 1) : PW (plPay P i) (wPay w i) := by
  have hL := PW_L h h0 hi
  have hn := PW_n h
  have hLI := h.2.1.2.2 i h0 (by omega)
  have ho2 : 0 < WL w i 1 := by rw [← hL 1 (by omega)]; exact ho
  have hR := wPay_R h0 hLI ho2
  refine ⟨plPay_PI h.1 h0 hi ho, (wPay_WI h.2.1 h0 (by omega) ho2).1, LN_one h.2.2.1 h0 hR (fun j hj k hk => wOf_b hj (by omega)) (wBook_0 _ _ _ _) (fun k _ => by rw [payL_x hL]), ?_⟩
  have hb := BK_book (P := plL P i.toNat (payL (PL P i.toNat))) (lo := i) (am := dueL (WL w i)) (it := fI (WL w i 1) (WL w i 2) (WL w i 5)) h.2.2.2 hR.2.2
  unfold plPay
  rw [dueL_x hL, hL 1 (by omega), hL 2 (by omega), hL 5 (by omega)]
  exact hb
theorem PW_all {P : PT} {w : Nat → Int} (h : PW P w) : ∀ k : Nat, (k : Int) ≤ Pn P → PW (plAll P k) (wAll w k) ∧ plSum P k = wSum w k
  | 0, _ => ⟨h, rfl⟩
  | k + 1, hk => by
    obtain ⟨ih, hs⟩ := PW_all h k (by omega)
    have hn := plAll_n P k
    have e := PW_Li ih (i := k) (by omega)
    have e1 : PL (plAll P k) k 1 = wOf (wAll w k) k 1 := e 1 (by omega)
    show PW (if 0 < PL (plAll P k) k 1 then plPay (plAll P k) k else plAll P k) (if 0 < wOf (wAll w k) k 1 then wPay (wAll w k) k else wAll w k) ∧ (if 0 < PL (plAll P k) k 1 then plSum P k + dueL (PL (plAll P k) k) else plSum P k) = (if 0 < wOf (wAll w k) k 1 then wSum w k + dueL (WL (wAll w k) k) else wSum w k)
    rw [e1]
    by_cases ho : 0 < wOf (wAll w k) k 1
    · rw [if_pos ho, if_pos ho, if_pos ho, if_pos ho, hs, dueL_x e]
      exact ⟨PW_pay ih (by omega) (by omega) (by rw [show ((k : Nat) : Int).toNat = k by omega, e1]; exact ho), rfl⟩
    · rw [if_neg ho, if_neg ho, if_neg ho, if_neg ho]
      exact ⟨ih, hs⟩
theorem PW_red {P : PT} {w : Nat → Int} {i a kp : Int} (h : PW P w) (h0 : 0 ≤ i) (hi : i < Pn P) (ho : 0 < PL P i.toNat 1) (ha : 1 ≤ a) (ha1 : a ≤ PL P i.toNat 1) : PW (plRed P i a kp) (wRed w i a kp) := by
  have hL := PW_L h h0 hi
  have hn := PW_n h
  have hLI := h.2.1.2.2 i h0 (by omega)
  have ho2 : 0 < WL w i 1 := by rw [← hL 1 (by omega)]; exact ho
  have ha2 : a ≤ WL w i 1 := by rw [← hL 1 (by omega)]; exact ha1
  have hR := wRed_R (kp := kp) h0 hLI ho2 ha ha2
  refine ⟨plRed_PI h.1 h0 hi ho ha ha1, (wRed_WI h.2.1 h0 (by omega) ho2 ha ha2).1, LN_one h.2.2.1 h0 hR (fun j hj k hk => wOf_b hj (by omega)) (wBook_0 _ _ _ _) (fun k _ => by rw [redL_x hL]), ?_⟩
  exact BK_book (P := plL P i.toNat (redL (PL P i.toNat) a kp)) h.2.2.2 hR.2.2
theorem PW_one {P : PT} {w u : Nat → Int} {i : Int} {f : Nat → Int} (h : PW P w) (h0 : 0 ≤ i) (hi : i < Pn P) (hR : WR w u i f) (hf : LI f) : PW (plL P i.toNat f) u := by
  have hn := PW_n h
  exact ⟨plL_PI h.1 hf, (WI_n h.2.1 hR hf).1, LN_one h.2.2.1 h0 hR (fun _ _ _ _ => rfl) rfl (fun _ _ => rfl), BK_n h.2.2.2 (fun j _ hj => hR.2.2 j hj)⟩
theorem PW_def {P : PT} {w : Nat → Int} {i : Int} (h : PW P w) (h0 : 0 ≤ i) (hi : i < Pn P) (ho : 0 < PL P i.toNat 1) (hk : PL P i.toNat 9 < 6) (hw : fW (PL P i.toNat 1) (PL P i.toNat 2) (PL P i.toNat 5) ≤ 9999999) : PW (plL P i.toNat (defL (PL P i.toNat))) (wDef w i) := by
  have hR := wDef_R (w := w) (i := i) h0
  rw [← defL_x (PW_L h h0 hi)] at hR
  exact PW_one h h0 hi hR (defL_LI (h.1.2.2.2 _ (by omega)) ho hk hw)
theorem PW_set {P : PT} {w : Nat → Int} {i r m : Int} (h : PW P w) (h0 : 0 ≤ i) (hi : i < Pn P) (ho : 0 < PL P i.toNat 1) (hr : 0 ≤ r ∧ r ≤ 3000) (hm : 1 ≤ m ∧ m ≤ 120) : PW (plL P i.toNat (setL (PL P i.toNat) r m)) (wSet w i r m) := by
  have hR := wSet_R (w := w) (i := i) (r := r) (m := m) h0
  rw [← setL_x (PW_L h h0 hi)] at hR
  exact PW_one h h0 hi hR (setL_LI (h.1.2.2.2 _ (by omega)) ho hr.1 hr.2 hm.1 hm.2)
theorem PW_rate {P : PT} {w : Nat → Int} {i r : Int} (h : PW P w) (h0 : 0 ≤ i) (hi : i < Pn P) (ho : 0 < PL P i.toNat 1) (hr : 0 ≤ r ∧ r ≤ 3000) : PW (plL P i.toNat (setL (PL P i.toNat) r (PL P i.toNat 3))) (wRate w i r) := by
  have hR := wRate_R (w := w) (i := i) (r := r) h0
  have hL := PW_L h h0 hi
  have hLI := h.1.2.2.2 i.toNat (by omega)
  rw [← setL_x hL, ← hL 3 (by omega)] at hR
  exact PW_one h h0 hi hR (setL_LI hLI ho hr.1 hr.2 (hLI.2.2.2.2.2.2.1 ho).1 hLI.2.2.2.1.2)
theorem PW_long {P : PT} {w : Nat → Int} {i m : Int} (h : PW P w) (h0 : 0 ≤ i) (hi : i < Pn P) (ho : 0 < PL P i.toNat 1) (hm : 1 ≤ m) (hm1 : PL P i.toNat 3 + m ≤ 120) : PW (plL P i.toNat (setL (PL P i.toNat) (PL P i.toNat 2) (PL P i.toNat 3 + m))) (wLong w i m) := by
  have hR := wLong_R (w := w) (i := i) (m := m) h0
  have hL := PW_L h h0 hi
  have hLI := h.1.2.2.2 i.toNat (by omega)
  rw [← setL_x hL, ← hL 3 (by omega), ← hL 2 (by omega)] at hR
  exact PW_one h h0 hi hR (setL_LI hLI ho hLI.2.1.1 hLI.2.1.2 (by have := hLI.2.2.2.1.1; omega) hm1)
theorem PW_new {P : PT} {w : Nat → Int} {a r m : Int} (h : PW P w) (hn : Pn P < 6) (ha : 1 ≤ a ∧ a ≤ 9999999) (hr : 0 ≤ r ∧ r ≤ 3000) (hm : 1 ≤ m ∧ m ≤ 120) : PW (plNew P a r m) (wNew w a r m) := by
  have hw0 := PW_n h
  have h0 := h.1.1.1
  obtain ⟨c1, c2, c3, c4⟩ := wNw_R (w := w) (a := a) (r := r) (m := m) (by omega)
  have hc : WR (wNw w a r m) (wNew w a r m) (w 0) (uI (WL (wNw w a r m) (w 0)) 4 (lvl (WL (wNw w a r m) (w 0) 1) (WL (wNw w a r m) (w 0) 2) (WL (wNw w a r m) (w 0) 5) (WL (wNw w a r m) (w 0) 3))) := by
    have q := (WR.rf (wNw w a r m) (w 0)).calc (by omega)
    exact q
  have e1 : ∀ k : Nat, k < 10 → WL (wNw w a r m) (w 0) k = lf a a r m 0 0 0 0 0 0 k := c1
  have hf : ∀ k : Nat, k < 10 → wOf (wNew w a r m) (w 0) k = newL a r m k := by
    intro k hk
    rw [hc.1 k hk, e1 1 (by omega), e1 2 (by omega), e1 5 (by omega), e1 3 (by omega)]
    by_cases h4 : k = 4
    · subst h4; rw [uI_s]; rfl
    · rw [uI_n h4, e1 k hk]
      match k, hk with
      | 0, _ => rfl
      | 1, _ => rfl
      | 2, _ => rfl
      | 3, _ => rfl
      | 4, _ => exact absurd rfl h4
      | 5, _ => rfl
      | 6, _ => rfl
      | 7, _ => rfl
      | 8, _ => rfl
      | 9, _ => rfl
  have hN := newL_LI ha.1 ha.2 hr.1 hr.2 hm.1 hm.2
  have u0 : wNew w a r m 0 = w 0 + 1 := (hc.2.2 0 (by omega)).trans c4
  have uj : ∀ j : Nat, 0 < j → j < 62 → wNew w a r m j = w j := fun j h1 h2 => (hc.2.2 j h2).trans (c3 j h1 h2)
  have uo : ∀ j : Int, 0 ≤ j → j ≠ w 0 → ∀ k : Nat, k < 10 → wOf (wNew w a r m) j k = wOf w j k := fun j h1 h2 k hk => (hc.2.1 j h1 h2 k hk).trans (c2 j h1 h2 k hk)
  refine ⟨?_, ?_, ⟨by rw [u0, hw0]; rfl, fun i hi k hk => ?_⟩, ?_⟩
  · obtain ⟨⟨g0, g1⟩, g2, g3, g4⟩ := h.1
    refine ⟨⟨by show 0 ≤ Pn P + 1; omega, by show Pn P + 1 ≤ 6; omega⟩, g2, g3, fun i hi => ?_⟩
    have hi2 : (i : Int) < Pn P + 1 := hi
    show LI (uF (PL P) (Pn P).toNat (newL a r m) i)
    by_cases e : i = (Pn P).toNat
    · rw [e, uF_s]; exact hN
    · rw [uF_n e]; exact g4 i (by omega)
  · obtain ⟨g0, g1, g2⟩ := h.2.1
    refine ⟨by rw [u0]; omega, by rw [uj 1 (by omega) (by omega)]; exact g1, fun i hi0 hi => ?_⟩
    rw [u0] at hi
    by_cases e : i = w 0
    · subst e; exact LI_ext hN (fun k hk => (hf k hk).symm)
    · exact LI_ext (g2 i hi0 (by omega)) (fun k hk => (uo i hi0 e k hk).symm)
  · have hi2 : (i : Int) < Pn P + 1 := hi
    show uF (PL P) (Pn P).toNat (newL a r m) i k = _
    by_cases e : i = (Pn P).toNat
    · rw [e, uF_s, show (((Pn P).toNat : Nat) : Int) = w 0 by omega]; exact (hf k hk).symm
    · rw [uF_n e, uo i (by omega) (by omega) k hk]
      exact h.2.2.1.2 i (by omega) k hk
  · exact BK_n (P := P) h.2.2.2 uj
theorem PW_cp {P Q : PT} {w : Nat → Int} (h : PW Q w) : PW (cpP P Q) w := by
  refine ⟨cpP_PI h.1, h.2.1, ⟨h.2.2.1.1, fun i hi k hk => ?_⟩, h.2.2.2⟩
  have hi2 : (i : Int) < Pn Q := hi
  show mixL (PL Q) (PL P) (Pn Q).toNat i k = _
  rw [show mixL (PL Q) (PL P) (Pn Q).toNat i = PL Q i from if_pos (by omega)]
  exact h.2.2.1.2 i hi2 k hk
/-- folds over the loans -/
theorem dst_x {f g : Nat → Nat → Int} : ∀ n : Nat, (∀ i, i < n → ∀ k, k < 10 → f i k = g i k) → dst f n = dst g n
  | 0, _ => rfl
  | n + 1, h => by
    have ih := dst_x n (fun i hi => h i (by omega))
    show (if _ then _ else _) = (if _ then _ else _)
    rw [ih, h n (by omega) 1 (by omega), h n (by omega) 2 (by omega)]
    rcases dst_r g n with e | ⟨e1, e2, -⟩
    · rw [e]; simp
    · rw [h (dst g n).toNat (by omega) 2 (by omega)]
theorem sml_x {f g : Nat → Nat → Int} : ∀ n : Nat, (∀ i, i < n → ∀ k, k < 10 → f i k = g i k) → sml f n = sml g n
  | 0, _ => rfl
  | n + 1, h => by
    have ih := sml_x n (fun i hi => h i (by omega))
    show (if _ then _ else _) = (if _ then _ else _)
    rw [ih, h n (by omega) 1 (by omega)]
    rcases sml_r g n with e | ⟨e1, e2, -⟩
    · rw [e]; simp
    · rw [h (sml g n).toNat (by omega) 1 (by omega)]
theorem sumF_x {f g : Nat → Int} : ∀ n : Nat, (∀ i, i < n → f i = g i) → sumF f n = sumF g n
  | 0, _ => rfl
  | n + 1, h => by
    show sumF f n + f n = sumF g n + g n
    rw [sumF_x n (fun i hi => h i (by omega)), h n (by omega)]
theorem PW_e {P : PT} {w : Nat → Int} (h : PW P w) : ∀ i : Nat, i < (Pn P).toNat → ∀ k, k < 10 → PL P i k = LWf w i k := fun i hi k hk => h.2.2.1.2 i (by have := h.1.1.1; omega) k hk
theorem PW_dst {P : PT} {w : Nat → Int} (h : PW P w) : dst (PL P) (Pn P).toNat = dst (LWf w) (w 0).toNat := by rw [PW_n h]; exact dst_x _ (PW_e h)
theorem PW_sml {P : PT} {w : Nat → Int} (h : PW P w) : sml (PL P) (Pn P).toNat = sml (LWf w) (w 0).toNat := by rw [PW_n h]; exact sml_x _ (PW_e h)
theorem PW_cnt {P : PT} {w : Nat → Int} (h : PW P w) : cnt (PL P) (Pn P).toNat = cnt (LWf w) (w 0).toNat := by
  rw [PW_n h]
  exact (cnt_x _ _ _ (fun j hj => by rw [PW_e h j hj 1 (by omega)])).symm
theorem PW_sum {P : PT} {w : Nat → Int} (h : PW P w) (k : Nat) (hk : k < 10) : sumF (fun i => PL P i k) (Pn P).toNat = wFld w k (w 0).toNat := by
  rw [PW_n h]
  exact sumF_x _ (fun i hi => PW_e h i hi k hk)
theorem PW_due {P : PT} {w : Nat → Int} (h : PW P w) : dueS P = wDue w (w 0).toNat := by
  rw [PW_n h]
  exact sumF_x _ (fun i hi => dueL_x (PW_e h i hi))
theorem PW_pick {P : PT} {w : Nat → Int} (y : Int) (h : PW P w) : pickL y P = wTg y w := by
  unfold pickL wTg
  rw [PW_dst h, PW_sml h]
/-- what is left of an amount spent on extra payments -/
noncomputable def wlfF (y : Int) : Nat → (Nat → Int) → Int → Int
  | 0, _, x => x
  | n + 1, w, x => if 0 < x then (if wTg y w = -1 then x else wlfF y n (wRed w (wTg y w) (min x (wOf w (wTg y w) 1)) 0) (x - min x (wOf w (wTg y w) 1))) else x
theorem wlfF_e {y : Int} {n : Nat} {w : Nat → Int} {x : Int} (h : x ≤ 0) : wlfF y n w x = x := by
  cases n with
  | zero => rfl
  | succ n => exact if_neg (by omega)
theorem wlfF_n {y : Int} {n : Nat} {w : Nat → Int} {x : Int} (h : wTg y w = -1) : wlfF y n w x = x := by
  cases n with
  | zero => rfl
  | succ n =>
    show (if 0 < x then (if wTg y w = -1 then x else _) else x) = x
    rw [if_pos h]
    by_cases h0 : 0 < x
    · rw [if_pos h0]
    · rw [if_neg h0]
theorem wlfF_s {y : Int} {n : Nat} {w : Nat → Int} {x a t : Int} (h : 0 < x) (ht : t = wTg y w) (h2 : t ≠ -1) (ha : a = min x (wOf w t 1)) (hn : 1 ≤ n) : wlfF y n w x = wlfF y (n - 1) (wRed w t a 0) (x - a) := by
  obtain ⟨n, rfl⟩ : ∃ k, n = k + 1 := ⟨n - 1, by omega⟩
  subst ht
  subst ha
  show (if 0 < x then (if wTg y w = -1 then x else _) else x) = _
  rw [if_pos h, if_neg h2]
  rfl
theorem PW_sp (y : Int) : ∀ (n : Nat) (P : PT) (w : Nat → Int) (x : Int), PW P w → PW (spF y n P x).1 (wspF y n w x) ∧ (spF y n P x).2 = wlfF y n w x
  | 0, _, _, _, h => ⟨h, rfl⟩
  | n + 1, P, w, x, h => by
    by_cases hx : 0 < x
    · have hp := PW_pick y h
      by_cases h1 : pickL y P = -1
      · rw [spF_n hx h1, wspF_n (by rw [← hp]; exact h1), wlfF_n (by rw [← hp]; exact h1)]
        exact ⟨h, rfl⟩
      · have hr := pickL_r y h.1
        have e1 : PL P (pickL y P).toNat 1 = wOf w (wTg y w) 1 := by
          rw [← hp]
          exact PW_L h (by omega) (by omega) 1 (by omega)
        rw [spF_s hx h1, wspF_s (n := n + 1) (t := pickL y P) (a := min x (PL P (pickL y P).toNat 1)) hx hp h1 (by rw [hp, ← e1, hp]) (by omega), wlfF_s (n := n + 1) (t := pickL y P) (a := min x (PL P (pickL y P).toNat 1)) hx hp h1 (by rw [hp, ← e1, hp]) (by omega)]
        exact PW_sp y n _ _ _ (PW_red h (by omega) (by omega) (by omega) (by omega) (by omega))
    · rw [spF_e (by omega), wspF_e (by omega), wlfF_e (by omega)]
      exact ⟨h, rfl⟩
/-- the sum of what is paid is the sum due -/
theorem wSum_due {w : Nat → Int} (h : WI w) : ∀ k : Nat, (k : Int) ≤ w 0 → wSum w k = wDue w k
  | 0, _ => rfl
  | k + 1, hk => by
    have ih := wSum_due h k (by omega)
    have hA := fun (q : Nat) (hq : q < 10) => (wAll_L h k (by omega) k (by omega) q hq).2 (by omega)
    have hd : dueL (WL (wAll w k) k) = dueL (WL w k) := dueL_x hA
    have ho : wOf (wAll w k) k 1 = wOf w k 1 := hA 1 (by omega)
    show (if 0 < wOf (wAll w k) k 1 then wSum w k + dueL (WL (wAll w k) k) else wSum w k) = wDue w k + dueL (WL w k)
    rw [ih, hd, ho]
    by_cases hp : 0 < wOf w k 1
    · rw [if_pos hp]
    · rw [if_neg hp, dueL_c (h.2.2 k (by omega) (by omega)) (by show wOf w k 1 ≤ 0; omega)]
      omega
theorem PW_bg (bu y : Int) : ∀ (n : Nat) (P : PT) (w : Nat → Int) (mo : Int), PW P w → PW (bgF bu y n P mo).1 (wbF bu y n w mo).1 ∧ (bgF bu y n P mo).2 = (wbF bu y n w mo).2
  | 0, _, _, _, h => ⟨h, rfl⟩
  | n + 1, P, w, mo, h => by
    have hc := PW_cnt h
    have hd := PW_due h
    have hn := PW_n h
    have hPn := h.1.1.1
    by_cases h0 : 0 < cnt (PL P) (Pn P).toNat
    · by_cases h1 : bu < dueS P
      · rw [bgF_n h0 h1, wbF_n (by omega) (by rw [← hc]; exact h0) (by rw [← hd]; exact h1)]
        exact ⟨h, rfl⟩
      · rw [bgF_s h0 (by omega), wbF_s (n := n + 1) (by omega) (by rw [← hc]; exact h0) (by rw [← hd]; omega)]
        have hA := (PW_all h (Pn P).toNat (by omega)).1
        have hs := (PW_sp y 6 _ _ (bu - dueS P) hA).1
        have e : wspF y 6 (wAll w (Pn P).toNat) (bu - dueS P) = wbN bu y w := by
          unfold wbN
          rw [wSum_due h.2.1 _ (by omega), hn, hd, hn]
        rw [e] at hs
        exact PW_bg bu y n _ _ _ hs
    · rw [bgF_e (by omega), wbF_e (by rw [← hc]; omega)]
      exact ⟨h, rfl⟩
