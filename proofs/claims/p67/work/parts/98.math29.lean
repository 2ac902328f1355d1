/-! the tokens of a text, as functions -/
def toB (T : Nat → Int) (n p : Int) : Int := spE pSp T n p
def toE (T : Nat → Int) (n p : Int) : Int := if toB T n p < n then (if pLe (T (toB T n p).toNat) then spE pLe T n (toB T n p) else if pDi (T (toB T n p).toNat) then spE pDi T n (toB T n p) else toB T n p + 1) else toB T n p
def toK (T : Nat → Int) (n p : Int) : Int := if toB T n p < n then (if pLe (T (toB T n p).toNat) then 1 else if pDi (T (toB T n p).toNat) then (if 7 < toE T n p - toB T n p then 4 else 2) else if T (toB T n p).toNat = 59 ∨ T (toB T n p).toNat = 40 ∨ T (toB T n p).toNat = 41 then 3 else 4) else 0
def toG (T : Nat → Int) (n p : Int) : Int := fgE T n (toB T n p) (toB T n p) 0
theorem te_0 {T : Nat → Int} {n p : Int} (h : ¬ toB T n p < n) : toE T n p = toB T n p ∧ toK T n p = 0 := ⟨if_neg h, if_neg h⟩
theorem te_1 {T : Nat → Int} {n p : Int} (h : toB T n p < n) (c : pLe (T (toB T n p).toNat)) : toE T n p = spE pLe T n (toB T n p) ∧ toK T n p = 1 := ⟨(if_pos h).trans (if_pos c), (if_pos h).trans (if_pos c)⟩
theorem te_2 {T : Nat → Int} {n p : Int} (h : toB T n p < n) (c : ¬ pLe (T (toB T n p).toNat)) (c2 : pDi (T (toB T n p).toNat)) : toE T n p = spE pDi T n (toB T n p) ∧ toK T n p = (if 7 < toE T n p - toB T n p then 4 else 2) := ⟨(if_pos h).trans ((if_neg c).trans (if_pos c2)), (if_pos h).trans ((if_neg c).trans (if_pos c2))⟩
theorem te_3 {T : Nat → Int} {n p : Int} (h : toB T n p < n) (c : ¬ pLe (T (toB T n p).toNat)) (c2 : ¬ pDi (T (toB T n p).toNat)) : toE T n p = toB T n p + 1 ∧ toK T n p = (if T (toB T n p).toNat = 59 ∨ T (toB T n p).toNat = 40 ∨ T (toB T n p).toNat = 41 then 3 else 4) := ⟨(if_pos h).trans ((if_neg c).trans (if_neg c2)), (if_pos h).trans ((if_neg c).trans (if_neg c2))⟩
theorem tLD {x : Int} (h : pDi x) : ¬ pLe x := fun q => by have a := h.1; have b := h.2; have d := q.1; omega
theorem tok_r {T : Nat → Int} {n p : Int} (h : p ≤ n) : (p ≤ toB T n p ∧ toB T n p ≤ toE T n p ∧ toE T n p ≤ n) ∧ (0 ≤ toK T n p ∧ toK T n p ≤ 4) ∧ ((toK T n p = 0 ∧ toB T n p = n ∧ toE T n p = n) ∨ (toK T n p ≠ 0 ∧ toB T n p < toE T n p ∧ toB T n p < n)) := by
  have hb : p ≤ toB T n p ∧ toB T n p ≤ n := spE_r pSp h
  by_cases c : toB T n p < n
  · by_cases c1 : pLe (T (toB T n p).toNat)
    · obtain ⟨e1, e2⟩ := te_1 c c1
      have := spE_s (p := pLe) c c1
      have := spE_r pLe (T := T) (n := n) (x := toB T n p + 1) (by omega)
      omega
    · by_cases c2 : pDi (T (toB T n p).toNat)
      · obtain ⟨e1, e2⟩ := te_2 c c1 c2
        have := spE_s (p := pDi) c c2
        have := spE_r pDi (T := T) (n := n) (x := toB T n p + 1) (by omega)
        by_cases d : 7 < toE T n p - toB T n p
        · rw [if_pos d] at e2; omega
        · rw [if_neg d] at e2; omega
      · obtain ⟨e1, e2⟩ := te_3 c c1 c2
        by_cases d : T (toB T n p).toNat = 59 ∨ T (toB T n p).toNat = 40 ∨ T (toB T n p).toNat = 41
        · rw [if_pos d] at e2; omega
        · rw [if_neg d] at e2; omega
  · obtain ⟨e1, e2⟩ := te_0 c
    omega
theorem SCK_f {T : Nat → Int} {n p g0 a k g : Int} (h : SCK T n (toB T n p) g0 a k g) : a = toE T n p ∧ k = toK T n p ∧ (k = 2 → g = toG T n p) := by
  rcases h with ⟨h1, h2, h3, h4⟩ | ⟨h1, h2, h3, h4, h5⟩ | ⟨h1, h2, h3, h4, h5⟩ | ⟨h1, h2, h3, h4, h5, h6⟩
  · obtain ⟨e1, e2⟩ := te_0 (T := T) (n := n) (p := p) (by omega)
    exact ⟨by omega, by omega, fun h => by omega⟩
  · obtain ⟨e1, e2⟩ := te_1 h1 h2
    exact ⟨by omega, by omega, fun h => by omega⟩
  · obtain ⟨e1, e2⟩ := te_2 h1 (tLD h2) h2
    refine ⟨by omega, ?_, fun _ => h4⟩
    rcases h5 with ⟨a1, a2⟩ | ⟨a1, a2⟩
    · rw [if_pos (by omega)] at e2; omega
    · rw [if_neg (by omega)] at e2; omega
  · obtain ⟨e1, e2⟩ := te_3 h1 h2 h3
    rcases h6 with ⟨a1, a2⟩ | ⟨a1, a2, a3, a4⟩
    · rw [if_pos a1] at e2
      exact ⟨by omega, by omega, fun h => by omega⟩
    · rw [if_neg (by omega)] at e2
      exact ⟨by omega, by omega, fun h => by omega⟩
/-! words -/
theorem isW_u {T : Nat → Int} {s a : Int} {t u : List Int} (h : isW T s a t) (h2 : isW T s a u) : t = u := by
  have e : t.length = u.length := by have := h.1; have := h2.1; omega
  refine List.ext_getElem e (fun i h3 h4 => ?_)
  have e1 := h.2 i (by omega)
  have e2 := h2.2 i (by omega)
  rw [List.getElem_eq_getD 0, List.getElem_eq_getD 0]
  exact e1.symm.trans e2
theorem tx_u : ∀ i, i < 9 → ∀ j, j < 9 → 0 < i → 0 < j → lo_tx i = lo_tx j → i = j := by decide
/-- the command whose word stands here; 0: none -/
def CW (T : Nat → Int) (n p z : Int) : Prop := (1 ≤ z ∧ z ≤ 8 ∧ WD T (toK T n p) (toB T n p) (toE T n p) z.toNat) ∨ (z = 0 ∧ ∀ i, 1 ≤ i → i ≤ 8 → ¬ WD T (toK T n p) (toB T n p) (toE T n p) i)
theorem CW_u {T : Nat → Int} {n p x y : Int} (h : CW T n p x) (h2 : CW T n p y) : x = y := by
  rcases h with ⟨a1, a2, a3⟩ | ⟨a1, a2⟩
  · rcases h2 with ⟨b1, b2, b3⟩ | ⟨b1, b2⟩
    · have := tx_u x.toNat (by omega) y.toNat (by omega) (by omega) (by omega) (isW_u a3.2 b3.2)
      omega
    · exact absurd a3 (b2 _ (by omega) (by omega))
  · rcases h2 with ⟨b1, b2, b3⟩ | ⟨b1, b2⟩
    · exact absurd b3 (a2 _ (by omega) (by omega))
    · omega
theorem CW_x (T : Nat → Int) (n p : Int) : ∃ z, CW T n p z := by
  by_cases h : ∃ i : Nat, 1 ≤ i ∧ i ≤ 8 ∧ WD T (toK T n p) (toB T n p) (toE T n p) i
  · obtain ⟨i, h1, h2, h3⟩ := h
    exact ⟨i, Or.inl ⟨by omega, by omega, by rw [Int.toNat_natCast]; exact h3⟩⟩
  · exact ⟨0, Or.inr ⟨rfl, fun i h1 h2 h3 => h ⟨i, h1, h2, h3⟩⟩⟩
noncomputable def cw (T : Nat → Int) (n p : Int) : Int := Classical.choose (CW_x T n p)
theorem cw_f {T : Nat → Int} {n p z : Int} (h : CW T n p z) : cw T n p = z := CW_u (Classical.choose_spec (CW_x T n p)) h
theorem cw_c (T : Nat → Int) (n p : Int) : CW T n p (cw T n p) := Classical.choose_spec (CW_x T n p)
theorem cw_r (T : Nat → Int) (n p : Int) : 0 ≤ cw T n p ∧ cw T n p ≤ 8 ∧ (cw T n p ≠ 0 → toK T n p = 1) := by
  rcases cw_c T n p with ⟨h1, h2, h3⟩ | ⟨h1, h2⟩
  · exact ⟨by omega, by omega, fun _ => h3.1⟩
  · exact ⟨by omega, by omega, fun h => absurd h1 h⟩
