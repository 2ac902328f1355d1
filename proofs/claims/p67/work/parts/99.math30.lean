/-! what stands next in a text: a number, a sign, a command's numbers -/
def exN (T : Nat → Int) (n lo hi p : Int) : Except (Int × Int) (Int × Int) := if toK T n p = 2 then (if lo ≤ toG T n p ∧ toG T n p ≤ hi then .ok (toG T n p, toE T n p) else .error (2, toB T n p)) else .error (1, toB T n p)
def exS (T : Nat → Int) (n x p : Int) : Except (Int × Int) (Int × Int) := if toK T n p = 3 ∧ T (toB T n p).toNat = x then .ok (toB T n p, toE T n p) else .error (1, toB T n p)
theorem exN_y {T : Nat → Int} {n lo hi p : Int} (h : toK T n p = 2) (h2 : lo ≤ toG T n p ∧ toG T n p ≤ hi) : exN T n lo hi p = .ok (toG T n p, toE T n p) := (if_pos h).trans (if_pos h2)
theorem exN_2 {T : Nat → Int} {n lo hi p : Int} (h : toK T n p = 2) (h2 : ¬ (lo ≤ toG T n p ∧ toG T n p ≤ hi)) : exN T n lo hi p = .error (2, toB T n p) := (if_pos h).trans (if_neg h2)
theorem exN_1 {T : Nat → Int} {n lo hi p : Int} (h : toK T n p ≠ 2) : exN T n lo hi p = .error (1, toB T n p) := if_neg h
theorem exS_y {T : Nat → Int} {n x p : Int} (h : toK T n p = 3 ∧ T (toB T n p).toNat = x) : exS T n x p = .ok (toB T n p, toE T n p) := if_pos h
theorem exS_n {T : Nat → Int} {n x p : Int} (h : ¬ (toK T n p = 3 ∧ T (toB T n p).toNat = x)) : exS T n x p = .error (1, toB T n p) := if_neg h
theorem exN_r {T : Nat → Int} {n lo hi p : Int} {a : Int × Int} (hp : p ≤ n) (h : exN T n lo hi p = .ok a) : lo ≤ a.1 ∧ a.1 ≤ hi ∧ p < a.2 ∧ a.2 ≤ n := by
  have := tok_r (T := T) hp
  by_cases c : toK T n p = 2
  · by_cases c2 : lo ≤ toG T n p ∧ toG T n p ≤ hi
    · rw [exN_y c c2] at h
      cases h
      exact ⟨c2.1, c2.2, by show p < toE T n p; omega, by show toE T n p ≤ n; omega⟩
    · rw [exN_2 c c2] at h; cases h
  · rw [exN_1 c] at h; cases h
theorem exS_r {T : Nat → Int} {n x p : Int} {a : Int × Int} (hp : p ≤ n) (h : exS T n x p = .ok a) : p ≤ a.1 ∧ a.1 < a.2 ∧ a.2 ≤ n := by
  have := tok_r (T := T) hp
  by_cases c : toK T n p = 3 ∧ T (toB T n p).toNat = x
  · rw [exS_y c] at h
    cases h
    exact ⟨by show p ≤ toB T n p; omega, by show toB T n p < toE T n p; omega, by show toE T n p ≤ n; omega⟩
  · rw [exS_n c] at h; cases h
/-- behind an extra payment -/
noncomputable def exK (T : Nat → Int) (n p : Int) : Except (Int × Int) (Int × Int × Int) :=
  @ite _ (WD T (toK T n p) (toB T n p) (toE T n p) 9) (Classical.propDecidable _) ((exS T n 59 (toE T n p)).bind (fun e => .ok (1, e.1, e.2))) ((exS T n 59 p).bind (fun e => .ok (0, e.1, e.2)))
theorem exK_r {T : Nat → Int} {n p : Int} {a : Int × Int × Int} (hp : p ≤ n) (h : exK T n p = .ok a) : (a.1 = 0 ∨ a.1 = 1) ∧ p ≤ a.2.1 ∧ a.2.1 < a.2.2 ∧ a.2.2 ≤ n := by
  have ht := tok_r (T := T) hp
  unfold exK at h
  by_cases c : WD T (toK T n p) (toB T n p) (toE T n p) 9
  · rw [if_pos c] at h
    cases e : exS T n 59 (toE T n p) with
    | error x => rw [e] at h; cases h
    | ok x =>
      rw [e] at h; cases h
      have := exS_r (by omega) e
      exact ⟨Or.inr rfl, by show p ≤ x.1; omega, by show x.1 < x.2; omega, by show x.2 ≤ n; omega⟩
  · rw [if_neg c] at h
    cases e : exS T n 59 p with
    | error x => rw [e] at h; cases h
    | ok x =>
      rw [e] at h; cases h
      have := exS_r (by omega) e
      exact ⟨Or.inl rfl, by show p ≤ x.1; omega, by show x.1 < x.2; omega, by show x.2 ≤ n; omega⟩
/-- behind 'repeat' -/
def exR (T : Nat → Int) (n p : Int) : Except (Int × Int) (Int × Int) := (exN T n 1 24 p).bind fun a => (exS T n 40 a.2).bind fun b => .ok (a.1, b.2)
/-- the first line -/
noncomputable def exL (T : Nat → Int) (n : Int) : Except (Int × Int) (Int × Int) :=
  @ite _ (WD T (toK T n 0) (toB T n 0) (toE T n 0) 0) (Classical.propDecidable _) (exS T n 59 (toE T n 0)) (.error (1, toB T n 0))
/-- three numbers, keep, where the semicolon stands, where it ends -/
abbrev PAR := Int × Int × Int × Int × Int × Int
noncomputable def prm (T : Nat → Int) (n c w0 p : Int) : Except (Int × Int) PAR :=
  if c = 1 then (exN T n 1 9999999 p).bind fun a => (exN T n 0 3000 a.2).bind fun b => (exN T n 1 120 b.2).bind fun d => (exS T n 59 d.2).bind fun e => .ok (a.1, b.1, d.1, 0, e.1, e.2)
  else if c = 3 then (exS T n 59 p).bind fun e => .ok (0, 0, 0, 0, e.1, e.2)
  else if c = 4 then (exN T n 0 (w0 - 1) p).bind fun a => (exN T n 1 9999999 a.2).bind fun b => (exK T n b.2).bind fun e => .ok (a.1, b.1, 0, e.1, e.2.1, e.2.2)
  else if c = 6 then (exN T n 0 (w0 - 1) p).bind fun a => (exN T n 0 3000 a.2).bind fun b => (exS T n 59 b.2).bind fun e => .ok (a.1, b.1, 0, 0, e.1, e.2)
  else if c = 7 then (exN T n 0 (w0 - 1) p).bind fun a => (exN T n 1 60 a.2).bind fun b => (exS T n 59 b.2).bind fun e => .ok (a.1, b.1, 0, 0, e.1, e.2)
  else (exN T n 0 (w0 - 1) p).bind fun a => (exS T n 59 a.2).bind fun e => .ok (a.1, 0, 0, 0, e.1, e.2)
theorem prm_1 {T : Nat → Int} {n w0 p : Int} : prm T n 1 w0 p = ((exN T n 1 9999999 p).bind fun a => (exN T n 0 3000 a.2).bind fun b => (exN T n 1 120 b.2).bind fun d => (exS T n 59 d.2).bind fun e => .ok (a.1, b.1, d.1, 0, e.1, e.2)) := if_pos rfl
theorem prm_3 {T : Nat → Int} {n w0 p : Int} : prm T n 3 w0 p = ((exS T n 59 p).bind fun e => .ok (0, 0, 0, 0, e.1, e.2)) := rfl
theorem prm_4 {T : Nat → Int} {n w0 p : Int} : prm T n 4 w0 p = ((exN T n 0 (w0 - 1) p).bind fun a => (exN T n 1 9999999 a.2).bind fun b => (exK T n b.2).bind fun e => .ok (a.1, b.1, 0, e.1, e.2.1, e.2.2)) := rfl
theorem prm_6 {T : Nat → Int} {n w0 p : Int} : prm T n 6 w0 p = ((exN T n 0 (w0 - 1) p).bind fun a => (exN T n 0 3000 a.2).bind fun b => (exS T n 59 b.2).bind fun e => .ok (a.1, b.1, 0, 0, e.1, e.2)) := rfl
theorem prm_7 {T : Nat → Int} {n w0 p : Int} : prm T n 7 w0 p = ((exN T n 0 (w0 - 1) p).bind fun a => (exN T n 1 60 a.2).bind fun b => (exS T n 59 b.2).bind fun e => .ok (a.1, b.1, 0, 0, e.1, e.2)) := rfl
theorem prm_2 {T : Nat → Int} {n w0 p : Int} : prm T n 2 w0 p = ((exN T n 0 (w0 - 1) p).bind fun a => (exS T n 59 a.2).bind fun e => .ok (a.1, 0, 0, 0, e.1, e.2)) := rfl
theorem prm_5 {T : Nat → Int} {n w0 p : Int} : prm T n 5 w0 p = ((exN T n 0 (w0 - 1) p).bind fun a => (exS T n 59 a.2).bind fun e => .ok (a.1, 0, 0, 0, e.1, e.2)) := rfl
theorem bnd_ok {ε α β : Type} {x : Except ε α} {f : α → Except ε β} {y : β} (h : x.bind f = .ok y) : ∃ a, x = .ok a ∧ f a = .ok y := by
  cases x with
  | error e => cases h
  | ok a => exact ⟨a, rfl, h⟩
/-- the ranges of a command's numbers -/
def PRG (c w0 : Int) (y : PAR) : Prop := (c = 1 → (1 ≤ y.1 ∧ y.1 ≤ 9999999) ∧ (0 ≤ y.2.1 ∧ y.2.1 ≤ 3000) ∧ (1 ≤ y.2.2.1 ∧ y.2.2.1 ≤ 120)) ∧ (c ≠ 1 → c ≠ 3 → 0 ≤ y.1 ∧ y.1 ≤ w0 - 1) ∧ (c = 4 → (1 ≤ y.2.1 ∧ y.2.1 ≤ 9999999) ∧ (y.2.2.2.1 = 0 ∨ y.2.2.2.1 = 1)) ∧ (c = 6 → 0 ≤ y.2.1 ∧ y.2.1 ≤ 3000) ∧ (c = 7 → 1 ≤ y.2.1 ∧ y.2.1 ≤ 60)
theorem prm_r {T : Nat → Int} {n c w0 p : Int} {y : PAR} (hc : 1 ≤ c ∧ c ≤ 7) (hp : p ≤ n) (h : prm T n c w0 p = .ok y) : (p < y.2.2.2.2.2 ∧ y.2.2.2.2.2 ≤ n) ∧ PRG c w0 y := by
  have hc' : c = 1 ∨ c = 2 ∨ c = 3 ∨ c = 4 ∨ c = 5 ∨ c = 6 ∨ c = 7 := by omega
  rcases hc' with rfl | rfl | rfl | rfl | rfl | rfl | rfl
  · rw [prm_1] at h
    obtain ⟨a, ha, h⟩ := bnd_ok h
    obtain ⟨b, hb, h⟩ := bnd_ok h
    obtain ⟨d, hd, h⟩ := bnd_ok h
    obtain ⟨e, he, h⟩ := bnd_ok h
    cases h
    have r1 := exN_r hp ha
    have r2 := exN_r (by omega) hb
    have r3 := exN_r (by omega) hd
    have r4 := exS_r (by omega) he
    refine ⟨⟨by show p < e.2; omega, by show e.2 ≤ n; omega⟩, ?_⟩
    unfold PRG; dsimp only; omega
  · rw [prm_2] at h
    obtain ⟨a, ha, h⟩ := bnd_ok h
    obtain ⟨e, he, h⟩ := bnd_ok h
    cases h
    have r1 := exN_r hp ha
    have r4 := exS_r (by omega) he
    refine ⟨⟨by show p < e.2; omega, by show e.2 ≤ n; omega⟩, ?_⟩
    unfold PRG; dsimp only; omega
  · rw [prm_3] at h
    obtain ⟨e, he, h⟩ := bnd_ok h
    cases h
    have r4 := exS_r (by omega) he
    refine ⟨⟨by show p < e.2; omega, by show e.2 ≤ n; omega⟩, ?_⟩
    unfold PRG; dsimp only; omega
  · rw [prm_4] at h
    obtain ⟨a, ha, h⟩ := bnd_ok h
    obtain ⟨b, hb, h⟩ := bnd_ok h
    obtain ⟨e, he, h⟩ := bnd_ok h
    cases h
    have r1 := exN_r hp ha
    have r2 := exN_r (by omega) hb
    have r4 := exK_r (by omega) he
    refine ⟨⟨by show p < e.2.2; omega, by show e.2.2 ≤ n; omega⟩, ?_⟩
    unfold PRG; dsimp only; omega
  · rw [prm_5] at h
    obtain ⟨a, ha, h⟩ := bnd_ok h
    obtain ⟨e, he, h⟩ := bnd_ok h
    cases h
    have r1 := exN_r hp ha
    have r4 := exS_r (by omega) he
    refine ⟨⟨by show p < e.2; omega, by show e.2 ≤ n; omega⟩, ?_⟩
    unfold PRG; dsimp only; omega
  · rw [prm_6] at h
    obtain ⟨a, ha, h⟩ := bnd_ok h
    obtain ⟨b, hb, h⟩ := bnd_ok h
    obtain ⟨e, he, h⟩ := bnd_ok h
    cases h
    have r1 := exN_r hp ha
    have r2 := exN_r (by omega) hb
    have r4 := exS_r (by omega) he
    refine ⟨⟨by show p < e.2; omega, by show e.2 ≤ n; omega⟩, ?_⟩
    unfold PRG; dsimp only; omega
  · rw [prm_7] at h
    obtain ⟨a, ha, h⟩ := bnd_ok h
    obtain ⟨b, hb, h⟩ := bnd_ok h
    obtain ⟨e, he, h⟩ := bnd_ok h
    cases h
    have r1 := exN_r hp ha
    have r2 := exN_r (by omega) hb
    have r4 := exS_r (by omega) he
    refine ⟨⟨by show p < e.2; omega, by show e.2 ≤ n; omega⟩, ?_⟩
    unfold PRG; dsimp only; omega
