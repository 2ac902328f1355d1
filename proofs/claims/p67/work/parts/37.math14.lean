/-! the reference's text: runs of signs, figures -/
def spn (p : Int → Prop) [DecidablePred p] (T : Nat → Int) (n : Int) : Nat → Int → Int
  | 0, x => x
  | k + 1, x => if x < n ∧ p (T x.toNat) then spn p T n k (x + 1) else x
def spE (p : Int → Prop) [DecidablePred p] (T : Nat → Int) (n x : Int) : Int := spn p T n (n - x).toNat x
theorem spE_s {p : Int → Prop} [DecidablePred p] {T : Nat → Int} {n x : Int} (h : x < n) (hp : p (T x.toNat)) : spE p T n x = spE p T n (x + 1) := by
  unfold spE
  rw [show (n - x).toNat = (n - (x + 1)).toNat + 1 by omega]
  exact if_pos ⟨h, hp⟩
theorem spE_e {p : Int → Prop} [DecidablePred p] {T : Nat → Int} {n x : Int} (h : ¬ (x < n ∧ p (T x.toNat))) : spE p T n x = x := by
  unfold spE
  cases (n - x).toNat with
  | zero => rfl
  | succ k => exact if_neg h
abbrev pSp : Int → Prop := fun c => c = 32 ∨ c = 10
abbrev pLe : Int → Prop := fun c => 97 ≤ c ∧ c ≤ 122
abbrev pDi : Int → Prop := fun c => 48 ≤ c ∧ c ≤ 57
def fgn (T : Nat → Int) (n fr : Int) : Nat → Int → Int → Int
  | 0, _, f => f
  | k + 1, x, f => if x < n ∧ pDi (T x.toNat) then fgn T n fr k (x + 1) (if x - fr < 7 then 10 * f + T x.toNat - 48 else f) else f
def fgE (T : Nat → Int) (n fr x f : Int) : Int := fgn T n fr (n - x).toNat x f
theorem fgE_s {T : Nat → Int} {n fr x f g : Int} (h : x < n) (hp : pDi (T x.toNat)) (hg : (x - fr < 7 ∧ g = 10 * f + T x.toNat - 48) ∨ (¬ x - fr < 7 ∧ g = f)) : fgE T n fr x f = fgE T n fr (x + 1) g := by
  unfold fgE
  rw [show (n - x).toNat = (n - (x + 1)).toNat + 1 by omega]
  have e : g = if x - fr < 7 then 10 * f + T x.toNat - 48 else f := by
    rcases hg with ⟨c, e⟩ | ⟨c, e⟩
    · rw [if_pos c]; exact e
    · rw [if_neg c]; exact e
  rw [e]
  exact if_pos ⟨h, hp⟩
theorem fgE_e {T : Nat → Int} {n fr x f : Int} (h : ¬ (x < n ∧ pDi (T x.toNat))) : fgE T n fr x f = f := by
  unfold fgE
  cases (n - x).toNat with
  | zero => rfl
  | succ k => exact if_neg h
