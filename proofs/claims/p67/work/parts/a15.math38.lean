/-! the reference's commands and repeats, along the machine -/
def AGR (D : Int) (f g h f2 g2 h2 : Nat → Int) : Prop := ∀ k : Nat, (k : Int) < D → f2 k = f k ∧ g2 k = g k ∧ h2 k = h k
theorem AGR.rf (D : Int) (f g h : Nat → Int) : AGR D f g h f g h := fun _ _ => ⟨rfl, rfl, rfl⟩
theorem AGR.tr {D : Int} {f g h f2 g2 h2 f3 g3 h3 : Nat → Int} (a : AGR D f g h f2 g2 h2) (b : AGR D f2 g2 h2 f3 g3 h3) : AGR D f g h f3 g3 h3 := fun k hk => ⟨(b k hk).1.trans (a k hk).1, (b k hk).2.1.trans (a k hk).2.1, (b k hk).2.2.trans (a k hk).2.2⟩
theorem AGR.mono {D E : Int} {f g h f2 g2 h2 : Nat → Int} (hDE : D ≤ E) (a : AGR E f g h f2 g2 h2) : AGR D f g h f2 g2 h2 := fun k hk => a k (by omega)
def BDY (T : Nat → Int) (n D p x : Int) (w : Nat → Int) (p2 x2 : Int) (u : Nat → Int) (ek eo : Int) : Prop :=
  (ek = 0 ∧ x ≤ x2 ∧ x2 ≤ 300 ∧ (x2 = x → u = w) ∧ ∀ f g h, ∃ f2 g2 h2, AGR D f g h f2 g2 h2 ∧ RCH T n D (sRun p x D f g h w) (sRun p2 x2 D f2 g2 h2 u)) ∨ (ek ≠ 0 ∧ ∀ f g h, RCH T n D (sRun p x D f g h w) (sBad ek eo))
section BD
variable {T : Nat → Int} {n D p x : Int} {w u v : Nat → Int} {p2 x2 p3 x3 ek eo c na : Int}
theorem BDY.rf (hx : x ≤ 300) {eo : Int} (T : Nat → Int) (n D p : Int) (w : Nat → Int) : BDY T n D p x w p x w 0 eo := Or.inl ⟨rfl, by omega, hx, fun _ => rfl, fun f g h => ⟨f, g, h, AGR.rf D f g h, RCH.rf _⟩⟩
theorem BDY.tr {e2 o2 : Int} (a : BDY T n D p x w p2 x2 u e2 o2) (he : e2 = 0) (b : BDY T n D p2 x2 u p3 x3 v ek eo) : BDY T n D p x w p3 x3 v ek eo := by
  rcases a with ⟨-, a1, a2, a3, a4⟩ | ⟨a, -⟩
  · rcases b with ⟨b0, b1, b2, b3, b4⟩ | ⟨b0, b1⟩
    · refine Or.inl ⟨b0, by omega, b2, fun q => ?_, fun f g h => ?_⟩
      · rw [b3 (by omega), a3 (by omega)]
      · obtain ⟨f2, g2, h2, c1, c2⟩ := a4 f g h
        obtain ⟨f3, g3, h3, d1, d2⟩ := b4 f2 g2 h2
        exact ⟨f3, g3, h3, c1.tr d1, c2.tr d2⟩
    · refine Or.inr ⟨b0, fun f g h => ?_⟩
      obtain ⟨f2, g2, h2, c1, c2⟩ := a4 f g h
      exact c2.tr (b1 f2 g2 h2)
  · exact absurd he a
end BD
/-- what a script's command or repeat leaves alone -/
def KPC (M N : Nat → Int) : Prop := ∀ k, k < 12 ∨ k = 18 ∨ 25 < k → N k = M k
theorem KPC.rf (M : Nat → Int) : KPC M M := fun _ _ => rfl
theorem KPC.tr {M N K : Nat → Int} (h : KPC M N) (h2 : KPC N K) : KPC M K := fun k hk => (h2 k hk).trans (h k hk)
