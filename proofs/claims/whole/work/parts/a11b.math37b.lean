/-! where nothing failed in the reference, the offset stays -/
theorem NUR_o {T : Nat → Int} {n a b k g e o na nb nk ng ek eo lo hi r : Int} (h : NUR T n a b k g e o na nb nk ng ek eo lo hi r) (hn : ek = 0) : e = 0 ∧ eo = o := by
  rcases h with ⟨h1, -, -, h2, -⟩ | ⟨h1, ⟨-, h2⟩ | ⟨-, -, h2⟩, -⟩ | ⟨h1, h2, -⟩ <;> omega
theorem ENR_o {k b e o x ek eo z : Int} (h : ENR k b e o x ek eo z) (hn : ek = 0) : e = 0 ∧ eo = o := by
  rcases h with ⟨h1, h2, -⟩ | ⟨-, -, h2, -⟩ | ⟨-, -, -, h2, -⟩ | ⟨h1, -, -, -, h2, -⟩ <;> omega
section OO
variable {T : Nat → Int} {n a b k g e o na nb nk ng e1 o1 lo hi r a2 b2 k2 g2 na2 nb2 nk2 ng2 e2 o2 lo2 hi2 r2 a3 b3 k3 g3 na3 nb3 nk3 ng3 e3 o3 lo3 hi3 r3 k5 b5 x5 z5 ek eo x y : Int}
theorem OO0 (h1 : x = ek) (h2 : y = eo) (en : ENR k5 b5 e o x5 ek eo z5) : x = 0 → y = o := fun h => h2.trans (ENR_o en (h1.symm.trans h)).2
theorem OO1 (h1 : x = ek) (h2 : y = eo) (nu : NUR T n a b k g e o na nb nk ng e1 o1 lo hi r) (en : ENR k5 b5 e1 o1 x5 ek eo z5) : x = 0 → y = o := fun h => by
  obtain ⟨q1, q2⟩ := ENR_o en (h1.symm.trans h)
  exact h2.trans (q2.trans (NUR_o nu q1).2)
theorem OO2 (h1 : x = ek) (h2 : y = eo) (nu : NUR T n a b k g e o na nb nk ng e1 o1 lo hi r) (nv : NUR T n a2 b2 k2 g2 e1 o1 na2 nb2 nk2 ng2 e2 o2 lo2 hi2 r2) (en : ENR k5 b5 e2 o2 x5 ek eo z5) : x = 0 → y = o := fun h => by
  obtain ⟨q1, q2⟩ := ENR_o en (h1.symm.trans h)
  obtain ⟨q3, q4⟩ := NUR_o nv q1
  exact h2.trans (q2.trans (q4.trans (NUR_o nu q3).2))
theorem OO3 (h1 : x = ek) (h2 : y = eo) (nu : NUR T n a b k g e o na nb nk ng e1 o1 lo hi r) (nv : NUR T n a2 b2 k2 g2 e1 o1 na2 nb2 nk2 ng2 e2 o2 lo2 hi2 r2) (nw : NUR T n a3 b3 k3 g3 e2 o2 na3 nb3 nk3 ng3 e3 o3 lo3 hi3 r3) (en : ENR k5 b5 e3 o3 x5 ek eo z5) : x = 0 → y = o := fun h => by
  obtain ⟨q1, q2⟩ := ENR_o en (h1.symm.trans h)
  obtain ⟨q3, q4⟩ := NUR_o nw q1
  obtain ⟨q5, q6⟩ := NUR_o nv q3
  exact h2.trans (q2.trans (q4.trans (q6.trans (NUR_o nu q5).2)))
theorem RPO (nu : NUR T n a b k g e o na nb nk ng e1 o1 lo hi r) (j : (e1 = 0 ∧ nk = 5 ∧ e3 = 0 ∧ o3 = o1) ∨ (e1 = 0 ∧ nk ≠ 5 ∧ e3 = 1 ∧ o3 = nb) ∨ (e1 ≠ 0 ∧ e3 = e1 ∧ o3 = o1)) : e3 = 0 → o3 = o := fun h => by
  have h1 : e1 = 0 ∧ o3 = o1 := by omega
  exact h1.2.trans (NUR_o nu h1.1).2
end OO
