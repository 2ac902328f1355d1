/-! where nothing failed, the offset stays -/
theorem SIGS_o {T : Nat → Int} {n a b k g e o na nb nk ng ne no x : Int} (h : SIGS T n a b k g e o na nb nk ng ne no x) (hn : ne = 0) : e = 0 ∧ no = o := by
  rcases h.2 with ⟨h1, h2, h3⟩ | ⟨h1, -, h2, h3⟩ | ⟨h1, -, h2, h3⟩ <;> omega
theorem NUMS_o {T : Nat → Int} {n a b k g e o na nb nk ng ne no lo hi z : Int} (h : NUMS T n a b k g e o na nb nk ng ne no lo hi z) (hn : ne = 0) : e = 0 ∧ no = o := by
  rcases h.2 with ⟨h1, h2, h3, -⟩ | ⟨h1, -, ⟨-, -, h2, h3⟩ | ⟨-, -, h2, h3⟩ | ⟨-, h2, h3⟩⟩ <;> omega
theorem EPS_o {T : Nat → Int} {tn tp ts tk tv eo na nb nk ng ke ko : Int} {A B C D E F A9 G9 : Prop} (q : (A ∧ B ∧ C ∧ D ∧ E ∧ ke = 0 ∧ ko = eo ∧ F) ∨ (A9 ∧ SIGS T tn tp ts tk tv 0 eo na nb nk ng ke ko 59 ∧ G9)) (h : ke = 0) : ko = eo := by
  rcases q with q | q
  · exact q.2.2.2.2.2.2.1
  · exact (SIGS_o q.2.1 h).2
theorem BRP_o {T : Nat → Int} {tn tp ts tk tv eo na nb nk ng ke ko dp : Int} {A : Prop} {B : Int → Prop} (q : (dp = 3 ∧ ke = 4 ∧ A) ∨ (dp < 3 ∧ ∃ a b k g e o z : Int, NUMS T tn tp ts tk tv 0 eo a b k g e o 1 24 z ∧ SIGS T tn a b k g e o na nb nk ng ke ko 40 ∧ B z)) (h : ke = 0) : ko = eo := by
  rcases q with ⟨-, q, -⟩ | ⟨-, a, b, k, g, e, o, z, q1, q2, -⟩
  · omega
  · have h2 := SIGS_o q2 h
    exact h2.2.trans (NUMS_o q1 h2.1).2
theorem EXE_o {A B : (Nat → Int) → Prop} {C D E : Prop} {ke ko eo : Int} (q : (∃ u, A u ∧ B u ∧ ke = 0 ∧ ko = eo) ∨ (C ∧ D ∧ ke = 3 ∧ E)) (h : ke = 0) : ko = eo := by
  rcases q with ⟨u, -, -, -, q⟩ | ⟨-, -, q, -⟩
  · exact q
  · omega
