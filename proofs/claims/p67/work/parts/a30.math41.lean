def pf8 {α : Type} (a b c d e f g h : α) : Nat → α := fun j => if j = 0 then a else if j = 1 then b else if j = 2 then c else if j = 3 then d else if j = 4 then e else if j = 5 then f else if j = 6 then g else h
/-- a plan's cells; eight plans' -/
def plW (X : KX) (a b : Nat → Nat) (P : PT) : va_W := [oX3 (a 0) (a 1) (a 2) (Pn P), arN X (a 1) 6 b, oX0 (a 2) (a 3) (a 4) (a 5) (Px P) (Pk P), arI X (a 3) 20 (Pa P), arI X (a 4) 20 (Pb P), arI X (a 5) 20 (Pd P)] ++ lsW b (PL P)
def hsW (X : KX) (g c : Nat → Nat → Nat) (P : Nat → PT) : va_W := plW X (g 0) (c 0) (P 0) ++ (plW X (g 1) (c 1) (P 1) ++ (plW X (g 2) (c 2) (P 2) ++ (plW X (g 3) (c 3) (P 3) ++ (plW X (g 4) (c 4) (P 4) ++ (plW X (g 5) (c 5) (P 5) ++ (plW X (g 6) (c 6) (P 6) ++ plW X (g 7) (c 7) (P 7)))))))
theorem lo_sets_cg {W W2 ws w2 : va_W} {ps : List Nat} (h : W = W2) (k : ws = w2) : lo_sets W ps ws = lo_sets W2 ps w2 := by rw [h, k]
theorem lo_sets_nl {W : va_W} : lo_sets W [] [] = W := rfl
