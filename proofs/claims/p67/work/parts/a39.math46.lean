/-! the class's world: its blocks, and what is in them -/
abbrev CZ : Type := (Nat → Int) × (Nat → Int) × (Nat → Int) × PT × PT × PT × (Nat → PT) × (Nat → Int) × (Nat → Int) × (Nat → Nat → Int)
abbrev zI (Z : CZ) : Nat → Int := Z.1
abbrev zT (Z : CZ) : Nat → Int := Z.2.1
abbrev zB (Z : CZ) : Nat → Int := Z.2.2.1
abbrev zP (Z : CZ) : PT := Z.2.2.2.1
abbrev zS (Z : CZ) : PT := Z.2.2.2.2.1
abbrev zR (Z : CZ) : PT := Z.2.2.2.2.2.1
abbrev zQ (Z : CZ) : Nat → PT := Z.2.2.2.2.2.2.1
abbrev zL (Z : CZ) : Nat → Int := Z.2.2.2.2.2.2.2.1
abbrev zA (Z : CZ) : Nat → Int := Z.2.2.2.2.2.2.2.2.1
abbrev zG (Z : CZ) : Nat → Nat → Int := Z.2.2.2.2.2.2.2.2.2
def plH (X : KX) (a b : Nat → Nat) (P : PT) : va_W := [oX3 (a 0) (a 1) (a 2) (Pn P), arN X (a 1) 6 b, oX0 (a 2) (a 3) (a 4) (a 5) (Px P) (Pk P), arI X (a 3) 20 (Pa P), arI X (a 4) 20 (Pb P), arI X (a 5) 20 (Pd P)]
def lnC (h : Nat) (L : Nat → Int) : va_W := [oX2 h (L 0) (L 1) (L 2) (L 3) (L 4) (L 5) (L 6) (L 7) (L 8) (L 9)]
def clB (X : KX) (ad pa pb qa qb ra rb : Nat → Nat) (ha hb : Nat → Nat → Nat) (Z : CZ) : List va_W := [[oX7 (ad 0) (ad 1) (zI Z 0) (pa 0) (ad 2) (qa 0) (zI Z 1) (ad 3) (ra 0) (ad 4) (ad 5) (ad 6)], [arB X (ad 1) 500 (sB (zT Z))], plH X pa pb (zP Z), lsW pb (PL (zP Z)), [oX1 (ad 2) (ad 7) (zI Z 2) (zI Z 3)], [arP X (ad 7) 8 (fun j => ha j 0)],
  plH X (ha 0) (hb 0) (zQ Z 0), lsW (hb 0) (PL (zQ Z 0)), plH X (ha 1) (hb 1) (zQ Z 1), lsW (hb 1) (PL (zQ Z 1)), plH X (ha 2) (hb 2) (zQ Z 2), lsW (hb 2) (PL (zQ Z 2)), plH X (ha 3) (hb 3) (zQ Z 3), lsW (hb 3) (PL (zQ Z 3)), plH X (ha 4) (hb 4) (zQ Z 4), lsW (hb 4) (PL (zQ Z 4)), plH X (ha 5) (hb 5) (zQ Z 5), lsW (hb 5) (PL (zQ Z 5)), plH X (ha 6) (hb 6) (zQ Z 6), lsW (hb 6) (PL (zQ Z 6)), plH X (ha 7) (hb 7) (zQ Z 7), lsW (hb 7) (PL (zQ Z 7)),
  plH X qa qb (zS Z), lsW qb (PL (zS Z)), [oX4 (ad 3) (ad 8) (zI Z 4)], [arB X (ad 8) 256 (zB Z)], plH X ra rb (zR Z), lsW rb (PL (zR Z)), lnC (ad 4) (zL Z), lnC (ad 5) (zA Z), [oX5 (ad 6) (ad 9) (ra 0) (zI Z 5) (zI Z 6) (zI Z 7) (ad 10) (ad 11) (ad 12) (zI Z 8) (zI Z 9) (zI Z 10) (zI Z 11) (zI Z 12) (zI Z 13)], [arI X (ad 10) 3 (zG Z 0), arI X (ad 11) 3 (zG Z 1), arI X (ad 12) 3 (zG Z 2)], [oX6 (ad 9) (ad 1) (zI Z 14) (zI Z 15) (zI Z 16) (zI Z 17) (zI Z 18)]]
abbrev clL : List Nat := [1, 1, 6, 6, 1, 1, 6, 6, 6, 6, 6, 6, 6, 6, 6, 6, 6, 6, 6, 6, 6, 6, 6, 6, 1, 1, 6, 6, 1, 1, 1, 3, 1]
theorem blt {n : Nat} {bs : List Nat} (h : (bs.all fun i => decide (i < n)) = true) : ∀ i ∈ bs, i < n := fun i hi => of_decide_eq_true (List.all_eq_true.mp h i hi)
