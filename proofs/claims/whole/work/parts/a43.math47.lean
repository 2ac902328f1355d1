/-! the reference's world: its blocks -/
abbrev RZ : Type := (Nat → Int) × (Nat → Int) × (Nat → Nat) × (Nat → Nat → Int) × (Nat → Int) × (Nat → Int) × (Nat → Int) × (Nat → Int) × (Nat → Int)
abbrev eM (Y : RZ) : Nat → Int := Y.1
abbrev eW (Y : RZ) : Nat → Int := Y.2.1
abbrev eQ (Y : RZ) : Nat → Nat := Y.2.2.1
abbrev eC (Y : RZ) : Nat → Nat → Int := Y.2.2.2.1
abbrev eS (Y : RZ) : Nat → Int := Y.2.2.2.2.1
abbrev eB (Y : RZ) : Nat → Int := Y.2.2.2.2.2.1
abbrev eA (Y : RZ) : Nat → Int := Y.2.2.2.2.2.2.1
abbrev eT (Y : RZ) : Nat → Int := Y.2.2.2.2.2.2.2.1
abbrev eR (Y : RZ) : Nat → Int := Y.2.2.2.2.2.2.2.2
def moC (d : Nat → Nat) (M : Nat → Int) : va_W := [oX8 (d 0) (M 0) (d 1) (d 2) (M 3) (d 3) (M 5) (d 4) (d 5) (d 6) (M 9) (d 7) (M 11) (M 12) (M 13) (M 14) (M 15) (M 16) (M 17) (M 18) (M 19) (M 20) (M 21) (M 22) (M 23) (M 24) (M 25) (M 26) (M 27) (M 28)]
def rfB (X : KX) (d r : Nat → Nat) (Y : RZ) : List va_W := [moC d (eM Y), [arI X (d 1) 122 (eW Y)], [arA X (d 2) 8 (rq r (eQ Y))], rwW X r (eC Y), [arI X (d 3) 122 (eS Y)], [arI X (d 4) 122 (eB Y)], [arI X (d 5) 122 (eA Y)], [arI X (d 6) 500 (eT Y)], [arB X (d 7) 300 (eR Y)]]
abbrev rfL : List Nat := [1, 1, 1, 8, 1, 1, 1, 1, 1]
