/-! the reference's walk: 12 balance, 13 carry, 14 interest, 15 due, 16 months, 17 cost -/
/-- fields outside the walk stay -/
def sameW (M N : Nat → Int) : Prop := ∀ k, k < 12 ∨ 17 < k → N k = M k
theorem sameW.rf {M : Nat → Int} : sameW M M := fun _ _ => rfl
theorem sameW.tr {M N K : Nat → Int} (h : sameW M N) (h2 : sameW N K) : sameW M K := fun k hk => (h2 k hk).trans (h k hk)
/-- a place of the row w: loan i, field k -/
def wOf (w : Nat → Int) (i k : Int) : Int := w (62 + i * 10 + k).toNat
def wPut (w : Nat → Int) (i k v : Int) : Nat → Int := uI w (62 + i * 10 + k).toNat v
def WL (w : Nat → Int) (i : Int) : Nat → Int := fun k => wOf w i (k : Int)
noncomputable def wCalc (w : Nat → Int) (i : Int) : Nat → Int := wPut w i 4 (lvl (wOf w i 1) (wOf w i 2) (wOf w i 5) (wOf w i 3))
