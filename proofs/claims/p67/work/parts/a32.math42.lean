/-! the first script -/
def tx20 : Nat → Int := fun k => (lo_tx 20).getD k 0
theorem tx20_r : ∀ k : Nat, 0 ≤ tx20 k ∧ tx20 k ≤ 255 := fun k => by
  have := lo_tx_g (i := 20) (by decide) k
  show 0 ≤ (lo_tx 20).getD k 0 ∧ (lo_tx 20).getD k 0 ≤ 255
  omega
theorem TX_s {U : Nat → Int} {ix : Int} (h0 : 0 ≤ ix) (h : ∀ j : Nat, U j = if (j : Int) < ix then tx20 j else 0) : ∀ j : Nat, uI U ix.toNat (bI ((lo_tx 20).getD ix.toNat 0)) j = if (j : Int) < ix + 1 then tx20 j else 0 := by
  intro j
  by_cases e : j = ix.toNat
  · subst e
    have := lo_tx_g (i := 20) (by decide) ix.toNat
    rw [uI_s, if_pos (by omega), bI_id (by omega)]
    rfl
  · rw [uI_n e, h j]
    by_cases c : (j : Int) < ix
    · rw [if_pos c, if_pos (by omega)]
    · rw [if_neg c, if_neg (by omega)]
theorem TX_e {U : Nat → Int} {ix : Int} (h : ∀ j : Nat, U j = if (j : Int) < ix then tx20 j else 0) (hx : 87 ≤ ix) : U = sB tx20 := by
  funext j
  have hg := lo_tx_g (i := 20) (by decide) j
  have e : sB tx20 j = tx20 j := if_pos hg.2
  rw [h j, e]
  by_cases c : (j : Int) < ix
  · rw [if_pos c]
  · rw [if_neg c]
    show 0 = (lo_tx 20).getD j 0
    rw [List.getD_eq_getElem?_getD, List.getElem?_eq_none (by show 87 ≤ j; omega)]
    rfl
theorem PI_0 : PI (0, fun _ _ => 0, 0, 0, fun _ => 0, fun _ => 0, fun _ => 0) := ⟨by show (0:Int) ≤ 0 ∧ (0:Int) ≤ 6; omega, by show (0:Int) ≤ 0 ∧ (0:Int) < 20; omega, by show (0:Int) ≤ 0 ∧ (0:Int) ≤ 20; omega, fun i hi => absurd (show (i : Int) < 0 from hi) (by omega)⟩
