/-! sums for the averages -/
theorem sumB_r {P : PT} (h : PI P) : ∀ k : Nat, (k : Int) ≤ Pn P → 0 ≤ sumF (fun i => PL P i 1) k ∧ sumF (fun i => PL P i 1) k ≤ 9999999 * k
  | 0, _ => by show (0 : Int) ≤ 0 ∧ (0 : Int) ≤ _; omega
  | k + 1, hk => by
    have ih := sumB_r h k (by omega)
    have hL := (h.2.2.2 k (by omega)).1
    show 0 ≤ sumF (fun i => PL P i 1) k + PL P k 1 ∧ sumF (fun i => PL P i 1) k + PL P k 1 ≤ _
    omega
theorem wFld_r {w : Nat → Int} (h : WI w) : ∀ k : Nat, (k : Int) ≤ w 0 → 0 ≤ wFld w 1 k ∧ wFld w 1 k ≤ 9999999 * k
  | 0, _ => by show (0 : Int) ≤ 0 ∧ (0 : Int) ≤ _; omega
  | k + 1, hk => by
    have ih := wFld_r h k (by omega)
    have hL := (h.2.2 k (by omega) (by omega)).1
    have hL2 : 0 ≤ wOf w k 1 ∧ wOf w k 1 ≤ 9999999 := hL
    show 0 ≤ wFld w 1 k + wOf w k 1 ∧ wFld w 1 k + wOf w k 1 ≤ _
    omega
def wWgt (w : Nat → Int) (k : Nat) : Int := sumF (fun i : Nat => wOf w (i : Int) 1 * wOf w (i : Int) 2) k
theorem wWgt_s {w : Nat → Int} {i : Int} (h0 : 0 ≤ i) : wWgt w (i + 1).toNat = wWgt w i.toNat + wOf w i 1 * wOf w i 2 := sumI_s (f := fun j => wOf w j 1 * wOf w j 2) h0
theorem PW_wgt {P : PT} {w : Nat → Int} (h : PW P w) : sumF (fun k => PL P k 1 * PL P k 2) (Pn P).toNat = wWgt w (w 0).toNat := by
  rw [PW_n h]
  refine sumF_x _ (fun i hi => ?_)
  have e := PW_Li h (i := i) (by have := h.1.1.1; omega)
  rw [e 1 (by omega), e 2 (by omega)]
  rfl
theorem lo_fdiv_n {a b : Int} (h0 : 0 ≤ a) (h1 : a ≤ 6) (h2 : 1 ≤ b) (h3 : b ≤ 6) : vf_n32 (FP.fdiv (FP.i2f (iI a)) (FP.i2f (iI b))) := by
  have h := lo_fdiv_num a.toNat (by omega) b.toNat (by omega) (by omega)
  have e : ∀ z : Int, 0 ≤ z → Int32.ofNat z.toNat = iI z := by
    intro z hz
    rw [← Int32.ofInt_eq_ofNat]
    show Int32.ofInt _ = Int32.ofInt z
    rw [show ((z.toNat : Nat) : Int) = z by omega]
  rw [e a h0, e b (by omega)] at h
  exact h
