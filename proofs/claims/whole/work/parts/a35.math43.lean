/-! the rows of the reference's constructor -/
noncomputable def iW1 : Nat → Int := wNew (fun _ => 0) 120000 600 12
noncomputable def iW2 : Nat → Int := wNew iW1 50000 1200 6
noncomputable def iW3 : Nat → Int := wNew iW2 999 0 4
noncomputable def iWA : Nat → Int := wAll iW3 (iW3 0).toNat
noncomputable def iWB : Nat → Int := wRed iWA 0 20000 0
noncomputable def iWC : Nat → Int := wDef iWB 1
noncomputable def iP1 : PT := plNew (0, fun _ _ => 0, 0, 0, fun _ => 0, fun _ => 0, fun _ => 0) 120000 600 12
noncomputable def iP2 : PT := plNew iP1 50000 1200 6
noncomputable def iP3 : PT := plNew iP2 999 0 4
theorem lv_1 : lvl 120000 600 0 12 = 10328 := by rw [lvl_def]; decide +kernel
theorem lv_2 : lvl 50000 1200 0 6 = 8628 := by rw [lvl_def]; decide +kernel
theorem iPW1 : PW iP1 iW1 := PW_new (PW_clr PI_0) (by show (0:Int) < 6; omega) (by omega) (by omega) (by omega)
theorem iPn1 : Pn iP1 = 1 := rfl
theorem iPW2 : PW iP2 iW2 := PW_new iPW1 (by rw [iPn1]; omega) (by omega) (by omega) (by omega)
theorem iPn2 : Pn iP2 = 2 := rfl
theorem iPW3 : PW iP3 iW3 := PW_new iPW2 (by rw [iPn2]; omega) (by omega) (by omega) (by omega)
theorem iPn3 : Pn iP3 = 3 := rfl
theorem iL0 : PL iP3 0 = newL 120000 600 12 := rfl
theorem iL1 : PL iP3 1 = newL 50000 1200 6 := rfl
theorem ini_1 : WI iW1 ∧ iW1 0 = 1 := ⟨iPW1.2.1, PW_n iPW1⟩
theorem ini_2 : WI iW2 ∧ iW2 0 = 2 := ⟨iPW2.2.1, PW_n iPW2⟩
theorem ini_3 : WI iW3 ∧ iW3 0 = 3 := ⟨iPW3.2.1, PW_n iPW3⟩
theorem iWA_e : iWA = wAll iW3 3 := by unfold iWA; rw [ini_3.2]; rfl
theorem iA_L (j : Nat) (hj : j < 3) (q : Nat) (hq : q < 10) : wOf iWA j q = pay1 (PL iP3 j) q := by
  have h := (wAll_L ini_3.1 3 (by rw [ini_3.2]; omega) j (by omega) q hq).1 (by omega)
  rw [iWA_e, h]
  refine pay1_x (fun k hk => ?_) q hq
  have e := PW_Li iPW3 (i := j) (by rw [iPn3]; omega) k hk
  exact e.symm
theorem pay1_o {L : Nat → Int} (h : 0 < L 1) : pay1 L = payL L := if_pos h
theorem ini_A : WI iWA ∧ iWA 0 = 3 ∧ 20000 ≤ wOf iWA 0 1 ∧ 0 < wOf iWA 1 1 ∧ wOf iWA 1 9 = 0 := by
  have hA := wAll_WI ini_3.1 3 (by rw [ini_3.2]; omega)
  refine ⟨by rw [iWA_e]; exact hA.1, by rw [iWA_e, hA.2]; exact ini_3.2, ?_, ?_, ?_⟩
  · have h := iA_L 0 (by omega) 1 (by omega)
    rw [iL0, pay1_o (show (0:Int) < 120000 by omega)] at h
    have e : payL (newL 120000 600 12) 1 = fW 120000 600 0 - fD (fW 120000 600 0) (lvl 120000 600 0 12) 12 := rfl
    have e2 : fW 120000 600 0 = 120600 := by decide
    rw [e, e2, lv_1, fD_i (by omega) (by omega)] at h
    have h2 : wOf iWA 0 1 = 120600 - 10328 := h
    omega
  · have h := iA_L 1 (by omega) 1 (by omega)
    rw [iL1, pay1_o (show (0:Int) < 50000 by omega)] at h
    have e : payL (newL 50000 1200 6) 1 = fW 50000 1200 0 - fD (fW 50000 1200 0) (lvl 50000 1200 0 6) 6 := rfl
    have e2 : fW 50000 1200 0 = 50500 := by decide
    rw [e, e2, lv_2, fD_i (by omega) (by omega)] at h
    have h2 : wOf iWA 1 1 = 50500 - 8628 := h
    omega
  · have h := iA_L 1 (by omega) 9 (by omega)
    rw [iL1, pay1_o (show (0:Int) < 50000 by omega)] at h
    exact h
theorem ini_B : WI iWB ∧ iWB 0 = 3 ∧ 0 < wOf iWB 1 1 ∧ wOf iWB 1 9 < 6 ∧ fW (wOf iWB 1 1) (wOf iWB 1 2) (wOf iWB 1 5) ≤ 9999999 := by
  obtain ⟨hW, h0, h1, h2, h3⟩ := ini_A
  have hL := hW.2.2 0 (by omega) (by omega)
  have hR := wRed_WI (kp := 0) hW (i := 0) (a := 20000) (by omega) (by omega) (by omega) (by omega) h1
  have o := fun (k : Nat) (hk : k < 10) => wRed_o (kp := 0) (i := 0) (a := 20000) (j := 1) (k := k) (by omega) hL (show 0 < wOf iWA 0 1 by omega) (by omega) h1 (by omega) (by omega) hk
  have o1 : wOf iWB 1 1 = wOf iWA 1 1 := o 1 (by omega)
  have o9 : wOf iWB 1 9 = wOf iWA 1 9 := o 9 (by omega)
  have hB0 : iWB 0 = 3 := hR.2.trans h0
  refine ⟨hR.1, hB0, by omega, by omega, ?_⟩
  have hb : LI (WL iWB 1) := hR.1.2.2 1 (by omega) (by show 1 < iWB 0; omega)
  have hb1 : 0 ≤ wOf iWB 1 1 ∧ wOf iWB 1 1 ≤ 9999999 := hb.1
  have e1 := iA_L 1 (by omega) 1 (by omega)
  have hbal : wOf iWA 1 1 ≤ 100000 := by
    rw [iL1, pay1_o (show (0:Int) < 50000 by omega)] at e1
    have e : payL (newL 50000 1200 6) 1 = fW 50000 1200 0 - fD (fW 50000 1200 0) (lvl 50000 1200 0 6) 6 := rfl
    have e2 : fW 50000 1200 0 = 50500 := by decide
    rw [e, e2, lv_2, fD_i (by omega) (by omega)] at e1
    have h2 : wOf iWA 1 1 = 50500 - 8628 := e1
    omega
  have hf := fI_r (b := wOf iWB 1 1) (r := wOf iWB 1 2) (c := wOf iWB 1 5) hb1.1 hb.2.1.1 hb.2.1.2 hb.2.2.1.1 hb.2.2.1.2
  show wOf iWB 1 1 + fI (wOf iWB 1 1) (wOf iWB 1 2) (wOf iWB 1 5) ≤ 9999999
  omega
def iM0 : Nat → Int := fun k => if k = 27 then -1 else 0
