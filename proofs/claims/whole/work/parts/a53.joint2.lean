set_option maxRecDepth 20000 in
theorem J_interestOfPayment {Z Z9 : CZ} {Y Y9 : RZ} {i : Int} {k : Int} {kk b : Int} {g9 : Nat → Int64} (h : SIM Z Y) (h7 : W7_interestOfPayment Z i k kk Z9 g9) (h8 : F8_interestOfPayment Y i k b Y9) : kk = eM Y9 0 ∧ (kk = 0 → g9 0 = (iI b).toInt64) ∧ SIM Z9 Y9 := by
  have hn := PW_n h.1.1
  obtain ⟨N, r, hN, f1, hb, hY⟩ := h8
  subst b Y9
  rcases h7 with ⟨rfl, zz, ⟨A9, z, a0, a1, a2, hz, hZ⟩, hg⟩ | ⟨rfl, hx⟩ | ⟨rfl, hx⟩
  · subst Z9
    have e := PW_L h.1.1 a0.1 a0.2
    have hv : zz = r ∧ N 0 = 0 := by
      rcases f1 with ⟨n0, f1⟩ | ⟨n0, f1⟩ | ⟨n0, f1⟩
      · refine ⟨?_, n0⟩
        have r1 := runL_x (k - 1).toNat e 1 (by omega)
        have r2 := runL_x (k - 1).toNat e 2 (by omega)
        have r5 := runL_x (k - 1).toNat e 5 (by omega)
        rw [r1, r2, r5] at a2
        have V := f1.2.2
        rcases a2 with p | p <;> rcases V with v | v
        · exact hz.trans (p.2.trans v.2.symm)
        · exact absurd p.1 (by have := v.1; omega)
        · exact absurd v.1 (by have := p.1; omega)
        · exact hz.trans (p.2.trans v.2.symm)
      · exfalso; omega
      · exfalso; omega
    exact ⟨hv.2.symm, fun _ => by rw [hg, hv.1], SIM_q h (AM_p hN) (SIM_PI h)⟩
  · obtain ⟨A9, x0, hZ⟩ := hx
    subst Z9
    rcases x0 with ⟨-, x0⟩ | ⟨x0, -⟩
    · exact ⟨by show (1 : Int) = N 0; omega, fun q => absurd q (by omega), SIM_q h (AM_p hN) (SIM_PI h)⟩
    · exact absurd x0 (by decide)
  · obtain ⟨A9, x0, hZ⟩ := hx
    subst Z9
    rcases x0 with ⟨x0, -⟩ | ⟨-, x0⟩
    · exact absurd x0 (by decide)
    · exact ⟨by show (2 : Int) = N 0; omega, fun q => absurd q (by omega), SIM_q h (AM_p hN) (SIM_PI h)⟩
set_option maxRecDepth 20000 in
theorem J_amountOfPayment {Z Z9 : CZ} {Y Y9 : RZ} {i : Int} {k : Int} {kk b : Int} {g9 : Nat → Int64} (h : SIM Z Y) (h7 : W7_amountOfPayment Z i k kk Z9 g9) (h8 : F8_amountOfPayment Y i k b Y9) : kk = eM Y9 0 ∧ (kk = 0 → g9 0 = (iI b).toInt64) ∧ SIM Z9 Y9 := by
  have hn := PW_n h.1.1
  obtain ⟨N, r, hN, f1, hb, hY⟩ := h8
  subst b Y9
  rcases h7 with ⟨rfl, zz, ⟨A9, z, a0, a1, a2, hz, hZ⟩, hg⟩ | ⟨rfl, hx⟩ | ⟨rfl, hx⟩
  · subst Z9
    have e := PW_L h.1.1 a0.1 a0.2
    have hv : zz = r ∧ N 0 = 0 := by
      rcases f1 with ⟨n0, f1⟩ | ⟨n0, f1⟩ | ⟨n0, f1⟩
      · refine ⟨?_, n0⟩
        have r1 := runL_x (k - 1).toNat e 1 (by omega)
        have r0 := dueL_x (runL_x (k - 1).toNat e)
        rw [r1, r0] at a2
        have V := f1.2.2
        rcases a2 with p | p <;> rcases V with v | v
        · exact hz.trans (p.2.trans v.2.symm)
        · exact absurd p.1 (by have := v.1; omega)
        · exact absurd v.1 (by have := p.1; omega)
        · exact hz.trans (p.2.trans v.2.symm)
      · exfalso; omega
      · exfalso; omega
    exact ⟨hv.2.symm, fun _ => by rw [hg, hv.1], SIM_q h (AM_p hN) (SIM_PI h)⟩
  · obtain ⟨A9, x0, hZ⟩ := hx
    subst Z9
    rcases x0 with ⟨-, x0⟩ | ⟨x0, -⟩
    · exact ⟨by show (1 : Int) = N 0; omega, fun q => absurd q (by omega), SIM_q h (AM_p hN) (SIM_PI h)⟩
    · exact absurd x0 (by decide)
  · obtain ⟨A9, x0, hZ⟩ := hx
    subst Z9
    rcases x0 with ⟨x0, -⟩ | ⟨-, x0⟩
    · exact absurd x0 (by decide)
    · exact ⟨by show (2 : Int) = N 0; omega, fun q => absurd q (by omega), SIM_q h (AM_p hN) (SIM_PI h)⟩
set_option maxRecDepth 20000 in
theorem J_paymentsTo {Z Z9 : CZ} {Y Y9 : RZ} {i : Int} {k : Int} {kk b : Int} {g9 : Nat → Int64} (h : SIM Z Y) (h7 : W7_paymentsTo Z i k kk Z9 g9) (h8 : F8_paymentsTo Y i k b Y9) : kk = eM Y9 0 ∧ (kk = 0 → g9 0 = (iI b).toInt64) ∧ SIM Z9 Y9 := by
  have hn := PW_n h.1.1
  obtain ⟨N, r, hN, f1, hb, hY⟩ := h8
  subst b Y9
  rcases h7 with ⟨rfl, zz, ⟨A9, a0, a1, hz, hZ⟩, hg⟩ | ⟨rfl, hx⟩ | ⟨rfl, hx⟩
  · subst Z9
    have e := PW_L h.1.1 a0.1 a0.2
    have hv : zz = r ∧ N 0 = 0 := by
      rcases f1 with ⟨n0, f1⟩ | ⟨n0, f1⟩ | ⟨n0, f1⟩
      · refine ⟨?_, n0⟩
        exact hz.trans ((untL_x 120 e).trans f1.2.2.symm)
      · exfalso; omega
      · exfalso; omega
    exact ⟨hv.2.symm, fun _ => by rw [hg, hv.1], SIM_q h (AM_p hN) (SIM_PI h)⟩
  · obtain ⟨x0, hZ⟩ := hx
    subst Z9
    rcases x0 with ⟨-, x0⟩ | ⟨x0, -⟩
    · exact ⟨by show (1 : Int) = N 0; omega, fun q => absurd q (by omega), SIM_q h (AM_p hN) (SIM_PI h)⟩
    · exact absurd x0 (by decide)
  · obtain ⟨x0, hZ⟩ := hx
    subst Z9
    rcases x0 with ⟨x0, -⟩ | ⟨-, x0⟩
    · exact absurd x0 (by decide)
    · exact ⟨by show (2 : Int) = N 0; omega, fun q => absurd q (by omega), SIM_q h (AM_p hN) (SIM_PI h)⟩
set_option maxRecDepth 20000 in
theorem J_balanceAfter {Z Z9 : CZ} {Y Y9 : RZ} {i : Int} {k : Int} {kk b : Int} {g9 : Nat → Int64} (h : SIM Z Y) (h7 : W7_balanceAfter Z i k kk Z9 g9) (h8 : F8_balanceAfter Y i k b Y9) : kk = eM Y9 0 ∧ (kk = 0 → g9 0 = (iI b).toInt64) ∧ SIM Z9 Y9 := by
  have hn := PW_n h.1.1
  obtain ⟨N, r, hN, f1, hb, hY⟩ := h8
  subst b Y9
  rcases h7 with ⟨rfl, zz, ⟨A9, a0, a1, hz, hZ⟩, hg⟩ | ⟨rfl, hx⟩ | ⟨rfl, hx⟩
  · subst Z9
    have e := PW_L h.1.1 a0.1 a0.2
    have hv : zz = r ∧ N 0 = 0 := by
      rcases f1 with ⟨n0, f1⟩ | ⟨n0, f1⟩ | ⟨n0, f1⟩
      · refine ⟨?_, n0⟩
        exact hz.trans ((runL_x k.toNat e 1 (by omega)).trans f1.2.2.symm)
      · exfalso; omega
      · exfalso; omega
    exact ⟨hv.2.symm, fun _ => by rw [hg, hv.1], SIM_q h (AM_p hN) (SIM_PI h)⟩
  · obtain ⟨A9, x0, hZ⟩ := hx
    subst Z9
    rcases x0 with ⟨-, x0⟩ | ⟨x0, -⟩
    · exact ⟨by show (1 : Int) = N 0; omega, fun q => absurd q (by omega), SIM_q h (AM_p hN) (SIM_PI h)⟩
    · exact absurd x0 (by decide)
  · obtain ⟨A9, x0, hZ⟩ := hx
    subst Z9
    rcases x0 with ⟨x0, -⟩ | ⟨-, x0⟩
    · exact absurd x0 (by decide)
    · exact ⟨by show (2 : Int) = N 0; omega, fun q => absurd q (by omega), SIM_q h (AM_p hN) (SIM_PI h)⟩
set_option maxRecDepth 20000 in
theorem J_installmentFor {Z Z9 : CZ} {Y Y9 : RZ} {i : Int} {k : Int} {kk b : Int} {g9 : Nat → Int64} (h : SIM Z Y) (h7 : W7_installmentFor Z i k kk Z9 g9) (h8 : F8_installmentFor Y i k b Y9) : kk = eM Y9 0 ∧ (kk = 0 → g9 0 = (iI b).toInt64) ∧ SIM Z9 Y9 := by
  have hn := PW_n h.1.1
  obtain ⟨N, r, hN, f1, hb, hY⟩ := h8
  subst b Y9
  rcases h7 with ⟨rfl, zz, ⟨z, a0, a1, a2, hz, hZ⟩, hg⟩ | ⟨rfl, hx⟩ | ⟨rfl, hx⟩
  · subst Z9
    have e := PW_L h.1.1 a0.1 a0.2
    have hv : zz = r ∧ N 0 = 0 := by
      rcases f1 with ⟨n0, f1⟩ | ⟨n0, f1⟩ | ⟨n0, f1⟩
      · refine ⟨?_, n0⟩
        have e1 : PL (zP Z) i.toNat 1 = wOf (eW Y) i 1 := e 1 (by omega)
        have e2 : PL (zP Z) i.toNat 2 = wOf (eW Y) i 2 := e 2 (by omega)
        have e5 : PL (zP Z) i.toNat 5 = wOf (eW Y) i 5 := e 5 (by omega)
        rw [e1, e2, e5] at a2
        have V := f1.2.2
        rcases a2 with p | p <;> rcases V with v | v
        · exact hz.trans (p.2.trans v.2.symm)
        · exact absurd p.1 (by have := v.1; omega)
        · exact absurd v.1 (by have := p.1; omega)
        · exact hz.trans (p.2.trans v.2.symm)
      · exfalso; omega
      · exfalso; omega
    exact ⟨hv.2.symm, fun _ => by rw [hg, hv.1], SIM_q h (AM_p hN) (SIM_PI h)⟩
  · obtain ⟨x0, hZ⟩ := hx
    subst Z9
    rcases x0 with ⟨-, x0⟩ | ⟨x0, -⟩
    · exact ⟨by show (1 : Int) = N 0; omega, fun q => absurd q (by omega), SIM_q h (AM_p hN) (SIM_PI h)⟩
    · exact absurd x0 (by decide)
  · obtain ⟨x0, hZ⟩ := hx
    subst Z9
    rcases x0 with ⟨x0, -⟩ | ⟨-, x0⟩
    · exact absurd x0 (by decide)
    · exact ⟨by show (2 : Int) = N 0; omega, fun q => absurd q (by omega), SIM_q h (AM_p hN) (SIM_PI h)⟩
set_option maxRecDepth 20000 in
theorem J_monthsFor {Z Z9 : CZ} {Y Y9 : RZ} {i : Int} {k : Int} {kk b : Int} {g9 : Nat → Int64} (h : SIM Z Y) (h7 : W7_monthsFor Z i k kk Z9 g9) (h8 : F8_monthsFor Y i k b Y9) : kk = eM Y9 0 ∧ (kk = 0 → g9 0 = (iI b).toInt64) ∧ SIM Z9 Y9 := by
  have hn := PW_n h.1.1
  obtain ⟨N, r, hN, f1, hb, hY⟩ := h8
  subst b Y9
  rcases h7 with ⟨rfl, zz, ⟨z, a0, a1, a2, hz, hZ⟩, hg⟩ | ⟨rfl, hx⟩ | ⟨rfl, hx⟩
  · subst Z9
    have e := PW_L h.1.1 a0.1 a0.2
    have hv : zz = r ∧ N 0 = 0 := by
      rcases f1 with ⟨n0, f1⟩ | ⟨n0, f1⟩ | ⟨n0, f1⟩
      · refine ⟨?_, n0⟩
        have e1 : PL (zP Z) i.toNat 1 = wOf (eW Y) i 1 := e 1 (by omega)
        have e2 : PL (zP Z) i.toNat 2 = wOf (eW Y) i 2 := e 2 (by omega)
        have e5 : PL (zP Z) i.toNat 5 = wOf (eW Y) i 5 := e 5 (by omega)
        rw [e1, e2, e5] at a2
        have V := f1.2.2
        rcases a2 with p | p <;> rcases V with v | v
        · exact hz.trans (p.2.trans v.2.symm)
        · exact absurd p.1 (by have := v.1; omega)
        · exact absurd v.1 (by have := p.1; omega)
        · exact hz.trans (p.2.trans v.2.symm)
      · exfalso; omega
      · exfalso; omega
    exact ⟨hv.2.symm, fun _ => by rw [hg, hv.1], SIM_q h (AM_p hN) (SIM_PI h)⟩
  · obtain ⟨x0, hZ⟩ := hx
    subst Z9
    rcases x0 with ⟨-, x0⟩ | ⟨x0, -⟩
    · exact ⟨by show (1 : Int) = N 0; omega, fun q => absurd q (by omega), SIM_q h (AM_p hN) (SIM_PI h)⟩
    · exact absurd x0 (by decide)
  · obtain ⟨x0, hZ⟩ := hx
    subst Z9
    rcases x0 with ⟨x0, -⟩ | ⟨-, x0⟩
    · exact absurd x0 (by decide)
    · exact ⟨by show (2 : Int) = N 0; omega, fun q => absurd q (by omega), SIM_q h (AM_p hN) (SIM_PI h)⟩
set_option maxRecDepth 20000 in
theorem J_skipsWithin {Z Z9 : CZ} {Y Y9 : RZ} {i : Int} {k : Int} {kk b : Int} {g9 : Nat → Int64} (h : SIM Z Y) (h7 : W7_skipsWithin Z i k kk Z9 g9) (h8 : F8_skipsWithin Y i k b Y9) : kk = eM Y9 0 ∧ (kk = 0 → g9 0 = (iI b).toInt64) ∧ SIM Z9 Y9 := by
  have hn := PW_n h.1.1
  obtain ⟨N, g9, r, hN, f1, hb, hY⟩ := h8
  subst b Y9
  rcases h7 with ⟨rfl, zz, ⟨B9, a0, a1, hz, hZ⟩, hg⟩ | ⟨rfl, hx⟩ | ⟨rfl, hx⟩
  · subst Z9
    have e := PW_L h.1.1 a0.1 a0.2
    have hv : zz = r ∧ N 0 = 0 := by
      rcases f1 with ⟨n0, f1⟩ | ⟨n0, f1⟩ | ⟨n0, f1⟩
      · refine ⟨?_, n0⟩
        exact hz.trans ((skpL_x 6 e).trans f1.2.2.symm)
      · exfalso; omega
      · exfalso; omega
    exact ⟨hv.2.symm, fun _ => by rw [hg, hv.1], SIM_q h (AM_p hN) (SIM_PI h)⟩
  · obtain ⟨B9, x0, hZ⟩ := hx
    subst Z9
    rcases x0 with ⟨-, x0⟩ | ⟨x0, -⟩
    · exact ⟨by show (1 : Int) = N 0; omega, fun q => absurd q (by omega), SIM_q h (AM_p hN) (SIM_PI h)⟩
    · exact absurd x0 (by decide)
  · obtain ⟨B9, x0, hZ⟩ := hx
    subst Z9
    rcases x0 with ⟨x0, -⟩ | ⟨-, x0⟩
    · exact absurd x0 (by decide)
    · exact ⟨by show (2 : Int) = N 0; omega, fun q => absurd q (by omega), SIM_q h (AM_p hN) (SIM_PI h)⟩
set_option maxRecDepth 20000 in
theorem J_savingOfExtra {Z Z9 : CZ} {Y Y9 : RZ} {i : Int} {k : Int} {y : Int} {kk b : Int} {g9 : Nat → Int64} (h : SIM Z Y) (hy : y = 0 ∨ y = 1) (h7 : W7_savingOfExtra Z i k y kk Z9 g9) (h8 : F8_savingOfExtra Y i k y b Y9) : kk = eM Y9 0 ∧ (kk = 0 → g9 0 = (iI b).toInt64) ∧ SIM Z9 Y9 := by
  have hn := PW_n h.1.1
  obtain ⟨N, g9, r, hN, f1, hb, hY⟩ := h8
  subst b Y9
  rcases h7 with ⟨rfl, zz, ⟨A9, B9, z, a0, a1, a2, hz, hZ⟩, hg⟩ | ⟨rfl, hx⟩ | ⟨rfl, hx⟩
  · subst Z9
    have e := PW_L h.1.1 a0.1 a0.2
    have hv : zz = r ∧ N 0 = 0 := by
      rcases f1 with ⟨n0, f1⟩ | ⟨n0, f1⟩ | ⟨n0, f1⟩
      · refine ⟨?_, n0⟩
        have e1 : PL (zP Z) i.toNat 1 = wOf (eW Y) i 1 := e 1 (by omega)
        have e6 : PL (zP Z) i.toNat 6 = wOf (eW Y) i 6 := e 6 (by omega)
        have V := f1.2.2
        rw [e1] at a2
        rcases a2 with p | p <;> rcases V with v | v
        · have hq := PW_L (PW_red (kp := y) h.1.1 a0.1 a0.2 (by rw [e1]; exact p.1) a1.1 (by rw [e1]; exact p.2.1)) a0.1 a0.2
          have hr : PL (plRed (zP Z) i k y) i.toNat = redL (PL (zP Z) i.toNat) k y := uF_s
          rw [hr] at hq
          have q6 : redL (PL (zP Z) i.toNat) k y 6 = wOf (wRed (eW Y) i k y) i 6 := hq 6 (by omega)
          have s6 := runL_x 120 hq 6 (by omega)
          have t6 := runL_x 120 e 6 (by omega)
          rw [hz, p.2.2, v.2.2, t6, s6, q6, e6]
        · exact absurd ⟨p.1, p.2.1⟩ v.1
        · exact absurd ⟨v.1, v.2.1⟩ p.1
        · exact hz.trans (p.2.trans v.2.symm)
      · exfalso; omega
      · exfalso; omega
    exact ⟨hv.2.symm, fun _ => by rw [hg, hv.1], SIM_q h (AM_p hN) (SIM_PI h)⟩
  · obtain ⟨x0, hZ⟩ := hx
    subst Z9
    rcases x0 with ⟨-, x0⟩ | ⟨x0, -⟩
    · exact ⟨by show (1 : Int) = N 0; omega, fun q => absurd q (by omega), SIM_q h (AM_p hN) (SIM_PI h)⟩
    · exact absurd x0 (by decide)
  · obtain ⟨x0, hZ⟩ := hx
    subst Z9
    rcases x0 with ⟨x0, -⟩ | ⟨-, x0⟩
    · exact absurd x0 (by decide)
    · exact ⟨by show (2 : Int) = N 0; omega, fun q => absurd q (by omega), SIM_q h (AM_p hN) (SIM_PI h)⟩
set_option maxRecDepth 20000 in
theorem J_interestIfRate {Z Z9 : CZ} {Y Y9 : RZ} {i : Int} {k : Int} {kk b : Int} {g9 : Nat → Int64} (h : SIM Z Y) (h7 : W7_interestIfRate Z i k kk Z9 g9) (h8 : F8_interestIfRate Y i k b Y9) : kk = eM Y9 0 ∧ (kk = 0 → g9 0 = (iI b).toInt64) ∧ SIM Z9 Y9 := by
  have hn := PW_n h.1.1
  obtain ⟨N, g9, r, hN, f1, hb, hY⟩ := h8
  subst b Y9
  rcases h7 with ⟨rfl, zz, ⟨A9, B9, z, a0, a1, a2, hz, hZ⟩, hg⟩ | ⟨rfl, hx⟩ | ⟨rfl, hx⟩
  · subst Z9
    have e := PW_L h.1.1 a0.1 a0.2
    have hv : zz = r ∧ N 0 = 0 := by
      rcases f1 with ⟨n0, f1⟩ | ⟨n0, f1⟩ | ⟨n0, f1⟩
      · refine ⟨?_, n0⟩
        have e1 : PL (zP Z) i.toNat 1 = wOf (eW Y) i 1 := e 1 (by omega)
        have V := f1.2.2
        rw [e1] at a2
        rcases a2 with p | p <;> rcases V with v | v
        · have hq := PW_L (PW_rate (r := k) h.1.1 a0.1 a0.2 (by rw [e1]; exact p.1) a1) a0.1 a0.2
          have hr : PL (plL (zP Z) i.toNat (setL (PL (zP Z) i.toNat) k (PL (zP Z) i.toNat 3))) i.toNat = setL (PL (zP Z) i.toNat) k (PL (zP Z) i.toNat 3) := uF_s
          rw [hr] at hq
          have q6 : setL (PL (zP Z) i.toNat) k (PL (zP Z) i.toNat 3) 6 = wOf (wRate (eW Y) i k) i 6 := hq 6 (by omega)
          have s6 := runL_x 120 hq 6 (by omega)
          rw [hz, p.2, v.2, s6, q6]
        · exact absurd p.1 (by have := v.1; omega)
        · exact absurd v.1 (by have := p.1; omega)
        · exact hz.trans (p.2.trans v.2.symm)
      · exfalso; omega
      · exfalso; omega
    exact ⟨hv.2.symm, fun _ => by rw [hg, hv.1], SIM_q h (AM_p hN) (SIM_PI h)⟩
  · obtain ⟨x0, hZ⟩ := hx
    subst Z9
    rcases x0 with ⟨-, x0⟩ | ⟨x0, -⟩
    · exact ⟨by show (1 : Int) = N 0; omega, fun q => absurd q (by omega), SIM_q h (AM_p hN) (SIM_PI h)⟩
    · exact absurd x0 (by decide)
  · obtain ⟨x0, hZ⟩ := hx
    subst Z9
    rcases x0 with ⟨x0, -⟩ | ⟨-, x0⟩
    · exact absurd x0 (by decide)
    · exact ⟨by show (2 : Int) = N 0; omega, fun q => absurd q (by omega), SIM_q h (AM_p hN) (SIM_PI h)⟩
set_option maxRecDepth 20000 in
theorem J_isCheaper {Z Z9 : CZ} {Y Y9 : RZ} {i : Int} {k : Int} {m : Int} {kk b : Int} {g9 : Nat → Int64} (h : SIM Z Y) (h7 : W7_isCheaper Z i k m kk Z9 g9) (h8 : F8_isCheaper Y i k m b Y9) : kk = eM Y9 0 ∧ (kk = 0 → g9 0 = bL b) ∧ SIM Z9 Y9 := by
  have hn := PW_n h.1.1
  obtain ⟨N, g9, r, hN, f1, hb, hY⟩ := h8
  subst b Y9
  rcases h7 with ⟨rfl, zz, ⟨A9, B9, z, a0, a1, a2, hz, hZ⟩, hg⟩ | ⟨rfl, hx⟩ | ⟨rfl, hx⟩
  · subst Z9
    have e := PW_L h.1.1 a0.1 a0.2
    have hv : zz = r ∧ N 0 = 0 := by
      rcases f1 with ⟨n0, f1⟩ | ⟨n0, f1⟩ | ⟨n0, f1⟩
      · refine ⟨?_, n0⟩
        have e1 : PL (zP Z) i.toNat 1 = wOf (eW Y) i 1 := e 1 (by omega)
        have e6 : PL (zP Z) i.toNat 6 = wOf (eW Y) i 6 := e 6 (by omega)
        have V := f1.2.2
        have t6 := runL_x 120 e 6 (by omega)
        rw [e1, t6, e6] at a2
        by_cases c : 0 < wOf (eW Y) i 1
        · have hq := PW_L (PW_set (r := k) (m := m) h.1.1 a0.1 a0.2 (by rw [e1]; exact c) a1.1 a1.2) a0.1 a0.2
          have hr : PL (plL (zP Z) i.toNat (setL (PL (zP Z) i.toNat) k m)) i.toNat = setL (PL (zP Z) i.toNat) k m := uF_s
          rw [hr] at hq
          have q6 : setL (PL (zP Z) i.toNat) k m 6 = wOf (wSet (eW Y) i k m) i 6 := hq 6 (by omega)
          have s6 := runL_x 120 hq 6 (by omega)
          rw [s6, q6] at a2
          rcases V with v | v
          · rcases a2 with p | p <;> rcases v.2 with v | v
            · exact hz.trans (p.1.trans v.1.symm)
            · exact absurd p.2.2 v.2
            · exact absurd ⟨c, v.2⟩ p.2
            · exact hz.trans (p.1.trans v.1.symm)
          · exact absurd c (by have := v.1; omega)
        · rcases V with v | v
          · exact absurd v.1 c
          · rcases a2 with p | p
            · exact absurd p.2.1 c
            · exact hz.trans (p.1.trans v.2.symm)
      · exfalso; omega
      · exfalso; omega
    exact ⟨hv.2.symm, fun _ => by rw [hg, hv.1], SIM_q h (AM_p hN) (SIM_PI h)⟩
  · obtain ⟨x0, hZ⟩ := hx
    subst Z9
    rcases x0 with ⟨-, x0⟩ | ⟨x0, -⟩
    · exact ⟨by show (1 : Int) = N 0; omega, fun q => absurd q (by omega), SIM_q h (AM_p hN) (SIM_PI h)⟩
    · exact absurd x0 (by decide)
  · obtain ⟨x0, hZ⟩ := hx
    subst Z9
    rcases x0 with ⟨x0, -⟩ | ⟨-, x0⟩
    · exact absurd x0 (by decide)
    · exact ⟨by show (2 : Int) = N 0; omega, fun q => absurd q (by omega), SIM_q h (AM_p hN) (SIM_PI h)⟩
set_option maxRecDepth 20000 in
theorem J_isOpen {Z Z9 : CZ} {Y Y9 : RZ} {i : Int} {kk b : Int} {g9 : Nat → Int64} (h : SIM Z Y) (h7 : W7_isOpen Z i kk Z9 g9) (h8 : F8_isOpen Y i b Y9) : kk = eM Y9 0 ∧ (kk = 0 → g9 0 = bL b) ∧ SIM Z9 Y9 := by
  have hn := PW_n h.1.1
  obtain ⟨z, t, f1, hb, hY⟩ := h8
  subst b Y9
  rcases h7 with ⟨rfl, zz, ⟨z7, a0, a1, hz, hZ⟩, hg⟩ | ⟨rfl, hx⟩
  · subst Z9
    have e1 : PL (zP Z) i.toNat 1 = wOf (eW Y) i 1 := PW_L h.1.1 a0.1 a0.2 1 (by omega)
    rw [e1] at a1
    have hv : zz = z ∧ t = 0 := by omega
    exact ⟨hv.2.symm, fun _ => by rw [hg, hv.1], SIM_q h AM_0 (SIM_PI h)⟩
  · obtain ⟨x0, x1, hZ⟩ := hx
    subst Z9
    have hv : t = 1 := by omega
    exact ⟨hv.symm, fun q => absurd q (by omega), SIM_q h AM_0 (SIM_PI h)⟩
